set_option maxRecDepth 20000 in
theorem ggX8_paragraph_X8_lostIn : GoodIn wsX8_paragraph wsX8_lostIn := goodIn_r _ [21, 1, 2, 3, 22, 23, 24, 25, 9, 26, 37, 38, 39, 40, 41, 42, 43, 44, 45, 46, 47, 48, 51, 52, 53, 54, 55, 56] (by decide +kernel) (by decide +kernel)
set_option maxRecDepth 20000 in
theorem gX8_paragraph_X8_lostIn : GoodIn wsX8_paragraph (wsV RX8 235 RX8 yX8_lostIn wsX8_lostIn) := goodIn_app (goodIn_of _ (by decide +kernel)) ggX8_paragraph_X8_lostIn
set_option maxRecDepth 20000 in
theorem ggX8_paragraph_X8_isStale : GoodIn wsX8_paragraph wsX8_isStale := goodIn_r _ [30, 1, 2, 3, 5, 6, 22, 31, 23, 32, 33, 24, 25, 9, 26, 34, 35, 36, 37, 38, 39, 40, 41, 42, 43, 44, 45, 46, 47, 48, 49, 50, 51, 52, 53, 54, 55, 56] (by decide +kernel) (by decide +kernel)
set_option maxRecDepth 20000 in
theorem gX8_paragraph_X8_isStale : GoodIn wsX8_paragraph (wsV RX8 147 RX8 yX8_isStale wsX8_isStale) := goodIn_app (goodIn_of _ (by decide +kernel)) ggX8_paragraph_X8_isStale
set_option maxRecDepth 20000 in
theorem ggX8_table_X8_checkPlace : GoodIn wsX8_table wsX8_checkPlace := goodIn_ca (goodIn_r _ [5, 6, 7, 8, 9, 10, 23, 24, 25, 26, 27, 28, 29, 30, 31, 32, 33, 34, 35, 36] (by decide +kernel) (by decide +kernel)) (goodIn_sub (fun _ h => List.mem_cons_of_mem _ (List.mem_append_right _ h)) (by decide +kernel))
set_option maxRecDepth 20000 in
theorem gX8_table_X8_checkPlace : GoodIn wsX8_table (wsV RX8 75 RX8 yX8_checkPlace wsX8_checkPlace) := goodIn_app (goodIn_of _ (by decide +kernel)) ggX8_table_X8_checkPlace
set_option maxRecDepth 20000 in
theorem ggX8_table_X8_goodCitationsIn : GoodIn wsX8_table wsX8_goodCitationsIn := goodIn_r _ [14, 8, 15, 16, 17, 18, 19, 20, 21, 4, 22, 23, 24, 25, 26, 27, 28, 29, 30, 31, 37, 38, 39, 40, 41, 42, 43, 44, 45] (by decide +kernel) (by decide +kernel)
set_option maxRecDepth 20000 in
theorem gX8_table_X8_goodCitationsIn : GoodIn wsX8_table (wsV RX8 238 RX8 yX8_goodCitationsIn wsX8_goodCitationsIn) := goodIn_app (goodIn_of _ (by decide +kernel)) ggX8_table_X8_goodCitationsIn
set_option maxRecDepth 20000 in
theorem ggX8_count_X8_checkWhat : GoodIn wsX8_count wsX8_checkWhat := goodIn_ca (goodIn_r _ [13, 14, 15] (by decide +kernel) (by decide +kernel)) (goodIn_sub (fun _ h => List.mem_cons_of_mem _ (List.mem_append_right _ h)) (by decide +kernel))
set_option maxRecDepth 20000 in
theorem gX8_count_X8_checkWhat : GoodIn wsX8_count (va_wsS RX8 213 yX8_checkWhat wsX8_checkWhat) := goodIn_app (goodIn_of _ (by decide +kernel)) ggX8_count_X8_checkWhat
set_option maxRecDepth 20000 in
theorem ggX8_count_X1_sumOfPages : GoodIn wsX8_count wsX1_sumOfPages := goodIn_r _ [20, 21, 22, 78, 79, 80, 81, 82] (by decide +kernel) (by decide +kernel)
set_option maxRecDepth 20000 in
theorem gX8_count_X1_sumOfPages : GoodIn wsX8_count (wsV RX8 241 RX1 yX1_sumOfPages wsX1_sumOfPages) := goodIn_app (goodIn_of _ (by decide +kernel)) ggX8_count_X1_sumOfPages
set_option maxRecDepth 20000 in
theorem ggX8_count_X8_allCitations : GoodIn wsX8_count wsX8_allCitations := goodIn_r _ [26, 1, 27, 28, 69, 70, 71, 72, 73, 74, 75, 76, 77, 92, 93, 94] (by decide +kernel) (by decide +kernel)
set_option maxRecDepth 20000 in
theorem gX8_count_X8_allCitations : GoodIn wsX8_count (wsV RX8 247 RX8 yX8_allCitations wsX8_allCitations) := goodIn_app (goodIn_of _ (by decide +kernel)) ggX8_count_X8_allCitations
set_option maxRecDepth 20000 in
theorem ggX8_count_X8_allLost : GoodIn wsX8_count wsX8_allLost := goodIn_r _ [32, 33, 34, 35, 12, 36, 1, 27, 28, 4, 37, 38, 39, 40, 69, 70, 71, 72, 73, 74, 75, 76, 77, 92, 93, 94, 83, 84, 85, 86, 87, 88] (by decide +kernel) (by decide +kernel)
set_option maxRecDepth 20000 in
theorem gX8_count_X8_allLost : GoodIn wsX8_count (wsV RX8 250 RX8 yX8_allLost wsX8_allLost) := goodIn_app (goodIn_of _ (by decide +kernel)) ggX8_count_X8_allLost
set_option maxRecDepth 20000 in
theorem ggX8_count_X8_staleWith : GoodIn wsX8_count wsX8_staleWith := goodIn_r _ [44, 45, 46, 47, 12, 48, 1, 27, 28, 49, 50, 4, 51, 37, 52, 53, 38, 39, 40, 54, 55, 56, 69, 70, 71, 72, 73, 74, 75, 76, 77, 92, 93, 94, 95, 96, 83, 84, 85, 86, 87, 88] (by decide +kernel) (by decide +kernel)
set_option maxRecDepth 20000 in
theorem gX8_count_X8_staleWith : GoodIn wsX8_count (wsV RX8 253 RX8 yX8_staleWith wsX8_staleWith) := goodIn_app (goodIn_of _ (by decide +kernel)) ggX8_count_X8_staleWith
set_option maxRecDepth 20000 in
theorem ggX8_count_X8_citedExhibits : GoodIn wsX8_count wsX8_citedExhibits := goodIn_r _ [60, 1, 2, 3, 61, 62, 63, 12, 64, 65, 66, 67, 68, 27, 28, 4, 51, 37, 38, 39, 40, 69, 70, 71, 72, 73, 74, 75, 76, 77, 78, 79, 80, 81, 82, 92, 93, 94, 83, 84, 85, 86, 87, 88] (by decide +kernel) (by decide +kernel)
set_option maxRecDepth 20000 in
theorem gX8_count_X8_citedExhibits : GoodIn wsX8_count (wsV RX8 257 RX8 yX8_citedExhibits wsX8_citedExhibits) := goodIn_app (goodIn_of _ (by decide +kernel)) ggX8_count_X8_citedExhibits
set_option maxRecDepth 20000 in
theorem ggX8_ifInserted_X8_checkGap : GoodIn wsX8_ifInserted wsX8_checkGap := goodIn_ca (goodIn_r _ [9, 10, 11, 2, 3, 12, 68, 69, 70, 71, 72, 73, 74, 75, 76, 80, 81, 82, 83, 84] (by decide +kernel) (by decide +kernel)) (goodIn_sub (fun _ h => List.mem_cons_of_mem _ (List.mem_append_left _ (List.mem_append_right _ h))) (by decide +kernel))
set_option maxRecDepth 20000 in
theorem gX8_ifInserted_X8_checkGap : GoodIn wsX8_ifInserted (wsV RX8 52 RX8 yX8_checkGap wsX8_checkGap) := goodIn_app (goodIn_of _ (by decide +kernel)) ggX8_ifInserted_X8_checkGap
set_option maxRecDepth 20000 in
theorem ggX8_ifInserted_X8_checkPages : GoodIn wsX8_ifInserted wsX8_checkPages := goodIn_ca (goodIn_r _ [15, 16, 17] (by decide +kernel) (by decide +kernel)) (goodIn_sub (fun _ h => List.mem_cons_of_mem _ (List.mem_append_right _ h)) (by decide +kernel))
set_option maxRecDepth 20000 in
theorem gX8_ifInserted_X8_checkPages : GoodIn wsX8_ifInserted (va_wsS RX8 56 yX8_checkPages wsX8_checkPages) := goodIn_app (goodIn_of _ (by decide +kernel)) ggX8_ifInserted_X8_checkPages
set_option maxRecDepth 20000 in
theorem ggX8_ifInserted_X8_checkWhat : GoodIn wsX8_ifInserted wsX8_checkWhat := goodIn_ca (goodIn_r _ [20, 16, 17] (by decide +kernel) (by decide +kernel)) (goodIn_sub (fun _ h => List.mem_cons_of_mem _ (List.mem_append_right _ h)) (by decide +kernel))
set_option maxRecDepth 20000 in
theorem gX8_ifInserted_X8_checkWhat : GoodIn wsX8_ifInserted (va_wsS RX8 213 yX8_checkWhat wsX8_checkWhat) := goodIn_app (goodIn_of _ (by decide +kernel)) ggX8_ifInserted_X8_checkWhat
set_option maxRecDepth 20000 in
theorem ggX8_ifInserted_X6_insertOne : GoodIn wsX8_ifInserted wsX6_insertOne := goodIn_r _ [25, 26, 27, 28, 29, 30, 31, 32, 24, 33, 34, 80, 81, 82, 83, 84, 77, 78, 79] (by decide +kernel) (by decide +kernel)
set_option maxRecDepth 20000 in
theorem gX8_ifInserted_X6_insertOne : GoodIn wsX8_ifInserted (wsV RX8 260 RX6 yX6_insertOne wsX6_insertOne) := goodIn_app (goodIn_of _ (by decide +kernel)) ggX8_ifInserted_X6_insertOne
set_option maxRecDepth 20000 in
theorem ggX8_ifInserted_X8_staleWith : GoodIn wsX8_ifInserted wsX8_staleWith := goodIn_r _ [38, 39, 40, 41, 8, 42, 2, 43, 44, 45, 46, 47, 48, 49, 50, 51, 52, 53, 54, 55, 56, 57, 68, 69, 70, 71, 72, 73, 74, 75, 76, 85, 86, 87, 88, 89, 90, 91, 92, 93, 94, 95] (by decide +kernel) (by decide +kernel)
set_option maxRecDepth 20000 in
theorem gX8_ifInserted_X8_staleWith : GoodIn wsX8_ifInserted (wsV RX8 253 RX8 yX8_staleWith wsX8_staleWith) := goodIn_app (goodIn_of _ (by decide +kernel)) ggX8_ifInserted_X8_staleWith
set_option maxRecDepth 20000 in
theorem ggX8_ifInserted_X8_trialBinders : GoodIn wsX8_ifInserted wsX8_trialBinders := goodIn_r _ [61, 1, 62, 63, 2, 3, 64, 65, 66, 8, 67, 68, 69, 70, 71, 72, 73, 77, 78, 79, 74, 75, 76, 80, 81, 82, 83, 84] (by decide +kernel) (by decide +kernel)
set_option maxRecDepth 20000 in
theorem gX8_ifInserted_X8_trialBinders : GoodIn wsX8_ifInserted (wsV RX8 267 RX8 yX8_trialBinders wsX8_trialBinders) := goodIn_app (goodIn_of _ (by decide +kernel)) ggX8_ifInserted_X8_trialBinders
set_option maxRecDepth 20000 in
theorem ggX8_ifDropped_X8_checkPlace : GoodIn wsX8_ifDropped wsX8_checkPlace := goodIn_ca (goodIn_r _ [9, 10, 11, 2, 3, 12, 63, 64, 65, 66, 67, 68, 69, 70, 71, 75, 76, 77, 78, 79] (by decide +kernel) (by decide +kernel)) (goodIn_sub (fun _ h => List.mem_cons_of_mem _ (List.mem_append_left _ (List.mem_append_right _ h))) (by decide +kernel))
set_option maxRecDepth 20000 in
theorem gX8_ifDropped_X8_checkPlace : GoodIn wsX8_ifDropped (wsV RX8 75 RX8 yX8_checkPlace wsX8_checkPlace) := goodIn_app (goodIn_of _ (by decide +kernel)) ggX8_ifDropped_X8_checkPlace
set_option maxRecDepth 20000 in
theorem ggX8_ifDropped_X8_checkWhat : GoodIn wsX8_ifDropped wsX8_checkWhat := goodIn_ca (goodIn_r _ [15, 16, 17] (by decide +kernel) (by decide +kernel)) (goodIn_sub (fun _ h => List.mem_cons_of_mem _ (List.mem_append_right _ h)) (by decide +kernel))
set_option maxRecDepth 20000 in
theorem gX8_ifDropped_X8_checkWhat : GoodIn wsX8_ifDropped (va_wsS RX8 213 yX8_checkWhat wsX8_checkWhat) := goodIn_app (goodIn_of _ (by decide +kernel)) ggX8_ifDropped_X8_checkWhat
set_option maxRecDepth 20000 in
theorem ggX8_ifDropped_X8_goodCitationsOf : GoodIn wsX8_ifDropped wsX8_goodCitationsOf := goodIn_r _ [21, 22, 23, 24, 8, 25, 2, 26, 27, 28, 29, 30, 31, 32, 33, 63, 64, 65, 66, 67, 68, 69, 70, 71, 80, 81, 82, 83, 84, 85, 86, 87, 88] (by decide +kernel) (by decide +kernel)
set_option maxRecDepth 20000 in
theorem gX8_ifDropped_X8_goodCitationsOf : GoodIn wsX8_ifDropped (wsV RX8 91 RX8 yX8_goodCitationsOf wsX8_goodCitationsOf) := goodIn_app (goodIn_of _ (by decide +kernel)) ggX8_ifDropped_X8_goodCitationsOf
set_option maxRecDepth 20000 in
theorem ggX8_ifDropped_X6_dropOne : GoodIn wsX8_ifDropped wsX6_dropOne := goodIn_r _ [38, 39, 40, 41, 42, 43, 44, 37, 45, 46, 47, 75, 76, 77, 78, 79, 72, 73, 74] (by decide +kernel) (by decide +kernel)
set_option maxRecDepth 20000 in
theorem gX8_ifDropped_X6_dropOne : GoodIn wsX8_ifDropped (wsV RX8 270 RX6 yX6_dropOne wsX6_dropOne) := goodIn_app (goodIn_of _ (by decide +kernel)) ggX8_ifDropped_X6_dropOne
set_option maxRecDepth 20000 in
theorem ggX8_ifDropped_X8_staleWith : GoodIn wsX8_ifDropped wsX8_staleWith := goodIn_r _ [51, 52, 53, 54, 8, 55, 2, 26, 27, 56, 57, 28, 29, 30, 58, 59, 31, 32, 33, 60, 61, 62, 63, 64, 65, 66, 67, 68, 69, 70, 71, 80, 81, 82, 89, 90, 83, 84, 85, 86, 87, 88] (by decide +kernel) (by decide +kernel)
set_option maxRecDepth 20000 in
theorem gX8_ifDropped_X8_staleWith : GoodIn wsX8_ifDropped (wsV RX8 253 RX8 yX8_staleWith wsX8_staleWith) := goodIn_app (goodIn_of _ (by decide +kernel)) ggX8_ifDropped_X8_staleWith
set_option maxRecDepth 20000 in
theorem ggX8_bestMove_X8_checkPlace : GoodIn wsX8_bestMove wsX8_checkPlace := goodIn_ca (goodIn_r _ [10, 11, 12, 1, 2, 3, 60, 61, 62, 63, 64, 65, 66, 67, 68, 69, 70, 71, 72, 73] (by decide +kernel) (by decide +kernel)) (goodIn_sub (fun _ h => List.mem_cons_of_mem _ (List.mem_append_right _ h)) (by decide +kernel))
set_option maxRecDepth 20000 in
theorem gX8_bestMove_X8_checkPlace : GoodIn wsX8_bestMove (wsV RX8 75 RX8 yX8_checkPlace wsX8_checkPlace) := goodIn_app (goodIn_of _ (by decide +kernel)) ggX8_bestMove_X8_checkPlace
set_option maxRecDepth 20000 in
theorem ggX8_bestMove_X6_moveOne : GoodIn wsX8_bestMove wsX6_moveOne := goodIn_r _ [17, 18, 19, 20, 21, 22, 23, 16, 24, 25, 26, 69, 70, 71, 72, 73, 74, 75, 76] (by decide +kernel) (by decide +kernel)
set_option maxRecDepth 20000 in
theorem gX8_bestMove_X6_moveOne : GoodIn wsX8_bestMove (wsV RX8 274 RX6 yX6_moveOne wsX6_moveOne) := goodIn_app (goodIn_of _ (by decide +kernel)) ggX8_bestMove_X6_moveOne
set_option maxRecDepth 20000 in
theorem ggX8_bestMove_X8_staleWith : GoodIn wsX8_bestMove wsX8_staleWith := goodIn_r _ [30, 31, 32, 33, 9, 34, 1, 35, 36, 37, 38, 39, 40, 41, 42, 43, 44, 45, 46, 47, 48, 49, 60, 61, 62, 63, 64, 65, 66, 67, 68, 77, 78, 79, 80, 81, 82, 83, 84, 85, 86, 87] (by decide +kernel) (by decide +kernel)
set_option maxRecDepth 20000 in
theorem gX8_bestMove_X8_staleWith : GoodIn wsX8_bestMove (wsV RX8 253 RX8 yX8_staleWith wsX8_staleWith) := goodIn_app (goodIn_of _ (by decide +kernel)) ggX8_bestMove_X8_staleWith
set_option maxRecDepth 20000 in
theorem ggX8_bestMove_X8_trialBinders : GoodIn wsX8_bestMove wsX8_trialBinders := goodIn_r _ [53, 4, 54, 55, 1, 2, 56, 57, 58, 9, 59, 60, 61, 62, 63, 64, 65, 74, 75, 76, 66, 67, 68, 69, 70, 71, 72, 73] (by decide +kernel) (by decide +kernel)
set_option maxRecDepth 20000 in
theorem gX8_bestMove_X8_trialBinders : GoodIn wsX8_bestMove (wsV RX8 267 RX8 yX8_trialBinders wsX8_trialBinders) := goodIn_app (goodIn_of _ (by decide +kernel)) ggX8_bestMove_X8_trialBinders
set_option maxRecDepth 20000 in
theorem ggX8_leastPages_X8_bindersFor : GoodIn wsX8_leastPages wsX8_bindersFor := goodIn_r _ [10] (by decide +kernel) (by decide +kernel)
set_option maxRecDepth 20000 in
theorem gX8_leastPages_X8_bindersFor : GoodIn wsX8_leastPages (va_wsS RX8 279 yX8_bindersFor wsX8_bindersFor) := goodIn_app (goodIn_of _ (by decide +kernel)) ggX8_leastPages_X8_bindersFor
set_option maxRecDepth 20000 in
theorem ggX8_citedShare_X8_citedExhibits : GoodIn wsX8_citedShare wsX8_citedExhibits := goodIn_r _ [8, 1, 2, 3, 9, 10, 11, 7, 12, 13, 14, 15, 16, 17, 18, 19, 20, 21, 22, 23, 24, 25, 26, 27, 28, 29, 30, 31, 32, 33, 34, 35, 36, 37, 38, 39, 40, 41, 42, 43, 44, 45, 46, 47] (by decide +kernel) (by decide +kernel)
set_option maxRecDepth 20000 in
theorem gX8_citedShare_X8_citedExhibits : GoodIn wsX8_citedShare (wsV RX8 257 RX8 yX8_citedExhibits wsX8_citedExhibits) := goodIn_app (goodIn_of _ (by decide +kernel)) ggX8_citedShare_X8_citedExhibits
set_option maxRecDepth 20000 in
theorem ggX8_digest_X8_count : GoodIn wsX8_digest wsX8_count := goodIn_ca (goodIn_r _ [12, 2, 3, 4, 13, 14, 15, 16, 17, 18, 19, 20, 11, 21, 22, 23, 24, 25, 26, 27, 28, 29, 30, 31, 32, 33, 34, 35, 36, 37, 38, 39, 40, 41, 42, 43, 44, 45, 46, 47, 48, 49, 50, 51, 52, 53, 54, 55, 56, 57, 58, 59, 60, 61, 62, 63, 64, 65, 66, 67, 68, 69, 70, 71, 72, 73, 74, 75, 76, 194, 195, 196, 197, 198, 199, 200, 201, 202, 203, 204, 205, 206, 207, 214, 215, 216, 217, 218, 219, 220, 221, 222, 223, 224, 225, 226, 227] (by decide +kernel) (by decide +kernel)) (goodIn_sub (fun _ h => List.mem_cons_of_mem _ (List.mem_append_left _ (List.mem_append_right _ h))) (by decide +kernel))
set_option maxRecDepth 20000 in
theorem gX8_digest_X8_count : GoodIn wsX8_digest (wsV RX8 285 RX8 yX8_count wsX8_count) := goodIn_app (goodIn_of _ (by decide +kernel)) ggX8_digest_X8_count
set_option maxRecDepth 20000 in
theorem ggX8_digest_X8_mixed : GoodIn wsX8_digest wsX8_mixed := goodIn_r _ [79, 80] (by decide +kernel) (by decide +kernel)
set_option maxRecDepth 20000 in
theorem gX8_digest_X8_mixed : GoodIn wsX8_digest (va_wsS RX8 287 yX8_mixed wsX8_mixed) := goodIn_app (goodIn_of _ (by decide +kernel)) ggX8_digest_X8_mixed
set_option maxRecDepth 20000 in
theorem ggX8_digest_X8_mixedWithExhibit : GoodIn wsX8_digest wsX8_mixedWithExhibit := goodIn_ca (goodIn_ca (goodIn_r _ [84, 85, 86, 87, 11, 88, 22, 23, 2, 3, 4, 89, 90, 13, 91, 92, 93, 19, 20, 21, 94, 95, 96, 97, 35, 36, 59, 46, 47, 48, 77, 78, 79, 80, 98, 99, 100, 101, 102, 103, 104, 105, 106, 107, 73, 74, 75, 76, 45, 108, 109, 110, 111, 112, 113, 69, 70, 71, 72, 114, 115, 116, 117, 118, 119, 120, 121, 122, 123, 124, 125, 126, 127, 49, 50, 51, 52, 53, 54, 55, 56, 57, 58, 60, 61, 62, 63, 64, 128, 129, 130, 131, 132, 133, 134, 135, 136, 137, 138, 139, 140, 141, 16, 142, 143, 144, 194, 195, 196, 197, 198, 199, 200, 201, 202, 203, 204, 205, 206, 207, 214, 215, 216, 217, 218, 219, 223, 224, 225, 228, 229, 230, 226, 227] (by decide +kernel) (by decide +kernel)) (goodIn_sub (fun _ h => List.mem_cons_of_mem _ (List.mem_append_left _ (List.mem_append_right _ h))) (by decide +kernel))) (goodIn_sub (fun _ h => List.mem_cons_of_mem _ (List.mem_append_right _ h)) (by decide +kernel))
set_option maxRecDepth 20000 in
theorem gX8_digest_X8_mixedWithExhibit : GoodIn wsX8_digest (wsV RX8 291 RX8 yX8_mixedWithExhibit wsX8_mixedWithExhibit) := goodIn_app (goodIn_of _ (by decide +kernel)) ggX8_digest_X8_mixedWithExhibit
set_option maxRecDepth 20000 in
theorem ggX8_digest_X8_mixedWithParagraph : GoodIn wsX8_digest wsX8_mixedWithParagraph := goodIn_ca (goodIn_ca (goodIn_r _ [148, 2, 35, 36, 149, 150, 151, 11, 152, 15, 57, 58, 153, 154, 155, 106, 107, 19, 20, 21, 22, 23, 41, 42, 43, 44, 13, 45, 46, 47, 48, 53, 54, 55, 56, 59, 60, 61, 62, 63, 64, 77, 78, 79, 80, 156, 157, 158, 159, 160, 161, 162, 163, 164, 93, 194, 195, 196, 197, 198, 199, 200, 201, 202, 223, 224, 225, 226, 227, 214, 215, 216, 217, 218, 219] (by decide +kernel) (by decide +kernel)) (goodIn_sub (fun _ h => List.mem_cons_of_mem _ (List.mem_append_right _ h)) (by decide +kernel))) (goodIn_sub (fun _ h => List.mem_cons_of_mem _ (List.mem_append_left _ (List.mem_append_right _ h))) (by decide +kernel))
set_option maxRecDepth 20000 in
theorem gX8_digest_X8_mixedWithParagraph : GoodIn wsX8_digest (wsV RX8 295 RX8 yX8_mixedWithParagraph wsX8_mixedWithParagraph) := goodIn_app (goodIn_of _ (by decide +kernel)) ggX8_digest_X8_mixedWithParagraph
set_option maxRecDepth 20000 in
theorem ggX8_digest_X8_ifInserted : GoodIn wsX8_digest wsX8_ifInserted := goodIn_ca (goodIn_ca (goodIn_r _ [168, 112, 2, 3, 113, 169, 170, 171, 11, 172, 106, 107, 4, 173, 174, 175, 22, 23, 19, 20, 21, 176, 177, 178, 117, 179, 119, 120, 126, 121, 122, 123, 124, 125, 127, 49, 50, 51, 52, 53, 54, 55, 56, 35, 36, 57, 58, 13, 59, 45, 60, 61, 46, 47, 48, 62, 63, 64, 136, 137, 138, 139, 140, 141, 16, 142, 143, 144, 194, 195, 196, 197, 198, 199, 200, 201, 202, 228, 229, 230, 203, 204, 205, 206, 207, 223, 224, 225, 226, 227, 214, 215, 216, 217, 218, 219] (by decide +kernel) (by decide +kernel)) (goodIn_sub (fun _ h => List.mem_cons_of_mem _ (List.mem_append_right _ h)) (by decide +kernel))) (goodIn_sub (fun _ h => List.mem_cons_of_mem _ (List.mem_append_left _ (List.mem_append_right _ h))) (by decide +kernel))
set_option maxRecDepth 20000 in
theorem gX8_digest_X8_ifInserted : GoodIn wsX8_digest (wsV RX8 298 RX8 yX8_ifInserted wsX8_ifInserted) := goodIn_app (goodIn_of _ (by decide +kernel)) ggX8_digest_X8_ifInserted
set_option maxRecDepth 20000 in
theorem ggX8_digest_X8_leastPages : GoodIn wsX8_digest wsX8_leastPages := goodIn_ca (goodIn_r _ [183, 22, 23, 2, 3, 90, 4, 142, 143, 11, 144, 194, 195, 196, 197, 198, 199, 200, 201, 202, 203, 204, 205, 206, 207] (by decide +kernel) (by decide +kernel)) (goodIn_sub (fun _ h => List.mem_cons_of_mem _ (List.mem_append_left _ (List.mem_append_right _ h))) (by decide +kernel))
set_option maxRecDepth 20000 in
theorem gX8_digest_X8_leastPages : GoodIn wsX8_digest (wsV RX8 302 RX8 yX8_leastPages wsX8_leastPages) := goodIn_app (goodIn_of _ (by decide +kernel)) ggX8_digest_X8_leastPages
set_option maxRecDepth 20000 in
theorem ggX8_digest_X8_citedShare : GoodIn wsX8_digest wsX8_citedShare := goodIn_r _ [187, 2, 3, 4, 65, 66, 67, 11, 68, 69, 70, 71, 72, 73, 74, 75, 76, 35, 36, 13, 59, 45, 46, 47, 48, 194, 195, 196, 197, 198, 199, 200, 201, 202, 203, 204, 205, 206, 207, 223, 224, 225, 214, 215, 216, 217, 218, 219] (by decide +kernel) (by decide +kernel)
set_option maxRecDepth 20000 in
theorem gX8_digest_X8_citedShare : GoodIn wsX8_digest (wsV RX8 305 RX8 yX8_citedShare wsX8_citedShare) := goodIn_app (goodIn_of _ (by decide +kernel)) ggX8_digest_X8_citedShare
set_option maxRecDepth 20000 in
theorem ggX8_digest_X8_bitsOfShare : GoodIn wsX8_digest wsX8_bitsOfShare := goodIn_r _ [190, 191, 192, 193] (by decide +kernel) (by decide +kernel)
set_option maxRecDepth 20000 in
theorem gX8_digest_X8_bitsOfShare : GoodIn wsX8_digest (va_wsS RX8 309 yX8_bitsOfShare wsX8_bitsOfShare) := goodIn_app (goodIn_of _ (by decide +kernel)) ggX8_digest_X8_bitsOfShare
set_option maxRecDepth 20000 in
theorem ggX8_mixedWithExhibit_X8_exhibit : GoodIn wsX8_mixedWithExhibit wsX8_exhibit := goodIn_ca (goodIn_r _ [5, 6, 7, 8, 9, 10, 11, 12, 13, 14, 15, 16, 17, 18, 4, 19, 20, 21, 22, 23, 24, 25, 26, 27, 28, 29, 106, 107, 108, 109, 110, 111, 112, 113, 114, 115, 116, 117, 118, 119, 120, 121, 122, 123, 124, 125, 126, 127, 128] (by decide +kernel) (by decide +kernel)) (goodIn_sub (fun _ h => List.mem_cons_of_mem _ (List.mem_append_left _ (List.mem_append_right _ h))) (by decide +kernel))
set_option maxRecDepth 20000 in
theorem gX8_mixedWithExhibit_X8_exhibit : GoodIn wsX8_mixedWithExhibit (wsV RX8 316 RX8 yX8_exhibit wsX8_exhibit) := goodIn_app (goodIn_of _ (by decide +kernel)) ggX8_mixedWithExhibit_X8_exhibit
set_option maxRecDepth 20000 in
theorem ggX8_mixedWithExhibit_X8_mixed : GoodIn wsX8_mixedWithExhibit wsX8_mixed := goodIn_r _ [32, 33] (by decide +kernel) (by decide +kernel)
set_option maxRecDepth 20000 in
theorem gX8_mixedWithExhibit_X8_mixed : GoodIn wsX8_mixedWithExhibit (va_wsS RX8 287 yX8_mixed wsX8_mixed) := goodIn_app (goodIn_of _ (by decide +kernel)) ggX8_mixedWithExhibit_X8_mixed
set_option maxRecDepth 20000 in
theorem ggX8_mixedWithExhibit_X8_table : GoodIn wsX8_mixedWithExhibit wsX8_table := goodIn_ca (goodIn_r _ [37, 38, 39, 40, 4, 41, 42, 43, 8, 9, 10, 44, 45, 46, 47, 24, 25, 13, 26, 48, 27, 28, 29, 106, 107, 108, 109, 110, 111, 112, 113, 114, 115, 116, 117, 118, 119, 126, 127, 128, 120, 121, 122, 123, 124, 125] (by decide +kernel) (by decide +kernel)) (goodIn_sub (fun _ h => List.mem_cons_of_mem _ (List.mem_append_right _ h)) (by decide +kernel))
set_option maxRecDepth 20000 in
theorem gX8_mixedWithExhibit_X8_table : GoodIn wsX8_mixedWithExhibit (wsV RX8 319 RX8 yX8_table wsX8_table) := goodIn_app (goodIn_of _ (by decide +kernel)) ggX8_mixedWithExhibit_X8_table
set_option maxRecDepth 20000 in
theorem ggX8_mixedWithExhibit_X8_ifDropped : GoodIn wsX8_mixedWithExhibit wsX8_ifDropped := goodIn_ca (goodIn_ca (goodIn_r _ [52, 53, 8, 9, 54, 38, 39, 40, 4, 41, 42, 43, 10, 17, 18, 19, 6, 7, 55, 56, 57, 58, 44, 45, 46, 47, 24, 25, 13, 26, 48, 27, 28, 29, 59, 60, 61, 62, 63, 64, 65, 66, 67, 68, 69, 70, 71, 72, 73, 74, 75, 76, 77, 78, 79, 80, 81, 82, 83, 84, 85, 86, 87, 106, 107, 108, 109, 110, 111, 112, 113, 114, 129, 130, 131, 115, 116, 117, 118, 119, 126, 127, 128, 120, 121, 122, 123, 124, 125, 132, 133] (by decide +kernel) (by decide +kernel)) (goodIn_sub (fun _ h => List.mem_cons_of_mem _ (List.mem_append_right _ h)) (by decide +kernel))) (goodIn_sub (fun _ h => List.mem_cons_of_mem _ (List.mem_append_left _ (List.mem_append_right _ h))) (by decide +kernel))
set_option maxRecDepth 20000 in
theorem gX8_mixedWithExhibit_X8_ifDropped : GoodIn wsX8_mixedWithExhibit (wsV RX8 322 RX8 yX8_ifDropped wsX8_ifDropped) := goodIn_app (goodIn_of _ (by decide +kernel)) ggX8_mixedWithExhibit_X8_ifDropped
set_option maxRecDepth 20000 in
theorem ggX8_mixedWithExhibit_X8_bestMove : GoodIn wsX8_mixedWithExhibit wsX8_bestMove := goodIn_ca (goodIn_r _ [91, 8, 9, 10, 53, 54, 38, 39, 40, 4, 41, 42, 43, 92, 93, 94, 62, 95, 64, 65, 66, 67, 68, 69, 70, 71, 72, 73, 74, 75, 76, 77, 78, 79, 80, 24, 25, 81, 82, 13, 26, 48, 83, 84, 27, 28, 29, 85, 86, 87, 96, 97, 98, 99, 100, 101, 102, 103, 104, 105, 106, 107, 108, 109, 110, 111, 112, 113, 114, 115, 116, 117, 118, 119, 129, 130, 131, 126, 127, 128, 132, 133, 120, 121, 122, 123, 124, 125] (by decide +kernel) (by decide +kernel)) (goodIn_sub (fun _ h => List.mem_cons_of_mem _ (List.mem_append_right _ h)) (by decide +kernel))
set_option maxRecDepth 20000 in
theorem gX8_mixedWithExhibit_X8_bestMove : GoodIn wsX8_mixedWithExhibit (wsV RX8 325 RX8 yX8_bestMove wsX8_bestMove) := goodIn_app (goodIn_of _ (by decide +kernel)) ggX8_mixedWithExhibit_X8_bestMove
set_option maxRecDepth 20000 in
theorem ggX8_mixedWithParagraph_X8_paragraph : GoodIn wsX8_mixedWithParagraph wsX8_paragraph := goodIn_ca (goodIn_ca (goodIn_r _ [8, 1, 2, 3, 9, 10, 11, 12, 13, 7, 14, 15, 16, 17, 18, 19, 20, 21, 22, 23, 24, 25, 26, 27, 28, 29, 30, 31, 32, 33, 34, 35, 36, 37, 38, 39, 40, 55, 56, 57, 58, 59, 60, 61, 62, 63, 64, 65, 66, 67, 68, 69, 70, 71, 72, 73, 74] (by decide +kernel) (by decide +kernel)) (goodIn_sub (fun _ h => List.mem_cons_of_mem _ (List.mem_append_left _ (List.mem_append_right _ h))) (by decide +kernel))) (goodIn_sub (fun _ h => List.mem_cons_of_mem _ (List.mem_append_right _ h)) (by decide +kernel))
set_option maxRecDepth 20000 in
theorem gX8_mixedWithParagraph_X8_paragraph : GoodIn wsX8_mixedWithParagraph (wsV RX8 328 RX8 yX8_paragraph wsX8_paragraph) := goodIn_app (goodIn_of _ (by decide +kernel)) ggX8_mixedWithParagraph_X8_paragraph
set_option maxRecDepth 20000 in
theorem ggX8_mixedWithParagraph_X8_mixed : GoodIn wsX8_mixedWithParagraph wsX8_mixed := goodIn_r _ [43, 44] (by decide +kernel) (by decide +kernel)
set_option maxRecDepth 20000 in
theorem gX8_mixedWithParagraph_X8_mixed : GoodIn wsX8_mixedWithParagraph (va_wsS RX8 287 yX8_mixed wsX8_mixed) := goodIn_app (goodIn_of _ (by decide +kernel)) ggX8_mixedWithParagraph_X8_mixed
set_option maxRecDepth 20000 in
theorem ggX8_mixedWithParagraph_X8_citation : GoodIn wsX8_mixedWithParagraph wsX8_citation := goodIn_ca (goodIn_ca (goodIn_r _ [48, 20, 21, 1, 2, 3, 49, 26, 35, 36, 27, 12, 13, 7, 14, 15, 16, 17, 18, 19, 28, 29, 30, 50, 51, 52, 53, 54, 55, 56, 57, 58, 59, 60, 61, 62, 63, 64, 65, 66, 69, 70, 71, 72, 73, 74] (by decide +kernel) (by decide +kernel)) (goodIn_sub (fun _ h => List.mem_cons_of_mem _ (List.mem_append_right _ h)) (by decide +kernel))) (goodIn_sub (fun _ h => List.mem_cons_of_mem _ (List.mem_append_left _ (List.mem_append_right _ h))) (by decide +kernel))
set_option maxRecDepth 20000 in
theorem gX8_mixedWithParagraph_X8_citation : GoodIn wsX8_mixedWithParagraph (wsV RX8 331 RX8 yX8_citation wsX8_citation) := goodIn_app (goodIn_of _ (by decide +kernel)) ggX8_mixedWithParagraph_X8_citation
set_option maxRecDepth 20000 in
theorem ggX8_citationsOf_X8_cellOf : GoodIn wsX8_citationsOf wsX8_cellOf := goodIn_r _ [9] (by decide +kernel) (by decide +kernel)
set_option maxRecDepth 20000 in
theorem gX8_citationsOf_X8_cellOf : GoodIn wsX8_citationsOf (va_wsS RX8 158 yX8_cellOf wsX8_cellOf) := goodIn_app (goodIn_of _ (by decide +kernel)) ggX8_citationsOf_X8_cellOf
set_option maxRecDepth 20000 in
theorem ggX8_goodCitationsOf_X8_goodCitationsIn : GoodIn wsX8_goodCitationsOf wsX8_goodCitationsIn := goodIn_r _ [5, 6, 7, 8, 9, 10, 11, 12, 13, 4, 14, 15, 16, 17, 18, 19, 20, 21, 22, 23, 24, 25, 26, 27, 28, 29, 30, 31, 32] (by decide +kernel) (by decide +kernel)
set_option maxRecDepth 20000 in
theorem gX8_goodCitationsOf_X8_goodCitationsIn : GoodIn wsX8_goodCitationsOf (wsV RX8 238 RX8 yX8_goodCitationsIn wsX8_goodCitationsIn) := goodIn_app (goodIn_of _ (by decide +kernel)) ggX8_goodCitationsOf_X8_goodCitationsIn
set_option maxRecDepth 20000 in
theorem ggX8_goodCitationsIn_X8_cellOf : GoodIn wsX8_goodCitationsIn wsX8_cellOf := goodIn_r _ [10] (by decide +kernel) (by decide +kernel)
set_option maxRecDepth 20000 in
theorem gX8_goodCitationsIn_X8_cellOf : GoodIn wsX8_goodCitationsIn (va_wsS RX8 158 yX8_cellOf wsX8_cellOf) := goodIn_app (goodIn_of _ (by decide +kernel)) ggX8_goodCitationsIn_X8_cellOf
set_option maxRecDepth 20000 in
theorem ggX8_citedExhibits_X8_goodCitationsOf : GoodIn wsX8_citedExhibits wsX8_goodCitationsOf := goodIn_r _ [8, 9, 10, 11, 7, 12, 1, 13, 14, 15, 16, 17, 18, 19, 20, 21, 22, 23, 24, 25, 26, 27, 28, 29, 35, 36, 37, 38, 39, 40, 41, 42, 43] (by decide +kernel) (by decide +kernel)
set_option maxRecDepth 20000 in
theorem gX8_citedExhibits_X8_goodCitationsOf : GoodIn wsX8_citedExhibits (wsV RX8 91 RX8 yX8_goodCitationsOf wsX8_goodCitationsOf) := goodIn_app (goodIn_of _ (by decide +kernel)) ggX8_citedExhibits_X8_goodCitationsOf
set_option maxRecDepth 20000 in
theorem ggX8_allLost_X8_lostIn : GoodIn wsX8_allLost wsX8_lostIn := goodIn_r _ [5, 6, 7, 8, 9, 10, 11, 12, 4, 13, 14, 15, 16, 17, 18, 19, 20, 21, 22, 23, 24, 25, 26, 27, 28, 29, 30, 31] (by decide +kernel) (by decide +kernel)
set_option maxRecDepth 20000 in
theorem gX8_allLost_X8_lostIn : GoodIn wsX8_allLost (wsV RX8 235 RX8 yX8_lostIn wsX8_lostIn) := goodIn_app (goodIn_of _ (by decide +kernel)) ggX8_allLost_X8_lostIn
set_option maxRecDepth 20000 in
theorem ggX8_lostIn_X8_cellOf : GoodIn wsX8_lostIn wsX8_cellOf := goodIn_r _ [9] (by decide +kernel) (by decide +kernel)
set_option maxRecDepth 20000 in
theorem gX8_lostIn_X8_cellOf : GoodIn wsX8_lostIn (va_wsS RX8 158 yX8_cellOf wsX8_cellOf) := goodIn_app (goodIn_of _ (by decide +kernel)) ggX8_lostIn_X8_cellOf
set_option maxRecDepth 20000 in
theorem ggX8_staleWith_X8_isStale : GoodIn wsX8_staleWith wsX8_isStale := goodIn_r _ [5, 6, 7, 8, 9, 10, 11, 12, 13, 14, 15, 16, 17, 4, 18, 19, 20, 21, 22, 23, 24, 25, 26, 27, 28, 29, 30, 31, 32, 33, 34, 35, 36, 37, 38, 39, 40, 41] (by decide +kernel) (by decide +kernel)
set_option maxRecDepth 20000 in
theorem gX8_staleWith_X8_isStale : GoodIn wsX8_staleWith (wsV RX8 147 RX8 yX8_isStale wsX8_isStale) := goodIn_app (goodIn_of _ (by decide +kernel)) ggX8_staleWith_X8_isStale
set_option maxRecDepth 20000 in
theorem ggX8_isStale_X8_cellOf : GoodIn wsX8_isStale wsX8_cellOf := goodIn_r _ [14] (by decide +kernel) (by decide +kernel)
set_option maxRecDepth 20000 in
theorem gX8_isStale_X8_cellOf : GoodIn wsX8_isStale (va_wsS RX8 158 yX8_cellOf wsX8_cellOf) := goodIn_app (goodIn_of _ (by decide +kernel)) ggX8_isStale_X8_cellOf
set_option maxRecDepth 20000 in
theorem ggX8_isStale_X8_markOf : GoodIn wsX8_isStale wsX8_markOf := goodIn_r _ [17] (by decide +kernel) (by decide +kernel)
set_option maxRecDepth 20000 in
theorem gX8_isStale_X8_markOf : GoodIn wsX8_isStale (va_wsS RX8 168 yX8_markOf wsX8_markOf) := goodIn_app (goodIn_of _ (by decide +kernel)) ggX8_isStale_X8_markOf
set_option maxRecDepth 20000 in
theorem ggX8_trialBinders_X8_bindersFor : GoodIn wsX8_trialBinders wsX8_bindersFor := goodIn_r _ [10] (by decide +kernel) (by decide +kernel)
set_option maxRecDepth 20000 in
theorem gX8_trialBinders_X8_bindersFor : GoodIn wsX8_trialBinders (va_wsS RX8 279 yX8_bindersFor wsX8_bindersFor) := goodIn_app (goodIn_of _ (by decide +kernel)) ggX8_trialBinders_X8_bindersFor
set_option maxRecDepth 20000 in
theorem ggX9_isPlace_X9_in : GoodIn wsX9_isPlace wsX9_in := goodIn_r _ [5] (by decide +kernel) (by decide +kernel)
set_option maxRecDepth 20000 in
theorem gX9_isPlace_X9_in : GoodIn wsX9_isPlace (va_wsS RX9 29 yX9_in wsX9_in) := goodIn_app (goodIn_of _ (by decide +kernel)) ggX9_isPlace_X9_in
set_option maxRecDepth 20000 in
theorem ggX9_arePages_X9_in : GoodIn wsX9_arePages wsX9_in := goodIn_r _ [4] (by decide +kernel) (by decide +kernel)
set_option maxRecDepth 20000 in
theorem gX9_arePages_X9_in : GoodIn wsX9_arePages (va_wsS RX9 29 yX9_in wsX9_in) := goodIn_app (goodIn_of _ (by decide +kernel)) ggX9_arePages_X9_in
set_option maxRecDepth 20000 in
theorem ggX9_isParagraph_X9_in : GoodIn wsX9_isParagraph wsX9_in := goodIn_r _ [4] (by decide +kernel) (by decide +kernel)
set_option maxRecDepth 20000 in
theorem gX9_isParagraph_X9_in : GoodIn wsX9_isParagraph (va_wsS RX9 29 yX9_in wsX9_in) := goodIn_app (goodIn_of _ (by decide +kernel)) ggX9_isParagraph_X9_in
set_option maxRecDepth 20000 in
theorem ggX9_saves_X9_copies : GoodIn wsX9_saves wsX9_copies := goodIn_r _ [7] (by decide +kernel) (by decide +kernel)
set_option maxRecDepth 20000 in
theorem gX9_saves_X9_copies : GoodIn wsX9_saves (va_wsS RX9 36 yX9_copies wsX9_copies) := goodIn_app (goodIn_of _ (by decide +kernel)) ggX9_saves_X9_copies
set_option maxRecDepth 20000 in
theorem ggX9_undo_X9_fails : GoodIn wsX9_undo wsX9_fails := goodIn_r _ [9, 1, 13, 14, 15, 16, 17, 18, 19, 20, 21, 22, 23] (by decide +kernel) (by decide +kernel)
set_option maxRecDepth 20000 in
theorem gX9_undo_X9_fails : GoodIn wsX9_undo (wsV RX9 40 RX9 yX9_fails wsX9_fails) := goodIn_app (goodIn_of _ (by decide +kernel)) ggX9_undo_X9_fails
set_option maxRecDepth 20000 in
theorem ggX9_undo_X9_copies : GoodIn wsX9_undo wsX9_copies := goodIn_r _ [12] (by decide +kernel) (by decide +kernel)
set_option maxRecDepth 20000 in
theorem gX9_undo_X9_copies : GoodIn wsX9_undo (va_wsS RX9 36 yX9_copies wsX9_copies) := goodIn_app (goodIn_of _ (by decide +kernel)) ggX9_undo_X9_copies
set_option maxRecDepth 20000 in
theorem ggX9_letter_X9_index : GoodIn wsX9_letter wsX9_index := goodIn_r _ [4] (by decide +kernel) (by decide +kernel)
set_option maxRecDepth 20000 in
theorem gX9_letter_X9_index : GoodIn wsX9_letter (va_wsS RX9 44 yX9_index wsX9_index) := goodIn_app (goodIn_of _ (by decide +kernel)) ggX9_letter_X9_index
set_option maxRecDepth 20000 in
theorem ggX9_letter_X9_placeOf : GoodIn wsX9_letter wsX9_placeOf := goodIn_r _ [7] (by decide +kernel) (by decide +kernel)
set_option maxRecDepth 20000 in
theorem gX9_letter_X9_placeOf : GoodIn wsX9_letter (va_wsS RX9 48 yX9_placeOf wsX9_placeOf) := goodIn_app (goodIn_of _ (by decide +kernel)) ggX9_letter_X9_placeOf
set_option maxRecDepth 20000 in
theorem ggX9_isLost_X9_letter : GoodIn wsX9_isLost wsX9_letter := goodIn_r _ [4, 5, 6, 3, 7, 8, 9, 10] (by decide +kernel) (by decide +kernel)
set_option maxRecDepth 20000 in
theorem gX9_isLost_X9_letter : GoodIn wsX9_isLost (va_wsS RX9 52 yX9_letter wsX9_letter) := goodIn_app (goodIn_of _ (by decide +kernel)) ggX9_isLost_X9_letter
set_option maxRecDepth 20000 in
theorem ggX9_isLost_X9_index : GoodIn wsX9_isLost wsX9_index := goodIn_r _ [7] (by decide +kernel) (by decide +kernel)
set_option maxRecDepth 20000 in
theorem gX9_isLost_X9_index : GoodIn wsX9_isLost (va_wsS RX9 44 yX9_index wsX9_index) := goodIn_app (goodIn_of _ (by decide +kernel)) ggX9_isLost_X9_index
set_option maxRecDepth 20000 in
theorem ggX9_isLost_X9_pagesOf : GoodIn wsX9_isLost wsX9_pagesOf := goodIn_r _ [13] (by decide +kernel) (by decide +kernel)
set_option maxRecDepth 20000 in
theorem gX9_isLost_X9_pagesOf : GoodIn wsX9_isLost (va_wsS RX9 56 yX9_pagesOf wsX9_pagesOf) := goodIn_app (goodIn_of _ (by decide +kernel)) ggX9_isLost_X9_pagesOf
set_option maxRecDepth 20000 in
theorem ggX9_lost_X9_cites : GoodIn wsX9_lost wsX9_cites := goodIn_r _ [4] (by decide +kernel) (by decide +kernel)
set_option maxRecDepth 20000 in
theorem gX9_lost_X9_cites : GoodIn wsX9_lost (va_wsS RX9 59 yX9_cites wsX9_cites) := goodIn_app (goodIn_of _ (by decide +kernel)) ggX9_lost_X9_cites
set_option maxRecDepth 20000 in
theorem ggX9_lost_X9_isLost : GoodIn wsX9_lost wsX9_isLost := goodIn_r _ [7, 8, 9, 3, 10, 11, 12, 13, 14, 15, 16, 17, 18, 19] (by decide +kernel) (by decide +kernel)
set_option maxRecDepth 20000 in
theorem gX9_lost_X9_isLost : GoodIn wsX9_lost (va_wsS RX9 62 yX9_isLost wsX9_isLost) := goodIn_app (goodIn_of _ (by decide +kernel)) ggX9_lost_X9_isLost
set_option maxRecDepth 20000 in
theorem ggX9_allLost_X9_lost : GoodIn wsX9_allLost wsX9_lost := goodIn_r _ [4, 5, 6, 3, 7, 8, 9, 10, 11, 12, 13, 14, 15, 16, 17, 18, 19, 20, 21, 22] (by decide +kernel) (by decide +kernel)
set_option maxRecDepth 20000 in
theorem gX9_allLost_X9_lost : GoodIn wsX9_allLost (va_wsS RX9 66 yX9_lost wsX9_lost) := goodIn_app (goodIn_of _ (by decide +kernel)) ggX9_allLost_X9_lost
set_option maxRecDepth 20000 in
theorem ggX9_isStale_X9_cites : GoodIn wsX9_isStale wsX9_cites := goodIn_r _ [4] (by decide +kernel) (by decide +kernel)
set_option maxRecDepth 20000 in
theorem gX9_isStale_X9_cites : GoodIn wsX9_isStale (va_wsS RX9 59 yX9_cites wsX9_cites) := goodIn_app (goodIn_of _ (by decide +kernel)) ggX9_isStale_X9_cites
set_option maxRecDepth 20000 in
theorem ggX9_isStale_X9_letter : GoodIn wsX9_isStale wsX9_letter := goodIn_r _ [7, 8, 9, 3, 10, 11, 12, 13] (by decide +kernel) (by decide +kernel)
set_option maxRecDepth 20000 in
theorem gX9_isStale_X9_letter : GoodIn wsX9_isStale (va_wsS RX9 52 yX9_letter wsX9_letter) := goodIn_app (goodIn_of _ (by decide +kernel)) ggX9_isStale_X9_letter
set_option maxRecDepth 20000 in
theorem ggX9_isStale_X9_index : GoodIn wsX9_isStale wsX9_index := goodIn_r _ [10] (by decide +kernel) (by decide +kernel)
set_option maxRecDepth 20000 in
theorem gX9_isStale_X9_index : GoodIn wsX9_isStale (va_wsS RX9 44 yX9_index wsX9_index) := goodIn_app (goodIn_of _ (by decide +kernel)) ggX9_isStale_X9_index
set_option maxRecDepth 20000 in
theorem ggX9_isStale_X9_isLost : GoodIn wsX9_isStale wsX9_isLost := goodIn_r _ [16, 5, 6, 3, 7, 8, 9, 10, 11, 12, 13, 17, 18, 19] (by decide +kernel) (by decide +kernel)
set_option maxRecDepth 20000 in
theorem gX9_isStale_X9_isLost : GoodIn wsX9_isStale (va_wsS RX9 62 yX9_isLost wsX9_isLost) := goodIn_app (goodIn_of _ (by decide +kernel)) ggX9_isStale_X9_isLost
set_option maxRecDepth 20000 in
theorem ggX9_stale_X9_isStale : GoodIn wsX9_stale wsX9_isStale := goodIn_r _ [4, 5, 6, 3, 7, 8, 9, 10, 11, 12, 13, 14, 15, 16, 17, 18, 19, 20, 21, 22] (by decide +kernel) (by decide +kernel)
set_option maxRecDepth 20000 in
theorem gX9_stale_X9_isStale : GoodIn wsX9_stale (va_wsS RX9 69 yX9_isStale wsX9_isStale) := goodIn_app (goodIn_of _ (by decide +kernel)) ggX9_stale_X9_isStale
set_option maxRecDepth 20000 in
theorem ggX9_lies_X9_pagesOf : GoodIn wsX9_lies wsX9_pagesOf := goodIn_r _ [4] (by decide +kernel) (by decide +kernel)
set_option maxRecDepth 20000 in
theorem gX9_lies_X9_pagesOf : GoodIn wsX9_lies (va_wsS RX9 56 yX9_pagesOf wsX9_pagesOf) := goodIn_app (goodIn_of _ (by decide +kernel)) ggX9_lies_X9_pagesOf
set_option maxRecDepth 20000 in
theorem ggX9_binders_X9_lies : GoodIn wsX9_binders wsX9_lies := goodIn_r _ [4, 5, 6, 3, 7] (by decide +kernel) (by decide +kernel)
set_option maxRecDepth 20000 in
theorem gX9_binders_X9_lies : GoodIn wsX9_binders (va_wsS RX9 73 yX9_lies wsX9_lies) := goodIn_app (goodIn_of _ (by decide +kernel)) ggX9_binders_X9_lies
set_option maxRecDepth 20000 in
theorem ggX9_moves_X9_number : GoodIn wsX9_moves wsX9_number := goodIn_r _ [4] (by decide +kernel) (by decide +kernel)
set_option maxRecDepth 20000 in
theorem gX9_moves_X9_number : GoodIn wsX9_moves (va_wsS RX9 76 yX9_number wsX9_number) := goodIn_app (goodIn_of _ (by decide +kernel)) ggX9_moves_X9_number
set_option maxRecDepth 20000 in
theorem ggX9_moves_X9_pagesOf : GoodIn wsX9_moves wsX9_pagesOf := goodIn_r _ [7] (by decide +kernel) (by decide +kernel)
set_option maxRecDepth 20000 in
theorem gX9_moves_X9_pagesOf : GoodIn wsX9_moves (va_wsS RX9 56 yX9_pagesOf wsX9_pagesOf) := goodIn_app (goodIn_of _ (by decide +kernel)) ggX9_moves_X9_pagesOf
set_option maxRecDepth 20000 in
theorem ggX9_moves_X9_goesOut : GoodIn wsX9_moves wsX9_goesOut := goodIn_r _ [10] (by decide +kernel) (by decide +kernel)
set_option maxRecDepth 20000 in
theorem gX9_moves_X9_goesOut : GoodIn wsX9_moves (va_wsS RX9 79 yX9_goesOut wsX9_goesOut) := goodIn_app (goodIn_of _ (by decide +kernel)) ggX9_moves_X9_goesOut
set_option maxRecDepth 20000 in
theorem ggX9_moves_X9_puts : GoodIn wsX9_moves wsX9_puts := goodIn_r _ [13] (by decide +kernel) (by decide +kernel)
set_option maxRecDepth 20000 in
theorem gX9_moves_X9_puts : GoodIn wsX9_moves (va_wsS RX9 83 yX9_puts wsX9_puts) := goodIn_app (goodIn_of _ (by decide +kernel)) ggX9_moves_X9_puts
set_option maxRecDepth 20000 in
theorem ggX9_comes_X9_puts : GoodIn wsX9_comes wsX9_puts := goodIn_r _ [4] (by decide +kernel) (by decide +kernel)
set_option maxRecDepth 20000 in
theorem gX9_comes_X9_puts : GoodIn wsX9_comes (va_wsS RX9 83 yX9_puts wsX9_puts) := goodIn_app (goodIn_of _ (by decide +kernel)) ggX9_comes_X9_puts
set_option maxRecDepth 20000 in
theorem ggX9_follow_X9_cites : GoodIn wsX9_follow wsX9_cites := goodIn_r _ [4] (by decide +kernel) (by decide +kernel)
set_option maxRecDepth 20000 in
theorem gX9_follow_X9_cites : GoodIn wsX9_follow (va_wsS RX9 59 yX9_cites wsX9_cites) := goodIn_app (goodIn_of _ (by decide +kernel)) ggX9_follow_X9_cites
set_option maxRecDepth 20000 in
theorem ggX9_follow_X9_index : GoodIn wsX9_follow wsX9_index := goodIn_r _ [7] (by decide +kernel) (by decide +kernel)
set_option maxRecDepth 20000 in
theorem gX9_follow_X9_index : GoodIn wsX9_follow (va_wsS RX9 44 yX9_index wsX9_index) := goodIn_app (goodIn_of _ (by decide +kernel)) ggX9_follow_X9_index
set_option maxRecDepth 20000 in
theorem ggX9_insert_X9_in : GoodIn wsX9_insert wsX9_in := goodIn_r _ [6] (by decide +kernel) (by decide +kernel)
set_option maxRecDepth 20000 in
theorem gX9_insert_X9_in : GoodIn wsX9_insert (va_wsS RX9 29 yX9_in wsX9_in) := goodIn_app (goodIn_of _ (by decide +kernel)) ggX9_insert_X9_in
set_option maxRecDepth 20000 in
theorem ggX9_insert_X9_fails : GoodIn wsX9_insert wsX9_fails := goodIn_r _ [10, 1, 29, 30, 31, 32, 33, 34, 35, 36, 37, 38, 39] (by decide +kernel) (by decide +kernel)
set_option maxRecDepth 20000 in
theorem gX9_insert_X9_fails : GoodIn wsX9_insert (wsV RX9 40 RX9 yX9_fails wsX9_fails) := goodIn_app (goodIn_of _ (by decide +kernel)) ggX9_insert_X9_fails
set_option maxRecDepth 20000 in
theorem ggX9_insert_X9_arePages : GoodIn wsX9_insert wsX9_arePages := goodIn_r _ [13, 3, 4, 5, 6] (by decide +kernel) (by decide +kernel)
set_option maxRecDepth 20000 in
theorem gX9_insert_X9_arePages : GoodIn wsX9_insert (va_wsS RX9 87 yX9_arePages wsX9_arePages) := goodIn_app (goodIn_of _ (by decide +kernel)) ggX9_insert_X9_arePages
set_option maxRecDepth 20000 in
theorem ggX9_insert_X9_saves : GoodIn wsX9_insert wsX9_saves := goodIn_r _ [17, 18, 19, 2, 20, 21, 5, 22, 29, 30, 31, 32, 33, 34, 35, 36, 37, 38, 39] (by decide +kernel) (by decide +kernel)
set_option maxRecDepth 20000 in
theorem gX9_insert_X9_saves : GoodIn wsX9_insert (wsV RX9 91 RX9 yX9_saves wsX9_saves) := goodIn_app (goodIn_of _ (by decide +kernel)) ggX9_insert_X9_saves
set_option maxRecDepth 20000 in
theorem ggX9_insert_X9_comes : GoodIn wsX9_insert wsX9_comes := goodIn_r _ [25, 26, 27, 5, 28] (by decide +kernel) (by decide +kernel)
set_option maxRecDepth 20000 in
theorem gX9_insert_X9_comes : GoodIn wsX9_insert (va_wsS RX9 94 yX9_comes wsX9_comes) := goodIn_app (goodIn_of _ (by decide +kernel)) ggX9_insert_X9_comes
set_option maxRecDepth 20000 in
theorem ggX9_move_X9_isPlace : GoodIn wsX9_move wsX9_isPlace := goodIn_r _ [7, 2, 8, 9, 6, 10, 39, 40, 41, 42, 43, 44, 45, 46, 47, 48, 49] (by decide +kernel) (by decide +kernel)
set_option maxRecDepth 20000 in
theorem gX9_move_X9_isPlace : GoodIn wsX9_move (wsV RX9 98 RX9 yX9_isPlace wsX9_isPlace) := goodIn_app (goodIn_of _ (by decide +kernel)) ggX9_move_X9_isPlace
set_option maxRecDepth 20000 in
theorem ggX9_move_X9_fails : GoodIn wsX9_move wsX9_fails := goodIn_r _ [14, 1, 39, 40, 41, 42, 43, 44, 45, 46, 47, 48, 49] (by decide +kernel) (by decide +kernel)
set_option maxRecDepth 20000 in
theorem gX9_move_X9_fails : GoodIn wsX9_move (wsV RX9 40 RX9 yX9_fails wsX9_fails) := goodIn_app (goodIn_of _ (by decide +kernel)) ggX9_move_X9_fails
set_option maxRecDepth 20000 in
theorem ggX9_move_X9_saves : GoodIn wsX9_move wsX9_saves := goodIn_r _ [18, 19, 20, 2, 21, 22, 6, 23, 39, 40, 41, 42, 43, 44, 45, 46, 47, 48, 49] (by decide +kernel) (by decide +kernel)
set_option maxRecDepth 20000 in
theorem gX9_move_X9_saves : GoodIn wsX9_move (wsV RX9 91 RX9 yX9_saves wsX9_saves) := goodIn_app (goodIn_of _ (by decide +kernel)) ggX9_move_X9_saves
set_option maxRecDepth 20000 in
theorem ggX9_move_X9_moves : GoodIn wsX9_move wsX9_moves := goodIn_r _ [26, 27, 28, 6, 29, 30, 31, 32, 33, 34, 35, 36, 37, 38] (by decide +kernel) (by decide +kernel)
set_option maxRecDepth 20000 in
theorem gX9_move_X9_moves : GoodIn wsX9_move (va_wsS RX9 101 yX9_moves wsX9_moves) := goodIn_app (goodIn_of _ (by decide +kernel)) ggX9_move_X9_moves
set_option maxRecDepth 20000 in
theorem ggX9_drop_X9_isPlace : GoodIn wsX9_drop wsX9_isPlace := goodIn_r _ [7, 2, 8, 9, 6, 10, 51, 52, 53, 54, 55, 56, 57, 58, 59, 60, 61] (by decide +kernel) (by decide +kernel)
set_option maxRecDepth 20000 in
theorem gX9_drop_X9_isPlace : GoodIn wsX9_drop (wsV RX9 98 RX9 yX9_isPlace wsX9_isPlace) := goodIn_app (goodIn_of _ (by decide +kernel)) ggX9_drop_X9_isPlace
set_option maxRecDepth 20000 in
theorem ggX9_drop_X9_fails : GoodIn wsX9_drop wsX9_fails := goodIn_r _ [14, 1, 51, 52, 53, 54, 55, 56, 57, 58, 59, 60, 61] (by decide +kernel) (by decide +kernel)
set_option maxRecDepth 20000 in
theorem gX9_drop_X9_fails : GoodIn wsX9_drop (wsV RX9 40 RX9 yX9_fails wsX9_fails) := goodIn_app (goodIn_of _ (by decide +kernel)) ggX9_drop_X9_fails
set_option maxRecDepth 20000 in
theorem ggX9_drop_X9_saves : GoodIn wsX9_drop wsX9_saves := goodIn_r _ [18, 19, 20, 2, 21, 22, 6, 23, 51, 52, 53, 54, 55, 56, 57, 58, 59, 60, 61] (by decide +kernel) (by decide +kernel)
set_option maxRecDepth 20000 in
theorem gX9_drop_X9_saves : GoodIn wsX9_drop (wsV RX9 91 RX9 yX9_saves wsX9_saves) := goodIn_app (goodIn_of _ (by decide +kernel)) ggX9_drop_X9_saves
set_option maxRecDepth 20000 in
theorem ggX9_drop_X9_allLost : GoodIn wsX9_drop wsX9_allLost := goodIn_r _ [26, 27, 28, 6, 29, 30, 31, 32, 33, 34, 35, 36, 37, 38, 39, 40, 41, 42, 43, 44, 45, 46, 47] (by decide +kernel) (by decide +kernel)
set_option maxRecDepth 20000 in
theorem gX9_drop_X9_allLost : GoodIn wsX9_drop (va_wsS RX9 104 yX9_allLost wsX9_allLost) := goodIn_app (goodIn_of _ (by decide +kernel)) ggX9_drop_X9_allLost
set_option maxRecDepth 20000 in
theorem ggX9_drop_X9_goesOut : GoodIn wsX9_drop wsX9_goesOut := goodIn_r _ [50] (by decide +kernel) (by decide +kernel)
set_option maxRecDepth 20000 in
theorem gX9_drop_X9_goesOut : GoodIn wsX9_drop (va_wsS RX9 79 yX9_goesOut wsX9_goesOut) := goodIn_app (goodIn_of _ (by decide +kernel)) ggX9_drop_X9_goesOut
set_option maxRecDepth 20000 in
theorem ggX9_pages_X9_isPlace : GoodIn wsX9_pages wsX9_isPlace := goodIn_r _ [6, 7, 8, 9, 5, 10, 31, 32, 33, 34, 35, 36, 37, 38, 39, 40, 41] (by decide +kernel) (by decide +kernel)
set_option maxRecDepth 20000 in
theorem gX9_pages_X9_isPlace : GoodIn wsX9_pages (wsV RX9 98 RX9 yX9_isPlace wsX9_isPlace) := goodIn_app (goodIn_of _ (by decide +kernel)) ggX9_pages_X9_isPlace
set_option maxRecDepth 20000 in
theorem ggX9_pages_X9_fails : GoodIn wsX9_pages wsX9_fails := goodIn_r _ [14, 1, 31, 32, 33, 34, 35, 36, 37, 38, 39, 40, 41] (by decide +kernel) (by decide +kernel)
set_option maxRecDepth 20000 in
theorem gX9_pages_X9_fails : GoodIn wsX9_pages (wsV RX9 40 RX9 yX9_fails wsX9_fails) := goodIn_app (goodIn_of _ (by decide +kernel)) ggX9_pages_X9_fails
set_option maxRecDepth 20000 in
theorem ggX9_pages_X9_arePages : GoodIn wsX9_pages wsX9_arePages := goodIn_r _ [17, 8, 9, 5, 10] (by decide +kernel) (by decide +kernel)
set_option maxRecDepth 20000 in
theorem gX9_pages_X9_arePages : GoodIn wsX9_pages (va_wsS RX9 87 yX9_arePages wsX9_arePages) := goodIn_app (goodIn_of _ (by decide +kernel)) ggX9_pages_X9_arePages
set_option maxRecDepth 20000 in
theorem ggX9_pages_X9_saves : GoodIn wsX9_pages wsX9_saves := goodIn_r _ [21, 22, 23, 7, 24, 25, 5, 26, 31, 32, 33, 34, 35, 36, 37, 38, 39, 40, 41] (by decide +kernel) (by decide +kernel)
set_option maxRecDepth 20000 in
theorem gX9_pages_X9_saves : GoodIn wsX9_pages (wsV RX9 91 RX9 yX9_saves wsX9_saves) := goodIn_app (goodIn_of _ (by decide +kernel)) ggX9_pages_X9_saves
set_option maxRecDepth 20000 in
theorem ggX9_pages_X9_changes : GoodIn wsX9_pages wsX9_changes := goodIn_r _ [30, 7, 31, 32, 33, 34, 35, 36, 37, 38, 39, 40, 41] (by decide +kernel) (by decide +kernel)
set_option maxRecDepth 20000 in
theorem gX9_pages_X9_changes : GoodIn wsX9_pages (wsV RX9 108 RX9 yX9_changes wsX9_changes) := goodIn_app (goodIn_of _ (by decide +kernel)) ggX9_pages_X9_changes
