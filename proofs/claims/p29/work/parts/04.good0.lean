set_option maxRecDepth 20000 in
theorem ggX0_add_X8_cellOf : GoodIn wsX0_add wsX8_cellOf := goodIn_r _ [6] (by decide +kernel) (by decide +kernel)
set_option maxRecDepth 20000 in
theorem gX0_add_X8_cellOf_n27 : GoodIn wsX0_add (wsX8_cellOf) := ggX0_add_X8_cellOf
set_option maxRecDepth 20000 in
theorem ggX0_takeOutLost_X8_cellOf : GoodIn wsX0_takeOutLost wsX8_cellOf := goodIn_r _ [6] (by decide +kernel) (by decide +kernel)
set_option maxRecDepth 20000 in
theorem gX0_takeOutLost_X8_cellOf_n27 : GoodIn wsX0_takeOutLost (wsX8_cellOf) := ggX0_takeOutLost_X8_cellOf
set_option maxRecDepth 20000 in
theorem ggX0_takeOutLost_X0_add : GoodIn wsX0_takeOutLost wsX0_add := goodIn_r _ [11, 1, 2, 3, 4, 5, 6, 12, 13, 14] (by decide +kernel) (by decide +kernel)
set_option maxRecDepth 20000 in
theorem gX0_takeOutLost_X0_add : GoodIn wsX0_takeOutLost (wsV RX0 31 RX0 yX0_add wsX0_add) := goodIn_app (goodIn_of _ (by decide +kernel)) ggX0_takeOutLost_X0_add
set_option maxRecDepth 20000 in
theorem ggX0_followJoin_X8_cellOf : GoodIn wsX0_followJoin wsX8_cellOf := goodIn_r _ [6] (by decide +kernel) (by decide +kernel)
set_option maxRecDepth 20000 in
theorem gX0_followJoin_X8_cellOf_n27 : GoodIn wsX0_followJoin (wsX8_cellOf) := ggX0_followJoin_X8_cellOf
set_option maxRecDepth 20000 in
theorem ggX0_followSplit_X8_cellOf : GoodIn wsX0_followSplit wsX8_cellOf := goodIn_r _ [6] (by decide +kernel) (by decide +kernel)
set_option maxRecDepth 20000 in
theorem gX0_followSplit_X8_cellOf_n27 : GoodIn wsX0_followSplit (wsX8_cellOf) := ggX0_followSplit_X8_cellOf
set_option maxRecDepth 20000 in
theorem ggX1_putNew_X1_putIn : GoodIn wsX1_putNew wsX1_putIn := goodIn_r _ [6, 7, 8, 9, 10, 11, 12, 13, 14] (by decide +kernel) (by decide +kernel)
set_option maxRecDepth 20000 in
theorem gX1_putNew_X1_putIn : GoodIn wsX1_putNew (wsV RX1 34 RX1 yX1_putIn wsX1_putIn) := goodIn_app (goodIn_of _ (by decide +kernel)) ggX1_putNew_X1_putIn
set_option maxRecDepth 20000 in
theorem ggX2_init_X4_init : GoodIn wsX2_init wsX4_init := goodIn_r _ [11, 12, 2, 3, 13, 14, 15, 16, 17, 18, 19, 20, 21, 22, 23, 24, 25, 26, 27, 28, 29, 30, 31, 32, 33, 34, 35, 36, 37, 38, 39, 40, 41, 42, 43, 44, 45, 52, 53, 54, 55, 56, 49, 50, 51, 57, 58, 59, 60, 61] (by decide +kernel) (by decide +kernel)
set_option maxRecDepth 20000 in
theorem gX2_init_X4_init_n24 : GoodIn wsX2_init (wsX4_init) := ggX2_init_X4_init
set_option maxRecDepth 20000 in
theorem ggX2_save_X4_copyFrom : GoodIn wsX2_save wsX4_copyFrom := goodIn_r _ [8, 9, 10, 11, 12, 13, 14, 15, 16, 17, 18, 19, 20, 21, 22, 23, 24, 25, 26, 27, 28, 29, 30, 31, 32, 33, 34, 35, 36, 37, 38, 39, 40, 41, 42, 46, 47, 48, 49, 50, 51, 52, 53, 54, 55, 56, 57, 58] (by decide +kernel) (by decide +kernel)
set_option maxRecDepth 20000 in
theorem gX2_save_X4_copyFrom : GoodIn wsX2_save (wsV RX2 25 RX4 yX4_copyFrom wsX4_copyFrom) := goodIn_app (goodIn_of _ (by decide +kernel)) ggX2_save_X4_copyFrom
set_option maxRecDepth 20000 in
theorem ggX2_restore_X4_copyFrom : GoodIn wsX2_restore wsX4_copyFrom := goodIn_r _ [8, 9, 10, 11, 12, 13, 14, 15, 16, 17, 18, 19, 20, 21, 22, 23, 24, 25, 26, 27, 28, 29, 30, 31, 32, 33, 34, 35, 36, 37, 38, 39, 40, 41, 42, 46, 47, 48, 49, 50, 51, 52, 53, 54, 55, 56, 57, 58] (by decide +kernel) (by decide +kernel)
set_option maxRecDepth 20000 in
theorem gX2_restore_X4_copyFrom : GoodIn wsX2_restore (wsV RX2 25 RX4 yX4_copyFrom wsX4_copyFrom) := goodIn_app (goodIn_of _ (by decide +kernel)) ggX2_restore_X4_copyFrom
set_option maxRecDepth 20000 in
theorem ggX4_init_X1_init : GoodIn wsX4_init wsX1_init := goodIn_r _ [17, 18, 2, 3, 19, 20, 21, 22, 23, 24, 37, 38, 39, 40, 41] (by decide +kernel) (by decide +kernel)
set_option maxRecDepth 20000 in
theorem gX4_init_X1_init_n9 : GoodIn wsX4_init (wsX1_init) := ggX4_init_X1_init
set_option maxRecDepth 20000 in
theorem ggX4_init_X0_init : GoodIn wsX4_init wsX0_init := goodIn_r _ [26, 27, 2, 3, 19, 28, 29, 30, 45, 46, 47] (by decide +kernel) (by decide +kernel)
set_option maxRecDepth 20000 in
theorem gX4_init_X0_init_n18 : GoodIn wsX4_init (wsX0_init) := ggX4_init_X0_init
set_option maxRecDepth 20000 in
theorem ggX4_init_X3_init : GoodIn wsX4_init wsX3_init := goodIn_r _ [33, 34, 2, 3, 19, 35, 36, 48, 49] (by decide +kernel) (by decide +kernel)
set_option maxRecDepth 20000 in
theorem gX4_init_X3_init : GoodIn wsX4_init (wsX3_init) := ggX4_init_X3_init
set_option maxRecDepth 20000 in
theorem ggX4_copyFrom_X1_copyFrom : GoodIn wsX4_copyFrom wsX1_copyFrom := goodIn_r _ [8, 9, 10, 11, 12, 13, 14, 15, 16, 17, 38, 39, 40, 41, 42] (by decide +kernel) (by decide +kernel)
set_option maxRecDepth 20000 in
theorem gX4_copyFrom_X1_copyFrom : GoodIn wsX4_copyFrom (wsV RX4 30 RX1 yX1_copyFrom wsX1_copyFrom) := goodIn_app (goodIn_of _ (by decide +kernel)) ggX4_copyFrom_X1_copyFrom
set_option maxRecDepth 20000 in
theorem ggX4_copyFrom_X0_copyFrom : GoodIn wsX4_copyFrom wsX0_copyFrom := goodIn_r _ [22, 23, 24, 11, 12, 13, 25, 26, 43, 44, 45] (by decide +kernel) (by decide +kernel)
set_option maxRecDepth 20000 in
theorem gX4_copyFrom_X0_copyFrom : GoodIn wsX4_copyFrom (wsV RX4 34 RX0 yX0_copyFrom wsX0_copyFrom) := goodIn_app (goodIn_of _ (by decide +kernel)) ggX4_copyFrom_X0_copyFrom
set_option maxRecDepth 20000 in
theorem ggX4_copyFrom_X3_copyFrom : GoodIn wsX4_copyFrom wsX3_copyFrom := goodIn_r _ [31, 32, 33, 11, 12, 13, 34, 46, 47] (by decide +kernel) (by decide +kernel)
set_option maxRecDepth 20000 in
theorem gX4_copyFrom_X3_copyFrom : GoodIn wsX4_copyFrom (wsV RX4 37 RX3 yX3_copyFrom wsX3_copyFrom) := goodIn_app (goodIn_of _ (by decide +kernel)) ggX4_copyFrom_X3_copyFrom
set_option maxRecDepth 20000 in
theorem ggX6_dropOne_X6_layPages : GoodIn wsX6_dropOne wsX6_layPages := goodIn_r _ [8, 1, 2, 9, 10, 11, 12, 13, 14, 15, 16, 17, 18] (by decide +kernel) (by decide +kernel)
set_option maxRecDepth 20000 in
theorem gX6_dropOne_X6_layPages : GoodIn wsX6_dropOne (wsV RX6 25 RX6 yX6_layPages wsX6_layPages) := goodIn_app (goodIn_of _ (by decide +kernel)) ggX6_dropOne_X6_layPages
set_option maxRecDepth 20000 in
theorem ggX7_follow_X7_followExhibits : GoodIn wsX7_follow wsX7_followExhibits := goodIn_r _ [7, 8, 9, 10, 11, 12, 13, 14, 37, 38, 39, 40, 41, 42, 43, 44, 45, 46, 47] (by decide +kernel) (by decide +kernel)
set_option maxRecDepth 20000 in
theorem gX7_follow_X7_followExhibits : GoodIn wsX7_follow (wsV RX7 38 RX7 yX7_followExhibits wsX7_followExhibits) := goodIn_app (goodIn_of _ (by decide +kernel)) ggX7_follow_X7_followExhibits
set_option maxRecDepth 20000 in
theorem ggX7_follow_X7_followCitations : GoodIn wsX7_follow wsX7_followCitations := goodIn_r _ [18, 19, 20, 21, 22, 23, 9, 24, 25, 26, 27, 28, 29, 30, 31, 32, 33, 48, 49, 50, 42, 43, 44, 45, 46, 47, 37, 38, 39, 40, 41] (by decide +kernel) (by decide +kernel)
set_option maxRecDepth 20000 in
theorem gX7_follow_X7_followCitations : GoodIn wsX7_follow (wsV RX7 46 RX7 yX7_followCitations wsX7_followCitations) := goodIn_app (goodIn_of _ (by decide +kernel)) ggX7_follow_X7_followCitations
set_option maxRecDepth 20000 in
theorem ggX7_followCitations_X8_cellOf : GoodIn wsX7_followCitations wsX8_cellOf := goodIn_r _ [9] (by decide +kernel) (by decide +kernel)
set_option maxRecDepth 20000 in
theorem gX7_followCitations_X8_cellOf_n66 : GoodIn wsX7_followCitations (wsX8_cellOf) := ggX7_followCitations_X8_cellOf
set_option maxRecDepth 20000 in
theorem ggX7_followCitations_X1_placeOf : GoodIn wsX7_followCitations wsX1_placeOf := goodIn_r _ [14, 15, 16, 26, 27, 28, 29, 30] (by decide +kernel) (by decide +kernel)
set_option maxRecDepth 20000 in
theorem gX7_followCitations_X1_placeOf : GoodIn wsX7_followCitations (wsV RX7 73 RX1 yX1_placeOf wsX1_placeOf) := goodIn_app (goodIn_of _ (by decide +kernel)) ggX7_followCitations_X1_placeOf
set_option maxRecDepth 20000 in
theorem ggX8_init_X4_init : GoodIn wsX8_init wsX4_init := goodIn_r _ [27, 28, 2, 3, 29, 30, 31, 32, 33, 34, 35, 36, 37, 38, 39, 40, 41, 42, 43, 24, 44, 45, 46, 47, 48, 49, 50, 51, 52, 53, 54, 55, 56, 57, 58, 59, 60, 121, 122, 123, 124, 125, 94, 95, 96, 126, 127, 128, 129, 130] (by decide +kernel) (by decide +kernel)
set_option maxRecDepth 20000 in
theorem gX8_init_X4_init_n11 : GoodIn wsX8_init (wsX4_init) := ggX8_init_X4_init
set_option maxRecDepth 20000 in
theorem ggX8_init_X7_init : GoodIn wsX8_init wsX7_init := goodIn_r _ [62, 63, 2, 3, 24, 64, 65, 66, 67, 68, 69, 70, 103, 104, 105, 106, 107, 108] (by decide +kernel) (by decide +kernel)
set_option maxRecDepth 20000 in
theorem gX8_init_X7_init_n18 : GoodIn wsX8_init (wsX7_init) := ggX8_init_X7_init
set_option maxRecDepth 20000 in
theorem ggX8_init_X6_init : GoodIn wsX8_init wsX6_init := goodIn_r _ [72, 73, 2, 3, 24, 74, 75, 76, 109, 110, 111] (by decide +kernel) (by decide +kernel)
set_option maxRecDepth 20000 in
theorem gX8_init_X6_init_n25 : GoodIn wsX8_init (wsX6_init) := ggX8_init_X6_init
set_option maxRecDepth 20000 in
theorem ggX8_init_X2_init : GoodIn wsX8_init wsX2_init := goodIn_r _ [79, 80, 2, 3, 81, 82, 83, 84, 5, 6, 26, 27, 28, 29, 30, 31, 32, 33, 34, 35, 36, 37, 38, 39, 40, 41, 42, 43, 24, 44, 45, 46, 47, 48, 49, 50, 51, 52, 53, 54, 55, 56, 57, 58, 59, 60, 112, 113, 114, 94, 95, 96, 121, 122, 123, 124, 125, 126, 127, 128, 129, 130] (by decide +kernel) (by decide +kernel)
set_option maxRecDepth 20000 in
theorem gX8_init_X2_init : GoodIn wsX8_init (wsX2_init) := ggX8_init_X2_init
set_option maxRecDepth 20000 in
theorem ggX8_init_X5_init : GoodIn wsX8_init wsX5_init := goodIn_r _ [86, 87, 2, 3, 24, 88, 89, 90, 91, 92, 93, 115, 116, 117, 118, 119, 120] (by decide +kernel) (by decide +kernel)
set_option maxRecDepth 20000 in
theorem gX8_init_X5_init_n39 : GoodIn wsX8_init (wsX5_init) := ggX8_init_X5_init
set_option maxRecDepth 20000 in
theorem ggX8_insert_X8_checkGap : GoodIn wsX8_insert wsX8_checkGap := goodIn_ca (goodIn_r _ [9, 10, 11, 1, 2, 12, 112, 113, 114, 115, 116, 117, 118, 119, 120, 121, 122, 123, 124, 125] (by decide +kernel) (by decide +kernel)) (goodIn_sub (fun _ h => List.mem_cons_of_mem _ (List.mem_append_left _ (List.mem_append_left _ (List.mem_append_right _ h)))) (by decide +kernel))
set_option maxRecDepth 20000 in
theorem gX8_insert_X8_checkGap : GoodIn wsX8_insert (wsV RX8 52 RX8 yX8_checkGap wsX8_checkGap) := goodIn_app (goodIn_of _ (by decide +kernel)) ggX8_insert_X8_checkGap
set_option maxRecDepth 20000 in
theorem ggX8_insert_X8_checkPages : GoodIn wsX8_insert wsX8_checkPages := goodIn_ca (goodIn_r _ [15, 16, 17] (by decide +kernel) (by decide +kernel)) (goodIn_sub (fun _ h => List.mem_cons_of_mem _ (List.mem_append_left _ (List.mem_append_right _ h))) (by decide +kernel))
set_option maxRecDepth 20000 in
theorem gX8_insert_X8_checkPages : GoodIn wsX8_insert (va_wsS RX8 56 yX8_checkPages wsX8_checkPages) := goodIn_app (goodIn_of _ (by decide +kernel)) ggX8_insert_X8_checkPages
set_option maxRecDepth 20000 in
theorem ggX8_insert_X8_checkRoomForExhibit : GoodIn wsX8_insert wsX8_checkRoomForExhibit := goodIn_ca (goodIn_r _ [21, 22, 23, 1, 2, 12, 112, 113, 114, 115, 116, 117, 118, 119, 120, 121, 122, 123, 124, 125] (by decide +kernel) (by decide +kernel)) (goodIn_sub (fun _ h => List.mem_cons_of_mem _ (List.mem_append_right _ h)) (by decide +kernel))
set_option maxRecDepth 20000 in
theorem gX8_insert_X8_checkRoomForExhibit : GoodIn wsX8_insert (wsV RX8 59 RX8 yX8_checkRoomForExhibit wsX8_checkRoomForExhibit) := goodIn_app (goodIn_of _ (by decide +kernel)) ggX8_insert_X8_checkRoomForExhibit
set_option maxRecDepth 20000 in
theorem ggX8_insert_X2_save : GoodIn wsX8_insert wsX2_save := goodIn_r _ [28, 29, 30, 31, 32, 33, 34, 35, 36, 37, 38, 39, 40, 41, 42, 43, 44, 45, 46, 47, 48, 49, 50, 51, 52, 53, 54, 55, 56, 57, 58, 59, 60, 61, 62, 63, 64, 65, 66, 67, 68, 69, 70, 126, 127, 128, 118, 119, 120, 121, 122, 123, 124, 125, 129, 130, 131, 132, 133] (by decide +kernel) (by decide +kernel)
set_option maxRecDepth 20000 in
theorem gX8_insert_X2_save : GoodIn wsX8_insert (wsV RX8 62 RX2 yX2_save wsX2_save) := goodIn_app (goodIn_of _ (by decide +kernel)) ggX8_insert_X2_save
set_option maxRecDepth 20000 in
theorem ggX8_insert_X1_putNew : GoodIn wsX8_insert wsX1_putNew := goodIn_r _ [74, 52, 75, 76, 77, 43, 78, 51, 45, 50, 121, 122, 123, 124, 125] (by decide +kernel) (by decide +kernel)
set_option maxRecDepth 20000 in
theorem gX8_insert_X1_putNew : GoodIn wsX8_insert (wsV RX8 66 RX1 yX1_putNew wsX1_putNew) := goodIn_app (goodIn_of _ (by decide +kernel)) ggX8_insert_X1_putNew
set_option maxRecDepth 20000 in
theorem ggX8_insert_X7_follow : GoodIn wsX8_insert wsX7_follow := goodIn_r _ [83, 84, 85, 86, 87, 88, 82, 89, 90, 91, 92, 93, 94, 95, 96, 97, 98, 99, 100, 101, 102, 103, 104, 105, 106, 8, 107, 108, 109, 110, 43, 111, 51, 45, 118, 119, 120, 121, 122, 123, 124, 125, 134, 135, 136, 137, 138, 139, 129, 130, 131] (by decide +kernel) (by decide +kernel)
set_option maxRecDepth 20000 in
theorem gX8_insert_X7_follow : GoodIn wsX8_insert (wsV RX8 72 RX7 yX7_follow wsX7_follow) := goodIn_app (goodIn_of _ (by decide +kernel)) ggX8_insert_X7_follow
set_option maxRecDepth 20000 in
theorem ggX8_move_X8_checkPlace : GoodIn wsX8_move wsX8_checkPlace := goodIn_ca (goodIn_r _ [11, 12, 13, 1, 2, 14, 103, 104, 105, 106, 107, 108, 109, 110, 111, 112, 113, 114, 115, 116] (by decide +kernel) (by decide +kernel)) (goodIn_sub (fun _ h => List.mem_cons_of_mem _ (List.mem_append_right _ h)) (by decide +kernel))
set_option maxRecDepth 20000 in
theorem gX8_move_X8_checkPlace : GoodIn wsX8_move (wsV RX8 75 RX8 yX8_checkPlace wsX8_checkPlace) := goodIn_app (goodIn_of _ (by decide +kernel)) ggX8_move_X8_checkPlace
set_option maxRecDepth 20000 in
theorem ggX8_move_X2_save : GoodIn wsX8_move wsX2_save := goodIn_r _ [19, 20, 21, 22, 23, 24, 25, 26, 27, 28, 29, 30, 31, 32, 33, 34, 35, 36, 37, 38, 39, 40, 41, 42, 43, 44, 45, 46, 47, 48, 49, 50, 51, 52, 53, 54, 55, 56, 57, 58, 59, 60, 61, 117, 118, 119, 109, 110, 111, 112, 113, 114, 115, 116, 120, 121, 122, 123, 124] (by decide +kernel) (by decide +kernel)
set_option maxRecDepth 20000 in
theorem gX8_move_X2_save : GoodIn wsX8_move (wsV RX8 62 RX2 yX2_save wsX2_save) := goodIn_app (goodIn_of _ (by decide +kernel)) ggX8_move_X2_save
set_option maxRecDepth 20000 in
theorem ggX8_move_X1_takeOut : GoodIn wsX8_move wsX1_takeOut := goodIn_r _ [65, 42, 36, 41, 112, 113, 114, 115, 116] (by decide +kernel) (by decide +kernel)
set_option maxRecDepth 20000 in
theorem gX8_move_X1_takeOut : GoodIn wsX8_move (wsV RX8 84 RX1 yX1_takeOut wsX1_takeOut) := goodIn_app (goodIn_of _ (by decide +kernel)) ggX8_move_X1_takeOut
set_option maxRecDepth 20000 in
theorem ggX8_move_X1_putIn : GoodIn wsX8_move wsX1_putIn := goodIn_r _ [69, 42, 36, 41, 112, 113, 114, 115, 116] (by decide +kernel) (by decide +kernel)
set_option maxRecDepth 20000 in
theorem gX8_move_X1_putIn : GoodIn wsX8_move (wsV RX8 87 RX1 yX1_putIn wsX1_putIn) := goodIn_app (goodIn_of _ (by decide +kernel)) ggX8_move_X1_putIn
set_option maxRecDepth 20000 in
theorem ggX8_move_X7_follow : GoodIn wsX8_move wsX7_follow := goodIn_r _ [74, 75, 76, 77, 78, 79, 73, 80, 81, 82, 83, 84, 85, 86, 87, 88, 89, 90, 91, 92, 93, 94, 95, 96, 97, 10, 98, 99, 100, 101, 34, 102, 42, 36, 109, 110, 111, 112, 113, 114, 115, 116, 125, 126, 127, 128, 129, 130, 120, 121, 122] (by decide +kernel) (by decide +kernel)
set_option maxRecDepth 20000 in
theorem gX8_move_X7_follow : GoodIn wsX8_move (wsV RX8 72 RX7 yX7_follow wsX7_follow) := goodIn_app (goodIn_of _ (by decide +kernel)) ggX8_move_X7_follow
set_option maxRecDepth 20000 in
theorem ggX8_drop_X8_checkPlace : GoodIn wsX8_drop wsX8_checkPlace := goodIn_ca (goodIn_r _ [9, 10, 11, 2, 3, 12, 110, 111, 112, 113, 114, 115, 116, 117, 118, 119, 120, 121, 122, 123] (by decide +kernel) (by decide +kernel)) (goodIn_sub (fun _ h => List.mem_cons_of_mem _ (List.mem_append_right _ h)) (by decide +kernel))
set_option maxRecDepth 20000 in
theorem gX8_drop_X8_checkPlace : GoodIn wsX8_drop (wsV RX8 75 RX8 yX8_checkPlace wsX8_checkPlace) := goodIn_app (goodIn_of _ (by decide +kernel)) ggX8_drop_X8_checkPlace
set_option maxRecDepth 20000 in
theorem ggX8_drop_X2_save : GoodIn wsX8_drop wsX2_save := goodIn_r _ [17, 18, 19, 20, 21, 22, 23, 24, 25, 26, 27, 28, 29, 30, 31, 32, 33, 34, 35, 36, 37, 38, 39, 40, 41, 42, 43, 44, 45, 46, 47, 48, 49, 50, 51, 52, 53, 54, 55, 56, 57, 58, 59, 124, 125, 126, 116, 117, 118, 119, 120, 121, 122, 123, 127, 128, 129, 130, 131] (by decide +kernel) (by decide +kernel)
set_option maxRecDepth 20000 in
theorem gX8_drop_X2_save : GoodIn wsX8_drop (wsV RX8 62 RX2 yX2_save wsX2_save) := goodIn_app (goodIn_of _ (by decide +kernel)) ggX8_drop_X2_save
set_option maxRecDepth 20000 in
theorem ggX8_drop_X8_goodCitationsOf : GoodIn wsX8_drop wsX8_goodCitationsOf := goodIn_r _ [63, 64, 65, 66, 8, 67, 2, 68, 69, 4, 70, 71, 72, 73, 74, 110, 111, 112, 113, 114, 115, 116, 117, 118, 127, 128, 129, 132, 133, 134, 135, 136, 137] (by decide +kernel) (by decide +kernel)
set_option maxRecDepth 20000 in
theorem gX8_drop_X8_goodCitationsOf : GoodIn wsX8_drop (wsV RX8 91 RX8 yX8_goodCitationsOf wsX8_goodCitationsOf) := goodIn_app (goodIn_of _ (by decide +kernel)) ggX8_drop_X8_goodCitationsOf
set_option maxRecDepth 20000 in
theorem ggX8_drop_X1_takeOut : GoodIn wsX8_drop wsX1_takeOut := goodIn_r _ [78, 40, 34, 39, 119, 120, 121, 122, 123] (by decide +kernel) (by decide +kernel)
set_option maxRecDepth 20000 in
theorem gX8_drop_X1_takeOut : GoodIn wsX8_drop (wsV RX8 84 RX1 yX1_takeOut wsX1_takeOut) := goodIn_app (goodIn_of _ (by decide +kernel)) ggX8_drop_X1_takeOut
set_option maxRecDepth 20000 in
theorem ggX8_drop_X7_follow : GoodIn wsX8_drop wsX7_follow := goodIn_r _ [83, 84, 85, 86, 87, 88, 82, 89, 90, 91, 92, 93, 94, 95, 96, 97, 98, 99, 100, 101, 102, 103, 104, 105, 73, 8, 74, 106, 107, 108, 32, 109, 40, 34, 116, 117, 118, 119, 120, 121, 122, 123, 132, 133, 134, 135, 136, 137, 127, 128, 129] (by decide +kernel) (by decide +kernel)
set_option maxRecDepth 20000 in
theorem gX8_drop_X7_follow : GoodIn wsX8_drop (wsV RX8 72 RX7 yX7_follow wsX7_follow) := goodIn_app (goodIn_of _ (by decide +kernel)) ggX8_drop_X7_follow
set_option maxRecDepth 20000 in
theorem ggX8_pages_X8_checkPlace : GoodIn wsX8_pages wsX8_checkPlace := goodIn_ca (goodIn_r _ [10, 11, 12, 2, 3, 13, 99, 100, 101, 102, 103, 104, 105, 106, 107, 108, 109, 110, 111, 112] (by decide +kernel) (by decide +kernel)) (goodIn_sub (fun _ h => List.mem_cons_of_mem _ (List.mem_append_left _ (List.mem_append_right _ h))) (by decide +kernel))
set_option maxRecDepth 20000 in
theorem gX8_pages_X8_checkPlace : GoodIn wsX8_pages (wsV RX8 75 RX8 yX8_checkPlace wsX8_checkPlace) := goodIn_app (goodIn_of _ (by decide +kernel)) ggX8_pages_X8_checkPlace
set_option maxRecDepth 20000 in
theorem ggX8_pages_X8_checkPages : GoodIn wsX8_pages wsX8_checkPages := goodIn_ca (goodIn_r _ [16, 17, 18] (by decide +kernel) (by decide +kernel)) (goodIn_sub (fun _ h => List.mem_cons_of_mem _ (List.mem_append_right _ h)) (by decide +kernel))
set_option maxRecDepth 20000 in
theorem gX8_pages_X8_checkPages : GoodIn wsX8_pages (va_wsS RX8 56 yX8_checkPages wsX8_checkPages) := goodIn_app (goodIn_of _ (by decide +kernel)) ggX8_pages_X8_checkPages
set_option maxRecDepth 20000 in
theorem ggX8_pages_X2_save : GoodIn wsX8_pages wsX2_save := goodIn_r _ [23, 24, 25, 26, 27, 28, 29, 30, 31, 32, 33, 34, 35, 36, 37, 38, 39, 40, 41, 42, 43, 44, 45, 46, 47, 48, 49, 50, 51, 52, 53, 54, 55, 56, 57, 58, 59, 60, 61, 62, 63, 64, 65, 113, 114, 115, 105, 106, 107, 108, 109, 110, 111, 112, 116, 117, 118, 119, 120] (by decide +kernel) (by decide +kernel)
set_option maxRecDepth 20000 in
theorem gX8_pages_X2_save : GoodIn wsX8_pages (wsV RX8 62 RX2 yX2_save wsX2_save) := goodIn_app (goodIn_of _ (by decide +kernel)) ggX8_pages_X2_save
set_option maxRecDepth 20000 in
theorem ggX8_pages_X7_follow : GoodIn wsX8_pages wsX7_follow := goodIn_r _ [70, 71, 72, 73, 74, 75, 69, 76, 77, 78, 79, 80, 81, 82, 83, 84, 85, 86, 87, 88, 89, 90, 91, 92, 93, 9, 94, 95, 96, 97, 38, 98, 46, 40, 105, 106, 107, 108, 109, 110, 111, 112, 121, 122, 123, 124, 125, 126, 116, 117, 118] (by decide +kernel) (by decide +kernel)
set_option maxRecDepth 20000 in
theorem gX8_pages_X7_follow : GoodIn wsX8_pages (wsV RX8 72 RX7 yX7_follow wsX7_follow) := goodIn_app (goodIn_of _ (by decide +kernel)) ggX8_pages_X7_follow
set_option maxRecDepth 20000 in
theorem ggX8_join_X8_checkPlace : GoodIn wsX8_join wsX8_checkPlace := goodIn_ca (goodIn_r _ [17, 1, 2, 5, 6, 7, 106, 107, 108, 109, 110, 111, 112, 113, 114, 115, 116, 117, 118, 119] (by decide +kernel) (by decide +kernel)) (goodIn_sub (fun _ h => List.mem_cons_of_mem _ (List.mem_append_left _ (List.mem_append_right _ h))) (by decide +kernel))
set_option maxRecDepth 20000 in
theorem gX8_join_X8_checkPlace : GoodIn wsX8_join (wsV RX8 75 RX8 yX8_checkPlace wsX8_checkPlace) := goodIn_app (goodIn_of _ (by decide +kernel)) ggX8_join_X8_checkPlace
set_option maxRecDepth 20000 in
theorem ggX8_join_X2_save : GoodIn wsX8_join wsX2_save := goodIn_r _ [22, 23, 24, 25, 26, 27, 28, 29, 30, 31, 32, 33, 34, 35, 36, 37, 38, 39, 40, 41, 42, 43, 44, 45, 46, 47, 48, 49, 50, 51, 52, 53, 54, 55, 56, 57, 58, 59, 60, 61, 62, 63, 64, 120, 121, 122, 112, 113, 114, 115, 116, 117, 118, 119, 123, 124, 125, 126, 127] (by decide +kernel) (by decide +kernel)
set_option maxRecDepth 20000 in
theorem gX8_join_X2_save : GoodIn wsX8_join (wsV RX8 62 RX2 yX2_save wsX2_save) := goodIn_app (goodIn_of _ (by decide +kernel)) ggX8_join_X2_save
set_option maxRecDepth 20000 in
theorem ggX8_join_X0_followJoin : GoodIn wsX8_join wsX0_followJoin := goodIn_r _ [68, 53, 55, 56, 69, 16, 70, 123, 124, 125] (by decide +kernel) (by decide +kernel)
set_option maxRecDepth 20000 in
theorem gX8_join_X0_followJoin : GoodIn wsX8_join (wsV RX8 115 RX0 yX0_followJoin wsX0_followJoin) := goodIn_app (goodIn_of _ (by decide +kernel)) ggX8_join_X0_followJoin
set_option maxRecDepth 20000 in
theorem ggX8_join_X1_takeOut : GoodIn wsX8_join wsX1_takeOut := goodIn_r _ [74, 45, 39, 44, 115, 116, 117, 118, 119] (by decide +kernel) (by decide +kernel)
set_option maxRecDepth 20000 in
theorem gX8_join_X1_takeOut : GoodIn wsX8_join (wsV RX8 84 RX1 yX1_takeOut wsX1_takeOut) := goodIn_app (goodIn_of _ (by decide +kernel)) ggX8_join_X1_takeOut
set_option maxRecDepth 20000 in
theorem ggX8_join_X7_follow : GoodIn wsX8_join wsX7_follow := goodIn_r _ [79, 80, 81, 82, 83, 84, 78, 85, 86, 87, 88, 89, 90, 91, 92, 93, 94, 95, 96, 97, 98, 99, 100, 101, 69, 16, 70, 102, 103, 104, 37, 105, 45, 39, 112, 113, 114, 115, 116, 117, 118, 119, 128, 129, 130, 131, 132, 133, 123, 124, 125] (by decide +kernel) (by decide +kernel)
set_option maxRecDepth 20000 in
theorem gX8_join_X7_follow : GoodIn wsX8_join (wsV RX8 72 RX7 yX7_follow wsX7_follow) := goodIn_app (goodIn_of _ (by decide +kernel)) ggX8_join_X7_follow
set_option maxRecDepth 20000 in
theorem ggX8_split_X8_checkPlace : GoodIn wsX8_split wsX8_checkPlace := goodIn_ca (goodIn_r _ [14, 15, 16, 3, 4, 17, 116, 117, 118, 119, 120, 121, 122, 123, 124, 125, 126, 127, 128, 129] (by decide +kernel) (by decide +kernel)) (goodIn_sub (fun _ h => List.mem_cons_of_mem _ (List.mem_append_left _ (List.mem_append_right _ h))) (by decide +kernel))
set_option maxRecDepth 20000 in
theorem gX8_split_X8_checkPlace : GoodIn wsX8_split (wsV RX8 75 RX8 yX8_checkPlace wsX8_checkPlace) := goodIn_app (goodIn_of _ (by decide +kernel)) ggX8_split_X8_checkPlace
set_option maxRecDepth 20000 in
theorem ggX8_split_X8_checkRoomForExhibit : GoodIn wsX8_split wsX8_checkRoomForExhibit := goodIn_ca (goodIn_r _ [21, 22, 23, 3, 4, 17, 116, 117, 118, 119, 120, 121, 122, 123, 124, 125, 126, 127, 128, 129] (by decide +kernel) (by decide +kernel)) (goodIn_sub (fun _ h => List.mem_cons_of_mem _ (List.mem_append_right _ h)) (by decide +kernel))
set_option maxRecDepth 20000 in
theorem gX8_split_X8_checkRoomForExhibit : GoodIn wsX8_split (wsV RX8 59 RX8 yX8_checkRoomForExhibit wsX8_checkRoomForExhibit) := goodIn_app (goodIn_of _ (by decide +kernel)) ggX8_split_X8_checkRoomForExhibit
set_option maxRecDepth 20000 in
theorem ggX8_split_X2_save : GoodIn wsX8_split wsX2_save := goodIn_r _ [28, 29, 30, 31, 32, 33, 34, 35, 36, 37, 38, 39, 40, 41, 42, 43, 44, 45, 46, 47, 48, 49, 50, 51, 52, 53, 54, 55, 56, 57, 58, 59, 60, 61, 62, 63, 64, 65, 66, 67, 68, 69, 70, 130, 131, 132, 122, 123, 124, 125, 126, 127, 128, 129, 133, 134, 135, 136, 137] (by decide +kernel) (by decide +kernel)
set_option maxRecDepth 20000 in
theorem gX8_split_X2_save : GoodIn wsX8_split (wsV RX8 62 RX2 yX2_save wsX2_save) := goodIn_app (goodIn_of _ (by decide +kernel)) ggX8_split_X2_save
set_option maxRecDepth 20000 in
theorem ggX8_split_X1_putNew : GoodIn wsX8_split wsX1_putNew := goodIn_r _ [74, 52, 75, 76, 77, 43, 78, 51, 45, 50, 125, 126, 127, 128, 129] (by decide +kernel) (by decide +kernel)
set_option maxRecDepth 20000 in
theorem gX8_split_X1_putNew : GoodIn wsX8_split (wsV RX8 66 RX1 yX1_putNew wsX1_putNew) := goodIn_app (goodIn_of _ (by decide +kernel)) ggX8_split_X1_putNew
set_option maxRecDepth 20000 in
theorem ggX8_split_X0_followSplit : GoodIn wsX8_split wsX0_followSplit := goodIn_r _ [82, 59, 61, 62, 83, 13, 84, 133, 134, 135] (by decide +kernel) (by decide +kernel)
set_option maxRecDepth 20000 in
theorem gX8_split_X0_followSplit : GoodIn wsX8_split (wsV RX8 125 RX0 yX0_followSplit wsX0_followSplit) := goodIn_app (goodIn_of _ (by decide +kernel)) ggX8_split_X0_followSplit
set_option maxRecDepth 20000 in
theorem ggX8_split_X7_follow : GoodIn wsX8_split wsX7_follow := goodIn_r _ [89, 90, 91, 92, 93, 94, 88, 95, 96, 97, 98, 99, 100, 101, 102, 103, 104, 105, 106, 107, 108, 109, 110, 111, 83, 13, 84, 112, 113, 114, 43, 115, 51, 45, 122, 123, 124, 125, 126, 127, 128, 129, 138, 139, 140, 141, 142, 143, 133, 134, 135] (by decide +kernel) (by decide +kernel)
set_option maxRecDepth 20000 in
theorem gX8_split_X7_follow : GoodIn wsX8_split (wsV RX8 72 RX7 yX7_follow wsX7_follow) := goodIn_app (goodIn_of _ (by decide +kernel)) ggX8_split_X7_follow
set_option maxRecDepth 20000 in
theorem ggX8_cite_X8_checkParagraph : GoodIn wsX8_cite wsX8_checkParagraph := goodIn_ca (goodIn_r _ [13, 14, 15] (by decide +kernel) (by decide +kernel)) (goodIn_sub (fun _ h => List.mem_cons_of_mem _ (List.mem_append_left _ (List.mem_append_right _ h))) (by decide +kernel))
set_option maxRecDepth 20000 in
theorem gX8_cite_X8_checkParagraph : GoodIn wsX8_cite (va_wsS RX8 128 yX8_checkParagraph wsX8_checkParagraph) := goodIn_app (goodIn_of _ (by decide +kernel)) ggX8_cite_X8_checkParagraph
set_option maxRecDepth 20000 in
theorem ggX8_cite_X8_checkPlace : GoodIn wsX8_cite wsX8_checkPlace := goodIn_ca (goodIn_r _ [19, 14, 15, 3, 7, 20, 110, 111, 112, 113, 114, 115, 116, 117, 118, 122, 123, 124, 125, 126] (by decide +kernel) (by decide +kernel)) (goodIn_sub (fun _ h => List.mem_cons_of_mem _ (List.mem_append_left _ (List.mem_append_right _ h))) (by decide +kernel))
set_option maxRecDepth 20000 in
theorem gX8_cite_X8_checkPlace : GoodIn wsX8_cite (wsV RX8 75 RX8 yX8_checkPlace wsX8_checkPlace) := goodIn_app (goodIn_of _ (by decide +kernel)) ggX8_cite_X8_checkPlace
set_option maxRecDepth 20000 in
theorem ggX8_cite_X8_checkPages : GoodIn wsX8_cite wsX8_checkPages := goodIn_ca (goodIn_r _ [23, 24, 25] (by decide +kernel) (by decide +kernel)) (goodIn_sub (fun _ h => List.mem_cons_of_mem _ (List.mem_append_right _ h)) (by decide +kernel))
set_option maxRecDepth 20000 in
theorem gX8_cite_X8_checkPages : GoodIn wsX8_cite (va_wsS RX8 56 yX8_checkPages wsX8_checkPages) := goodIn_app (goodIn_of _ (by decide +kernel)) ggX8_cite_X8_checkPages
set_option maxRecDepth 20000 in
theorem ggX8_cite_X2_save : GoodIn wsX8_cite wsX2_save := goodIn_r _ [30, 31, 32, 33, 34, 35, 36, 37, 38, 39, 40, 41, 42, 43, 44, 45, 46, 47, 48, 49, 50, 51, 52, 53, 54, 55, 56, 57, 58, 59, 60, 61, 62, 63, 64, 65, 66, 67, 68, 69, 70, 71, 72, 127, 128, 129, 116, 117, 118, 122, 123, 124, 125, 126, 119, 120, 121, 130, 131] (by decide +kernel) (by decide +kernel)
set_option maxRecDepth 20000 in
theorem gX8_cite_X2_save : GoodIn wsX8_cite (wsV RX8 62 RX2 yX2_save wsX2_save) := goodIn_app (goodIn_of _ (by decide +kernel)) ggX8_cite_X2_save
set_option maxRecDepth 20000 in
theorem ggX8_cite_X0_add : GoodIn wsX8_cite wsX0_add := goodIn_r _ [76, 61, 63, 64, 77, 12, 78, 119, 120, 121] (by decide +kernel) (by decide +kernel)
set_option maxRecDepth 20000 in
theorem gX8_cite_X0_add : GoodIn wsX8_cite (wsV RX8 136 RX0 yX0_add wsX0_add) := goodIn_app (goodIn_of _ (by decide +kernel)) ggX8_cite_X0_add
set_option maxRecDepth 20000 in
theorem ggX8_cite_X7_follow : GoodIn wsX8_cite wsX7_follow := goodIn_r _ [83, 84, 85, 86, 87, 88, 82, 89, 90, 91, 92, 93, 94, 95, 96, 97, 98, 99, 100, 101, 102, 103, 104, 105, 77, 12, 78, 106, 107, 108, 45, 109, 53, 47, 116, 117, 118, 122, 123, 124, 125, 126, 132, 133, 134, 135, 136, 137, 119, 120, 121] (by decide +kernel) (by decide +kernel)
set_option maxRecDepth 20000 in
theorem gX8_cite_X7_follow : GoodIn wsX8_cite (wsV RX8 72 RX7 yX7_follow wsX7_follow) := goodIn_app (goodIn_of _ (by decide +kernel)) ggX8_cite_X7_follow
set_option maxRecDepth 20000 in
theorem ggX8_clean_X8_checkParagraph : GoodIn wsX8_clean wsX8_checkParagraph := goodIn_ca (goodIn_r _ [9, 10, 11] (by decide +kernel) (by decide +kernel)) (goodIn_sub (fun _ h => List.mem_cons_of_mem _ (List.mem_append_right _ h)) (by decide +kernel))
set_option maxRecDepth 20000 in
theorem gX8_clean_X8_checkParagraph : GoodIn wsX8_clean (va_wsS RX8 128 yX8_checkParagraph wsX8_checkParagraph) := goodIn_app (goodIn_of _ (by decide +kernel)) ggX8_clean_X8_checkParagraph
set_option maxRecDepth 20000 in
theorem ggX8_clean_X2_save : GoodIn wsX8_clean wsX2_save := goodIn_r _ [16, 17, 18, 19, 20, 21, 22, 23, 24, 25, 26, 27, 28, 29, 30, 31, 32, 33, 34, 35, 36, 37, 38, 39, 40, 41, 42, 43, 44, 45, 46, 47, 48, 49, 50, 51, 52, 53, 54, 55, 56, 57, 58, 115, 116, 117, 106, 107, 108, 118, 119, 120, 121, 122, 123, 124, 125, 126, 127] (by decide +kernel) (by decide +kernel)
set_option maxRecDepth 20000 in
theorem gX8_clean_X2_save : GoodIn wsX8_clean (wsV RX8 62 RX2 yX2_save wsX2_save) := goodIn_app (goodIn_of _ (by decide +kernel)) ggX8_clean_X2_save
set_option maxRecDepth 20000 in
theorem ggX8_clean_X0_takeOutLost : GoodIn wsX8_clean wsX0_takeOutLost := goodIn_r _ [62, 47, 49, 50, 63, 8, 64, 65, 66, 67, 45, 68, 123, 124, 125] (by decide +kernel) (by decide +kernel)
set_option maxRecDepth 20000 in
theorem gX8_clean_X0_takeOutLost : GoodIn wsX8_clean (wsV RX8 143 RX0 yX0_takeOutLost wsX0_takeOutLost) := goodIn_app (goodIn_of _ (by decide +kernel)) ggX8_clean_X0_takeOutLost
set_option maxRecDepth 20000 in
theorem ggX8_clean_X7_follow : GoodIn wsX8_clean wsX7_follow := goodIn_r _ [73, 74, 75, 76, 77, 78, 72, 79, 80, 81, 82, 83, 84, 85, 86, 87, 88, 89, 90, 91, 92, 93, 94, 95, 63, 8, 64, 96, 97, 98, 31, 99, 39, 33, 106, 107, 108, 118, 119, 120, 121, 122, 109, 110, 111, 112, 113, 114, 123, 124, 125] (by decide +kernel) (by decide +kernel)
set_option maxRecDepth 20000 in
theorem gX8_clean_X7_follow : GoodIn wsX8_clean (wsV RX8 72 RX7 yX7_follow wsX7_follow) := goodIn_app (goodIn_of _ (by decide +kernel)) ggX8_clean_X7_follow
set_option maxRecDepth 20000 in
theorem ggX8_print_X8_checkParagraph : GoodIn wsX8_print wsX8_checkParagraph := goodIn_ca (goodIn_r _ [16, 17, 18] (by decide +kernel) (by decide +kernel)) (goodIn_sub (fun _ h => List.mem_cons_of_mem _ (List.mem_append_right _ h)) (by decide +kernel))
set_option maxRecDepth 20000 in
theorem gX8_print_X8_checkParagraph : GoodIn wsX8_print (va_wsS RX8 128 yX8_checkParagraph wsX8_checkParagraph) := goodIn_app (goodIn_of _ (by decide +kernel)) ggX8_print_X8_checkParagraph
set_option maxRecDepth 20000 in
theorem ggX8_print_X2_save : GoodIn wsX8_print wsX2_save := goodIn_r _ [23, 24, 25, 26, 27, 28, 29, 30, 31, 32, 33, 34, 35, 36, 37, 38, 39, 40, 41, 42, 43, 44, 45, 46, 47, 48, 49, 50, 51, 52, 53, 54, 55, 56, 57, 58, 59, 60, 61, 62, 63, 64, 65, 96, 97, 98, 82, 83, 84, 99, 100, 101, 102, 103, 85, 86, 87, 88, 89] (by decide +kernel) (by decide +kernel)
set_option maxRecDepth 20000 in
theorem gX8_print_X2_save : GoodIn wsX8_print (wsV RX8 62 RX2 yX2_save wsX2_save) := goodIn_app (goodIn_of _ (by decide +kernel)) ggX8_print_X2_save
set_option maxRecDepth 20000 in
theorem ggX8_print_X8_isStale : GoodIn wsX8_print wsX8_isStale := goodIn_r _ [69, 2, 4, 5, 6, 7, 9, 10, 12, 11, 8, 70, 71, 15, 72, 73, 74, 75, 76, 77, 78, 79, 80, 81, 82, 83, 84, 85, 86, 87, 88, 89, 90, 91, 92, 93, 94, 95] (by decide +kernel) (by decide +kernel)
set_option maxRecDepth 20000 in
theorem gX8_print_X8_isStale : GoodIn wsX8_print (wsV RX8 147 RX8 yX8_isStale wsX8_isStale) := goodIn_app (goodIn_of _ (by decide +kernel)) ggX8_print_X8_isStale
set_option maxRecDepth 20000 in
theorem ggX8_print_X8_cellOf : GoodIn wsX8_print wsX8_cellOf := goodIn_r _ [72] (by decide +kernel) (by decide +kernel)
set_option maxRecDepth 20000 in
theorem gX8_print_X8_cellOf : GoodIn wsX8_print (va_wsS RX8 158 yX8_cellOf wsX8_cellOf) := goodIn_app (goodIn_of _ (by decide +kernel)) ggX8_print_X8_cellOf
set_option maxRecDepth 20000 in
theorem ggX8_print_X8_markOf : GoodIn wsX8_print wsX8_markOf := goodIn_r _ [75] (by decide +kernel) (by decide +kernel)
set_option maxRecDepth 20000 in
theorem gX8_print_X8_markOf : GoodIn wsX8_print (va_wsS RX8 168 yX8_markOf wsX8_markOf) := goodIn_app (goodIn_of _ (by decide +kernel)) ggX8_print_X8_markOf
set_option maxRecDepth 20000 in
theorem ggX8_set_X2_save : GoodIn wsX8_set wsX2_save := goodIn_r _ [12, 13, 14, 15, 16, 17, 18, 19, 20, 21, 22, 23, 24, 25, 26, 27, 28, 29, 30, 31, 32, 33, 34, 35, 36, 37, 38, 39, 40, 41, 42, 43, 44, 45, 46, 47, 48, 49, 50, 51, 52, 53, 54, 103, 104, 105, 95, 96, 97, 98, 99, 100, 101, 102, 106, 107, 108, 109, 110] (by decide +kernel) (by decide +kernel)
set_option maxRecDepth 20000 in
theorem gX8_set_X2_save : GoodIn wsX8_set (wsV RX8 62 RX2 yX2_save wsX2_save) := goodIn_app (goodIn_of _ (by decide +kernel)) ggX8_set_X2_save
set_option maxRecDepth 20000 in
theorem ggX8_set_X7_follow : GoodIn wsX8_set wsX7_follow := goodIn_r _ [59, 60, 61, 62, 63, 64, 58, 65, 66, 67, 68, 69, 70, 71, 72, 73, 74, 75, 76, 77, 78, 79, 80, 81, 82, 83, 84, 85, 86, 87, 27, 88, 35, 29, 95, 96, 97, 98, 99, 100, 101, 102, 111, 112, 113, 114, 115, 116, 106, 107, 108] (by decide +kernel) (by decide +kernel)
set_option maxRecDepth 20000 in
theorem gX8_set_X7_follow : GoodIn wsX8_set (wsV RX8 72 RX7 yX7_follow wsX7_follow) := goodIn_app (goodIn_of _ (by decide +kernel)) ggX8_set_X7_follow
set_option maxRecDepth 20000 in
theorem ggX8_undo_X2_restore : GoodIn wsX8_undo wsX2_restore := goodIn_r _ [11, 12, 13, 14, 15, 16, 17, 18, 19, 20, 21, 22, 23, 24, 25, 26, 27, 28, 29, 30, 31, 32, 33, 34, 35, 36, 37, 38, 39, 40, 41, 42, 43, 44, 45, 46, 47, 48, 49, 50, 51, 52, 53, 94, 95, 96, 97, 98, 99, 100, 101, 102, 103, 104, 105, 106, 107, 108, 109] (by decide +kernel) (by decide +kernel)
set_option maxRecDepth 20000 in
theorem gX8_undo_X2_restore : GoodIn wsX8_undo (wsV RX8 208 RX2 yX2_restore wsX2_restore) := goodIn_app (goodIn_of _ (by decide +kernel)) ggX8_undo_X2_restore
set_option maxRecDepth 20000 in
theorem ggX8_undo_X7_follow : GoodIn wsX8_undo wsX7_follow := goodIn_r _ [58, 59, 60, 61, 62, 63, 57, 64, 65, 66, 67, 68, 69, 70, 71, 72, 73, 74, 75, 76, 77, 78, 79, 80, 81, 82, 83, 84, 85, 86, 26, 87, 34, 28, 97, 98, 99, 100, 101, 102, 103, 104, 110, 111, 112, 113, 114, 115, 105, 106, 107] (by decide +kernel) (by decide +kernel)
set_option maxRecDepth 20000 in
theorem gX8_undo_X7_follow : GoodIn wsX8_undo (wsV RX8 72 RX7 yX7_follow wsX7_follow) := goodIn_app (goodIn_of _ (by decide +kernel)) ggX8_undo_X7_follow
set_option maxRecDepth 20000 in
theorem ggX8_exhibit_X8_checkWhat : GoodIn wsX8_exhibit wsX8_checkWhat := goodIn_ca (goodIn_r _ [15, 1, 2] (by decide +kernel) (by decide +kernel)) (goodIn_sub (fun _ h => List.mem_cons_of_mem _ (List.mem_append_right _ h)) (by decide +kernel))
set_option maxRecDepth 20000 in
theorem gX8_exhibit_X8_checkWhat : GoodIn wsX8_exhibit (va_wsS RX8 213 yX8_checkWhat wsX8_checkWhat) := goodIn_app (goodIn_of _ (by decide +kernel)) ggX8_exhibit_X8_checkWhat
set_option maxRecDepth 20000 in
theorem ggX8_exhibit_X8_citationsOf : GoodIn wsX8_exhibit wsX8_citationsOf := goodIn_r _ [19, 3, 20, 21, 8, 22, 23, 24, 14, 25, 26, 27, 28, 29, 30, 31, 32, 33, 34, 46, 47, 48, 40, 41, 42, 43, 44, 45] (by decide +kernel) (by decide +kernel)
set_option maxRecDepth 20000 in
theorem gX8_exhibit_X8_citationsOf : GoodIn wsX8_exhibit (wsV RX8 226 RX8 yX8_citationsOf wsX8_citationsOf) := goodIn_app (goodIn_of _ (by decide +kernel)) ggX8_exhibit_X8_citationsOf
set_option maxRecDepth 20000 in
theorem ggX8_citation_X8_checkParagraph : GoodIn wsX8_citation wsX8_checkParagraph := goodIn_ca (goodIn_r _ [14, 15, 16] (by decide +kernel) (by decide +kernel)) (goodIn_sub (fun _ h => List.mem_cons_of_mem _ (List.mem_append_right _ h)) (by decide +kernel))
set_option maxRecDepth 20000 in
theorem gX8_citation_X8_checkParagraph : GoodIn wsX8_citation (va_wsS RX8 128 yX8_checkParagraph wsX8_checkParagraph) := goodIn_app (goodIn_of _ (by decide +kernel)) ggX8_citation_X8_checkParagraph
set_option maxRecDepth 20000 in
theorem ggX8_citation_X8_checkWhat : GoodIn wsX8_citation wsX8_checkWhat := goodIn_ca (goodIn_r _ [19, 1, 2] (by decide +kernel) (by decide +kernel)) (goodIn_sub (fun _ h => List.mem_cons_of_mem _ (List.mem_append_left _ (List.mem_append_right _ h))) (by decide +kernel))
set_option maxRecDepth 20000 in
theorem gX8_citation_X8_checkWhat : GoodIn wsX8_citation (va_wsS RX8 213 yX8_checkWhat wsX8_checkWhat) := goodIn_app (goodIn_of _ (by decide +kernel)) ggX8_citation_X8_checkWhat
set_option maxRecDepth 20000 in
theorem ggX8_citation_X8_cellOf : GoodIn wsX8_citation wsX8_cellOf := goodIn_r _ [22] (by decide +kernel) (by decide +kernel)
set_option maxRecDepth 20000 in
theorem gX8_citation_X8_cellOf : GoodIn wsX8_citation (va_wsS RX8 158 yX8_cellOf wsX8_cellOf) := goodIn_app (goodIn_of _ (by decide +kernel)) ggX8_citation_X8_cellOf
set_option maxRecDepth 20000 in
theorem ggX8_citation_X8_pageInBrief : GoodIn wsX8_citation wsX8_pageInBrief := goodIn_r _ [26, 7, 8, 10, 27, 3, 4, 9, 28, 29, 30, 31, 32, 33, 40, 41, 42, 43, 44, 45, 34, 35, 36, 37, 38, 39] (by decide +kernel) (by decide +kernel)
set_option maxRecDepth 20000 in
theorem gX8_citation_X8_pageInBrief : GoodIn wsX8_citation (wsV RX8 232 RX8 yX8_pageInBrief wsX8_pageInBrief) := goodIn_app (goodIn_of _ (by decide +kernel)) ggX8_citation_X8_pageInBrief
set_option maxRecDepth 20000 in
theorem ggX8_paragraph_X8_checkParagraph : GoodIn wsX8_paragraph wsX8_checkParagraph := goodIn_ca (goodIn_r _ [10, 11, 12] (by decide +kernel) (by decide +kernel)) (goodIn_sub (fun _ h => List.mem_cons_of_mem _ (List.mem_append_left _ (List.mem_append_right _ h))) (by decide +kernel))
set_option maxRecDepth 20000 in
theorem gX8_paragraph_X8_checkParagraph : GoodIn wsX8_paragraph (va_wsS RX8 128 yX8_checkParagraph wsX8_checkParagraph) := goodIn_app (goodIn_of _ (by decide +kernel)) ggX8_paragraph_X8_checkParagraph
set_option maxRecDepth 20000 in
theorem ggX8_paragraph_X8_checkWhat : GoodIn wsX8_paragraph wsX8_checkWhat := goodIn_ca (goodIn_r _ [15, 16, 17] (by decide +kernel) (by decide +kernel)) (goodIn_sub (fun _ h => List.mem_cons_of_mem _ (List.mem_append_right _ h)) (by decide +kernel))
set_option maxRecDepth 20000 in
theorem gX8_paragraph_X8_checkWhat : GoodIn wsX8_paragraph (va_wsS RX8 213 yX8_checkWhat wsX8_checkWhat) := goodIn_app (goodIn_of _ (by decide +kernel)) ggX8_paragraph_X8_checkWhat
set_option maxRecDepth 20000 in
theorem ggX8_paragraph_X8_lostIn : GoodIn wsX8_paragraph wsX8_lostIn := goodIn_r _ [21, 1, 2, 3, 22, 23, 24, 25, 9, 26, 37, 38, 39, 40, 41, 42, 43, 44, 45, 46, 47, 48, 51, 52, 53, 54, 55, 56] (by decide +kernel) (by decide +kernel)
set_option maxRecDepth 20000 in
theorem gX8_paragraph_X8_lostIn : GoodIn wsX8_paragraph (wsV RX8 235 RX8 yX8_lostIn wsX8_lostIn) := goodIn_app (goodIn_of _ (by decide +kernel)) ggX8_paragraph_X8_lostIn
set_option maxRecDepth 20000 in
theorem ggX8_paragraph_X8_isStale : GoodIn wsX8_paragraph wsX8_isStale := goodIn_r _ [30, 1, 2, 3, 5, 6, 22, 31, 23, 32, 33, 24, 25, 9, 26, 34, 35, 36, 37, 38, 39, 40, 41, 42, 43, 44, 45, 46, 47, 48, 49, 50, 51, 52, 53, 54, 55, 56] (by decide +kernel) (by decide +kernel)
set_option maxRecDepth 20000 in
theorem gX8_paragraph_X8_isStale : GoodIn wsX8_paragraph (wsV RX8 147 RX8 yX8_isStale wsX8_isStale) := goodIn_app (goodIn_of _ (by decide +kernel)) ggX8_paragraph_X8_isStale
set_option maxRecDepth 20000 in
theorem ggX8_table_X8_checkPlace : GoodIn wsX8_table wsX8_checkPlace := goodIn_ca (goodIn_r _ [5, 6, 7, 8, 9, 10, 23, 24, 25, 26, 27, 28, 29, 30, 31, 32, 33, 34, 35, 36] (by decide +kernel) (by decide +kernel)) (goodIn_sub (fun _ h => List.mem_cons_of_mem _ (List.mem_append_right _ h)) (by decide +kernel))
set_option maxRecDepth 20000 in
theorem gX8_table_X8_checkPlace : GoodIn wsX8_table (wsV RX8 75 RX8 yX8_checkPlace wsX8_checkPlace) := goodIn_app (goodIn_of _ (by decide +kernel)) ggX8_table_X8_checkPlace
set_option maxRecDepth 20000 in
theorem ggX8_table_X8_goodCitationsIn : GoodIn wsX8_table wsX8_goodCitationsIn := goodIn_r _ [14, 8, 15, 16, 17, 18, 19, 20, 21, 4, 22, 23, 24, 25, 26, 27, 28, 29, 30, 31, 37, 38, 39, 40, 41, 42, 43, 44, 45] (by decide +kernel) (by decide +kernel)
set_option maxRecDepth 20000 in
theorem gX8_table_X8_goodCitationsIn : GoodIn wsX8_table (wsV RX8 238 RX8 yX8_goodCitationsIn wsX8_goodCitationsIn) := goodIn_app (goodIn_of _ (by decide +kernel)) ggX8_table_X8_goodCitationsIn
set_option maxRecDepth 20000 in
theorem ggX8_count_X8_checkWhat : GoodIn wsX8_count wsX8_checkWhat := goodIn_ca (goodIn_r _ [13, 14, 15] (by decide +kernel) (by decide +kernel)) (goodIn_sub (fun _ h => List.mem_cons_of_mem _ (List.mem_append_right _ h)) (by decide +kernel))
set_option maxRecDepth 20000 in
theorem gX8_count_X8_checkWhat : GoodIn wsX8_count (va_wsS RX8 213 yX8_checkWhat wsX8_checkWhat) := goodIn_app (goodIn_of _ (by decide +kernel)) ggX8_count_X8_checkWhat
set_option maxRecDepth 20000 in
theorem ggX8_count_X1_sumOfPages : GoodIn wsX8_count wsX1_sumOfPages := goodIn_r _ [20, 21, 22, 78, 79, 80, 81, 82] (by decide +kernel) (by decide +kernel)
set_option maxRecDepth 20000 in
theorem gX8_count_X1_sumOfPages : GoodIn wsX8_count (wsV RX8 241 RX1 yX1_sumOfPages wsX1_sumOfPages) := goodIn_app (goodIn_of _ (by decide +kernel)) ggX8_count_X1_sumOfPages
set_option maxRecDepth 20000 in
theorem ggX8_count_X8_allCitations : GoodIn wsX8_count wsX8_allCitations := goodIn_r _ [26, 1, 27, 28, 69, 70, 71, 72, 73, 74, 75, 76, 77, 92, 93, 94] (by decide +kernel) (by decide +kernel)
set_option maxRecDepth 20000 in
theorem gX8_count_X8_allCitations : GoodIn wsX8_count (wsV RX8 247 RX8 yX8_allCitations wsX8_allCitations) := goodIn_app (goodIn_of _ (by decide +kernel)) ggX8_count_X8_allCitations
set_option maxRecDepth 20000 in
theorem ggX8_count_X8_allLost : GoodIn wsX8_count wsX8_allLost := goodIn_r _ [32, 33, 34, 35, 12, 36, 1, 27, 28, 4, 37, 38, 39, 40, 69, 70, 71, 72, 73, 74, 75, 76, 77, 92, 93, 94, 83, 84, 85, 86, 87, 88] (by decide +kernel) (by decide +kernel)
set_option maxRecDepth 20000 in
theorem gX8_count_X8_allLost : GoodIn wsX8_count (wsV RX8 250 RX8 yX8_allLost wsX8_allLost) := goodIn_app (goodIn_of _ (by decide +kernel)) ggX8_count_X8_allLost
set_option maxRecDepth 20000 in
theorem ggX8_count_X8_staleWith : GoodIn wsX8_count wsX8_staleWith := goodIn_r _ [44, 45, 46, 47, 12, 48, 1, 27, 28, 49, 50, 4, 51, 37, 52, 53, 38, 39, 40, 54, 55, 56, 69, 70, 71, 72, 73, 74, 75, 76, 77, 92, 93, 94, 95, 96, 83, 84, 85, 86, 87, 88] (by decide +kernel) (by decide +kernel)
set_option maxRecDepth 20000 in
theorem gX8_count_X8_staleWith : GoodIn wsX8_count (wsV RX8 253 RX8 yX8_staleWith wsX8_staleWith) := goodIn_app (goodIn_of _ (by decide +kernel)) ggX8_count_X8_staleWith
set_option maxRecDepth 20000 in
theorem ggX8_count_X8_citedExhibits : GoodIn wsX8_count wsX8_citedExhibits := goodIn_r _ [60, 1, 2, 3, 61, 62, 63, 12, 64, 65, 66, 67, 68, 27, 28, 4, 51, 37, 38, 39, 40, 69, 70, 71, 72, 73, 74, 75, 76, 77, 78, 79, 80, 81, 82, 92, 93, 94, 83, 84, 85, 86, 87, 88] (by decide +kernel) (by decide +kernel)
set_option maxRecDepth 20000 in
theorem gX8_count_X8_citedExhibits : GoodIn wsX8_count (wsV RX8 257 RX8 yX8_citedExhibits wsX8_citedExhibits) := goodIn_app (goodIn_of _ (by decide +kernel)) ggX8_count_X8_citedExhibits
set_option maxRecDepth 20000 in
theorem ggX8_ifDropped_X8_checkPlace : GoodIn wsX8_ifDropped wsX8_checkPlace := goodIn_ca (goodIn_r _ [9, 10, 11, 2, 3, 12, 63, 64, 65, 66, 67, 68, 69, 70, 71, 75, 76, 77, 78, 79] (by decide +kernel) (by decide +kernel)) (goodIn_sub (fun _ h => List.mem_cons_of_mem _ (List.mem_append_left _ (List.mem_append_right _ h))) (by decide +kernel))
set_option maxRecDepth 20000 in
theorem gX8_ifDropped_X8_checkPlace : GoodIn wsX8_ifDropped (wsV RX8 75 RX8 yX8_checkPlace wsX8_checkPlace) := goodIn_app (goodIn_of _ (by decide +kernel)) ggX8_ifDropped_X8_checkPlace
set_option maxRecDepth 20000 in
theorem ggX8_ifDropped_X8_checkWhat : GoodIn wsX8_ifDropped wsX8_checkWhat := goodIn_ca (goodIn_r _ [15, 16, 17] (by decide +kernel) (by decide +kernel)) (goodIn_sub (fun _ h => List.mem_cons_of_mem _ (List.mem_append_right _ h)) (by decide +kernel))
set_option maxRecDepth 20000 in
theorem gX8_ifDropped_X8_checkWhat : GoodIn wsX8_ifDropped (va_wsS RX8 213 yX8_checkWhat wsX8_checkWhat) := goodIn_app (goodIn_of _ (by decide +kernel)) ggX8_ifDropped_X8_checkWhat
set_option maxRecDepth 20000 in
theorem ggX8_ifDropped_X8_goodCitationsOf : GoodIn wsX8_ifDropped wsX8_goodCitationsOf := goodIn_r _ [21, 22, 23, 24, 8, 25, 2, 26, 27, 28, 29, 30, 31, 32, 33, 63, 64, 65, 66, 67, 68, 69, 70, 71, 80, 81, 82, 83, 84, 85, 86, 87, 88] (by decide +kernel) (by decide +kernel)
set_option maxRecDepth 20000 in
theorem gX8_ifDropped_X8_goodCitationsOf : GoodIn wsX8_ifDropped (wsV RX8 91 RX8 yX8_goodCitationsOf wsX8_goodCitationsOf) := goodIn_app (goodIn_of _ (by decide +kernel)) ggX8_ifDropped_X8_goodCitationsOf
set_option maxRecDepth 20000 in
theorem ggX8_ifDropped_X6_dropOne : GoodIn wsX8_ifDropped wsX6_dropOne := goodIn_r _ [38, 39, 40, 41, 42, 43, 44, 37, 45, 46, 47, 75, 76, 77, 78, 79, 72, 73, 74] (by decide +kernel) (by decide +kernel)
set_option maxRecDepth 20000 in
theorem gX8_ifDropped_X6_dropOne : GoodIn wsX8_ifDropped (wsV RX8 270 RX6 yX6_dropOne wsX6_dropOne) := goodIn_app (goodIn_of _ (by decide +kernel)) ggX8_ifDropped_X6_dropOne
set_option maxRecDepth 20000 in
theorem ggX8_ifDropped_X8_staleWith : GoodIn wsX8_ifDropped wsX8_staleWith := goodIn_r _ [51, 52, 53, 54, 8, 55, 2, 26, 27, 56, 57, 28, 29, 30, 58, 59, 31, 32, 33, 60, 61, 62, 63, 64, 65, 66, 67, 68, 69, 70, 71, 80, 81, 82, 89, 90, 83, 84, 85, 86, 87, 88] (by decide +kernel) (by decide +kernel)
set_option maxRecDepth 20000 in
theorem gX8_ifDropped_X8_staleWith : GoodIn wsX8_ifDropped (wsV RX8 253 RX8 yX8_staleWith wsX8_staleWith) := goodIn_app (goodIn_of _ (by decide +kernel)) ggX8_ifDropped_X8_staleWith
set_option maxRecDepth 20000 in
theorem ggX8_citedShare_X8_citedExhibits : GoodIn wsX8_citedShare wsX8_citedExhibits := goodIn_r _ [8, 1, 2, 3, 9, 10, 11, 7, 12, 13, 14, 15, 16, 17, 18, 19, 20, 21, 22, 23, 24, 25, 26, 27, 28, 29, 30, 31, 32, 33, 34, 35, 36, 37, 38, 39, 40, 41, 42, 43, 44, 45, 46, 47] (by decide +kernel) (by decide +kernel)
set_option maxRecDepth 20000 in
theorem gX8_citedShare_X8_citedExhibits : GoodIn wsX8_citedShare (wsV RX8 257 RX8 yX8_citedExhibits wsX8_citedExhibits) := goodIn_app (goodIn_of _ (by decide +kernel)) ggX8_citedShare_X8_citedExhibits
set_option maxRecDepth 20000 in
theorem ggX8_citationsOf_X8_cellOf : GoodIn wsX8_citationsOf wsX8_cellOf := goodIn_r _ [9] (by decide +kernel) (by decide +kernel)
set_option maxRecDepth 20000 in
theorem gX8_citationsOf_X8_cellOf : GoodIn wsX8_citationsOf (va_wsS RX8 158 yX8_cellOf wsX8_cellOf) := goodIn_app (goodIn_of _ (by decide +kernel)) ggX8_citationsOf_X8_cellOf
