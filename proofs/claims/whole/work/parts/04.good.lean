set_option maxRecDepth 20000 in
theorem ggX0_add_X8_cellOf : GoodIn wsX0_add wsX8_cellOf := goodIn_r _ [6] (by decide +kernel) (by decide +kernel)
set_option maxRecDepth 20000 in
theorem gX0_add_X8_cellOf_n27 : GoodIn wsX0_add (wsX8_cellOf) := ggX0_add_X8_cellOf
set_option maxRecDepth 20000 in
theorem ggX0_takeOutLost_X8_cellOf : GoodIn wsX0_takeOutLost wsX8_cellOf := goodIn_r _ [6] (by decide +kernel) (by decide +kernel)
set_option maxRecDepth 20000 in
theorem gX0_takeOutLost_X8_cellOf_n27 : GoodIn wsX0_takeOutLost (wsX8_cellOf) := ggX0_takeOutLost_X8_cellOf
set_option maxRecDepth 20000 in
theorem ggX0_takeOutLost_X0_add : GoodIn wsX0_takeOutLost wsX0_add := goodIn_r _ [11, 1, 2, 3, 4, 5, 6, 12, 13, 14] (by decide +kernel) (by decide +kernel)
set_option maxRecDepth 20000 in
theorem gX0_takeOutLost_X0_add : GoodIn wsX0_takeOutLost (wsV RX0 31 RX0 yX0_add wsX0_add) := goodIn_app (goodIn_of _ (by decide +kernel)) ggX0_takeOutLost_X0_add
set_option maxRecDepth 20000 in
theorem ggX0_followJoin_X8_cellOf : GoodIn wsX0_followJoin wsX8_cellOf := goodIn_r _ [6] (by decide +kernel) (by decide +kernel)
set_option maxRecDepth 20000 in
theorem gX0_followJoin_X8_cellOf_n27 : GoodIn wsX0_followJoin (wsX8_cellOf) := ggX0_followJoin_X8_cellOf
set_option maxRecDepth 20000 in
theorem ggX0_followSplit_X8_cellOf : GoodIn wsX0_followSplit wsX8_cellOf := goodIn_r _ [6] (by decide +kernel) (by decide +kernel)
set_option maxRecDepth 20000 in
theorem gX0_followSplit_X8_cellOf_n27 : GoodIn wsX0_followSplit (wsX8_cellOf) := ggX0_followSplit_X8_cellOf
set_option maxRecDepth 20000 in
theorem ggX1_putNew_X1_putIn : GoodIn wsX1_putNew wsX1_putIn := goodIn_r _ [6, 7, 8, 9, 10, 11, 12, 13, 14] (by decide +kernel) (by decide +kernel)
set_option maxRecDepth 20000 in
theorem gX1_putNew_X1_putIn : GoodIn wsX1_putNew (wsV RX1 34 RX1 yX1_putIn wsX1_putIn) := goodIn_app (goodIn_of _ (by decide +kernel)) ggX1_putNew_X1_putIn
set_option maxRecDepth 20000 in
theorem ggX2_init_X4_init : GoodIn wsX2_init wsX4_init := goodIn_r _ [11, 12, 2, 3, 13, 14, 15, 16, 17, 18, 19, 20, 21, 22, 23, 24, 25, 26, 27, 28, 29, 30, 31, 32, 33, 34, 35, 36, 37, 38, 39, 40, 41, 42, 43, 44, 45, 52, 53, 54, 55, 56, 49, 50, 51, 57, 58, 59, 60, 61] (by decide +kernel) (by decide +kernel)
set_option maxRecDepth 20000 in
theorem gX2_init_X4_init_n24 : GoodIn wsX2_init (wsX4_init) := ggX2_init_X4_init
set_option maxRecDepth 20000 in
theorem ggX2_save_X4_copyFrom : GoodIn wsX2_save wsX4_copyFrom := goodIn_r _ [8, 9, 10, 11, 12, 13, 14, 15, 16, 17, 18, 19, 20, 21, 22, 23, 24, 25, 26, 27, 28, 29, 30, 31, 32, 33, 34, 35, 36, 37, 38, 39, 40, 41, 42, 46, 47, 48, 49, 50, 51, 52, 53, 54, 55, 56, 57, 58] (by decide +kernel) (by decide +kernel)
set_option maxRecDepth 20000 in
theorem gX2_save_X4_copyFrom : GoodIn wsX2_save (wsV RX2 25 RX4 yX4_copyFrom wsX4_copyFrom) := goodIn_app (goodIn_of _ (by decide +kernel)) ggX2_save_X4_copyFrom
set_option maxRecDepth 20000 in
theorem ggX2_restore_X4_copyFrom : GoodIn wsX2_restore wsX4_copyFrom := goodIn_r _ [8, 9, 10, 11, 12, 13, 14, 15, 16, 17, 18, 19, 20, 21, 22, 23, 24, 25, 26, 27, 28, 29, 30, 31, 32, 33, 34, 35, 36, 37, 38, 39, 40, 41, 42, 46, 47, 48, 49, 50, 51, 52, 53, 54, 55, 56, 57, 58] (by decide +kernel) (by decide +kernel)
set_option maxRecDepth 20000 in
theorem gX2_restore_X4_copyFrom : GoodIn wsX2_restore (wsV RX2 25 RX4 yX4_copyFrom wsX4_copyFrom) := goodIn_app (goodIn_of _ (by decide +kernel)) ggX2_restore_X4_copyFrom
set_option maxRecDepth 20000 in
theorem ggX4_init_X1_init : GoodIn wsX4_init wsX1_init := goodIn_r _ [17, 18, 2, 3, 19, 20, 21, 22, 23, 24, 37, 38, 39, 40, 41] (by decide +kernel) (by decide +kernel)
set_option maxRecDepth 20000 in
theorem gX4_init_X1_init_n9 : GoodIn wsX4_init (wsX1_init) := ggX4_init_X1_init
set_option maxRecDepth 20000 in
theorem ggX4_init_X0_init : GoodIn wsX4_init wsX0_init := goodIn_r _ [26, 27, 2, 3, 19, 28, 29, 30, 45, 46, 47] (by decide +kernel) (by decide +kernel)
set_option maxRecDepth 20000 in
theorem gX4_init_X0_init_n18 : GoodIn wsX4_init (wsX0_init) := ggX4_init_X0_init
set_option maxRecDepth 20000 in
theorem ggX4_init_X3_init : GoodIn wsX4_init wsX3_init := goodIn_r _ [33, 34, 2, 3, 19, 35, 36, 48, 49] (by decide +kernel) (by decide +kernel)
set_option maxRecDepth 20000 in
theorem gX4_init_X3_init : GoodIn wsX4_init (wsX3_init) := ggX4_init_X3_init
set_option maxRecDepth 20000 in
theorem ggX4_copyFrom_X1_copyFrom : GoodIn wsX4_copyFrom wsX1_copyFrom := goodIn_r _ [8, 9, 10, 11, 12, 13, 14, 15, 16, 17, 38, 39, 40, 41, 42] (by decide +kernel) (by decide +kernel)
set_option maxRecDepth 20000 in
theorem gX4_copyFrom_X1_copyFrom : GoodIn wsX4_copyFrom (wsV RX4 30 RX1 yX1_copyFrom wsX1_copyFrom) := goodIn_app (goodIn_of _ (by decide +kernel)) ggX4_copyFrom_X1_copyFrom
set_option maxRecDepth 20000 in
theorem ggX4_copyFrom_X0_copyFrom : GoodIn wsX4_copyFrom wsX0_copyFrom := goodIn_r _ [22, 23, 24, 11, 12, 13, 25, 26, 43, 44, 45] (by decide +kernel) (by decide +kernel)
set_option maxRecDepth 20000 in
theorem gX4_copyFrom_X0_copyFrom : GoodIn wsX4_copyFrom (wsV RX4 34 RX0 yX0_copyFrom wsX0_copyFrom) := goodIn_app (goodIn_of _ (by decide +kernel)) ggX4_copyFrom_X0_copyFrom
set_option maxRecDepth 20000 in
theorem ggX4_copyFrom_X3_copyFrom : GoodIn wsX4_copyFrom wsX3_copyFrom := goodIn_r _ [31, 32, 33, 11, 12, 13, 34, 46, 47] (by decide +kernel) (by decide +kernel)
set_option maxRecDepth 20000 in
theorem gX4_copyFrom_X3_copyFrom : GoodIn wsX4_copyFrom (wsV RX4 37 RX3 yX3_copyFrom wsX3_copyFrom) := goodIn_app (goodIn_of _ (by decide +kernel)) ggX4_copyFrom_X3_copyFrom
set_option maxRecDepth 20000 in
theorem ggX5_read_X5_stepBehind : GoodIn wsX5_read wsX5_stepBehind := goodIn_r _ [9, 2, 10, 11, 12, 8, 13, 14, 1, 15, 16, 17, 18, 19, 20, 21, 22, 23, 24, 25, 26, 27, 28, 29, 30, 31, 32, 33, 34, 35, 36, 37] (by decide +kernel) (by decide +kernel)
set_option maxRecDepth 20000 in
theorem gX5_read_X5_stepBehind : GoodIn wsX5_read (wsV RX5 31 RX5 yX5_stepBehind wsX5_stepBehind) := goodIn_app (goodIn_of _ (by decide +kernel)) ggX5_read_X5_stepBehind
set_option maxRecDepth 20000 in
theorem ggX5_stepBehind_X5_readLetter : GoodIn wsX5_stepBehind wsX5_readLetter := goodIn_r _ [6, 7, 8, 26, 27, 28, 29, 30, 31] (by decide +kernel) (by decide +kernel)
set_option maxRecDepth 20000 in
theorem gX5_stepBehind_X5_readLetter : GoodIn wsX5_stepBehind (wsV RX5 35 RX5 yX5_readLetter wsX5_readLetter) := goodIn_app (goodIn_of _ (by decide +kernel)) ggX5_stepBehind_X5_readLetter
set_option maxRecDepth 20000 in
theorem ggX5_stepBehind_X5_readSecondLetter : GoodIn wsX5_stepBehind wsX5_readSecondLetter := goodIn_r _ [12, 7, 8, 26, 27, 28, 29, 30, 31] (by decide +kernel) (by decide +kernel)
set_option maxRecDepth 20000 in
theorem gX5_stepBehind_X5_readSecondLetter : GoodIn wsX5_stepBehind (wsV RX5 38 RX5 yX5_readSecondLetter wsX5_readSecondLetter) := goodIn_app (goodIn_of _ (by decide +kernel)) ggX5_stepBehind_X5_readSecondLetter
set_option maxRecDepth 20000 in
theorem ggX5_stepBehind_X5_readDigit : GoodIn wsX5_stepBehind wsX5_readDigit := goodIn_r _ [16, 17, 8, 26, 27, 28, 29, 30, 31] (by decide +kernel) (by decide +kernel)
set_option maxRecDepth 20000 in
theorem gX5_stepBehind_X5_readDigit : GoodIn wsX5_stepBehind (wsV RX5 41 RX5 yX5_readDigit wsX5_readDigit) := goodIn_app (goodIn_of _ (by decide +kernel)) ggX5_stepBehind_X5_readDigit
set_option maxRecDepth 20000 in
theorem ggX5_stepBehind_X5_readSecondDigit : GoodIn wsX5_stepBehind wsX5_readSecondDigit := goodIn_r _ [21, 17, 8, 22, 23, 24, 5, 25, 26, 27, 28, 29, 30, 31] (by decide +kernel) (by decide +kernel)
set_option maxRecDepth 20000 in
theorem gX5_stepBehind_X5_readSecondDigit : GoodIn wsX5_stepBehind (wsV RX5 44 RX5 yX5_readSecondDigit wsX5_readSecondDigit) := goodIn_app (goodIn_of _ (by decide +kernel)) ggX5_stepBehind_X5_readSecondDigit
set_option maxRecDepth 20000 in
theorem ggX5_stepBehind_X5_readComma : GoodIn wsX5_stepBehind wsX5_readComma := goodIn_r _ [25, 8, 26, 27, 28, 29, 30, 31] (by decide +kernel) (by decide +kernel)
set_option maxRecDepth 20000 in
theorem gX5_stepBehind_X5_readComma : GoodIn wsX5_stepBehind (wsV RX5 47 RX5 yX5_readComma wsX5_readComma) := goodIn_app (goodIn_of _ (by decide +kernel)) ggX5_stepBehind_X5_readComma
set_option maxRecDepth 20000 in
theorem ggX5_readSecondDigit_X5_readComma : GoodIn wsX5_readSecondDigit wsX5_readComma := goodIn_r _ [7, 2, 8, 9, 10, 11, 12, 13] (by decide +kernel) (by decide +kernel)
set_option maxRecDepth 20000 in
theorem gX5_readSecondDigit_X5_readComma : GoodIn wsX5_readSecondDigit (wsV RX5 47 RX5 yX5_readComma wsX5_readComma) := goodIn_app (goodIn_of _ (by decide +kernel)) ggX5_readSecondDigit_X5_readComma
set_option maxRecDepth 20000 in
theorem ggX6_insertOne_X6_layPages : GoodIn wsX6_insertOne wsX6_layPages := goodIn_r _ [9, 1, 2, 3, 10, 11, 12, 13, 14, 15, 16, 17, 18] (by decide +kernel) (by decide +kernel)
set_option maxRecDepth 20000 in
theorem gX6_insertOne_X6_layPages : GoodIn wsX6_insertOne (wsV RX6 25 RX6 yX6_layPages wsX6_layPages) := goodIn_app (goodIn_of _ (by decide +kernel)) ggX6_insertOne_X6_layPages
set_option maxRecDepth 20000 in
theorem ggX6_dropOne_X6_layPages : GoodIn wsX6_dropOne wsX6_layPages := goodIn_r _ [8, 1, 2, 9, 10, 11, 12, 13, 14, 15, 16, 17, 18] (by decide +kernel) (by decide +kernel)
set_option maxRecDepth 20000 in
theorem gX6_dropOne_X6_layPages : GoodIn wsX6_dropOne (wsV RX6 25 RX6 yX6_layPages wsX6_layPages) := goodIn_app (goodIn_of _ (by decide +kernel)) ggX6_dropOne_X6_layPages
set_option maxRecDepth 20000 in
theorem ggX6_moveOne_X6_layPages : GoodIn wsX6_moveOne wsX6_layPages := goodIn_r _ [8, 1, 2, 9, 10, 11, 12, 13, 14, 15, 16, 17, 18] (by decide +kernel) (by decide +kernel)
set_option maxRecDepth 20000 in
theorem gX6_moveOne_X6_layPages : GoodIn wsX6_moveOne (wsV RX6 25 RX6 yX6_layPages wsX6_layPages) := goodIn_app (goodIn_of _ (by decide +kernel)) ggX6_moveOne_X6_layPages
set_option maxRecDepth 20000 in
theorem ggX7_follow_X7_followExhibits : GoodIn wsX7_follow wsX7_followExhibits := goodIn_r _ [7, 8, 9, 10, 11, 12, 13, 14, 37, 38, 39, 40, 41, 42, 43, 44, 45, 46, 47] (by decide +kernel) (by decide +kernel)
set_option maxRecDepth 20000 in
theorem gX7_follow_X7_followExhibits : GoodIn wsX7_follow (wsV RX7 38 RX7 yX7_followExhibits wsX7_followExhibits) := goodIn_app (goodIn_of _ (by decide +kernel)) ggX7_follow_X7_followExhibits
set_option maxRecDepth 20000 in
theorem ggX7_follow_X7_followCitations : GoodIn wsX7_follow wsX7_followCitations := goodIn_r _ [18, 19, 20, 21, 22, 23, 9, 24, 25, 26, 27, 28, 29, 30, 31, 32, 33, 48, 49, 50, 42, 43, 44, 45, 46, 47, 37, 38, 39, 40, 41] (by decide +kernel) (by decide +kernel)
set_option maxRecDepth 20000 in
theorem gX7_follow_X7_followCitations : GoodIn wsX7_follow (wsV RX7 46 RX7 yX7_followCitations wsX7_followCitations) := goodIn_app (goodIn_of _ (by decide +kernel)) ggX7_follow_X7_followCitations
set_option maxRecDepth 20000 in
theorem ggX7_followCitations_X8_cellOf : GoodIn wsX7_followCitations wsX8_cellOf := goodIn_r _ [9] (by decide +kernel) (by decide +kernel)
set_option maxRecDepth 20000 in
theorem gX7_followCitations_X8_cellOf_n66 : GoodIn wsX7_followCitations (wsX8_cellOf) := ggX7_followCitations_X8_cellOf
set_option maxRecDepth 20000 in
theorem ggX7_followCitations_X1_placeOf : GoodIn wsX7_followCitations wsX1_placeOf := goodIn_r _ [14, 15, 16, 26, 27, 28, 29, 30] (by decide +kernel) (by decide +kernel)
set_option maxRecDepth 20000 in
theorem gX7_followCitations_X1_placeOf : GoodIn wsX7_followCitations (wsV RX7 73 RX1 yX1_placeOf wsX1_placeOf) := goodIn_app (goodIn_of _ (by decide +kernel)) ggX7_followCitations_X1_placeOf
set_option maxRecDepth 20000 in
theorem ggX8_init_X4_init : GoodIn wsX8_init wsX4_init := goodIn_r _ [27, 28, 2, 3, 29, 30, 31, 32, 33, 34, 35, 36, 37, 38, 39, 40, 41, 42, 43, 24, 44, 45, 46, 47, 48, 49, 50, 51, 52, 53, 54, 55, 56, 57, 58, 59, 60, 121, 122, 123, 124, 125, 94, 95, 96, 126, 127, 128, 129, 130] (by decide +kernel) (by decide +kernel)
set_option maxRecDepth 20000 in
theorem gX8_init_X4_init_n11 : GoodIn wsX8_init (wsX4_init) := ggX8_init_X4_init
set_option maxRecDepth 20000 in
theorem ggX8_init_X7_init : GoodIn wsX8_init wsX7_init := goodIn_r _ [62, 63, 2, 3, 24, 64, 65, 66, 67, 68, 69, 70, 103, 104, 105, 106, 107, 108] (by decide +kernel) (by decide +kernel)
set_option maxRecDepth 20000 in
theorem gX8_init_X7_init_n18 : GoodIn wsX8_init (wsX7_init) := ggX8_init_X7_init
set_option maxRecDepth 20000 in
theorem ggX8_init_X6_init : GoodIn wsX8_init wsX6_init := goodIn_r _ [72, 73, 2, 3, 24, 74, 75, 76, 109, 110, 111] (by decide +kernel) (by decide +kernel)
set_option maxRecDepth 20000 in
theorem gX8_init_X6_init_n25 : GoodIn wsX8_init (wsX6_init) := ggX8_init_X6_init
set_option maxRecDepth 20000 in
theorem ggX8_init_X2_init : GoodIn wsX8_init wsX2_init := goodIn_r _ [79, 80, 2, 3, 81, 82, 83, 84, 5, 6, 26, 27, 28, 29, 30, 31, 32, 33, 34, 35, 36, 37, 38, 39, 40, 41, 42, 43, 24, 44, 45, 46, 47, 48, 49, 50, 51, 52, 53, 54, 55, 56, 57, 58, 59, 60, 112, 113, 114, 94, 95, 96, 121, 122, 123, 124, 125, 126, 127, 128, 129, 130] (by decide +kernel) (by decide +kernel)
set_option maxRecDepth 20000 in
theorem gX8_init_X2_init : GoodIn wsX8_init (wsX2_init) := ggX8_init_X2_init
set_option maxRecDepth 20000 in
theorem ggX8_init_X5_init : GoodIn wsX8_init wsX5_init := goodIn_r _ [86, 87, 2, 3, 24, 88, 89, 90, 91, 92, 93, 115, 116, 117, 118, 119, 120] (by decide +kernel) (by decide +kernel)
set_option maxRecDepth 20000 in
theorem gX8_init_X5_init_n39 : GoodIn wsX8_init (wsX5_init) := ggX8_init_X5_init
set_option maxRecDepth 20000 in
theorem ggX8_insert_X8_checkGap : GoodIn wsX8_insert wsX8_checkGap := goodIn_ca (goodIn_r _ [9, 10, 11, 1, 2, 12, 112, 113, 114, 115, 116, 117, 118, 119, 120, 121, 122, 123, 124, 125] (by decide +kernel) (by decide +kernel)) (goodIn_sub (fun _ h => List.mem_cons_of_mem _ (List.mem_append_left _ (List.mem_append_left _ (List.mem_append_right _ h)))) (by decide +kernel))
set_option maxRecDepth 20000 in
theorem gX8_insert_X8_checkGap : GoodIn wsX8_insert (wsV RX8 52 RX8 yX8_checkGap wsX8_checkGap) := goodIn_app (goodIn_of _ (by decide +kernel)) ggX8_insert_X8_checkGap
set_option maxRecDepth 20000 in
theorem ggX8_insert_X8_checkPages : GoodIn wsX8_insert wsX8_checkPages := goodIn_ca (goodIn_r _ [15, 16, 17] (by decide +kernel) (by decide +kernel)) (goodIn_sub (fun _ h => List.mem_cons_of_mem _ (List.mem_append_left _ (List.mem_append_right _ h))) (by decide +kernel))
set_option maxRecDepth 20000 in
theorem gX8_insert_X8_checkPages : GoodIn wsX8_insert (va_wsS RX8 56 yX8_checkPages wsX8_checkPages) := goodIn_app (goodIn_of _ (by decide +kernel)) ggX8_insert_X8_checkPages
set_option maxRecDepth 20000 in
theorem ggX8_insert_X8_checkRoomForExhibit : GoodIn wsX8_insert wsX8_checkRoomForExhibit := goodIn_ca (goodIn_r _ [21, 22, 23, 1, 2, 12, 112, 113, 114, 115, 116, 117, 118, 119, 120, 121, 122, 123, 124, 125] (by decide +kernel) (by decide +kernel)) (goodIn_sub (fun _ h => List.mem_cons_of_mem _ (List.mem_append_right _ h)) (by decide +kernel))
set_option maxRecDepth 20000 in
theorem gX8_insert_X8_checkRoomForExhibit : GoodIn wsX8_insert (wsV RX8 59 RX8 yX8_checkRoomForExhibit wsX8_checkRoomForExhibit) := goodIn_app (goodIn_of _ (by decide +kernel)) ggX8_insert_X8_checkRoomForExhibit
set_option maxRecDepth 20000 in
theorem ggX8_insert_X2_save : GoodIn wsX8_insert wsX2_save := goodIn_r _ [28, 29, 30, 31, 32, 33, 34, 35, 36, 37, 38, 39, 40, 41, 42, 43, 44, 45, 46, 47, 48, 49, 50, 51, 52, 53, 54, 55, 56, 57, 58, 59, 60, 61, 62, 63, 64, 65, 66, 67, 68, 69, 70, 126, 127, 128, 118, 119, 120, 121, 122, 123, 124, 125, 129, 130, 131, 132, 133] (by decide +kernel) (by decide +kernel)
set_option maxRecDepth 20000 in
theorem gX8_insert_X2_save : GoodIn wsX8_insert (wsV RX8 62 RX2 yX2_save wsX2_save) := goodIn_app (goodIn_of _ (by decide +kernel)) ggX8_insert_X2_save
set_option maxRecDepth 20000 in
theorem ggX8_insert_X1_putNew : GoodIn wsX8_insert wsX1_putNew := goodIn_r _ [74, 52, 75, 76, 77, 43, 78, 51, 45, 50, 121, 122, 123, 124, 125] (by decide +kernel) (by decide +kernel)
set_option maxRecDepth 20000 in
theorem gX8_insert_X1_putNew : GoodIn wsX8_insert (wsV RX8 66 RX1 yX1_putNew wsX1_putNew) := goodIn_app (goodIn_of _ (by decide +kernel)) ggX8_insert_X1_putNew
set_option maxRecDepth 20000 in
theorem ggX8_insert_X7_follow : GoodIn wsX8_insert wsX7_follow := goodIn_r _ [83, 84, 85, 86, 87, 88, 82, 89, 90, 91, 92, 93, 94, 95, 96, 97, 98, 99, 100, 101, 102, 103, 104, 105, 106, 8, 107, 108, 109, 110, 43, 111, 51, 45, 118, 119, 120, 121, 122, 123, 124, 125, 134, 135, 136, 137, 138, 139, 129, 130, 131] (by decide +kernel) (by decide +kernel)
set_option maxRecDepth 20000 in
theorem gX8_insert_X7_follow : GoodIn wsX8_insert (wsV RX8 72 RX7 yX7_follow wsX7_follow) := goodIn_app (goodIn_of _ (by decide +kernel)) ggX8_insert_X7_follow
set_option maxRecDepth 20000 in
theorem ggX8_move_X8_checkPlace : GoodIn wsX8_move wsX8_checkPlace := goodIn_ca (goodIn_r _ [11, 12, 13, 1, 2, 14, 103, 104, 105, 106, 107, 108, 109, 110, 111, 112, 113, 114, 115, 116] (by decide +kernel) (by decide +kernel)) (goodIn_sub (fun _ h => List.mem_cons_of_mem _ (List.mem_append_right _ h)) (by decide +kernel))
set_option maxRecDepth 20000 in
theorem gX8_move_X8_checkPlace : GoodIn wsX8_move (wsV RX8 75 RX8 yX8_checkPlace wsX8_checkPlace) := goodIn_app (goodIn_of _ (by decide +kernel)) ggX8_move_X8_checkPlace
set_option maxRecDepth 20000 in
theorem ggX8_move_X2_save : GoodIn wsX8_move wsX2_save := goodIn_r _ [19, 20, 21, 22, 23, 24, 25, 26, 27, 28, 29, 30, 31, 32, 33, 34, 35, 36, 37, 38, 39, 40, 41, 42, 43, 44, 45, 46, 47, 48, 49, 50, 51, 52, 53, 54, 55, 56, 57, 58, 59, 60, 61, 117, 118, 119, 109, 110, 111, 112, 113, 114, 115, 116, 120, 121, 122, 123, 124] (by decide +kernel) (by decide +kernel)
set_option maxRecDepth 20000 in
theorem gX8_move_X2_save : GoodIn wsX8_move (wsV RX8 62 RX2 yX2_save wsX2_save) := goodIn_app (goodIn_of _ (by decide +kernel)) ggX8_move_X2_save
set_option maxRecDepth 20000 in
theorem ggX8_move_X1_takeOut : GoodIn wsX8_move wsX1_takeOut := goodIn_r _ [65, 42, 36, 41, 112, 113, 114, 115, 116] (by decide +kernel) (by decide +kernel)
set_option maxRecDepth 20000 in
theorem gX8_move_X1_takeOut : GoodIn wsX8_move (wsV RX8 84 RX1 yX1_takeOut wsX1_takeOut) := goodIn_app (goodIn_of _ (by decide +kernel)) ggX8_move_X1_takeOut
set_option maxRecDepth 20000 in
theorem ggX8_move_X1_putIn : GoodIn wsX8_move wsX1_putIn := goodIn_r _ [69, 42, 36, 41, 112, 113, 114, 115, 116] (by decide +kernel) (by decide +kernel)
set_option maxRecDepth 20000 in
theorem gX8_move_X1_putIn : GoodIn wsX8_move (wsV RX8 87 RX1 yX1_putIn wsX1_putIn) := goodIn_app (goodIn_of _ (by decide +kernel)) ggX8_move_X1_putIn
set_option maxRecDepth 20000 in
theorem ggX8_move_X7_follow : GoodIn wsX8_move wsX7_follow := goodIn_r _ [74, 75, 76, 77, 78, 79, 73, 80, 81, 82, 83, 84, 85, 86, 87, 88, 89, 90, 91, 92, 93, 94, 95, 96, 97, 10, 98, 99, 100, 101, 34, 102, 42, 36, 109, 110, 111, 112, 113, 114, 115, 116, 125, 126, 127, 128, 129, 130, 120, 121, 122] (by decide +kernel) (by decide +kernel)
set_option maxRecDepth 20000 in
theorem gX8_move_X7_follow : GoodIn wsX8_move (wsV RX8 72 RX7 yX7_follow wsX7_follow) := goodIn_app (goodIn_of _ (by decide +kernel)) ggX8_move_X7_follow
set_option maxRecDepth 20000 in
theorem ggX8_drop_X8_checkPlace : GoodIn wsX8_drop wsX8_checkPlace := goodIn_ca (goodIn_r _ [9, 10, 11, 2, 3, 12, 110, 111, 112, 113, 114, 115, 116, 117, 118, 119, 120, 121, 122, 123] (by decide +kernel) (by decide +kernel)) (goodIn_sub (fun _ h => List.mem_cons_of_mem _ (List.mem_append_right _ h)) (by decide +kernel))
set_option maxRecDepth 20000 in
theorem gX8_drop_X8_checkPlace : GoodIn wsX8_drop (wsV RX8 75 RX8 yX8_checkPlace wsX8_checkPlace) := goodIn_app (goodIn_of _ (by decide +kernel)) ggX8_drop_X8_checkPlace
set_option maxRecDepth 20000 in
theorem ggX8_drop_X2_save : GoodIn wsX8_drop wsX2_save := goodIn_r _ [17, 18, 19, 20, 21, 22, 23, 24, 25, 26, 27, 28, 29, 30, 31, 32, 33, 34, 35, 36, 37, 38, 39, 40, 41, 42, 43, 44, 45, 46, 47, 48, 49, 50, 51, 52, 53, 54, 55, 56, 57, 58, 59, 124, 125, 126, 116, 117, 118, 119, 120, 121, 122, 123, 127, 128, 129, 130, 131] (by decide +kernel) (by decide +kernel)
set_option maxRecDepth 20000 in
theorem gX8_drop_X2_save : GoodIn wsX8_drop (wsV RX8 62 RX2 yX2_save wsX2_save) := goodIn_app (goodIn_of _ (by decide +kernel)) ggX8_drop_X2_save
set_option maxRecDepth 20000 in
theorem ggX8_drop_X8_goodCitationsOf : GoodIn wsX8_drop wsX8_goodCitationsOf := goodIn_r _ [63, 64, 65, 66, 8, 67, 2, 68, 69, 4, 70, 71, 72, 73, 74, 110, 111, 112, 113, 114, 115, 116, 117, 118, 127, 128, 129, 132, 133, 134, 135, 136, 137] (by decide +kernel) (by decide +kernel)
set_option maxRecDepth 20000 in
theorem gX8_drop_X8_goodCitationsOf : GoodIn wsX8_drop (wsV RX8 91 RX8 yX8_goodCitationsOf wsX8_goodCitationsOf) := goodIn_app (goodIn_of _ (by decide +kernel)) ggX8_drop_X8_goodCitationsOf
set_option maxRecDepth 20000 in
theorem ggX8_drop_X1_takeOut : GoodIn wsX8_drop wsX1_takeOut := goodIn_r _ [78, 40, 34, 39, 119, 120, 121, 122, 123] (by decide +kernel) (by decide +kernel)
set_option maxRecDepth 20000 in
theorem gX8_drop_X1_takeOut : GoodIn wsX8_drop (wsV RX8 84 RX1 yX1_takeOut wsX1_takeOut) := goodIn_app (goodIn_of _ (by decide +kernel)) ggX8_drop_X1_takeOut
set_option maxRecDepth 20000 in
theorem ggX8_drop_X7_follow : GoodIn wsX8_drop wsX7_follow := goodIn_r _ [83, 84, 85, 86, 87, 88, 82, 89, 90, 91, 92, 93, 94, 95, 96, 97, 98, 99, 100, 101, 102, 103, 104, 105, 73, 8, 74, 106, 107, 108, 32, 109, 40, 34, 116, 117, 118, 119, 120, 121, 122, 123, 132, 133, 134, 135, 136, 137, 127, 128, 129] (by decide +kernel) (by decide +kernel)
set_option maxRecDepth 20000 in
theorem gX8_drop_X7_follow : GoodIn wsX8_drop (wsV RX8 72 RX7 yX7_follow wsX7_follow) := goodIn_app (goodIn_of _ (by decide +kernel)) ggX8_drop_X7_follow
set_option maxRecDepth 20000 in
theorem ggX8_pages_X8_checkPlace : GoodIn wsX8_pages wsX8_checkPlace := goodIn_ca (goodIn_r _ [10, 11, 12, 2, 3, 13, 99, 100, 101, 102, 103, 104, 105, 106, 107, 108, 109, 110, 111, 112] (by decide +kernel) (by decide +kernel)) (goodIn_sub (fun _ h => List.mem_cons_of_mem _ (List.mem_append_left _ (List.mem_append_right _ h))) (by decide +kernel))
set_option maxRecDepth 20000 in
theorem gX8_pages_X8_checkPlace : GoodIn wsX8_pages (wsV RX8 75 RX8 yX8_checkPlace wsX8_checkPlace) := goodIn_app (goodIn_of _ (by decide +kernel)) ggX8_pages_X8_checkPlace
set_option maxRecDepth 20000 in
theorem ggX8_pages_X8_checkPages : GoodIn wsX8_pages wsX8_checkPages := goodIn_ca (goodIn_r _ [16, 17, 18] (by decide +kernel) (by decide +kernel)) (goodIn_sub (fun _ h => List.mem_cons_of_mem _ (List.mem_append_right _ h)) (by decide +kernel))
set_option maxRecDepth 20000 in
theorem gX8_pages_X8_checkPages : GoodIn wsX8_pages (va_wsS RX8 56 yX8_checkPages wsX8_checkPages) := goodIn_app (goodIn_of _ (by decide +kernel)) ggX8_pages_X8_checkPages
set_option maxRecDepth 20000 in
theorem ggX8_pages_X2_save : GoodIn wsX8_pages wsX2_save := goodIn_r _ [23, 24, 25, 26, 27, 28, 29, 30, 31, 32, 33, 34, 35, 36, 37, 38, 39, 40, 41, 42, 43, 44, 45, 46, 47, 48, 49, 50, 51, 52, 53, 54, 55, 56, 57, 58, 59, 60, 61, 62, 63, 64, 65, 113, 114, 115, 105, 106, 107, 108, 109, 110, 111, 112, 116, 117, 118, 119, 120] (by decide +kernel) (by decide +kernel)
set_option maxRecDepth 20000 in
theorem gX8_pages_X2_save : GoodIn wsX8_pages (wsV RX8 62 RX2 yX2_save wsX2_save) := goodIn_app (goodIn_of _ (by decide +kernel)) ggX8_pages_X2_save
set_option maxRecDepth 20000 in
theorem ggX8_pages_X7_follow : GoodIn wsX8_pages wsX7_follow := goodIn_r _ [70, 71, 72, 73, 74, 75, 69, 76, 77, 78, 79, 80, 81, 82, 83, 84, 85, 86, 87, 88, 89, 90, 91, 92, 93, 9, 94, 95, 96, 97, 38, 98, 46, 40, 105, 106, 107, 108, 109, 110, 111, 112, 121, 122, 123, 124, 125, 126, 116, 117, 118] (by decide +kernel) (by decide +kernel)
set_option maxRecDepth 20000 in
theorem gX8_pages_X7_follow : GoodIn wsX8_pages (wsV RX8 72 RX7 yX7_follow wsX7_follow) := goodIn_app (goodIn_of _ (by decide +kernel)) ggX8_pages_X7_follow
set_option maxRecDepth 20000 in
theorem ggX8_join_X8_checkPlace : GoodIn wsX8_join wsX8_checkPlace := goodIn_ca (goodIn_r _ [17, 1, 2, 5, 6, 7, 106, 107, 108, 109, 110, 111, 112, 113, 114, 115, 116, 117, 118, 119] (by decide +kernel) (by decide +kernel)) (goodIn_sub (fun _ h => List.mem_cons_of_mem _ (List.mem_append_left _ (List.mem_append_right _ h))) (by decide +kernel))
set_option maxRecDepth 20000 in
theorem gX8_join_X8_checkPlace : GoodIn wsX8_join (wsV RX8 75 RX8 yX8_checkPlace wsX8_checkPlace) := goodIn_app (goodIn_of _ (by decide +kernel)) ggX8_join_X8_checkPlace
set_option maxRecDepth 20000 in
theorem ggX8_join_X2_save : GoodIn wsX8_join wsX2_save := goodIn_r _ [22, 23, 24, 25, 26, 27, 28, 29, 30, 31, 32, 33, 34, 35, 36, 37, 38, 39, 40, 41, 42, 43, 44, 45, 46, 47, 48, 49, 50, 51, 52, 53, 54, 55, 56, 57, 58, 59, 60, 61, 62, 63, 64, 120, 121, 122, 112, 113, 114, 115, 116, 117, 118, 119, 123, 124, 125, 126, 127] (by decide +kernel) (by decide +kernel)
set_option maxRecDepth 20000 in
theorem gX8_join_X2_save : GoodIn wsX8_join (wsV RX8 62 RX2 yX2_save wsX2_save) := goodIn_app (goodIn_of _ (by decide +kernel)) ggX8_join_X2_save
set_option maxRecDepth 20000 in
theorem ggX8_join_X0_followJoin : GoodIn wsX8_join wsX0_followJoin := goodIn_r _ [68, 53, 55, 56, 69, 16, 70, 123, 124, 125] (by decide +kernel) (by decide +kernel)
set_option maxRecDepth 20000 in
theorem gX8_join_X0_followJoin : GoodIn wsX8_join (wsV RX8 115 RX0 yX0_followJoin wsX0_followJoin) := goodIn_app (goodIn_of _ (by decide +kernel)) ggX8_join_X0_followJoin
set_option maxRecDepth 20000 in
theorem ggX8_join_X1_takeOut : GoodIn wsX8_join wsX1_takeOut := goodIn_r _ [74, 45, 39, 44, 115, 116, 117, 118, 119] (by decide +kernel) (by decide +kernel)
set_option maxRecDepth 20000 in
theorem gX8_join_X1_takeOut : GoodIn wsX8_join (wsV RX8 84 RX1 yX1_takeOut wsX1_takeOut) := goodIn_app (goodIn_of _ (by decide +kernel)) ggX8_join_X1_takeOut
set_option maxRecDepth 20000 in
theorem ggX8_join_X7_follow : GoodIn wsX8_join wsX7_follow := goodIn_r _ [79, 80, 81, 82, 83, 84, 78, 85, 86, 87, 88, 89, 90, 91, 92, 93, 94, 95, 96, 97, 98, 99, 100, 101, 69, 16, 70, 102, 103, 104, 37, 105, 45, 39, 112, 113, 114, 115, 116, 117, 118, 119, 128, 129, 130, 131, 132, 133, 123, 124, 125] (by decide +kernel) (by decide +kernel)
set_option maxRecDepth 20000 in
theorem gX8_join_X7_follow : GoodIn wsX8_join (wsV RX8 72 RX7 yX7_follow wsX7_follow) := goodIn_app (goodIn_of _ (by decide +kernel)) ggX8_join_X7_follow
set_option maxRecDepth 20000 in
theorem ggX8_split_X8_checkPlace : GoodIn wsX8_split wsX8_checkPlace := goodIn_ca (goodIn_r _ [14, 15, 16, 3, 4, 17, 116, 117, 118, 119, 120, 121, 122, 123, 124, 125, 126, 127, 128, 129] (by decide +kernel) (by decide +kernel)) (goodIn_sub (fun _ h => List.mem_cons_of_mem _ (List.mem_append_left _ (List.mem_append_right _ h))) (by decide +kernel))
set_option maxRecDepth 20000 in
theorem gX8_split_X8_checkPlace : GoodIn wsX8_split (wsV RX8 75 RX8 yX8_checkPlace wsX8_checkPlace) := goodIn_app (goodIn_of _ (by decide +kernel)) ggX8_split_X8_checkPlace
set_option maxRecDepth 20000 in
theorem ggX8_split_X8_checkRoomForExhibit : GoodIn wsX8_split wsX8_checkRoomForExhibit := goodIn_ca (goodIn_r _ [21, 22, 23, 3, 4, 17, 116, 117, 118, 119, 120, 121, 122, 123, 124, 125, 126, 127, 128, 129] (by decide +kernel) (by decide +kernel)) (goodIn_sub (fun _ h => List.mem_cons_of_mem _ (List.mem_append_right _ h)) (by decide +kernel))
set_option maxRecDepth 20000 in
theorem gX8_split_X8_checkRoomForExhibit : GoodIn wsX8_split (wsV RX8 59 RX8 yX8_checkRoomForExhibit wsX8_checkRoomForExhibit) := goodIn_app (goodIn_of _ (by decide +kernel)) ggX8_split_X8_checkRoomForExhibit
set_option maxRecDepth 20000 in
theorem ggX8_split_X2_save : GoodIn wsX8_split wsX2_save := goodIn_r _ [28, 29, 30, 31, 32, 33, 34, 35, 36, 37, 38, 39, 40, 41, 42, 43, 44, 45, 46, 47, 48, 49, 50, 51, 52, 53, 54, 55, 56, 57, 58, 59, 60, 61, 62, 63, 64, 65, 66, 67, 68, 69, 70, 130, 131, 132, 122, 123, 124, 125, 126, 127, 128, 129, 133, 134, 135, 136, 137] (by decide +kernel) (by decide +kernel)
set_option maxRecDepth 20000 in
theorem gX8_split_X2_save : GoodIn wsX8_split (wsV RX8 62 RX2 yX2_save wsX2_save) := goodIn_app (goodIn_of _ (by decide +kernel)) ggX8_split_X2_save
set_option maxRecDepth 20000 in
theorem ggX8_split_X1_putNew : GoodIn wsX8_split wsX1_putNew := goodIn_r _ [74, 52, 75, 76, 77, 43, 78, 51, 45, 50, 125, 126, 127, 128, 129] (by decide +kernel) (by decide +kernel)
set_option maxRecDepth 20000 in
theorem gX8_split_X1_putNew : GoodIn wsX8_split (wsV RX8 66 RX1 yX1_putNew wsX1_putNew) := goodIn_app (goodIn_of _ (by decide +kernel)) ggX8_split_X1_putNew
set_option maxRecDepth 20000 in
theorem ggX8_split_X0_followSplit : GoodIn wsX8_split wsX0_followSplit := goodIn_r _ [82, 59, 61, 62, 83, 13, 84, 133, 134, 135] (by decide +kernel) (by decide +kernel)
set_option maxRecDepth 20000 in
theorem gX8_split_X0_followSplit : GoodIn wsX8_split (wsV RX8 125 RX0 yX0_followSplit wsX0_followSplit) := goodIn_app (goodIn_of _ (by decide +kernel)) ggX8_split_X0_followSplit
set_option maxRecDepth 20000 in
theorem ggX8_split_X7_follow : GoodIn wsX8_split wsX7_follow := goodIn_r _ [89, 90, 91, 92, 93, 94, 88, 95, 96, 97, 98, 99, 100, 101, 102, 103, 104, 105, 106, 107, 108, 109, 110, 111, 83, 13, 84, 112, 113, 114, 43, 115, 51, 45, 122, 123, 124, 125, 126, 127, 128, 129, 138, 139, 140, 141, 142, 143, 133, 134, 135] (by decide +kernel) (by decide +kernel)
set_option maxRecDepth 20000 in
theorem gX8_split_X7_follow : GoodIn wsX8_split (wsV RX8 72 RX7 yX7_follow wsX7_follow) := goodIn_app (goodIn_of _ (by decide +kernel)) ggX8_split_X7_follow
set_option maxRecDepth 20000 in
theorem ggX8_cite_X8_checkParagraph : GoodIn wsX8_cite wsX8_checkParagraph := goodIn_ca (goodIn_r _ [13, 14, 15] (by decide +kernel) (by decide +kernel)) (goodIn_sub (fun _ h => List.mem_cons_of_mem _ (List.mem_append_left _ (List.mem_append_right _ h))) (by decide +kernel))
set_option maxRecDepth 20000 in
theorem gX8_cite_X8_checkParagraph : GoodIn wsX8_cite (va_wsS RX8 128 yX8_checkParagraph wsX8_checkParagraph) := goodIn_app (goodIn_of _ (by decide +kernel)) ggX8_cite_X8_checkParagraph
set_option maxRecDepth 20000 in
theorem ggX8_cite_X8_checkPlace : GoodIn wsX8_cite wsX8_checkPlace := goodIn_ca (goodIn_r _ [19, 14, 15, 3, 7, 20, 110, 111, 112, 113, 114, 115, 116, 117, 118, 122, 123, 124, 125, 126] (by decide +kernel) (by decide +kernel)) (goodIn_sub (fun _ h => List.mem_cons_of_mem _ (List.mem_append_left _ (List.mem_append_right _ h))) (by decide +kernel))
set_option maxRecDepth 20000 in
theorem gX8_cite_X8_checkPlace : GoodIn wsX8_cite (wsV RX8 75 RX8 yX8_checkPlace wsX8_checkPlace) := goodIn_app (goodIn_of _ (by decide +kernel)) ggX8_cite_X8_checkPlace
set_option maxRecDepth 20000 in
theorem ggX8_cite_X8_checkPages : GoodIn wsX8_cite wsX8_checkPages := goodIn_ca (goodIn_r _ [23, 24, 25] (by decide +kernel) (by decide +kernel)) (goodIn_sub (fun _ h => List.mem_cons_of_mem _ (List.mem_append_right _ h)) (by decide +kernel))
set_option maxRecDepth 20000 in
theorem gX8_cite_X8_checkPages : GoodIn wsX8_cite (va_wsS RX8 56 yX8_checkPages wsX8_checkPages) := goodIn_app (goodIn_of _ (by decide +kernel)) ggX8_cite_X8_checkPages
set_option maxRecDepth 20000 in
theorem ggX8_cite_X2_save : GoodIn wsX8_cite wsX2_save := goodIn_r _ [30, 31, 32, 33, 34, 35, 36, 37, 38, 39, 40, 41, 42, 43, 44, 45, 46, 47, 48, 49, 50, 51, 52, 53, 54, 55, 56, 57, 58, 59, 60, 61, 62, 63, 64, 65, 66, 67, 68, 69, 70, 71, 72, 127, 128, 129, 116, 117, 118, 122, 123, 124, 125, 126, 119, 120, 121, 130, 131] (by decide +kernel) (by decide +kernel)
set_option maxRecDepth 20000 in
theorem gX8_cite_X2_save : GoodIn wsX8_cite (wsV RX8 62 RX2 yX2_save wsX2_save) := goodIn_app (goodIn_of _ (by decide +kernel)) ggX8_cite_X2_save
set_option maxRecDepth 20000 in
theorem ggX8_cite_X0_add : GoodIn wsX8_cite wsX0_add := goodIn_r _ [76, 61, 63, 64, 77, 12, 78, 119, 120, 121] (by decide +kernel) (by decide +kernel)
set_option maxRecDepth 20000 in
theorem gX8_cite_X0_add : GoodIn wsX8_cite (wsV RX8 136 RX0 yX0_add wsX0_add) := goodIn_app (goodIn_of _ (by decide +kernel)) ggX8_cite_X0_add
set_option maxRecDepth 20000 in
theorem ggX8_cite_X7_follow : GoodIn wsX8_cite wsX7_follow := goodIn_r _ [83, 84, 85, 86, 87, 88, 82, 89, 90, 91, 92, 93, 94, 95, 96, 97, 98, 99, 100, 101, 102, 103, 104, 105, 77, 12, 78, 106, 107, 108, 45, 109, 53, 47, 116, 117, 118, 122, 123, 124, 125, 126, 132, 133, 134, 135, 136, 137, 119, 120, 121] (by decide +kernel) (by decide +kernel)
set_option maxRecDepth 20000 in
theorem gX8_cite_X7_follow : GoodIn wsX8_cite (wsV RX8 72 RX7 yX7_follow wsX7_follow) := goodIn_app (goodIn_of _ (by decide +kernel)) ggX8_cite_X7_follow
set_option maxRecDepth 20000 in
theorem ggX8_clean_X8_checkParagraph : GoodIn wsX8_clean wsX8_checkParagraph := goodIn_ca (goodIn_r _ [9, 10, 11] (by decide +kernel) (by decide +kernel)) (goodIn_sub (fun _ h => List.mem_cons_of_mem _ (List.mem_append_right _ h)) (by decide +kernel))
set_option maxRecDepth 20000 in
theorem gX8_clean_X8_checkParagraph : GoodIn wsX8_clean (va_wsS RX8 128 yX8_checkParagraph wsX8_checkParagraph) := goodIn_app (goodIn_of _ (by decide +kernel)) ggX8_clean_X8_checkParagraph
set_option maxRecDepth 20000 in
theorem ggX8_clean_X2_save : GoodIn wsX8_clean wsX2_save := goodIn_r _ [16, 17, 18, 19, 20, 21, 22, 23, 24, 25, 26, 27, 28, 29, 30, 31, 32, 33, 34, 35, 36, 37, 38, 39, 40, 41, 42, 43, 44, 45, 46, 47, 48, 49, 50, 51, 52, 53, 54, 55, 56, 57, 58, 115, 116, 117, 106, 107, 108, 118, 119, 120, 121, 122, 123, 124, 125, 126, 127] (by decide +kernel) (by decide +kernel)
set_option maxRecDepth 20000 in
theorem gX8_clean_X2_save : GoodIn wsX8_clean (wsV RX8 62 RX2 yX2_save wsX2_save) := goodIn_app (goodIn_of _ (by decide +kernel)) ggX8_clean_X2_save
set_option maxRecDepth 20000 in
theorem ggX8_clean_X0_takeOutLost : GoodIn wsX8_clean wsX0_takeOutLost := goodIn_r _ [62, 47, 49, 50, 63, 8, 64, 65, 66, 67, 45, 68, 123, 124, 125] (by decide +kernel) (by decide +kernel)
set_option maxRecDepth 20000 in
theorem gX8_clean_X0_takeOutLost : GoodIn wsX8_clean (wsV RX8 143 RX0 yX0_takeOutLost wsX0_takeOutLost) := goodIn_app (goodIn_of _ (by decide +kernel)) ggX8_clean_X0_takeOutLost
set_option maxRecDepth 20000 in
theorem ggX8_clean_X7_follow : GoodIn wsX8_clean wsX7_follow := goodIn_r _ [73, 74, 75, 76, 77, 78, 72, 79, 80, 81, 82, 83, 84, 85, 86, 87, 88, 89, 90, 91, 92, 93, 94, 95, 63, 8, 64, 96, 97, 98, 31, 99, 39, 33, 106, 107, 108, 118, 119, 120, 121, 122, 109, 110, 111, 112, 113, 114, 123, 124, 125] (by decide +kernel) (by decide +kernel)
set_option maxRecDepth 20000 in
theorem gX8_clean_X7_follow : GoodIn wsX8_clean (wsV RX8 72 RX7 yX7_follow wsX7_follow) := goodIn_app (goodIn_of _ (by decide +kernel)) ggX8_clean_X7_follow
set_option maxRecDepth 20000 in
theorem ggX8_print_X8_checkParagraph : GoodIn wsX8_print wsX8_checkParagraph := goodIn_ca (goodIn_r _ [16, 17, 18] (by decide +kernel) (by decide +kernel)) (goodIn_sub (fun _ h => List.mem_cons_of_mem _ (List.mem_append_right _ h)) (by decide +kernel))
set_option maxRecDepth 20000 in
theorem gX8_print_X8_checkParagraph : GoodIn wsX8_print (va_wsS RX8 128 yX8_checkParagraph wsX8_checkParagraph) := goodIn_app (goodIn_of _ (by decide +kernel)) ggX8_print_X8_checkParagraph
set_option maxRecDepth 20000 in
theorem ggX8_print_X2_save : GoodIn wsX8_print wsX2_save := goodIn_r _ [23, 24, 25, 26, 27, 28, 29, 30, 31, 32, 33, 34, 35, 36, 37, 38, 39, 40, 41, 42, 43, 44, 45, 46, 47, 48, 49, 50, 51, 52, 53, 54, 55, 56, 57, 58, 59, 60, 61, 62, 63, 64, 65, 96, 97, 98, 82, 83, 84, 99, 100, 101, 102, 103, 85, 86, 87, 88, 89] (by decide +kernel) (by decide +kernel)
set_option maxRecDepth 20000 in
theorem gX8_print_X2_save : GoodIn wsX8_print (wsV RX8 62 RX2 yX2_save wsX2_save) := goodIn_app (goodIn_of _ (by decide +kernel)) ggX8_print_X2_save
set_option maxRecDepth 20000 in
theorem ggX8_print_X8_isStale : GoodIn wsX8_print wsX8_isStale := goodIn_r _ [69, 2, 4, 5, 6, 7, 9, 10, 12, 11, 8, 70, 71, 15, 72, 73, 74, 75, 76, 77, 78, 79, 80, 81, 82, 83, 84, 85, 86, 87, 88, 89, 90, 91, 92, 93, 94, 95] (by decide +kernel) (by decide +kernel)
set_option maxRecDepth 20000 in
theorem gX8_print_X8_isStale : GoodIn wsX8_print (wsV RX8 147 RX8 yX8_isStale wsX8_isStale) := goodIn_app (goodIn_of _ (by decide +kernel)) ggX8_print_X8_isStale
set_option maxRecDepth 20000 in
theorem ggX8_print_X8_cellOf : GoodIn wsX8_print wsX8_cellOf := goodIn_r _ [72] (by decide +kernel) (by decide +kernel)
set_option maxRecDepth 20000 in
theorem gX8_print_X8_cellOf : GoodIn wsX8_print (va_wsS RX8 158 yX8_cellOf wsX8_cellOf) := goodIn_app (goodIn_of _ (by decide +kernel)) ggX8_print_X8_cellOf
set_option maxRecDepth 20000 in
theorem ggX8_print_X8_markOf : GoodIn wsX8_print wsX8_markOf := goodIn_r _ [75] (by decide +kernel) (by decide +kernel)
set_option maxRecDepth 20000 in
theorem gX8_print_X8_markOf : GoodIn wsX8_print (va_wsS RX8 168 yX8_markOf wsX8_markOf) := goodIn_app (goodIn_of _ (by decide +kernel)) ggX8_print_X8_markOf
set_option maxRecDepth 20000 in
theorem ggX8_set_X2_save : GoodIn wsX8_set wsX2_save := goodIn_r _ [12, 13, 14, 15, 16, 17, 18, 19, 20, 21, 22, 23, 24, 25, 26, 27, 28, 29, 30, 31, 32, 33, 34, 35, 36, 37, 38, 39, 40, 41, 42, 43, 44, 45, 46, 47, 48, 49, 50, 51, 52, 53, 54, 103, 104, 105, 95, 96, 97, 98, 99, 100, 101, 102, 106, 107, 108, 109, 110] (by decide +kernel) (by decide +kernel)
set_option maxRecDepth 20000 in
theorem gX8_set_X2_save : GoodIn wsX8_set (wsV RX8 62 RX2 yX2_save wsX2_save) := goodIn_app (goodIn_of _ (by decide +kernel)) ggX8_set_X2_save
set_option maxRecDepth 20000 in
theorem ggX8_set_X7_follow : GoodIn wsX8_set wsX7_follow := goodIn_r _ [59, 60, 61, 62, 63, 64, 58, 65, 66, 67, 68, 69, 70, 71, 72, 73, 74, 75, 76, 77, 78, 79, 80, 81, 82, 83, 84, 85, 86, 87, 27, 88, 35, 29, 95, 96, 97, 98, 99, 100, 101, 102, 111, 112, 113, 114, 115, 116, 106, 107, 108] (by decide +kernel) (by decide +kernel)
set_option maxRecDepth 20000 in
theorem gX8_set_X7_follow : GoodIn wsX8_set (wsV RX8 72 RX7 yX7_follow wsX7_follow) := goodIn_app (goodIn_of _ (by decide +kernel)) ggX8_set_X7_follow
set_option maxRecDepth 20000 in
theorem ggX8_append_X5_add : GoodIn wsX8_append wsX5_add := goodIn_r _ [11, 12, 13, 20, 21, 22, 23, 24, 25] (by decide +kernel) (by decide +kernel)
set_option maxRecDepth 20000 in
theorem gX8_append_X5_add : GoodIn wsX8_append (wsV RX8 184 RX5 yX5_add wsX5_add) := goodIn_app (goodIn_of _ (by decide +kernel)) ggX8_append_X5_add
set_option maxRecDepth 20000 in
theorem ggX8_firstError_X5_read : GoodIn wsX8_firstError wsX5_read := goodIn_r _ [6, 7, 8, 9, 10, 11, 12, 13, 5, 14, 15, 16, 17, 18, 19, 20, 21, 22, 23, 24, 25, 26, 27, 28, 29, 30, 31, 32, 33, 34, 35, 36, 43, 44, 45, 46, 47, 48] (by decide +kernel) (by decide +kernel)
set_option maxRecDepth 20000 in
theorem gX8_firstError_X5_read : GoodIn wsX8_firstError (wsV RX8 186 RX5 yX5_read wsX5_read) := goodIn_app (goodIn_of _ (by decide +kernel)) ggX8_firstError_X5_read
set_option maxRecDepth 20000 in
theorem ggX8_citeAll_X8_checkParagraph : GoodIn wsX8_citeAll wsX8_checkParagraph := goodIn_ca (goodIn_r _ [21, 22, 23] (by decide +kernel) (by decide +kernel)) (goodIn_sub (fun _ h => List.mem_cons_of_mem _ (List.mem_append_right _ h)) (by decide +kernel))
set_option maxRecDepth 20000 in
theorem gX8_citeAll_X8_checkParagraph : GoodIn wsX8_citeAll (va_wsS RX8 128 yX8_checkParagraph wsX8_checkParagraph) := goodIn_app (goodIn_of _ (by decide +kernel)) ggX8_citeAll_X8_checkParagraph
set_option maxRecDepth 20000 in
theorem ggX8_citeAll_X5_read : GoodIn wsX8_citeAll wsX5_read := goodIn_r _ [28, 29, 30, 31, 32, 33, 34, 35, 27, 36, 37, 38, 39, 40, 41, 42, 43, 44, 45, 46, 47, 48, 49, 50, 51, 52, 53, 54, 55, 56, 57, 58, 153, 154, 155, 156, 157, 158] (by decide +kernel) (by decide +kernel)
set_option maxRecDepth 20000 in
theorem gX8_citeAll_X5_read : GoodIn wsX8_citeAll (wsV RX8 186 RX5 yX5_read wsX5_read) := goodIn_app (goodIn_of _ (by decide +kernel)) ggX8_citeAll_X5_read
set_option maxRecDepth 20000 in
theorem ggX8_citeAll_X5_isComplete : GoodIn wsX8_citeAll wsX5_isComplete := goodIn_r _ [62, 30, 153, 154, 155, 156, 157, 158] (by decide +kernel) (by decide +kernel)
set_option maxRecDepth 20000 in
theorem gX8_citeAll_X5_isComplete : GoodIn wsX8_citeAll (wsV RX8 190 RX5 yX5_isComplete wsX5_isComplete) := goodIn_app (goodIn_of _ (by decide +kernel)) ggX8_citeAll_X5_isComplete
set_option maxRecDepth 20000 in
theorem ggX8_citeAll_X2_save : GoodIn wsX8_citeAll wsX2_save := goodIn_r _ [67, 68, 69, 70, 71, 72, 73, 74, 75, 76, 77, 78, 79, 80, 81, 82, 83, 84, 85, 86, 87, 88, 89, 90, 91, 92, 93, 94, 95, 96, 97, 98, 99, 100, 101, 102, 103, 104, 105, 106, 107, 108, 109, 170, 171, 172, 159, 160, 161, 162, 163, 164, 165, 166, 167, 168, 169, 173, 174] (by decide +kernel) (by decide +kernel)
set_option maxRecDepth 20000 in
theorem gX8_citeAll_X2_save : GoodIn wsX8_citeAll (wsV RX8 62 RX2 yX2_save wsX2_save) := goodIn_app (goodIn_of _ (by decide +kernel)) ggX8_citeAll_X2_save
set_option maxRecDepth 20000 in
theorem ggX8_citeAll_X0_add : GoodIn wsX8_citeAll wsX0_add := goodIn_r _ [113, 98, 100, 101, 114, 20, 115, 167, 168, 169] (by decide +kernel) (by decide +kernel)
set_option maxRecDepth 20000 in
theorem gX8_citeAll_X0_add : GoodIn wsX8_citeAll (wsV RX8 136 RX0 yX0_add wsX0_add) := goodIn_app (goodIn_of _ (by decide +kernel)) ggX8_citeAll_X0_add
set_option maxRecDepth 20000 in
theorem ggX8_citeAll_X7_follow : GoodIn wsX8_citeAll wsX7_follow := goodIn_r _ [120, 121, 122, 123, 124, 125, 119, 126, 127, 128, 129, 130, 131, 132, 133, 134, 135, 136, 137, 138, 139, 140, 141, 142, 114, 20, 115, 143, 144, 145, 82, 146, 90, 84, 159, 160, 161, 162, 163, 164, 165, 166, 175, 176, 177, 178, 179, 180, 167, 168, 169] (by decide +kernel) (by decide +kernel)
set_option maxRecDepth 20000 in
theorem gX8_citeAll_X7_follow : GoodIn wsX8_citeAll (wsV RX8 72 RX7 yX7_follow wsX7_follow) := goodIn_app (goodIn_of _ (by decide +kernel)) ggX8_citeAll_X7_follow
set_option maxRecDepth 20000 in
theorem ggX8_undo_X2_restore : GoodIn wsX8_undo wsX2_restore := goodIn_r _ [11, 12, 13, 14, 15, 16, 17, 18, 19, 20, 21, 22, 23, 24, 25, 26, 27, 28, 29, 30, 31, 32, 33, 34, 35, 36, 37, 38, 39, 40, 41, 42, 43, 44, 45, 46, 47, 48, 49, 50, 51, 52, 53, 94, 95, 96, 97, 98, 99, 100, 101, 102, 103, 104, 105, 106, 107, 108, 109] (by decide +kernel) (by decide +kernel)
set_option maxRecDepth 20000 in
theorem gX8_undo_X2_restore : GoodIn wsX8_undo (wsV RX8 208 RX2 yX2_restore wsX2_restore) := goodIn_app (goodIn_of _ (by decide +kernel)) ggX8_undo_X2_restore
set_option maxRecDepth 20000 in
theorem ggX8_undo_X7_follow : GoodIn wsX8_undo wsX7_follow := goodIn_r _ [58, 59, 60, 61, 62, 63, 57, 64, 65, 66, 67, 68, 69, 70, 71, 72, 73, 74, 75, 76, 77, 78, 79, 80, 81, 82, 83, 84, 85, 86, 26, 87, 34, 28, 97, 98, 99, 100, 101, 102, 103, 104, 110, 111, 112, 113, 114, 115, 105, 106, 107] (by decide +kernel) (by decide +kernel)
set_option maxRecDepth 20000 in
theorem gX8_undo_X7_follow : GoodIn wsX8_undo (wsV RX8 72 RX7 yX7_follow wsX7_follow) := goodIn_app (goodIn_of _ (by decide +kernel)) ggX8_undo_X7_follow
set_option maxRecDepth 20000 in
theorem ggX8_exhibit_X8_checkWhat : GoodIn wsX8_exhibit wsX8_checkWhat := goodIn_ca (goodIn_r _ [15, 1, 2] (by decide +kernel) (by decide +kernel)) (goodIn_sub (fun _ h => List.mem_cons_of_mem _ (List.mem_append_right _ h)) (by decide +kernel))
set_option maxRecDepth 20000 in
theorem gX8_exhibit_X8_checkWhat : GoodIn wsX8_exhibit (va_wsS RX8 213 yX8_checkWhat wsX8_checkWhat) := goodIn_app (goodIn_of _ (by decide +kernel)) ggX8_exhibit_X8_checkWhat
set_option maxRecDepth 20000 in
theorem ggX8_exhibit_X8_citationsOf : GoodIn wsX8_exhibit wsX8_citationsOf := goodIn_r _ [19, 3, 20, 21, 8, 22, 23, 24, 14, 25, 26, 27, 28, 29, 30, 31, 32, 33, 34, 46, 47, 48, 40, 41, 42, 43, 44, 45] (by decide +kernel) (by decide +kernel)
set_option maxRecDepth 20000 in
theorem gX8_exhibit_X8_citationsOf : GoodIn wsX8_exhibit (wsV RX8 226 RX8 yX8_citationsOf wsX8_citationsOf) := goodIn_app (goodIn_of _ (by decide +kernel)) ggX8_exhibit_X8_citationsOf
set_option maxRecDepth 20000 in
theorem ggX8_citation_X8_checkParagraph : GoodIn wsX8_citation wsX8_checkParagraph := goodIn_ca (goodIn_r _ [14, 15, 16] (by decide +kernel) (by decide +kernel)) (goodIn_sub (fun _ h => List.mem_cons_of_mem _ (List.mem_append_right _ h)) (by decide +kernel))
set_option maxRecDepth 20000 in
theorem gX8_citation_X8_checkParagraph : GoodIn wsX8_citation (va_wsS RX8 128 yX8_checkParagraph wsX8_checkParagraph) := goodIn_app (goodIn_of _ (by decide +kernel)) ggX8_citation_X8_checkParagraph
set_option maxRecDepth 20000 in
theorem ggX8_citation_X8_checkWhat : GoodIn wsX8_citation wsX8_checkWhat := goodIn_ca (goodIn_r _ [19, 1, 2] (by decide +kernel) (by decide +kernel)) (goodIn_sub (fun _ h => List.mem_cons_of_mem _ (List.mem_append_left _ (List.mem_append_right _ h))) (by decide +kernel))
set_option maxRecDepth 20000 in
theorem gX8_citation_X8_checkWhat : GoodIn wsX8_citation (va_wsS RX8 213 yX8_checkWhat wsX8_checkWhat) := goodIn_app (goodIn_of _ (by decide +kernel)) ggX8_citation_X8_checkWhat
set_option maxRecDepth 20000 in
theorem ggX8_citation_X8_cellOf : GoodIn wsX8_citation wsX8_cellOf := goodIn_r _ [22] (by decide +kernel) (by decide +kernel)
set_option maxRecDepth 20000 in
theorem gX8_citation_X8_cellOf : GoodIn wsX8_citation (va_wsS RX8 158 yX8_cellOf wsX8_cellOf) := goodIn_app (goodIn_of _ (by decide +kernel)) ggX8_citation_X8_cellOf
set_option maxRecDepth 20000 in
theorem ggX8_citation_X8_pageInBrief : GoodIn wsX8_citation wsX8_pageInBrief := goodIn_r _ [26, 7, 8, 10, 27, 3, 4, 9, 28, 29, 30, 31, 32, 33, 40, 41, 42, 43, 44, 45, 34, 35, 36, 37, 38, 39] (by decide +kernel) (by decide +kernel)
set_option maxRecDepth 20000 in
theorem gX8_citation_X8_pageInBrief : GoodIn wsX8_citation (wsV RX8 232 RX8 yX8_pageInBrief wsX8_pageInBrief) := goodIn_app (goodIn_of _ (by decide +kernel)) ggX8_citation_X8_pageInBrief
set_option maxRecDepth 20000 in
theorem ggX8_paragraph_X8_checkParagraph : GoodIn wsX8_paragraph wsX8_checkParagraph := goodIn_ca (goodIn_r _ [10, 11, 12] (by decide +kernel) (by decide +kernel)) (goodIn_sub (fun _ h => List.mem_cons_of_mem _ (List.mem_append_left _ (List.mem_append_right _ h))) (by decide +kernel))
set_option maxRecDepth 20000 in
theorem gX8_paragraph_X8_checkParagraph : GoodIn wsX8_paragraph (va_wsS RX8 128 yX8_checkParagraph wsX8_checkParagraph) := goodIn_app (goodIn_of _ (by decide +kernel)) ggX8_paragraph_X8_checkParagraph
set_option maxRecDepth 20000 in
theorem ggX8_paragraph_X8_checkWhat : GoodIn wsX8_paragraph wsX8_checkWhat := goodIn_ca (goodIn_r _ [15, 16, 17] (by decide +kernel) (by decide +kernel)) (goodIn_sub (fun _ h => List.mem_cons_of_mem _ (List.mem_append_right _ h)) (by decide +kernel))
set_option maxRecDepth 20000 in
theorem gX8_paragraph_X8_checkWhat : GoodIn wsX8_paragraph (va_wsS RX8 213 yX8_checkWhat wsX8_checkWhat) := goodIn_app (goodIn_of _ (by decide +kernel)) ggX8_paragraph_X8_checkWhat
set_option maxRecDepth 20000 in
theorem ggX8_paragraph_X8_lostIn : GoodIn wsX8_paragraph wsX8_lostIn := goodIn_r _ [21, 1, 2, 3, 22, 23, 24, 25, 9, 26, 37, 38, 39, 40, 41, 42, 43, 44, 45, 46, 47, 48, 51, 52, 53, 54, 55, 56] (by decide +kernel) (by decide +kernel)
set_option maxRecDepth 20000 in
theorem gX8_paragraph_X8_lostIn : GoodIn wsX8_paragraph (wsV RX8 235 RX8 yX8_lostIn wsX8_lostIn) := goodIn_app (goodIn_of _ (by decide +kernel)) ggX8_paragraph_X8_lostIn
set_option maxRecDepth 20000 in
theorem ggX8_paragraph_X8_isStale : GoodIn wsX8_paragraph wsX8_isStale := goodIn_r _ [30, 1, 2, 3, 5, 6, 22, 31, 23, 32, 33, 24, 25, 9, 26, 34, 35, 36, 37, 38, 39, 40, 41, 42, 43, 44, 45, 46, 47, 48, 49, 50, 51, 52, 53, 54, 55, 56] (by decide +kernel) (by decide +kernel)
set_option maxRecDepth 20000 in
theorem gX8_paragraph_X8_isStale : GoodIn wsX8_paragraph (wsV RX8 147 RX8 yX8_isStale wsX8_isStale) := goodIn_app (goodIn_of _ (by decide +kernel)) ggX8_paragraph_X8_isStale
set_option maxRecDepth 20000 in
theorem ggX8_table_X8_checkPlace : GoodIn wsX8_table wsX8_checkPlace := goodIn_ca (goodIn_r _ [5, 6, 7, 8, 9, 10, 23, 24, 25, 26, 27, 28, 29, 30, 31, 32, 33, 34, 35, 36] (by decide +kernel) (by decide +kernel)) (goodIn_sub (fun _ h => List.mem_cons_of_mem _ (List.mem_append_right _ h)) (by decide +kernel))
set_option maxRecDepth 20000 in
theorem gX8_table_X8_checkPlace : GoodIn wsX8_table (wsV RX8 75 RX8 yX8_checkPlace wsX8_checkPlace) := goodIn_app (goodIn_of _ (by decide +kernel)) ggX8_table_X8_checkPlace
set_option maxRecDepth 20000 in
theorem ggX8_table_X8_goodCitationsIn : GoodIn wsX8_table wsX8_goodCitationsIn := goodIn_r _ [14, 8, 15, 16, 17, 18, 19, 20, 21, 4, 22, 23, 24, 25, 26, 27, 28, 29, 30, 31, 37, 38, 39, 40, 41, 42, 43, 44, 45] (by decide +kernel) (by decide +kernel)
set_option maxRecDepth 20000 in
theorem gX8_table_X8_goodCitationsIn : GoodIn wsX8_table (wsV RX8 238 RX8 yX8_goodCitationsIn wsX8_goodCitationsIn) := goodIn_app (goodIn_of _ (by decide +kernel)) ggX8_table_X8_goodCitationsIn
set_option maxRecDepth 20000 in
theorem ggX8_count_X8_checkWhat : GoodIn wsX8_count wsX8_checkWhat := goodIn_ca (goodIn_r _ [13, 14, 15] (by decide +kernel) (by decide +kernel)) (goodIn_sub (fun _ h => List.mem_cons_of_mem _ (List.mem_append_right _ h)) (by decide +kernel))
set_option maxRecDepth 20000 in
theorem gX8_count_X8_checkWhat : GoodIn wsX8_count (va_wsS RX8 213 yX8_checkWhat wsX8_checkWhat) := goodIn_app (goodIn_of _ (by decide +kernel)) ggX8_count_X8_checkWhat
set_option maxRecDepth 20000 in
theorem ggX8_count_X1_sumOfPages : GoodIn wsX8_count wsX1_sumOfPages := goodIn_r _ [20, 21, 22, 78, 79, 80, 81, 82] (by decide +kernel) (by decide +kernel)
set_option maxRecDepth 20000 in
theorem gX8_count_X1_sumOfPages : GoodIn wsX8_count (wsV RX8 241 RX1 yX1_sumOfPages wsX1_sumOfPages) := goodIn_app (goodIn_of _ (by decide +kernel)) ggX8_count_X1_sumOfPages
set_option maxRecDepth 20000 in
theorem ggX8_count_X8_allCitations : GoodIn wsX8_count wsX8_allCitations := goodIn_r _ [26, 1, 27, 28, 69, 70, 71, 72, 73, 74, 75, 76, 77, 92, 93, 94] (by decide +kernel) (by decide +kernel)
set_option maxRecDepth 20000 in
theorem gX8_count_X8_allCitations : GoodIn wsX8_count (wsV RX8 247 RX8 yX8_allCitations wsX8_allCitations) := goodIn_app (goodIn_of _ (by decide +kernel)) ggX8_count_X8_allCitations
set_option maxRecDepth 20000 in
theorem ggX8_count_X8_allLost : GoodIn wsX8_count wsX8_allLost := goodIn_r _ [32, 33, 34, 35, 12, 36, 1, 27, 28, 4, 37, 38, 39, 40, 69, 70, 71, 72, 73, 74, 75, 76, 77, 92, 93, 94, 83, 84, 85, 86, 87, 88] (by decide +kernel) (by decide +kernel)
set_option maxRecDepth 20000 in
theorem gX8_count_X8_allLost : GoodIn wsX8_count (wsV RX8 250 RX8 yX8_allLost wsX8_allLost) := goodIn_app (goodIn_of _ (by decide +kernel)) ggX8_count_X8_allLost
set_option maxRecDepth 20000 in
theorem ggX8_count_X8_staleWith : GoodIn wsX8_count wsX8_staleWith := goodIn_r _ [44, 45, 46, 47, 12, 48, 1, 27, 28, 49, 50, 4, 51, 37, 52, 53, 38, 39, 40, 54, 55, 56, 69, 70, 71, 72, 73, 74, 75, 76, 77, 92, 93, 94, 95, 96, 83, 84, 85, 86, 87, 88] (by decide +kernel) (by decide +kernel)
set_option maxRecDepth 20000 in
theorem gX8_count_X8_staleWith : GoodIn wsX8_count (wsV RX8 253 RX8 yX8_staleWith wsX8_staleWith) := goodIn_app (goodIn_of _ (by decide +kernel)) ggX8_count_X8_staleWith
set_option maxRecDepth 20000 in
theorem ggX8_count_X8_citedExhibits : GoodIn wsX8_count wsX8_citedExhibits := goodIn_r _ [60, 1, 2, 3, 61, 62, 63, 12, 64, 65, 66, 67, 68, 27, 28, 4, 51, 37, 38, 39, 40, 69, 70, 71, 72, 73, 74, 75, 76, 77, 78, 79, 80, 81, 82, 92, 93, 94, 83, 84, 85, 86, 87, 88] (by decide +kernel) (by decide +kernel)
set_option maxRecDepth 20000 in
theorem gX8_count_X8_citedExhibits : GoodIn wsX8_count (wsV RX8 257 RX8 yX8_citedExhibits wsX8_citedExhibits) := goodIn_app (goodIn_of _ (by decide +kernel)) ggX8_count_X8_citedExhibits
set_option maxRecDepth 20000 in
theorem ggX8_ifInserted_X8_checkGap : GoodIn wsX8_ifInserted wsX8_checkGap := goodIn_ca (goodIn_r _ [9, 10, 11, 2, 3, 12, 68, 69, 70, 71, 72, 73, 74, 75, 76, 80, 81, 82, 83, 84] (by decide +kernel) (by decide +kernel)) (goodIn_sub (fun _ h => List.mem_cons_of_mem _ (List.mem_append_left _ (List.mem_append_right _ h))) (by decide +kernel))
set_option maxRecDepth 20000 in
theorem gX8_ifInserted_X8_checkGap : GoodIn wsX8_ifInserted (wsV RX8 52 RX8 yX8_checkGap wsX8_checkGap) := goodIn_app (goodIn_of _ (by decide +kernel)) ggX8_ifInserted_X8_checkGap
set_option maxRecDepth 20000 in
theorem ggX8_ifInserted_X8_checkPages : GoodIn wsX8_ifInserted wsX8_checkPages := goodIn_ca (goodIn_r _ [15, 16, 17] (by decide +kernel) (by decide +kernel)) (goodIn_sub (fun _ h => List.mem_cons_of_mem _ (List.mem_append_right _ h)) (by decide +kernel))
set_option maxRecDepth 20000 in
theorem gX8_ifInserted_X8_checkPages : GoodIn wsX8_ifInserted (va_wsS RX8 56 yX8_checkPages wsX8_checkPages) := goodIn_app (goodIn_of _ (by decide +kernel)) ggX8_ifInserted_X8_checkPages
set_option maxRecDepth 20000 in
theorem ggX8_ifInserted_X8_checkWhat : GoodIn wsX8_ifInserted wsX8_checkWhat := goodIn_ca (goodIn_r _ [20, 16, 17] (by decide +kernel) (by decide +kernel)) (goodIn_sub (fun _ h => List.mem_cons_of_mem _ (List.mem_append_right _ h)) (by decide +kernel))
set_option maxRecDepth 20000 in
theorem gX8_ifInserted_X8_checkWhat : GoodIn wsX8_ifInserted (va_wsS RX8 213 yX8_checkWhat wsX8_checkWhat) := goodIn_app (goodIn_of _ (by decide +kernel)) ggX8_ifInserted_X8_checkWhat
set_option maxRecDepth 20000 in
theorem ggX8_ifInserted_X6_insertOne : GoodIn wsX8_ifInserted wsX6_insertOne := goodIn_r _ [25, 26, 27, 28, 29, 30, 31, 32, 24, 33, 34, 80, 81, 82, 83, 84, 77, 78, 79] (by decide +kernel) (by decide +kernel)
set_option maxRecDepth 20000 in
theorem gX8_ifInserted_X6_insertOne : GoodIn wsX8_ifInserted (wsV RX8 260 RX6 yX6_insertOne wsX6_insertOne) := goodIn_app (goodIn_of _ (by decide +kernel)) ggX8_ifInserted_X6_insertOne
set_option maxRecDepth 20000 in
theorem ggX8_ifInserted_X8_staleWith : GoodIn wsX8_ifInserted wsX8_staleWith := goodIn_r _ [38, 39, 40, 41, 8, 42, 2, 43, 44, 45, 46, 47, 48, 49, 50, 51, 52, 53, 54, 55, 56, 57, 68, 69, 70, 71, 72, 73, 74, 75, 76, 85, 86, 87, 88, 89, 90, 91, 92, 93, 94, 95] (by decide +kernel) (by decide +kernel)
set_option maxRecDepth 20000 in
theorem gX8_ifInserted_X8_staleWith : GoodIn wsX8_ifInserted (wsV RX8 253 RX8 yX8_staleWith wsX8_staleWith) := goodIn_app (goodIn_of _ (by decide +kernel)) ggX8_ifInserted_X8_staleWith
set_option maxRecDepth 20000 in
theorem ggX8_ifInserted_X8_trialBinders : GoodIn wsX8_ifInserted wsX8_trialBinders := goodIn_r _ [61, 1, 62, 63, 2, 3, 64, 65, 66, 8, 67, 68, 69, 70, 71, 72, 73, 77, 78, 79, 74, 75, 76, 80, 81, 82, 83, 84] (by decide +kernel) (by decide +kernel)
set_option maxRecDepth 20000 in
theorem gX8_ifInserted_X8_trialBinders : GoodIn wsX8_ifInserted (wsV RX8 267 RX8 yX8_trialBinders wsX8_trialBinders) := goodIn_app (goodIn_of _ (by decide +kernel)) ggX8_ifInserted_X8_trialBinders
set_option maxRecDepth 20000 in
theorem ggX8_ifDropped_X8_checkPlace : GoodIn wsX8_ifDropped wsX8_checkPlace := goodIn_ca (goodIn_r _ [9, 10, 11, 2, 3, 12, 63, 64, 65, 66, 67, 68, 69, 70, 71, 75, 76, 77, 78, 79] (by decide +kernel) (by decide +kernel)) (goodIn_sub (fun _ h => List.mem_cons_of_mem _ (List.mem_append_left _ (List.mem_append_right _ h))) (by decide +kernel))
set_option maxRecDepth 20000 in
theorem gX8_ifDropped_X8_checkPlace : GoodIn wsX8_ifDropped (wsV RX8 75 RX8 yX8_checkPlace wsX8_checkPlace) := goodIn_app (goodIn_of _ (by decide +kernel)) ggX8_ifDropped_X8_checkPlace
set_option maxRecDepth 20000 in
theorem ggX8_ifDropped_X8_checkWhat : GoodIn wsX8_ifDropped wsX8_checkWhat := goodIn_ca (goodIn_r _ [15, 16, 17] (by decide +kernel) (by decide +kernel)) (goodIn_sub (fun _ h => List.mem_cons_of_mem _ (List.mem_append_right _ h)) (by decide +kernel))
set_option maxRecDepth 20000 in
theorem gX8_ifDropped_X8_checkWhat : GoodIn wsX8_ifDropped (va_wsS RX8 213 yX8_checkWhat wsX8_checkWhat) := goodIn_app (goodIn_of _ (by decide +kernel)) ggX8_ifDropped_X8_checkWhat
set_option maxRecDepth 20000 in
theorem ggX8_ifDropped_X8_goodCitationsOf : GoodIn wsX8_ifDropped wsX8_goodCitationsOf := goodIn_r _ [21, 22, 23, 24, 8, 25, 2, 26, 27, 28, 29, 30, 31, 32, 33, 63, 64, 65, 66, 67, 68, 69, 70, 71, 80, 81, 82, 83, 84, 85, 86, 87, 88] (by decide +kernel) (by decide +kernel)
set_option maxRecDepth 20000 in
theorem gX8_ifDropped_X8_goodCitationsOf : GoodIn wsX8_ifDropped (wsV RX8 91 RX8 yX8_goodCitationsOf wsX8_goodCitationsOf) := goodIn_app (goodIn_of _ (by decide +kernel)) ggX8_ifDropped_X8_goodCitationsOf
set_option maxRecDepth 20000 in
theorem ggX8_ifDropped_X6_dropOne : GoodIn wsX8_ifDropped wsX6_dropOne := goodIn_r _ [38, 39, 40, 41, 42, 43, 44, 37, 45, 46, 47, 75, 76, 77, 78, 79, 72, 73, 74] (by decide +kernel) (by decide +kernel)
set_option maxRecDepth 20000 in
theorem gX8_ifDropped_X6_dropOne : GoodIn wsX8_ifDropped (wsV RX8 270 RX6 yX6_dropOne wsX6_dropOne) := goodIn_app (goodIn_of _ (by decide +kernel)) ggX8_ifDropped_X6_dropOne
set_option maxRecDepth 20000 in
theorem ggX8_ifDropped_X8_staleWith : GoodIn wsX8_ifDropped wsX8_staleWith := goodIn_r _ [51, 52, 53, 54, 8, 55, 2, 26, 27, 56, 57, 28, 29, 30, 58, 59, 31, 32, 33, 60, 61, 62, 63, 64, 65, 66, 67, 68, 69, 70, 71, 80, 81, 82, 89, 90, 83, 84, 85, 86, 87, 88] (by decide +kernel) (by decide +kernel)
set_option maxRecDepth 20000 in
theorem gX8_ifDropped_X8_staleWith : GoodIn wsX8_ifDropped (wsV RX8 253 RX8 yX8_staleWith wsX8_staleWith) := goodIn_app (goodIn_of _ (by decide +kernel)) ggX8_ifDropped_X8_staleWith
set_option maxRecDepth 20000 in
theorem ggX8_bestMove_X8_checkPlace : GoodIn wsX8_bestMove wsX8_checkPlace := goodIn_ca (goodIn_r _ [10, 11, 12, 1, 2, 3, 60, 61, 62, 63, 64, 65, 66, 67, 68, 69, 70, 71, 72, 73] (by decide +kernel) (by decide +kernel)) (goodIn_sub (fun _ h => List.mem_cons_of_mem _ (List.mem_append_right _ h)) (by decide +kernel))
set_option maxRecDepth 20000 in
theorem gX8_bestMove_X8_checkPlace : GoodIn wsX8_bestMove (wsV RX8 75 RX8 yX8_checkPlace wsX8_checkPlace) := goodIn_app (goodIn_of _ (by decide +kernel)) ggX8_bestMove_X8_checkPlace
set_option maxRecDepth 20000 in
theorem ggX8_bestMove_X6_moveOne : GoodIn wsX8_bestMove wsX6_moveOne := goodIn_r _ [17, 18, 19, 20, 21, 22, 23, 16, 24, 25, 26, 69, 70, 71, 72, 73, 74, 75, 76] (by decide +kernel) (by decide +kernel)
set_option maxRecDepth 20000 in
theorem gX8_bestMove_X6_moveOne : GoodIn wsX8_bestMove (wsV RX8 274 RX6 yX6_moveOne wsX6_moveOne) := goodIn_app (goodIn_of _ (by decide +kernel)) ggX8_bestMove_X6_moveOne
set_option maxRecDepth 20000 in
theorem ggX8_bestMove_X8_staleWith : GoodIn wsX8_bestMove wsX8_staleWith := goodIn_r _ [30, 31, 32, 33, 9, 34, 1, 35, 36, 37, 38, 39, 40, 41, 42, 43, 44, 45, 46, 47, 48, 49, 60, 61, 62, 63, 64, 65, 66, 67, 68, 77, 78, 79, 80, 81, 82, 83, 84, 85, 86, 87] (by decide +kernel) (by decide +kernel)
set_option maxRecDepth 20000 in
theorem gX8_bestMove_X8_staleWith : GoodIn wsX8_bestMove (wsV RX8 253 RX8 yX8_staleWith wsX8_staleWith) := goodIn_app (goodIn_of _ (by decide +kernel)) ggX8_bestMove_X8_staleWith
set_option maxRecDepth 20000 in
theorem ggX8_bestMove_X8_trialBinders : GoodIn wsX8_bestMove wsX8_trialBinders := goodIn_r _ [53, 4, 54, 55, 1, 2, 56, 57, 58, 9, 59, 60, 61, 62, 63, 64, 65, 74, 75, 76, 66, 67, 68, 69, 70, 71, 72, 73] (by decide +kernel) (by decide +kernel)
set_option maxRecDepth 20000 in
theorem gX8_bestMove_X8_trialBinders : GoodIn wsX8_bestMove (wsV RX8 267 RX8 yX8_trialBinders wsX8_trialBinders) := goodIn_app (goodIn_of _ (by decide +kernel)) ggX8_bestMove_X8_trialBinders
set_option maxRecDepth 20000 in
theorem ggX8_leastPages_X8_bindersFor : GoodIn wsX8_leastPages wsX8_bindersFor := goodIn_r _ [10] (by decide +kernel) (by decide +kernel)
set_option maxRecDepth 20000 in
theorem gX8_leastPages_X8_bindersFor : GoodIn wsX8_leastPages (va_wsS RX8 279 yX8_bindersFor wsX8_bindersFor) := goodIn_app (goodIn_of _ (by decide +kernel)) ggX8_leastPages_X8_bindersFor
set_option maxRecDepth 20000 in
theorem ggX8_citedShare_X8_citedExhibits : GoodIn wsX8_citedShare wsX8_citedExhibits := goodIn_r _ [8, 1, 2, 3, 9, 10, 11, 7, 12, 13, 14, 15, 16, 17, 18, 19, 20, 21, 22, 23, 24, 25, 26, 27, 28, 29, 30, 31, 32, 33, 34, 35, 36, 37, 38, 39, 40, 41, 42, 43, 44, 45, 46, 47] (by decide +kernel) (by decide +kernel)
set_option maxRecDepth 20000 in
theorem gX8_citedShare_X8_citedExhibits : GoodIn wsX8_citedShare (wsV RX8 257 RX8 yX8_citedExhibits wsX8_citedExhibits) := goodIn_app (goodIn_of _ (by decide +kernel)) ggX8_citedShare_X8_citedExhibits
set_option maxRecDepth 20000 in
theorem ggX8_digest_X8_count : GoodIn wsX8_digest wsX8_count := goodIn_ca (goodIn_r _ [12, 2, 3, 4, 13, 14, 15, 16, 17, 18, 19, 20, 11, 21, 22, 23, 24, 25, 26, 27, 28, 29, 30, 31, 32, 33, 34, 35, 36, 37, 38, 39, 40, 41, 42, 43, 44, 45, 46, 47, 48, 49, 50, 51, 52, 53, 54, 55, 56, 57, 58, 59, 60, 61, 62, 63, 64, 65, 66, 67, 68, 69, 70, 71, 72, 73, 74, 75, 76, 194, 195, 196, 197, 198, 199, 200, 201, 202, 203, 204, 205, 206, 207, 214, 215, 216, 217, 218, 219, 220, 221, 222, 223, 224, 225, 226, 227] (by decide +kernel) (by decide +kernel)) (goodIn_sub (fun _ h => List.mem_cons_of_mem _ (List.mem_append_left _ (List.mem_append_right _ h))) (by decide +kernel))
set_option maxRecDepth 20000 in
theorem gX8_digest_X8_count : GoodIn wsX8_digest (wsV RX8 285 RX8 yX8_count wsX8_count) := goodIn_app (goodIn_of _ (by decide +kernel)) ggX8_digest_X8_count
set_option maxRecDepth 20000 in
theorem ggX8_digest_X8_mixed : GoodIn wsX8_digest wsX8_mixed := goodIn_r _ [79, 80] (by decide +kernel) (by decide +kernel)
set_option maxRecDepth 20000 in
theorem gX8_digest_X8_mixed : GoodIn wsX8_digest (va_wsS RX8 287 yX8_mixed wsX8_mixed) := goodIn_app (goodIn_of _ (by decide +kernel)) ggX8_digest_X8_mixed
set_option maxRecDepth 20000 in
theorem ggX8_digest_X8_mixedWithExhibit : GoodIn wsX8_digest wsX8_mixedWithExhibit := goodIn_ca (goodIn_ca (goodIn_r _ [84, 85, 86, 87, 11, 88, 22, 23, 2, 3, 4, 89, 90, 13, 91, 92, 93, 19, 20, 21, 94, 95, 96, 97, 35, 36, 59, 46, 47, 48, 77, 78, 79, 80, 98, 99, 100, 101, 102, 103, 104, 105, 106, 107, 73, 74, 75, 76, 45, 108, 109, 110, 111, 112, 113, 69, 70, 71, 72, 114, 115, 116, 117, 118, 119, 120, 121, 122, 123, 124, 125, 126, 127, 49, 50, 51, 52, 53, 54, 55, 56, 57, 58, 60, 61, 62, 63, 64, 128, 129, 130, 131, 132, 133, 134, 135, 136, 137, 138, 139, 140, 141, 16, 142, 143, 144, 194, 195, 196, 197, 198, 199, 200, 201, 202, 203, 204, 205, 206, 207, 214, 215, 216, 217, 218, 219, 223, 224, 225, 228, 229, 230, 226, 227] (by decide +kernel) (by decide +kernel)) (goodIn_sub (fun _ h => List.mem_cons_of_mem _ (List.mem_append_left _ (List.mem_append_right _ h))) (by decide +kernel))) (goodIn_sub (fun _ h => List.mem_cons_of_mem _ (List.mem_append_right _ h)) (by decide +kernel))
set_option maxRecDepth 20000 in
theorem gX8_digest_X8_mixedWithExhibit : GoodIn wsX8_digest (wsV RX8 291 RX8 yX8_mixedWithExhibit wsX8_mixedWithExhibit) := goodIn_app (goodIn_of _ (by decide +kernel)) ggX8_digest_X8_mixedWithExhibit
set_option maxRecDepth 20000 in
theorem ggX8_digest_X8_mixedWithParagraph : GoodIn wsX8_digest wsX8_mixedWithParagraph := goodIn_ca (goodIn_ca (goodIn_r _ [148, 2, 35, 36, 149, 150, 151, 11, 152, 15, 57, 58, 153, 154, 155, 106, 107, 19, 20, 21, 22, 23, 41, 42, 43, 44, 13, 45, 46, 47, 48, 53, 54, 55, 56, 59, 60, 61, 62, 63, 64, 77, 78, 79, 80, 156, 157, 158, 159, 160, 161, 162, 163, 164, 93, 194, 195, 196, 197, 198, 199, 200, 201, 202, 223, 224, 225, 226, 227, 214, 215, 216, 217, 218, 219] (by decide +kernel) (by decide +kernel)) (goodIn_sub (fun _ h => List.mem_cons_of_mem _ (List.mem_append_right _ h)) (by decide +kernel))) (goodIn_sub (fun _ h => List.mem_cons_of_mem _ (List.mem_append_left _ (List.mem_append_right _ h))) (by decide +kernel))
set_option maxRecDepth 20000 in
theorem gX8_digest_X8_mixedWithParagraph : GoodIn wsX8_digest (wsV RX8 295 RX8 yX8_mixedWithParagraph wsX8_mixedWithParagraph) := goodIn_app (goodIn_of _ (by decide +kernel)) ggX8_digest_X8_mixedWithParagraph
set_option maxRecDepth 20000 in
theorem ggX8_digest_X8_ifInserted : GoodIn wsX8_digest wsX8_ifInserted := goodIn_ca (goodIn_ca (goodIn_r _ [168, 112, 2, 3, 113, 169, 170, 171, 11, 172, 106, 107, 4, 173, 174, 175, 22, 23, 19, 20, 21, 176, 177, 178, 117, 179, 119, 120, 126, 121, 122, 123, 124, 125, 127, 49, 50, 51, 52, 53, 54, 55, 56, 35, 36, 57, 58, 13, 59, 45, 60, 61, 46, 47, 48, 62, 63, 64, 136, 137, 138, 139, 140, 141, 16, 142, 143, 144, 194, 195, 196, 197, 198, 199, 200, 201, 202, 228, 229, 230, 203, 204, 205, 206, 207, 223, 224, 225, 226, 227, 214, 215, 216, 217, 218, 219] (by decide +kernel) (by decide +kernel)) (goodIn_sub (fun _ h => List.mem_cons_of_mem _ (List.mem_append_right _ h)) (by decide +kernel))) (goodIn_sub (fun _ h => List.mem_cons_of_mem _ (List.mem_append_left _ (List.mem_append_right _ h))) (by decide +kernel))
set_option maxRecDepth 20000 in
theorem gX8_digest_X8_ifInserted : GoodIn wsX8_digest (wsV RX8 298 RX8 yX8_ifInserted wsX8_ifInserted) := goodIn_app (goodIn_of _ (by decide +kernel)) ggX8_digest_X8_ifInserted
set_option maxRecDepth 20000 in
theorem ggX8_digest_X8_leastPages : GoodIn wsX8_digest wsX8_leastPages := goodIn_ca (goodIn_r _ [183, 22, 23, 2, 3, 90, 4, 142, 143, 11, 144, 194, 195, 196, 197, 198, 199, 200, 201, 202, 203, 204, 205, 206, 207] (by decide +kernel) (by decide +kernel)) (goodIn_sub (fun _ h => List.mem_cons_of_mem _ (List.mem_append_left _ (List.mem_append_right _ h))) (by decide +kernel))
set_option maxRecDepth 20000 in
theorem gX8_digest_X8_leastPages : GoodIn wsX8_digest (wsV RX8 302 RX8 yX8_leastPages wsX8_leastPages) := goodIn_app (goodIn_of _ (by decide +kernel)) ggX8_digest_X8_leastPages
set_option maxRecDepth 20000 in
theorem ggX8_digest_X8_citedShare : GoodIn wsX8_digest wsX8_citedShare := goodIn_r _ [187, 2, 3, 4, 65, 66, 67, 11, 68, 69, 70, 71, 72, 73, 74, 75, 76, 35, 36, 13, 59, 45, 46, 47, 48, 194, 195, 196, 197, 198, 199, 200, 201, 202, 203, 204, 205, 206, 207, 223, 224, 225, 214, 215, 216, 217, 218, 219] (by decide +kernel) (by decide +kernel)
set_option maxRecDepth 20000 in
theorem gX8_digest_X8_citedShare : GoodIn wsX8_digest (wsV RX8 305 RX8 yX8_citedShare wsX8_citedShare) := goodIn_app (goodIn_of _ (by decide +kernel)) ggX8_digest_X8_citedShare
set_option maxRecDepth 20000 in
theorem ggX8_digest_X8_bitsOfShare : GoodIn wsX8_digest wsX8_bitsOfShare := goodIn_r _ [190, 191, 192, 193] (by decide +kernel) (by decide +kernel)
set_option maxRecDepth 20000 in
theorem gX8_digest_X8_bitsOfShare : GoodIn wsX8_digest (va_wsS RX8 309 yX8_bitsOfShare wsX8_bitsOfShare) := goodIn_app (goodIn_of _ (by decide +kernel)) ggX8_digest_X8_bitsOfShare
set_option maxRecDepth 20000 in
theorem ggX8_mixedWithExhibit_X8_exhibit : GoodIn wsX8_mixedWithExhibit wsX8_exhibit := goodIn_ca (goodIn_r _ [5, 6, 7, 8, 9, 10, 11, 12, 13, 14, 15, 16, 17, 18, 4, 19, 20, 21, 22, 23, 24, 25, 26, 27, 28, 29, 106, 107, 108, 109, 110, 111, 112, 113, 114, 115, 116, 117, 118, 119, 120, 121, 122, 123, 124, 125, 126, 127, 128] (by decide +kernel) (by decide +kernel)) (goodIn_sub (fun _ h => List.mem_cons_of_mem _ (List.mem_append_left _ (List.mem_append_right _ h))) (by decide +kernel))
set_option maxRecDepth 20000 in
theorem gX8_mixedWithExhibit_X8_exhibit : GoodIn wsX8_mixedWithExhibit (wsV RX8 316 RX8 yX8_exhibit wsX8_exhibit) := goodIn_app (goodIn_of _ (by decide +kernel)) ggX8_mixedWithExhibit_X8_exhibit
set_option maxRecDepth 20000 in
theorem ggX8_mixedWithExhibit_X8_mixed : GoodIn wsX8_mixedWithExhibit wsX8_mixed := goodIn_r _ [32, 33] (by decide +kernel) (by decide +kernel)
set_option maxRecDepth 20000 in
theorem gX8_mixedWithExhibit_X8_mixed : GoodIn wsX8_mixedWithExhibit (va_wsS RX8 287 yX8_mixed wsX8_mixed) := goodIn_app (goodIn_of _ (by decide +kernel)) ggX8_mixedWithExhibit_X8_mixed
set_option maxRecDepth 20000 in
theorem ggX8_mixedWithExhibit_X8_table : GoodIn wsX8_mixedWithExhibit wsX8_table := goodIn_ca (goodIn_r _ [37, 38, 39, 40, 4, 41, 42, 43, 8, 9, 10, 44, 45, 46, 47, 24, 25, 13, 26, 48, 27, 28, 29, 106, 107, 108, 109, 110, 111, 112, 113, 114, 115, 116, 117, 118, 119, 126, 127, 128, 120, 121, 122, 123, 124, 125] (by decide +kernel) (by decide +kernel)) (goodIn_sub (fun _ h => List.mem_cons_of_mem _ (List.mem_append_right _ h)) (by decide +kernel))
set_option maxRecDepth 20000 in
theorem gX8_mixedWithExhibit_X8_table : GoodIn wsX8_mixedWithExhibit (wsV RX8 319 RX8 yX8_table wsX8_table) := goodIn_app (goodIn_of _ (by decide +kernel)) ggX8_mixedWithExhibit_X8_table
set_option maxRecDepth 20000 in
theorem ggX8_mixedWithExhibit_X8_ifDropped : GoodIn wsX8_mixedWithExhibit wsX8_ifDropped := goodIn_ca (goodIn_ca (goodIn_r _ [52, 53, 8, 9, 54, 38, 39, 40, 4, 41, 42, 43, 10, 17, 18, 19, 6, 7, 55, 56, 57, 58, 44, 45, 46, 47, 24, 25, 13, 26, 48, 27, 28, 29, 59, 60, 61, 62, 63, 64, 65, 66, 67, 68, 69, 70, 71, 72, 73, 74, 75, 76, 77, 78, 79, 80, 81, 82, 83, 84, 85, 86, 87, 106, 107, 108, 109, 110, 111, 112, 113, 114, 129, 130, 131, 115, 116, 117, 118, 119, 126, 127, 128, 120, 121, 122, 123, 124, 125, 132, 133] (by decide +kernel) (by decide +kernel)) (goodIn_sub (fun _ h => List.mem_cons_of_mem _ (List.mem_append_right _ h)) (by decide +kernel))) (goodIn_sub (fun _ h => List.mem_cons_of_mem _ (List.mem_append_left _ (List.mem_append_right _ h))) (by decide +kernel))
set_option maxRecDepth 20000 in
theorem gX8_mixedWithExhibit_X8_ifDropped : GoodIn wsX8_mixedWithExhibit (wsV RX8 322 RX8 yX8_ifDropped wsX8_ifDropped) := goodIn_app (goodIn_of _ (by decide +kernel)) ggX8_mixedWithExhibit_X8_ifDropped
set_option maxRecDepth 20000 in
theorem ggX8_mixedWithExhibit_X8_bestMove : GoodIn wsX8_mixedWithExhibit wsX8_bestMove := goodIn_ca (goodIn_r _ [91, 8, 9, 10, 53, 54, 38, 39, 40, 4, 41, 42, 43, 92, 93, 94, 62, 95, 64, 65, 66, 67, 68, 69, 70, 71, 72, 73, 74, 75, 76, 77, 78, 79, 80, 24, 25, 81, 82, 13, 26, 48, 83, 84, 27, 28, 29, 85, 86, 87, 96, 97, 98, 99, 100, 101, 102, 103, 104, 105, 106, 107, 108, 109, 110, 111, 112, 113, 114, 115, 116, 117, 118, 119, 129, 130, 131, 126, 127, 128, 132, 133, 120, 121, 122, 123, 124, 125] (by decide +kernel) (by decide +kernel)) (goodIn_sub (fun _ h => List.mem_cons_of_mem _ (List.mem_append_right _ h)) (by decide +kernel))
set_option maxRecDepth 20000 in
theorem gX8_mixedWithExhibit_X8_bestMove : GoodIn wsX8_mixedWithExhibit (wsV RX8 325 RX8 yX8_bestMove wsX8_bestMove) := goodIn_app (goodIn_of _ (by decide +kernel)) ggX8_mixedWithExhibit_X8_bestMove
set_option maxRecDepth 20000 in
theorem ggX8_mixedWithParagraph_X8_paragraph : GoodIn wsX8_mixedWithParagraph wsX8_paragraph := goodIn_ca (goodIn_ca (goodIn_r _ [8, 1, 2, 3, 9, 10, 11, 12, 13, 7, 14, 15, 16, 17, 18, 19, 20, 21, 22, 23, 24, 25, 26, 27, 28, 29, 30, 31, 32, 33, 34, 35, 36, 37, 38, 39, 40, 55, 56, 57, 58, 59, 60, 61, 62, 63, 64, 65, 66, 67, 68, 69, 70, 71, 72, 73, 74] (by decide +kernel) (by decide +kernel)) (goodIn_sub (fun _ h => List.mem_cons_of_mem _ (List.mem_append_left _ (List.mem_append_right _ h))) (by decide +kernel))) (goodIn_sub (fun _ h => List.mem_cons_of_mem _ (List.mem_append_right _ h)) (by decide +kernel))
set_option maxRecDepth 20000 in
theorem gX8_mixedWithParagraph_X8_paragraph : GoodIn wsX8_mixedWithParagraph (wsV RX8 328 RX8 yX8_paragraph wsX8_paragraph) := goodIn_app (goodIn_of _ (by decide +kernel)) ggX8_mixedWithParagraph_X8_paragraph
set_option maxRecDepth 20000 in
theorem ggX8_mixedWithParagraph_X8_mixed : GoodIn wsX8_mixedWithParagraph wsX8_mixed := goodIn_r _ [43, 44] (by decide +kernel) (by decide +kernel)
set_option maxRecDepth 20000 in
theorem gX8_mixedWithParagraph_X8_mixed : GoodIn wsX8_mixedWithParagraph (va_wsS RX8 287 yX8_mixed wsX8_mixed) := goodIn_app (goodIn_of _ (by decide +kernel)) ggX8_mixedWithParagraph_X8_mixed
set_option maxRecDepth 20000 in
theorem ggX8_mixedWithParagraph_X8_citation : GoodIn wsX8_mixedWithParagraph wsX8_citation := goodIn_ca (goodIn_ca (goodIn_r _ [48, 20, 21, 1, 2, 3, 49, 26, 35, 36, 27, 12, 13, 7, 14, 15, 16, 17, 18, 19, 28, 29, 30, 50, 51, 52, 53, 54, 55, 56, 57, 58, 59, 60, 61, 62, 63, 64, 65, 66, 69, 70, 71, 72, 73, 74] (by decide +kernel) (by decide +kernel)) (goodIn_sub (fun _ h => List.mem_cons_of_mem _ (List.mem_append_right _ h)) (by decide +kernel))) (goodIn_sub (fun _ h => List.mem_cons_of_mem _ (List.mem_append_left _ (List.mem_append_right _ h))) (by decide +kernel))
set_option maxRecDepth 20000 in
theorem gX8_mixedWithParagraph_X8_citation : GoodIn wsX8_mixedWithParagraph (wsV RX8 331 RX8 yX8_citation wsX8_citation) := goodIn_app (goodIn_of _ (by decide +kernel)) ggX8_mixedWithParagraph_X8_citation
set_option maxRecDepth 20000 in
theorem ggX8_citationsOf_X8_cellOf : GoodIn wsX8_citationsOf wsX8_cellOf := goodIn_r _ [9] (by decide +kernel) (by decide +kernel)
set_option maxRecDepth 20000 in
theorem gX8_citationsOf_X8_cellOf : GoodIn wsX8_citationsOf (va_wsS RX8 158 yX8_cellOf wsX8_cellOf) := goodIn_app (goodIn_of _ (by decide +kernel)) ggX8_citationsOf_X8_cellOf
set_option maxRecDepth 20000 in
theorem ggX8_goodCitationsOf_X8_goodCitationsIn : GoodIn wsX8_goodCitationsOf wsX8_goodCitationsIn := goodIn_r _ [5, 6, 7, 8, 9, 10, 11, 12, 13, 4, 14, 15, 16, 17, 18, 19, 20, 21, 22, 23, 24, 25, 26, 27, 28, 29, 30, 31, 32] (by decide +kernel) (by decide +kernel)
set_option maxRecDepth 20000 in
theorem gX8_goodCitationsOf_X8_goodCitationsIn : GoodIn wsX8_goodCitationsOf (wsV RX8 238 RX8 yX8_goodCitationsIn wsX8_goodCitationsIn) := goodIn_app (goodIn_of _ (by decide +kernel)) ggX8_goodCitationsOf_X8_goodCitationsIn
set_option maxRecDepth 20000 in
theorem ggX8_goodCitationsIn_X8_cellOf : GoodIn wsX8_goodCitationsIn wsX8_cellOf := goodIn_r _ [10] (by decide +kernel) (by decide +kernel)
set_option maxRecDepth 20000 in
theorem gX8_goodCitationsIn_X8_cellOf : GoodIn wsX8_goodCitationsIn (va_wsS RX8 158 yX8_cellOf wsX8_cellOf) := goodIn_app (goodIn_of _ (by decide +kernel)) ggX8_goodCitationsIn_X8_cellOf
set_option maxRecDepth 20000 in
theorem ggX8_citedExhibits_X8_goodCitationsOf : GoodIn wsX8_citedExhibits wsX8_goodCitationsOf := goodIn_r _ [8, 9, 10, 11, 7, 12, 1, 13, 14, 15, 16, 17, 18, 19, 20, 21, 22, 23, 24, 25, 26, 27, 28, 29, 35, 36, 37, 38, 39, 40, 41, 42, 43] (by decide +kernel) (by decide +kernel)
set_option maxRecDepth 20000 in
theorem gX8_citedExhibits_X8_goodCitationsOf : GoodIn wsX8_citedExhibits (wsV RX8 91 RX8 yX8_goodCitationsOf wsX8_goodCitationsOf) := goodIn_app (goodIn_of _ (by decide +kernel)) ggX8_citedExhibits_X8_goodCitationsOf
set_option maxRecDepth 20000 in
theorem ggX8_allLost_X8_lostIn : GoodIn wsX8_allLost wsX8_lostIn := goodIn_r _ [5, 6, 7, 8, 9, 10, 11, 12, 4, 13, 14, 15, 16, 17, 18, 19, 20, 21, 22, 23, 24, 25, 26, 27, 28, 29, 30, 31] (by decide +kernel) (by decide +kernel)
set_option maxRecDepth 20000 in
theorem gX8_allLost_X8_lostIn : GoodIn wsX8_allLost (wsV RX8 235 RX8 yX8_lostIn wsX8_lostIn) := goodIn_app (goodIn_of _ (by decide +kernel)) ggX8_allLost_X8_lostIn
set_option maxRecDepth 20000 in
theorem ggX8_lostIn_X8_cellOf : GoodIn wsX8_lostIn wsX8_cellOf := goodIn_r _ [9] (by decide +kernel) (by decide +kernel)
set_option maxRecDepth 20000 in
theorem gX8_lostIn_X8_cellOf : GoodIn wsX8_lostIn (va_wsS RX8 158 yX8_cellOf wsX8_cellOf) := goodIn_app (goodIn_of _ (by decide +kernel)) ggX8_lostIn_X8_cellOf
set_option maxRecDepth 20000 in
theorem ggX8_staleWith_X8_isStale : GoodIn wsX8_staleWith wsX8_isStale := goodIn_r _ [5, 6, 7, 8, 9, 10, 11, 12, 13, 14, 15, 16, 17, 4, 18, 19, 20, 21, 22, 23, 24, 25, 26, 27, 28, 29, 30, 31, 32, 33, 34, 35, 36, 37, 38, 39, 40, 41] (by decide +kernel) (by decide +kernel)
set_option maxRecDepth 20000 in
theorem gX8_staleWith_X8_isStale : GoodIn wsX8_staleWith (wsV RX8 147 RX8 yX8_isStale wsX8_isStale) := goodIn_app (goodIn_of _ (by decide +kernel)) ggX8_staleWith_X8_isStale
set_option maxRecDepth 20000 in
theorem ggX8_isStale_X8_cellOf : GoodIn wsX8_isStale wsX8_cellOf := goodIn_r _ [14] (by decide +kernel) (by decide +kernel)
set_option maxRecDepth 20000 in
theorem gX8_isStale_X8_cellOf : GoodIn wsX8_isStale (va_wsS RX8 158 yX8_cellOf wsX8_cellOf) := goodIn_app (goodIn_of _ (by decide +kernel)) ggX8_isStale_X8_cellOf
set_option maxRecDepth 20000 in
theorem ggX8_isStale_X8_markOf : GoodIn wsX8_isStale wsX8_markOf := goodIn_r _ [17] (by decide +kernel) (by decide +kernel)
set_option maxRecDepth 20000 in
theorem gX8_isStale_X8_markOf : GoodIn wsX8_isStale (va_wsS RX8 168 yX8_markOf wsX8_markOf) := goodIn_app (goodIn_of _ (by decide +kernel)) ggX8_isStale_X8_markOf
set_option maxRecDepth 20000 in
theorem ggX8_trialBinders_X8_bindersFor : GoodIn wsX8_trialBinders wsX8_bindersFor := goodIn_r _ [10] (by decide +kernel) (by decide +kernel)
set_option maxRecDepth 20000 in
theorem gX8_trialBinders_X8_bindersFor : GoodIn wsX8_trialBinders (va_wsS RX8 279 yX8_bindersFor wsX8_bindersFor) := goodIn_app (goodIn_of _ (by decide +kernel)) ggX8_trialBinders_X8_bindersFor
set_option maxRecDepth 20000 in
theorem ggX9_isPlace_X9_in : GoodIn wsX9_isPlace wsX9_in := goodIn_r _ [5] (by decide +kernel) (by decide +kernel)
set_option maxRecDepth 20000 in
theorem gX9_isPlace_X9_in : GoodIn wsX9_isPlace (va_wsS RX9 29 yX9_in wsX9_in) := goodIn_app (goodIn_of _ (by decide +kernel)) ggX9_isPlace_X9_in
set_option maxRecDepth 20000 in
theorem ggX9_arePages_X9_in : GoodIn wsX9_arePages wsX9_in := goodIn_r _ [4] (by decide +kernel) (by decide +kernel)
set_option maxRecDepth 20000 in
theorem gX9_arePages_X9_in : GoodIn wsX9_arePages (va_wsS RX9 29 yX9_in wsX9_in) := goodIn_app (goodIn_of _ (by decide +kernel)) ggX9_arePages_X9_in
set_option maxRecDepth 20000 in
theorem ggX9_isParagraph_X9_in : GoodIn wsX9_isParagraph wsX9_in := goodIn_r _ [4] (by decide +kernel) (by decide +kernel)
set_option maxRecDepth 20000 in
theorem gX9_isParagraph_X9_in : GoodIn wsX9_isParagraph (va_wsS RX9 29 yX9_in wsX9_in) := goodIn_app (goodIn_of _ (by decide +kernel)) ggX9_isParagraph_X9_in
set_option maxRecDepth 20000 in
theorem ggX9_saves_X9_copies : GoodIn wsX9_saves wsX9_copies := goodIn_r _ [7] (by decide +kernel) (by decide +kernel)
set_option maxRecDepth 20000 in
theorem gX9_saves_X9_copies : GoodIn wsX9_saves (va_wsS RX9 36 yX9_copies wsX9_copies) := goodIn_app (goodIn_of _ (by decide +kernel)) ggX9_saves_X9_copies
set_option maxRecDepth 20000 in
theorem ggX9_undo_X9_fails : GoodIn wsX9_undo wsX9_fails := goodIn_r _ [9, 1, 13, 14, 15, 16, 17, 18, 19, 20, 21, 22, 23] (by decide +kernel) (by decide +kernel)
set_option maxRecDepth 20000 in
theorem gX9_undo_X9_fails : GoodIn wsX9_undo (wsV RX9 40 RX9 yX9_fails wsX9_fails) := goodIn_app (goodIn_of _ (by decide +kernel)) ggX9_undo_X9_fails
set_option maxRecDepth 20000 in
theorem ggX9_undo_X9_copies : GoodIn wsX9_undo wsX9_copies := goodIn_r _ [12] (by decide +kernel) (by decide +kernel)
set_option maxRecDepth 20000 in
theorem gX9_undo_X9_copies : GoodIn wsX9_undo (va_wsS RX9 36 yX9_copies wsX9_copies) := goodIn_app (goodIn_of _ (by decide +kernel)) ggX9_undo_X9_copies
set_option maxRecDepth 20000 in
theorem ggX9_letter_X9_index : GoodIn wsX9_letter wsX9_index := goodIn_r _ [4] (by decide +kernel) (by decide +kernel)
set_option maxRecDepth 20000 in
theorem gX9_letter_X9_index : GoodIn wsX9_letter (va_wsS RX9 44 yX9_index wsX9_index) := goodIn_app (goodIn_of _ (by decide +kernel)) ggX9_letter_X9_index
set_option maxRecDepth 20000 in
theorem ggX9_letter_X9_placeOf : GoodIn wsX9_letter wsX9_placeOf := goodIn_r _ [7] (by decide +kernel) (by decide +kernel)
set_option maxRecDepth 20000 in
theorem gX9_letter_X9_placeOf : GoodIn wsX9_letter (va_wsS RX9 48 yX9_placeOf wsX9_placeOf) := goodIn_app (goodIn_of _ (by decide +kernel)) ggX9_letter_X9_placeOf
set_option maxRecDepth 20000 in
theorem ggX9_isLost_X9_letter : GoodIn wsX9_isLost wsX9_letter := goodIn_r _ [4, 5, 6, 3, 7, 8, 9, 10] (by decide +kernel) (by decide +kernel)
set_option maxRecDepth 20000 in
theorem gX9_isLost_X9_letter : GoodIn wsX9_isLost (va_wsS RX9 52 yX9_letter wsX9_letter) := goodIn_app (goodIn_of _ (by decide +kernel)) ggX9_isLost_X9_letter
set_option maxRecDepth 20000 in
theorem ggX9_isLost_X9_index : GoodIn wsX9_isLost wsX9_index := goodIn_r _ [7] (by decide +kernel) (by decide +kernel)
set_option maxRecDepth 20000 in
theorem gX9_isLost_X9_index : GoodIn wsX9_isLost (va_wsS RX9 44 yX9_index wsX9_index) := goodIn_app (goodIn_of _ (by decide +kernel)) ggX9_isLost_X9_index
set_option maxRecDepth 20000 in
theorem ggX9_isLost_X9_pagesOf : GoodIn wsX9_isLost wsX9_pagesOf := goodIn_r _ [13] (by decide +kernel) (by decide +kernel)
set_option maxRecDepth 20000 in
theorem gX9_isLost_X9_pagesOf : GoodIn wsX9_isLost (va_wsS RX9 56 yX9_pagesOf wsX9_pagesOf) := goodIn_app (goodIn_of _ (by decide +kernel)) ggX9_isLost_X9_pagesOf
set_option maxRecDepth 20000 in
theorem ggX9_lost_X9_cites : GoodIn wsX9_lost wsX9_cites := goodIn_r _ [4] (by decide +kernel) (by decide +kernel)
set_option maxRecDepth 20000 in
theorem gX9_lost_X9_cites : GoodIn wsX9_lost (va_wsS RX9 59 yX9_cites wsX9_cites) := goodIn_app (goodIn_of _ (by decide +kernel)) ggX9_lost_X9_cites
set_option maxRecDepth 20000 in
theorem ggX9_lost_X9_isLost : GoodIn wsX9_lost wsX9_isLost := goodIn_r _ [7, 8, 9, 3, 10, 11, 12, 13, 14, 15, 16, 17, 18, 19] (by decide +kernel) (by decide +kernel)
set_option maxRecDepth 20000 in
theorem gX9_lost_X9_isLost : GoodIn wsX9_lost (va_wsS RX9 62 yX9_isLost wsX9_isLost) := goodIn_app (goodIn_of _ (by decide +kernel)) ggX9_lost_X9_isLost
set_option maxRecDepth 20000 in
theorem ggX9_allLost_X9_lost : GoodIn wsX9_allLost wsX9_lost := goodIn_r _ [4, 5, 6, 3, 7, 8, 9, 10, 11, 12, 13, 14, 15, 16, 17, 18, 19, 20, 21, 22] (by decide +kernel) (by decide +kernel)
set_option maxRecDepth 20000 in
theorem gX9_allLost_X9_lost : GoodIn wsX9_allLost (va_wsS RX9 66 yX9_lost wsX9_lost) := goodIn_app (goodIn_of _ (by decide +kernel)) ggX9_allLost_X9_lost
set_option maxRecDepth 20000 in
theorem ggX9_isStale_X9_cites : GoodIn wsX9_isStale wsX9_cites := goodIn_r _ [4] (by decide +kernel) (by decide +kernel)
set_option maxRecDepth 20000 in
theorem gX9_isStale_X9_cites : GoodIn wsX9_isStale (va_wsS RX9 59 yX9_cites wsX9_cites) := goodIn_app (goodIn_of _ (by decide +kernel)) ggX9_isStale_X9_cites
set_option maxRecDepth 20000 in
theorem ggX9_isStale_X9_letter : GoodIn wsX9_isStale wsX9_letter := goodIn_r _ [7, 8, 9, 3, 10, 11, 12, 13] (by decide +kernel) (by decide +kernel)
set_option maxRecDepth 20000 in
theorem gX9_isStale_X9_letter : GoodIn wsX9_isStale (va_wsS RX9 52 yX9_letter wsX9_letter) := goodIn_app (goodIn_of _ (by decide +kernel)) ggX9_isStale_X9_letter
set_option maxRecDepth 20000 in
theorem ggX9_isStale_X9_index : GoodIn wsX9_isStale wsX9_index := goodIn_r _ [10] (by decide +kernel) (by decide +kernel)
set_option maxRecDepth 20000 in
theorem gX9_isStale_X9_index : GoodIn wsX9_isStale (va_wsS RX9 44 yX9_index wsX9_index) := goodIn_app (goodIn_of _ (by decide +kernel)) ggX9_isStale_X9_index
set_option maxRecDepth 20000 in
theorem ggX9_isStale_X9_isLost : GoodIn wsX9_isStale wsX9_isLost := goodIn_r _ [16, 5, 6, 3, 7, 8, 9, 10, 11, 12, 13, 17, 18, 19] (by decide +kernel) (by decide +kernel)
set_option maxRecDepth 20000 in
theorem gX9_isStale_X9_isLost : GoodIn wsX9_isStale (va_wsS RX9 62 yX9_isLost wsX9_isLost) := goodIn_app (goodIn_of _ (by decide +kernel)) ggX9_isStale_X9_isLost
set_option maxRecDepth 20000 in
theorem ggX9_stale_X9_isStale : GoodIn wsX9_stale wsX9_isStale := goodIn_r _ [4, 5, 6, 3, 7, 8, 9, 10, 11, 12, 13, 14, 15, 16, 17, 18, 19, 20, 21, 22] (by decide +kernel) (by decide +kernel)
set_option maxRecDepth 20000 in
theorem gX9_stale_X9_isStale : GoodIn wsX9_stale (va_wsS RX9 69 yX9_isStale wsX9_isStale) := goodIn_app (goodIn_of _ (by decide +kernel)) ggX9_stale_X9_isStale
set_option maxRecDepth 20000 in
theorem ggX9_lies_X9_pagesOf : GoodIn wsX9_lies wsX9_pagesOf := goodIn_r _ [4] (by decide +kernel) (by decide +kernel)
set_option maxRecDepth 20000 in
theorem gX9_lies_X9_pagesOf : GoodIn wsX9_lies (va_wsS RX9 56 yX9_pagesOf wsX9_pagesOf) := goodIn_app (goodIn_of _ (by decide +kernel)) ggX9_lies_X9_pagesOf
set_option maxRecDepth 20000 in
theorem ggX9_binders_X9_lies : GoodIn wsX9_binders wsX9_lies := goodIn_r _ [4, 5, 6, 3, 7] (by decide +kernel) (by decide +kernel)
set_option maxRecDepth 20000 in
theorem gX9_binders_X9_lies : GoodIn wsX9_binders (va_wsS RX9 73 yX9_lies wsX9_lies) := goodIn_app (goodIn_of _ (by decide +kernel)) ggX9_binders_X9_lies
set_option maxRecDepth 20000 in
theorem ggX9_moves_X9_number : GoodIn wsX9_moves wsX9_number := goodIn_r _ [4] (by decide +kernel) (by decide +kernel)
set_option maxRecDepth 20000 in
theorem gX9_moves_X9_number : GoodIn wsX9_moves (va_wsS RX9 76 yX9_number wsX9_number) := goodIn_app (goodIn_of _ (by decide +kernel)) ggX9_moves_X9_number
set_option maxRecDepth 20000 in
theorem ggX9_moves_X9_pagesOf : GoodIn wsX9_moves wsX9_pagesOf := goodIn_r _ [7] (by decide +kernel) (by decide +kernel)
set_option maxRecDepth 20000 in
theorem gX9_moves_X9_pagesOf : GoodIn wsX9_moves (va_wsS RX9 56 yX9_pagesOf wsX9_pagesOf) := goodIn_app (goodIn_of _ (by decide +kernel)) ggX9_moves_X9_pagesOf
set_option maxRecDepth 20000 in
theorem ggX9_moves_X9_goesOut : GoodIn wsX9_moves wsX9_goesOut := goodIn_r _ [10] (by decide +kernel) (by decide +kernel)
set_option maxRecDepth 20000 in
theorem gX9_moves_X9_goesOut : GoodIn wsX9_moves (va_wsS RX9 79 yX9_goesOut wsX9_goesOut) := goodIn_app (goodIn_of _ (by decide +kernel)) ggX9_moves_X9_goesOut
set_option maxRecDepth 20000 in
theorem ggX9_moves_X9_puts : GoodIn wsX9_moves wsX9_puts := goodIn_r _ [13] (by decide +kernel) (by decide +kernel)
set_option maxRecDepth 20000 in
theorem gX9_moves_X9_puts : GoodIn wsX9_moves (va_wsS RX9 83 yX9_puts wsX9_puts) := goodIn_app (goodIn_of _ (by decide +kernel)) ggX9_moves_X9_puts
set_option maxRecDepth 20000 in
theorem ggX9_comes_X9_puts : GoodIn wsX9_comes wsX9_puts := goodIn_r _ [4] (by decide +kernel) (by decide +kernel)
set_option maxRecDepth 20000 in
theorem gX9_comes_X9_puts : GoodIn wsX9_comes (va_wsS RX9 83 yX9_puts wsX9_puts) := goodIn_app (goodIn_of _ (by decide +kernel)) ggX9_comes_X9_puts
set_option maxRecDepth 20000 in
theorem ggX9_follow_X9_cites : GoodIn wsX9_follow wsX9_cites := goodIn_r _ [4] (by decide +kernel) (by decide +kernel)
set_option maxRecDepth 20000 in
theorem gX9_follow_X9_cites : GoodIn wsX9_follow (va_wsS RX9 59 yX9_cites wsX9_cites) := goodIn_app (goodIn_of _ (by decide +kernel)) ggX9_follow_X9_cites
set_option maxRecDepth 20000 in
theorem ggX9_follow_X9_index : GoodIn wsX9_follow wsX9_index := goodIn_r _ [7] (by decide +kernel) (by decide +kernel)
set_option maxRecDepth 20000 in
theorem gX9_follow_X9_index : GoodIn wsX9_follow (va_wsS RX9 44 yX9_index wsX9_index) := goodIn_app (goodIn_of _ (by decide +kernel)) ggX9_follow_X9_index
set_option maxRecDepth 20000 in
theorem ggX9_insert_X9_in : GoodIn wsX9_insert wsX9_in := goodIn_r _ [6] (by decide +kernel) (by decide +kernel)
set_option maxRecDepth 20000 in
theorem gX9_insert_X9_in : GoodIn wsX9_insert (va_wsS RX9 29 yX9_in wsX9_in) := goodIn_app (goodIn_of _ (by decide +kernel)) ggX9_insert_X9_in
set_option maxRecDepth 20000 in
theorem ggX9_insert_X9_fails : GoodIn wsX9_insert wsX9_fails := goodIn_r _ [10, 1, 29, 30, 31, 32, 33, 34, 35, 36, 37, 38, 39] (by decide +kernel) (by decide +kernel)
set_option maxRecDepth 20000 in
theorem gX9_insert_X9_fails : GoodIn wsX9_insert (wsV RX9 40 RX9 yX9_fails wsX9_fails) := goodIn_app (goodIn_of _ (by decide +kernel)) ggX9_insert_X9_fails
set_option maxRecDepth 20000 in
theorem ggX9_insert_X9_arePages : GoodIn wsX9_insert wsX9_arePages := goodIn_r _ [13, 3, 4, 5, 6] (by decide +kernel) (by decide +kernel)
set_option maxRecDepth 20000 in
theorem gX9_insert_X9_arePages : GoodIn wsX9_insert (va_wsS RX9 87 yX9_arePages wsX9_arePages) := goodIn_app (goodIn_of _ (by decide +kernel)) ggX9_insert_X9_arePages
set_option maxRecDepth 20000 in
theorem ggX9_insert_X9_saves : GoodIn wsX9_insert wsX9_saves := goodIn_r _ [17, 18, 19, 2, 20, 21, 5, 22, 29, 30, 31, 32, 33, 34, 35, 36, 37, 38, 39] (by decide +kernel) (by decide +kernel)
set_option maxRecDepth 20000 in
theorem gX9_insert_X9_saves : GoodIn wsX9_insert (wsV RX9 91 RX9 yX9_saves wsX9_saves) := goodIn_app (goodIn_of _ (by decide +kernel)) ggX9_insert_X9_saves
set_option maxRecDepth 20000 in
theorem ggX9_insert_X9_comes : GoodIn wsX9_insert wsX9_comes := goodIn_r _ [25, 26, 27, 5, 28] (by decide +kernel) (by decide +kernel)
set_option maxRecDepth 20000 in
theorem gX9_insert_X9_comes : GoodIn wsX9_insert (va_wsS RX9 94 yX9_comes wsX9_comes) := goodIn_app (goodIn_of _ (by decide +kernel)) ggX9_insert_X9_comes
set_option maxRecDepth 20000 in
theorem ggX9_move_X9_isPlace : GoodIn wsX9_move wsX9_isPlace := goodIn_r _ [7, 2, 8, 9, 6, 10, 39, 40, 41, 42, 43, 44, 45, 46, 47, 48, 49] (by decide +kernel) (by decide +kernel)
set_option maxRecDepth 20000 in
theorem gX9_move_X9_isPlace : GoodIn wsX9_move (wsV RX9 98 RX9 yX9_isPlace wsX9_isPlace) := goodIn_app (goodIn_of _ (by decide +kernel)) ggX9_move_X9_isPlace
set_option maxRecDepth 20000 in
theorem ggX9_move_X9_fails : GoodIn wsX9_move wsX9_fails := goodIn_r _ [14, 1, 39, 40, 41, 42, 43, 44, 45, 46, 47, 48, 49] (by decide +kernel) (by decide +kernel)
set_option maxRecDepth 20000 in
theorem gX9_move_X9_fails : GoodIn wsX9_move (wsV RX9 40 RX9 yX9_fails wsX9_fails) := goodIn_app (goodIn_of _ (by decide +kernel)) ggX9_move_X9_fails
set_option maxRecDepth 20000 in
theorem ggX9_move_X9_saves : GoodIn wsX9_move wsX9_saves := goodIn_r _ [18, 19, 20, 2, 21, 22, 6, 23, 39, 40, 41, 42, 43, 44, 45, 46, 47, 48, 49] (by decide +kernel) (by decide +kernel)
set_option maxRecDepth 20000 in
theorem gX9_move_X9_saves : GoodIn wsX9_move (wsV RX9 91 RX9 yX9_saves wsX9_saves) := goodIn_app (goodIn_of _ (by decide +kernel)) ggX9_move_X9_saves
set_option maxRecDepth 20000 in
theorem ggX9_move_X9_moves : GoodIn wsX9_move wsX9_moves := goodIn_r _ [26, 27, 28, 6, 29, 30, 31, 32, 33, 34, 35, 36, 37, 38] (by decide +kernel) (by decide +kernel)
set_option maxRecDepth 20000 in
theorem gX9_move_X9_moves : GoodIn wsX9_move (va_wsS RX9 101 yX9_moves wsX9_moves) := goodIn_app (goodIn_of _ (by decide +kernel)) ggX9_move_X9_moves
set_option maxRecDepth 20000 in
theorem ggX9_drop_X9_isPlace : GoodIn wsX9_drop wsX9_isPlace := goodIn_r _ [7, 2, 8, 9, 6, 10, 51, 52, 53, 54, 55, 56, 57, 58, 59, 60, 61] (by decide +kernel) (by decide +kernel)
set_option maxRecDepth 20000 in
theorem gX9_drop_X9_isPlace : GoodIn wsX9_drop (wsV RX9 98 RX9 yX9_isPlace wsX9_isPlace) := goodIn_app (goodIn_of _ (by decide +kernel)) ggX9_drop_X9_isPlace
set_option maxRecDepth 20000 in
theorem ggX9_drop_X9_fails : GoodIn wsX9_drop wsX9_fails := goodIn_r _ [14, 1, 51, 52, 53, 54, 55, 56, 57, 58, 59, 60, 61] (by decide +kernel) (by decide +kernel)
set_option maxRecDepth 20000 in
theorem gX9_drop_X9_fails : GoodIn wsX9_drop (wsV RX9 40 RX9 yX9_fails wsX9_fails) := goodIn_app (goodIn_of _ (by decide +kernel)) ggX9_drop_X9_fails
set_option maxRecDepth 20000 in
theorem ggX9_drop_X9_saves : GoodIn wsX9_drop wsX9_saves := goodIn_r _ [18, 19, 20, 2, 21, 22, 6, 23, 51, 52, 53, 54, 55, 56, 57, 58, 59, 60, 61] (by decide +kernel) (by decide +kernel)
set_option maxRecDepth 20000 in
theorem gX9_drop_X9_saves : GoodIn wsX9_drop (wsV RX9 91 RX9 yX9_saves wsX9_saves) := goodIn_app (goodIn_of _ (by decide +kernel)) ggX9_drop_X9_saves
set_option maxRecDepth 20000 in
theorem ggX9_drop_X9_allLost : GoodIn wsX9_drop wsX9_allLost := goodIn_r _ [26, 27, 28, 6, 29, 30, 31, 32, 33, 34, 35, 36, 37, 38, 39, 40, 41, 42, 43, 44, 45, 46, 47] (by decide +kernel) (by decide +kernel)
set_option maxRecDepth 20000 in
theorem gX9_drop_X9_allLost : GoodIn wsX9_drop (va_wsS RX9 104 yX9_allLost wsX9_allLost) := goodIn_app (goodIn_of _ (by decide +kernel)) ggX9_drop_X9_allLost
set_option maxRecDepth 20000 in
theorem ggX9_drop_X9_goesOut : GoodIn wsX9_drop wsX9_goesOut := goodIn_r _ [50] (by decide +kernel) (by decide +kernel)
set_option maxRecDepth 20000 in
theorem gX9_drop_X9_goesOut : GoodIn wsX9_drop (va_wsS RX9 79 yX9_goesOut wsX9_goesOut) := goodIn_app (goodIn_of _ (by decide +kernel)) ggX9_drop_X9_goesOut
set_option maxRecDepth 20000 in
theorem ggX9_pages_X9_isPlace : GoodIn wsX9_pages wsX9_isPlace := goodIn_r _ [6, 7, 8, 9, 5, 10, 31, 32, 33, 34, 35, 36, 37, 38, 39, 40, 41] (by decide +kernel) (by decide +kernel)
set_option maxRecDepth 20000 in
theorem gX9_pages_X9_isPlace : GoodIn wsX9_pages (wsV RX9 98 RX9 yX9_isPlace wsX9_isPlace) := goodIn_app (goodIn_of _ (by decide +kernel)) ggX9_pages_X9_isPlace
set_option maxRecDepth 20000 in
theorem ggX9_pages_X9_fails : GoodIn wsX9_pages wsX9_fails := goodIn_r _ [14, 1, 31, 32, 33, 34, 35, 36, 37, 38, 39, 40, 41] (by decide +kernel) (by decide +kernel)
set_option maxRecDepth 20000 in
theorem gX9_pages_X9_fails : GoodIn wsX9_pages (wsV RX9 40 RX9 yX9_fails wsX9_fails) := goodIn_app (goodIn_of _ (by decide +kernel)) ggX9_pages_X9_fails
set_option maxRecDepth 20000 in
theorem ggX9_pages_X9_arePages : GoodIn wsX9_pages wsX9_arePages := goodIn_r _ [17, 8, 9, 5, 10] (by decide +kernel) (by decide +kernel)
set_option maxRecDepth 20000 in
theorem gX9_pages_X9_arePages : GoodIn wsX9_pages (va_wsS RX9 87 yX9_arePages wsX9_arePages) := goodIn_app (goodIn_of _ (by decide +kernel)) ggX9_pages_X9_arePages
set_option maxRecDepth 20000 in
theorem ggX9_pages_X9_saves : GoodIn wsX9_pages wsX9_saves := goodIn_r _ [21, 22, 23, 7, 24, 25, 5, 26, 31, 32, 33, 34, 35, 36, 37, 38, 39, 40, 41] (by decide +kernel) (by decide +kernel)
set_option maxRecDepth 20000 in
theorem gX9_pages_X9_saves : GoodIn wsX9_pages (wsV RX9 91 RX9 yX9_saves wsX9_saves) := goodIn_app (goodIn_of _ (by decide +kernel)) ggX9_pages_X9_saves
set_option maxRecDepth 20000 in
theorem ggX9_pages_X9_changes : GoodIn wsX9_pages wsX9_changes := goodIn_r _ [30, 7, 31, 32, 33, 34, 35, 36, 37, 38, 39, 40, 41] (by decide +kernel) (by decide +kernel)
set_option maxRecDepth 20000 in
theorem gX9_pages_X9_changes : GoodIn wsX9_pages (wsV RX9 108 RX9 yX9_changes wsX9_changes) := goodIn_app (goodIn_of _ (by decide +kernel)) ggX9_pages_X9_changes
set_option maxRecDepth 20000 in
theorem ggX9_join_X9_fails : GoodIn wsX9_join wsX9_fails := goodIn_r _ [7, 1, 35, 36, 37, 38, 39, 40, 41, 42, 43, 44, 45] (by decide +kernel) (by decide +kernel)
set_option maxRecDepth 20000 in
theorem gX9_join_X9_fails : GoodIn wsX9_join (wsV RX9 40 RX9 yX9_fails wsX9_fails) := goodIn_app (goodIn_of _ (by decide +kernel)) ggX9_join_X9_fails
set_option maxRecDepth 20000 in
theorem ggX9_join_X9_pagesOf : GoodIn wsX9_join wsX9_pagesOf := goodIn_r _ [10] (by decide +kernel) (by decide +kernel)
set_option maxRecDepth 20000 in
theorem gX9_join_X9_pagesOf : GoodIn wsX9_join (va_wsS RX9 56 yX9_pagesOf wsX9_pagesOf) := goodIn_app (goodIn_of _ (by decide +kernel)) ggX9_join_X9_pagesOf
set_option maxRecDepth 20000 in
theorem ggX9_join_X9_saves : GoodIn wsX9_join wsX9_saves := goodIn_r _ [14, 15, 16, 2, 17, 18, 6, 19, 35, 36, 37, 38, 39, 40, 41, 42, 43, 44, 45] (by decide +kernel) (by decide +kernel)
set_option maxRecDepth 20000 in
theorem gX9_join_X9_saves : GoodIn wsX9_join (wsV RX9 91 RX9 yX9_saves wsX9_saves) := goodIn_app (goodIn_of _ (by decide +kernel)) ggX9_join_X9_saves
set_option maxRecDepth 20000 in
theorem ggX9_join_X9_number : GoodIn wsX9_join wsX9_number := goodIn_r _ [22] (by decide +kernel) (by decide +kernel)
set_option maxRecDepth 20000 in
theorem gX9_join_X9_number : GoodIn wsX9_join (va_wsS RX9 76 yX9_number wsX9_number) := goodIn_app (goodIn_of _ (by decide +kernel)) ggX9_join_X9_number
set_option maxRecDepth 20000 in
theorem ggX9_join_X9_follow : GoodIn wsX9_join wsX9_follow := goodIn_r _ [25, 26, 27, 6, 28, 29, 30, 31] (by decide +kernel) (by decide +kernel)
set_option maxRecDepth 20000 in
theorem gX9_join_X9_follow : GoodIn wsX9_join (va_wsS RX9 111 yX9_follow wsX9_follow) := goodIn_app (goodIn_of _ (by decide +kernel)) ggX9_join_X9_follow
set_option maxRecDepth 20000 in
theorem ggX9_join_X9_goesOut : GoodIn wsX9_join wsX9_goesOut := goodIn_r _ [34] (by decide +kernel) (by decide +kernel)
set_option maxRecDepth 20000 in
theorem gX9_join_X9_goesOut : GoodIn wsX9_join (va_wsS RX9 79 yX9_goesOut wsX9_goesOut) := goodIn_app (goodIn_of _ (by decide +kernel)) ggX9_join_X9_goesOut
set_option maxRecDepth 20000 in
theorem ggX9_split_X9_isPlace : GoodIn wsX9_split wsX9_isPlace := goodIn_r _ [7, 2, 8, 9, 6, 10, 45, 46, 47, 48, 49, 50, 51, 52, 53, 54, 55] (by decide +kernel) (by decide +kernel)
set_option maxRecDepth 20000 in
theorem gX9_split_X9_isPlace : GoodIn wsX9_split (wsV RX9 98 RX9 yX9_isPlace wsX9_isPlace) := goodIn_app (goodIn_of _ (by decide +kernel)) ggX9_split_X9_isPlace
set_option maxRecDepth 20000 in
theorem ggX9_split_X9_fails : GoodIn wsX9_split wsX9_fails := goodIn_r _ [14, 1, 45, 46, 47, 48, 49, 50, 51, 52, 53, 54, 55] (by decide +kernel) (by decide +kernel)
set_option maxRecDepth 20000 in
theorem gX9_split_X9_fails : GoodIn wsX9_split (wsV RX9 40 RX9 yX9_fails wsX9_fails) := goodIn_app (goodIn_of _ (by decide +kernel)) ggX9_split_X9_fails
set_option maxRecDepth 20000 in
theorem ggX9_split_X9_pagesOf : GoodIn wsX9_split wsX9_pagesOf := goodIn_r _ [17] (by decide +kernel) (by decide +kernel)
set_option maxRecDepth 20000 in
theorem gX9_split_X9_pagesOf : GoodIn wsX9_split (va_wsS RX9 56 yX9_pagesOf wsX9_pagesOf) := goodIn_app (goodIn_of _ (by decide +kernel)) ggX9_split_X9_pagesOf
set_option maxRecDepth 20000 in
theorem ggX9_split_X9_in : GoodIn wsX9_split wsX9_in := goodIn_r _ [10] (by decide +kernel) (by decide +kernel)
set_option maxRecDepth 20000 in
theorem gX9_split_X9_in : GoodIn wsX9_split (va_wsS RX9 29 yX9_in wsX9_in) := goodIn_app (goodIn_of _ (by decide +kernel)) ggX9_split_X9_in
set_option maxRecDepth 20000 in
theorem ggX9_split_X9_saves : GoodIn wsX9_split wsX9_saves := goodIn_r _ [21, 22, 23, 2, 24, 25, 6, 26, 45, 46, 47, 48, 49, 50, 51, 52, 53, 54, 55] (by decide +kernel) (by decide +kernel)
set_option maxRecDepth 20000 in
theorem gX9_split_X9_saves : GoodIn wsX9_split (wsV RX9 91 RX9 yX9_saves wsX9_saves) := goodIn_app (goodIn_of _ (by decide +kernel)) ggX9_split_X9_saves
set_option maxRecDepth 20000 in
theorem ggX9_split_X9_number : GoodIn wsX9_split wsX9_number := goodIn_r _ [29] (by decide +kernel) (by decide +kernel)
set_option maxRecDepth 20000 in
theorem gX9_split_X9_number : GoodIn wsX9_split (va_wsS RX9 76 yX9_number wsX9_number) := goodIn_app (goodIn_of _ (by decide +kernel)) ggX9_split_X9_number
set_option maxRecDepth 20000 in
theorem ggX9_split_X9_follow : GoodIn wsX9_split wsX9_follow := goodIn_r _ [32, 33, 34, 6, 35, 36, 37, 38] (by decide +kernel) (by decide +kernel)
set_option maxRecDepth 20000 in
theorem gX9_split_X9_follow : GoodIn wsX9_split (va_wsS RX9 111 yX9_follow wsX9_follow) := goodIn_app (goodIn_of _ (by decide +kernel)) ggX9_split_X9_follow
set_option maxRecDepth 20000 in
theorem ggX9_split_X9_comes : GoodIn wsX9_split wsX9_comes := goodIn_r _ [41, 42, 43, 6, 44] (by decide +kernel) (by decide +kernel)
set_option maxRecDepth 20000 in
theorem gX9_split_X9_comes : GoodIn wsX9_split (va_wsS RX9 94 yX9_comes wsX9_comes) := goodIn_app (goodIn_of _ (by decide +kernel)) ggX9_split_X9_comes
set_option maxRecDepth 20000 in
theorem ggX9_names_X9_cites : GoodIn wsX9_names wsX9_cites := goodIn_r _ [5] (by decide +kernel) (by decide +kernel)
set_option maxRecDepth 20000 in
theorem gX9_names_X9_cites : GoodIn wsX9_names (va_wsS RX9 59 yX9_cites wsX9_cites) := goodIn_app (goodIn_of _ (by decide +kernel)) ggX9_names_X9_cites
set_option maxRecDepth 20000 in
theorem ggX9_names_X9_index : GoodIn wsX9_names wsX9_index := goodIn_r _ [8] (by decide +kernel) (by decide +kernel)
set_option maxRecDepth 20000 in
theorem gX9_names_X9_index : GoodIn wsX9_names (va_wsS RX9 44 yX9_index wsX9_index) := goodIn_app (goodIn_of _ (by decide +kernel)) ggX9_names_X9_index
set_option maxRecDepth 20000 in
theorem ggX9_names_X9_number : GoodIn wsX9_names wsX9_number := goodIn_r _ [11] (by decide +kernel) (by decide +kernel)
set_option maxRecDepth 20000 in
theorem gX9_names_X9_number : GoodIn wsX9_names (va_wsS RX9 76 yX9_number wsX9_number) := goodIn_app (goodIn_of _ (by decide +kernel)) ggX9_names_X9_number
set_option maxRecDepth 20000 in
theorem ggX9_cite_X9_isParagraph : GoodIn wsX9_cite wsX9_isParagraph := goodIn_r _ [6, 7, 8, 5, 9] (by decide +kernel) (by decide +kernel)
set_option maxRecDepth 20000 in
theorem gX9_cite_X9_isParagraph : GoodIn wsX9_cite (va_wsS RX9 115 yX9_isParagraph wsX9_isParagraph) := goodIn_app (goodIn_of _ (by decide +kernel)) ggX9_cite_X9_isParagraph
set_option maxRecDepth 20000 in
theorem ggX9_cite_X9_isPlace : GoodIn wsX9_cite wsX9_isPlace := goodIn_r _ [13, 2, 7, 8, 5, 9, 43, 44, 45, 46, 47, 48, 49, 50, 51, 52, 53] (by decide +kernel) (by decide +kernel)
set_option maxRecDepth 20000 in
theorem gX9_cite_X9_isPlace : GoodIn wsX9_cite (wsV RX9 98 RX9 yX9_isPlace wsX9_isPlace) := goodIn_app (goodIn_of _ (by decide +kernel)) ggX9_cite_X9_isPlace
set_option maxRecDepth 20000 in
theorem ggX9_cite_X9_fails : GoodIn wsX9_cite wsX9_fails := goodIn_r _ [17, 1, 43, 44, 45, 46, 47, 48, 49, 50, 51, 52, 53] (by decide +kernel) (by decide +kernel)
set_option maxRecDepth 20000 in
theorem gX9_cite_X9_fails : GoodIn wsX9_cite (wsV RX9 40 RX9 yX9_fails wsX9_fails) := goodIn_app (goodIn_of _ (by decide +kernel)) ggX9_cite_X9_fails
set_option maxRecDepth 20000 in
theorem ggX9_cite_X9_arePages : GoodIn wsX9_cite wsX9_arePages := goodIn_r _ [20, 7, 8, 5, 9] (by decide +kernel) (by decide +kernel)
set_option maxRecDepth 20000 in
theorem gX9_cite_X9_arePages : GoodIn wsX9_cite (va_wsS RX9 87 yX9_arePages wsX9_arePages) := goodIn_app (goodIn_of _ (by decide +kernel)) ggX9_cite_X9_arePages
set_option maxRecDepth 20000 in
theorem ggX9_cite_X9_cites : GoodIn wsX9_cite wsX9_cites := goodIn_r _ [23] (by decide +kernel) (by decide +kernel)
set_option maxRecDepth 20000 in
theorem gX9_cite_X9_cites : GoodIn wsX9_cite (va_wsS RX9 59 yX9_cites wsX9_cites) := goodIn_app (goodIn_of _ (by decide +kernel)) ggX9_cite_X9_cites
set_option maxRecDepth 20000 in
theorem ggX9_cite_X9_saves : GoodIn wsX9_cite wsX9_saves := goodIn_r _ [27, 28, 29, 2, 30, 31, 5, 32, 43, 44, 45, 46, 47, 48, 49, 50, 51, 52, 53] (by decide +kernel) (by decide +kernel)
set_option maxRecDepth 20000 in
theorem gX9_cite_X9_saves : GoodIn wsX9_cite (wsV RX9 91 RX9 yX9_saves wsX9_saves) := goodIn_app (goodIn_of _ (by decide +kernel)) ggX9_cite_X9_saves
set_option maxRecDepth 20000 in
theorem ggX9_cite_X9_names : GoodIn wsX9_cite wsX9_names := goodIn_r _ [36, 2, 21, 22, 5, 23, 37, 38, 39, 40, 41, 42, 43, 44, 45, 46, 47, 48, 49, 50, 51, 52, 53] (by decide +kernel) (by decide +kernel)
set_option maxRecDepth 20000 in
theorem gX9_cite_X9_names : GoodIn wsX9_cite (wsV RX9 118 RX9 yX9_names wsX9_names) := goodIn_app (goodIn_of _ (by decide +kernel)) ggX9_cite_X9_names
set_option maxRecDepth 20000 in
theorem ggX9_clean_X9_isParagraph : GoodIn wsX9_clean wsX9_isParagraph := goodIn_r _ [6, 7, 8, 5, 9] (by decide +kernel) (by decide +kernel)
set_option maxRecDepth 20000 in
theorem gX9_clean_X9_isParagraph : GoodIn wsX9_clean (va_wsS RX9 115 yX9_isParagraph wsX9_isParagraph) := goodIn_app (goodIn_of _ (by decide +kernel)) ggX9_clean_X9_isParagraph
set_option maxRecDepth 20000 in
theorem ggX9_clean_X9_fails : GoodIn wsX9_clean wsX9_fails := goodIn_r _ [13, 1, 41, 42, 43, 44, 45, 46, 47, 48, 49, 50, 51] (by decide +kernel) (by decide +kernel)
set_option maxRecDepth 20000 in
theorem gX9_clean_X9_fails : GoodIn wsX9_clean (wsV RX9 40 RX9 yX9_fails wsX9_fails) := goodIn_app (goodIn_of _ (by decide +kernel)) ggX9_clean_X9_fails
set_option maxRecDepth 20000 in
theorem ggX9_clean_X9_saves : GoodIn wsX9_clean wsX9_saves := goodIn_r _ [17, 18, 19, 2, 20, 21, 5, 22, 41, 42, 43, 44, 45, 46, 47, 48, 49, 50, 51] (by decide +kernel) (by decide +kernel)
set_option maxRecDepth 20000 in
theorem gX9_clean_X9_saves : GoodIn wsX9_clean (wsV RX9 91 RX9 yX9_saves wsX9_saves) := goodIn_app (goodIn_of _ (by decide +kernel)) ggX9_clean_X9_saves
set_option maxRecDepth 20000 in
theorem ggX9_clean_X9_cites : GoodIn wsX9_clean wsX9_cites := goodIn_r _ [25] (by decide +kernel) (by decide +kernel)
set_option maxRecDepth 20000 in
theorem gX9_clean_X9_cites : GoodIn wsX9_clean (va_wsS RX9 59 yX9_cites wsX9_cites) := goodIn_app (goodIn_of _ (by decide +kernel)) ggX9_clean_X9_cites
set_option maxRecDepth 20000 in
theorem ggX9_clean_X9_isLost : GoodIn wsX9_clean wsX9_isLost := goodIn_r _ [28, 29, 30, 5, 31, 32, 33, 34, 35, 36, 37, 38, 39, 40] (by decide +kernel) (by decide +kernel)
set_option maxRecDepth 20000 in
theorem gX9_clean_X9_isLost : GoodIn wsX9_clean (va_wsS RX9 62 yX9_isLost wsX9_isLost) := goodIn_app (goodIn_of _ (by decide +kernel)) ggX9_clean_X9_isLost
set_option maxRecDepth 20000 in
theorem ggX9_clean_X9_index : GoodIn wsX9_clean wsX9_index := goodIn_r _ [34] (by decide +kernel) (by decide +kernel)
set_option maxRecDepth 20000 in
theorem gX9_clean_X9_index : GoodIn wsX9_clean (va_wsS RX9 44 yX9_index wsX9_index) := goodIn_app (goodIn_of _ (by decide +kernel)) ggX9_clean_X9_index
set_option maxRecDepth 20000 in
theorem ggX9_print_X9_isParagraph : GoodIn wsX9_print wsX9_isParagraph := goodIn_r _ [6, 7, 8, 5, 9] (by decide +kernel) (by decide +kernel)
set_option maxRecDepth 20000 in
theorem gX9_print_X9_isParagraph : GoodIn wsX9_print (va_wsS RX9 115 yX9_isParagraph wsX9_isParagraph) := goodIn_app (goodIn_of _ (by decide +kernel)) ggX9_print_X9_isParagraph
set_option maxRecDepth 20000 in
theorem ggX9_print_X9_fails : GoodIn wsX9_print wsX9_fails := goodIn_r _ [13, 1, 44, 45, 46, 47, 48, 49, 50, 51, 52, 53, 54] (by decide +kernel) (by decide +kernel)
set_option maxRecDepth 20000 in
theorem gX9_print_X9_fails : GoodIn wsX9_print (wsV RX9 40 RX9 yX9_fails wsX9_fails) := goodIn_app (goodIn_of _ (by decide +kernel)) ggX9_print_X9_fails
set_option maxRecDepth 20000 in
theorem ggX9_print_X9_saves : GoodIn wsX9_print wsX9_saves := goodIn_r _ [17, 18, 19, 2, 20, 21, 5, 22, 44, 45, 46, 47, 48, 49, 50, 51, 52, 53, 54] (by decide +kernel) (by decide +kernel)
set_option maxRecDepth 20000 in
theorem gX9_print_X9_saves : GoodIn wsX9_print (wsV RX9 91 RX9 yX9_saves wsX9_saves) := goodIn_app (goodIn_of _ (by decide +kernel)) ggX9_print_X9_saves
set_option maxRecDepth 20000 in
theorem ggX9_print_X9_isStale : GoodIn wsX9_print wsX9_isStale := goodIn_r _ [25, 26, 27, 5, 28, 29, 30, 31, 32, 33, 34, 35, 36, 37, 38, 39, 40, 41, 42, 43] (by decide +kernel) (by decide +kernel)
set_option maxRecDepth 20000 in
theorem gX9_print_X9_isStale : GoodIn wsX9_print (va_wsS RX9 69 yX9_isStale wsX9_isStale) := goodIn_app (goodIn_of _ (by decide +kernel)) ggX9_print_X9_isStale
set_option maxRecDepth 20000 in
theorem ggX9_print_X9_cites : GoodIn wsX9_print wsX9_cites := goodIn_r _ [28] (by decide +kernel) (by decide +kernel)
set_option maxRecDepth 20000 in
theorem gX9_print_X9_cites : GoodIn wsX9_print (va_wsS RX9 59 yX9_cites wsX9_cites) := goodIn_app (goodIn_of _ (by decide +kernel)) ggX9_print_X9_cites
set_option maxRecDepth 20000 in
theorem ggX9_print_X9_letter : GoodIn wsX9_print wsX9_letter := goodIn_r _ [31, 32, 33, 5, 34, 35, 36, 37] (by decide +kernel) (by decide +kernel)
set_option maxRecDepth 20000 in
theorem gX9_print_X9_letter : GoodIn wsX9_print (va_wsS RX9 52 yX9_letter wsX9_letter) := goodIn_app (goodIn_of _ (by decide +kernel)) ggX9_print_X9_letter
set_option maxRecDepth 20000 in
theorem ggX9_print_X9_index : GoodIn wsX9_print wsX9_index := goodIn_r _ [34] (by decide +kernel) (by decide +kernel)
set_option maxRecDepth 20000 in
theorem gX9_print_X9_index : GoodIn wsX9_print (va_wsS RX9 44 yX9_index wsX9_index) := goodIn_app (goodIn_of _ (by decide +kernel)) ggX9_print_X9_index
set_option maxRecDepth 20000 in
theorem ggX9_print_X9_isLost : GoodIn wsX9_print wsX9_isLost := goodIn_r _ [40, 29, 30, 5, 31, 32, 33, 34, 35, 36, 37, 41, 42, 43] (by decide +kernel) (by decide +kernel)
set_option maxRecDepth 20000 in
theorem gX9_print_X9_isLost : GoodIn wsX9_print (va_wsS RX9 62 yX9_isLost wsX9_isLost) := goodIn_app (goodIn_of _ (by decide +kernel)) ggX9_print_X9_isLost
set_option maxRecDepth 20000 in
theorem ggX9_set_X9_in : GoodIn wsX9_set wsX9_in := goodIn_r _ [5] (by decide +kernel) (by decide +kernel)
set_option maxRecDepth 20000 in
theorem gX9_set_X9_in : GoodIn wsX9_set (va_wsS RX9 29 yX9_in wsX9_in) := goodIn_app (goodIn_of _ (by decide +kernel)) ggX9_set_X9_in
set_option maxRecDepth 20000 in
theorem ggX9_set_X9_fails : GoodIn wsX9_set wsX9_fails := goodIn_r _ [9, 1, 24, 25, 26, 27, 28, 29, 30, 31, 32, 33, 34] (by decide +kernel) (by decide +kernel)
set_option maxRecDepth 20000 in
theorem gX9_set_X9_fails : GoodIn wsX9_set (wsV RX9 40 RX9 yX9_fails wsX9_fails) := goodIn_app (goodIn_of _ (by decide +kernel)) ggX9_set_X9_fails
set_option maxRecDepth 20000 in
theorem ggX9_set_X9_saves : GoodIn wsX9_set wsX9_saves := goodIn_r _ [13, 14, 15, 16, 17, 18, 4, 19, 24, 25, 26, 27, 28, 29, 30, 31, 32, 33, 34] (by decide +kernel) (by decide +kernel)
set_option maxRecDepth 20000 in
theorem gX9_set_X9_saves : GoodIn wsX9_set (wsV RX9 91 RX9 yX9_saves wsX9_saves) := goodIn_app (goodIn_of _ (by decide +kernel)) ggX9_set_X9_saves
set_option maxRecDepth 20000 in
theorem ggX9_set_X9_changes : GoodIn wsX9_set wsX9_changes := goodIn_r _ [23, 16, 24, 25, 26, 27, 28, 29, 30, 31, 32, 33, 34] (by decide +kernel) (by decide +kernel)
set_option maxRecDepth 20000 in
theorem gX9_set_X9_changes : GoodIn wsX9_set (wsV RX9 108 RX9 yX9_changes wsX9_changes) := goodIn_app (goodIn_of _ (by decide +kernel)) ggX9_set_X9_changes
set_option maxRecDepth 20000 in
theorem ggX9_append_X9_in : GoodIn wsX9_append wsX9_in := goodIn_r _ [7] (by decide +kernel) (by decide +kernel)
set_option maxRecDepth 20000 in
theorem gX9_append_X9_in : GoodIn wsX9_append (va_wsS RX9 29 yX9_in wsX9_in) := goodIn_app (goodIn_of _ (by decide +kernel)) ggX9_append_X9_in
set_option maxRecDepth 20000 in
theorem ggX9_append_X9_fails : GoodIn wsX9_append wsX9_fails := goodIn_r _ [11, 1, 12, 13, 14, 15, 16, 17, 18, 19, 20, 21, 22] (by decide +kernel) (by decide +kernel)
set_option maxRecDepth 20000 in
theorem gX9_append_X9_fails : GoodIn wsX9_append (wsV RX9 40 RX9 yX9_fails wsX9_fails) := goodIn_app (goodIn_of _ (by decide +kernel)) ggX9_append_X9_fails
set_option maxRecDepth 20000 in
theorem ggX9_isAt_X9_in : GoodIn wsX9_isAt wsX9_in := goodIn_r _ [7] (by decide +kernel) (by decide +kernel)
set_option maxRecDepth 20000 in
theorem gX9_isAt_X9_in : GoodIn wsX9_isAt (va_wsS RX9 29 yX9_in wsX9_in) := goodIn_app (goodIn_of _ (by decide +kernel)) ggX9_isAt_X9_in
set_option maxRecDepth 20000 in
theorem ggX9_isCitation_X9_isAt : GoodIn wsX9_isCitation wsX9_isAt := goodIn_r _ [9, 2, 10, 1, 11, 12, 8, 13, 19, 20, 21, 22, 23, 24, 25, 26, 27, 28, 29] (by decide +kernel) (by decide +kernel)
set_option maxRecDepth 20000 in
theorem gX9_isCitation_X9_isAt : GoodIn wsX9_isCitation (wsV RX9 132 RX9 yX9_isAt wsX9_isAt) := goodIn_app (goodIn_of _ (by decide +kernel)) ggX9_isCitation_X9_isAt
set_option maxRecDepth 20000 in
theorem ggX9_isCitation_X9_stops : GoodIn wsX9_isCitation wsX9_stops := goodIn_r _ [17, 2, 10, 18, 19, 20, 21, 22, 23, 24, 25, 26, 27, 28, 29] (by decide +kernel) (by decide +kernel)
set_option maxRecDepth 20000 in
theorem gX9_isCitation_X9_stops : GoodIn wsX9_isCitation (wsV RX9 136 RX9 yX9_stops wsX9_stops) := goodIn_app (goodIn_of _ (by decide +kernel)) ggX9_isCitation_X9_stops
set_option maxRecDepth 20000 in
theorem ggX9_isText_X9_isCitation : GoodIn wsX9_isText wsX9_isCitation := goodIn_r _ [9, 10, 1, 11, 2, 12, 13, 14, 8, 15, 4, 16, 17, 18, 19, 20, 21, 22, 3, 23, 24, 25, 26, 27, 28, 29, 30, 31, 32, 33] (by decide +kernel) (by decide +kernel)
set_option maxRecDepth 20000 in
theorem gX9_isText_X9_isCitation : GoodIn wsX9_isText (wsV RX9 143 RX9 yX9_isCitation wsX9_isCitation) := goodIn_app (goodIn_of _ (by decide +kernel)) ggX9_isText_X9_isCitation
set_option maxRecDepth 20000 in
theorem ggX9_isText_X9_isAt : GoodIn wsX9_isText wsX9_isAt := goodIn_r _ [15, 1, 4, 10, 16, 17, 8, 18, 23, 24, 25, 26, 27, 28, 29, 30, 31, 32, 33] (by decide +kernel) (by decide +kernel)
set_option maxRecDepth 20000 in
theorem gX9_isText_X9_isAt : GoodIn wsX9_isText (wsV RX9 132 RX9 yX9_isAt wsX9_isAt) := goodIn_app (goodIn_of _ (by decide +kernel)) ggX9_isText_X9_isAt
set_option maxRecDepth 20000 in
theorem ggX9_firstError_X9_isText : GoodIn wsX9_firstError wsX9_isText := goodIn_r _ [9, 3, 10, 2, 4, 11, 12, 13, 8, 14, 15, 16, 17, 18, 19, 20, 21, 22, 23, 24, 25, 26, 27, 28, 29, 30, 31, 32, 33, 34, 35, 36, 37, 38] (by decide +kernel) (by decide +kernel)
set_option maxRecDepth 20000 in
theorem gX9_firstError_X9_isText : GoodIn wsX9_firstError (wsV RX9 146 RX9 yX9_isText wsX9_isText) := goodIn_app (goodIn_of _ (by decide +kernel)) ggX9_firstError_X9_isText
set_option maxRecDepth 20000 in
theorem ggX9_citeAll_X9_isParagraph : GoodIn wsX9_citeAll wsX9_isParagraph := goodIn_r _ [8, 9, 10, 7, 11] (by decide +kernel) (by decide +kernel)
set_option maxRecDepth 20000 in
theorem gX9_citeAll_X9_isParagraph : GoodIn wsX9_citeAll (va_wsS RX9 115 yX9_isParagraph wsX9_isParagraph) := goodIn_app (goodIn_of _ (by decide +kernel)) ggX9_citeAll_X9_isParagraph
set_option maxRecDepth 20000 in
theorem ggX9_citeAll_X9_fails : GoodIn wsX9_citeAll wsX9_fails := goodIn_r _ [15, 1, 66, 67, 68, 69, 70, 71, 72, 73, 74, 75, 76] (by decide +kernel) (by decide +kernel)
set_option maxRecDepth 20000 in
theorem gX9_citeAll_X9_fails : GoodIn wsX9_citeAll (wsV RX9 40 RX9 yX9_fails wsX9_fails) := goodIn_app (goodIn_of _ (by decide +kernel)) ggX9_citeAll_X9_fails
set_option maxRecDepth 20000 in
theorem ggX9_citeAll_X9_isText : GoodIn wsX9_citeAll wsX9_isText := goodIn_r _ [19, 20, 2, 21, 4, 22, 23, 24, 7, 25, 26, 3, 27, 28, 29, 30, 9, 10, 11, 31, 32, 33, 34, 66, 67, 68, 69, 70, 71, 72, 73, 74, 75, 76] (by decide +kernel) (by decide +kernel)
set_option maxRecDepth 20000 in
theorem gX9_citeAll_X9_isText : GoodIn wsX9_citeAll (wsV RX9 146 RX9 yX9_isText wsX9_isText) := goodIn_app (goodIn_of _ (by decide +kernel)) ggX9_citeAll_X9_isText
set_option maxRecDepth 20000 in
theorem ggX9_citeAll_X9_isPlace : GoodIn wsX9_citeAll wsX9_isPlace := goodIn_r _ [38, 39, 9, 10, 7, 11, 66, 67, 68, 69, 70, 71, 72, 73, 74, 75, 76] (by decide +kernel) (by decide +kernel)
set_option maxRecDepth 20000 in
theorem gX9_citeAll_X9_isPlace : GoodIn wsX9_citeAll (wsV RX9 98 RX9 yX9_isPlace wsX9_isPlace) := goodIn_app (goodIn_of _ (by decide +kernel)) ggX9_citeAll_X9_isPlace
set_option maxRecDepth 20000 in
theorem ggX9_citeAll_X9_saves : GoodIn wsX9_citeAll wsX9_saves := goodIn_r _ [43, 44, 45, 39, 46, 47, 7, 48, 66, 67, 68, 69, 70, 71, 72, 73, 74, 75, 76] (by decide +kernel) (by decide +kernel)
set_option maxRecDepth 20000 in
theorem gX9_citeAll_X9_saves : GoodIn wsX9_citeAll (wsV RX9 91 RX9 yX9_saves wsX9_saves) := goodIn_app (goodIn_of _ (by decide +kernel)) ggX9_citeAll_X9_saves
set_option maxRecDepth 20000 in
theorem ggX9_citeAll_X9_changes : GoodIn wsX9_citeAll wsX9_changes := goodIn_r _ [52, 39, 66, 67, 68, 69, 70, 71, 72, 73, 74, 75, 76] (by decide +kernel) (by decide +kernel)
set_option maxRecDepth 20000 in
theorem gX9_citeAll_X9_changes : GoodIn wsX9_citeAll (wsV RX9 108 RX9 yX9_changes wsX9_changes) := goodIn_app (goodIn_of _ (by decide +kernel)) ggX9_citeAll_X9_changes
set_option maxRecDepth 20000 in
theorem ggX9_citeAll_X9_names : GoodIn wsX9_citeAll wsX9_names := goodIn_r _ [56, 39, 57, 58, 7, 59, 60, 61, 62, 63, 64, 65, 66, 67, 68, 69, 70, 71, 72, 73, 74, 75, 76] (by decide +kernel) (by decide +kernel)
set_option maxRecDepth 20000 in
theorem gX9_citeAll_X9_names : GoodIn wsX9_citeAll (wsV RX9 118 RX9 yX9_names wsX9_names) := goodIn_app (goodIn_of _ (by decide +kernel)) ggX9_citeAll_X9_names
set_option maxRecDepth 20000 in
theorem ggX9_citedBy_X9_cites : GoodIn wsX9_citedBy wsX9_cites := goodIn_r _ [4] (by decide +kernel) (by decide +kernel)
set_option maxRecDepth 20000 in
theorem gX9_citedBy_X9_cites : GoodIn wsX9_citedBy (va_wsS RX9 59 yX9_cites wsX9_cites) := goodIn_app (goodIn_of _ (by decide +kernel)) ggX9_citedBy_X9_cites
set_option maxRecDepth 20000 in
theorem ggX9_citedBy_X9_letter : GoodIn wsX9_citedBy wsX9_letter := goodIn_r _ [7, 8, 9, 3, 10, 11, 12, 13] (by decide +kernel) (by decide +kernel)
set_option maxRecDepth 20000 in
theorem gX9_citedBy_X9_letter : GoodIn wsX9_citedBy (va_wsS RX9 52 yX9_letter wsX9_letter) := goodIn_app (goodIn_of _ (by decide +kernel)) ggX9_citedBy_X9_letter
set_option maxRecDepth 20000 in
theorem ggX9_citedBy_X9_isLost : GoodIn wsX9_citedBy wsX9_isLost := goodIn_r _ [16, 5, 6, 3, 7, 8, 9, 10, 11, 12, 13, 17, 18, 19] (by decide +kernel) (by decide +kernel)
set_option maxRecDepth 20000 in
theorem gX9_citedBy_X9_isLost : GoodIn wsX9_citedBy (va_wsS RX9 62 yX9_isLost wsX9_isLost) := goodIn_app (goodIn_of _ (by decide +kernel)) ggX9_citedBy_X9_isLost
set_option maxRecDepth 20000 in
theorem ggX9_ofExhibit_X9_number : GoodIn wsX9_ofExhibit wsX9_number := goodIn_r _ [5] (by decide +kernel) (by decide +kernel)
set_option maxRecDepth 20000 in
theorem gX9_ofExhibit_X9_number : GoodIn wsX9_ofExhibit (va_wsS RX9 76 yX9_number wsX9_number) := goodIn_app (goodIn_of _ (by decide +kernel)) ggX9_ofExhibit_X9_number
set_option maxRecDepth 20000 in
theorem ggX9_ofExhibit_X9_pagesOf : GoodIn wsX9_ofExhibit wsX9_pagesOf := goodIn_r _ [8] (by decide +kernel) (by decide +kernel)
set_option maxRecDepth 20000 in
theorem gX9_ofExhibit_X9_pagesOf : GoodIn wsX9_ofExhibit (va_wsS RX9 56 yX9_pagesOf wsX9_pagesOf) := goodIn_app (goodIn_of _ (by decide +kernel)) ggX9_ofExhibit_X9_pagesOf
set_option maxRecDepth 20000 in
theorem ggX9_ofExhibit_X9_lies : GoodIn wsX9_ofExhibit wsX9_lies := goodIn_r _ [11, 6, 7, 4, 8] (by decide +kernel) (by decide +kernel)
set_option maxRecDepth 20000 in
theorem gX9_ofExhibit_X9_lies : GoodIn wsX9_ofExhibit (va_wsS RX9 73 yX9_lies wsX9_lies) := goodIn_app (goodIn_of _ (by decide +kernel)) ggX9_ofExhibit_X9_lies
set_option maxRecDepth 20000 in
theorem ggX9_ofExhibit_X9_citedBy : GoodIn wsX9_ofExhibit wsX9_citedBy := goodIn_r _ [14, 15, 16, 4, 17, 18, 19, 20, 21, 22, 23, 24, 25, 26, 27, 28, 29, 6, 7, 8] (by decide +kernel) (by decide +kernel)
set_option maxRecDepth 20000 in
theorem gX9_ofExhibit_X9_citedBy : GoodIn wsX9_ofExhibit (va_wsS RX9 149 yX9_citedBy wsX9_citedBy) := goodIn_app (goodIn_of _ (by decide +kernel)) ggX9_ofExhibit_X9_citedBy
set_option maxRecDepth 20000 in
theorem ggX9_exhibit_X9_in : GoodIn wsX9_exhibit wsX9_in := goodIn_r _ [5] (by decide +kernel) (by decide +kernel)
set_option maxRecDepth 20000 in
theorem gX9_exhibit_X9_in : GoodIn wsX9_exhibit (va_wsS RX9 29 yX9_in wsX9_in) := goodIn_app (goodIn_of _ (by decide +kernel)) ggX9_exhibit_X9_in
set_option maxRecDepth 20000 in
theorem ggX9_exhibit_X9_fails : GoodIn wsX9_exhibit wsX9_fails := goodIn_r _ [9, 1, 46, 47, 48, 49, 50, 51, 52, 53, 54, 55, 56] (by decide +kernel) (by decide +kernel)
set_option maxRecDepth 20000 in
theorem gX9_exhibit_X9_fails : GoodIn wsX9_exhibit (wsV RX9 40 RX9 yX9_fails wsX9_fails) := goodIn_app (goodIn_of _ (by decide +kernel)) ggX9_exhibit_X9_fails
set_option maxRecDepth 20000 in
theorem ggX9_exhibit_X9_isPlace : GoodIn wsX9_exhibit wsX9_isPlace := goodIn_r _ [13, 14, 2, 3, 4, 5, 46, 47, 48, 49, 50, 51, 52, 53, 54, 55, 56] (by decide +kernel) (by decide +kernel)
set_option maxRecDepth 20000 in
theorem gX9_exhibit_X9_isPlace : GoodIn wsX9_exhibit (wsV RX9 98 RX9 yX9_isPlace wsX9_isPlace) := goodIn_app (goodIn_of _ (by decide +kernel)) ggX9_exhibit_X9_isPlace
set_option maxRecDepth 20000 in
theorem ggX9_exhibit_X9_ofExhibit : GoodIn wsX9_exhibit wsX9_ofExhibit := goodIn_r _ [18, 14, 19, 20, 4, 21, 22, 23, 24, 25, 26, 27, 28, 29, 30, 31, 32, 33, 34, 35, 36, 37, 38, 39, 40, 41, 42, 43, 44, 45, 46, 47, 48, 49, 50, 51, 52, 53, 54, 55, 56] (by decide +kernel) (by decide +kernel)
set_option maxRecDepth 20000 in
theorem gX9_exhibit_X9_ofExhibit : GoodIn wsX9_exhibit (wsV RX9 153 RX9 yX9_ofExhibit wsX9_ofExhibit) := goodIn_app (goodIn_of _ (by decide +kernel)) ggX9_exhibit_X9_ofExhibit
set_option maxRecDepth 20000 in
theorem ggX9_ofCitation_X9_index : GoodIn wsX9_ofCitation wsX9_index := goodIn_r _ [5] (by decide +kernel) (by decide +kernel)
set_option maxRecDepth 20000 in
theorem gX9_ofCitation_X9_index : GoodIn wsX9_ofCitation (va_wsS RX9 44 yX9_index wsX9_index) := goodIn_app (goodIn_of _ (by decide +kernel)) ggX9_ofCitation_X9_index
set_option maxRecDepth 20000 in
theorem ggX9_ofCitation_X9_letter : GoodIn wsX9_ofCitation wsX9_letter := goodIn_r _ [8, 2, 3, 4, 5, 9, 10, 11] (by decide +kernel) (by decide +kernel)
set_option maxRecDepth 20000 in
theorem gX9_ofCitation_X9_letter : GoodIn wsX9_ofCitation (va_wsS RX9 52 yX9_letter wsX9_letter) := goodIn_app (goodIn_of _ (by decide +kernel)) ggX9_ofCitation_X9_letter
set_option maxRecDepth 20000 in
theorem ggX9_ofCitation_X9_isLost : GoodIn wsX9_ofCitation wsX9_isLost := goodIn_r _ [14, 6, 7, 4, 8, 2, 3, 5, 9, 10, 11, 15, 16, 17] (by decide +kernel) (by decide +kernel)
set_option maxRecDepth 20000 in
theorem gX9_ofCitation_X9_isLost : GoodIn wsX9_ofCitation (va_wsS RX9 62 yX9_isLost wsX9_isLost) := goodIn_app (goodIn_of _ (by decide +kernel)) ggX9_ofCitation_X9_isLost
set_option maxRecDepth 20000 in
theorem ggX9_ofCitation_X9_lies : GoodIn wsX9_ofCitation wsX9_lies := goodIn_r _ [20, 15, 16, 4, 17] (by decide +kernel) (by decide +kernel)
set_option maxRecDepth 20000 in
theorem gX9_ofCitation_X9_lies : GoodIn wsX9_ofCitation (va_wsS RX9 73 yX9_lies wsX9_lies) := goodIn_app (goodIn_of _ (by decide +kernel)) ggX9_ofCitation_X9_lies
set_option maxRecDepth 20000 in
theorem ggX9_citation_X9_isParagraph : GoodIn wsX9_citation wsX9_isParagraph := goodIn_r _ [6, 7, 8, 5, 9] (by decide +kernel) (by decide +kernel)
set_option maxRecDepth 20000 in
theorem gX9_citation_X9_isParagraph : GoodIn wsX9_citation (va_wsS RX9 115 yX9_isParagraph wsX9_isParagraph) := goodIn_app (goodIn_of _ (by decide +kernel)) ggX9_citation_X9_isParagraph
set_option maxRecDepth 20000 in
theorem ggX9_citation_X9_fails : GoodIn wsX9_citation wsX9_fails := goodIn_r _ [13, 1, 39, 40, 41, 42, 43, 44, 45, 46, 47, 48, 49] (by decide +kernel) (by decide +kernel)
set_option maxRecDepth 20000 in
theorem gX9_citation_X9_fails : GoodIn wsX9_citation (wsV RX9 40 RX9 yX9_fails wsX9_fails) := goodIn_app (goodIn_of _ (by decide +kernel)) ggX9_citation_X9_fails
set_option maxRecDepth 20000 in
theorem ggX9_citation_X9_in : GoodIn wsX9_citation wsX9_in := goodIn_r _ [9] (by decide +kernel) (by decide +kernel)
set_option maxRecDepth 20000 in
theorem gX9_citation_X9_in : GoodIn wsX9_citation (va_wsS RX9 29 yX9_in wsX9_in) := goodIn_app (goodIn_of _ (by decide +kernel)) ggX9_citation_X9_in
set_option maxRecDepth 20000 in
theorem ggX9_citation_X9_cites : GoodIn wsX9_citation wsX9_cites := goodIn_r _ [16] (by decide +kernel) (by decide +kernel)
set_option maxRecDepth 20000 in
theorem gX9_citation_X9_cites : GoodIn wsX9_citation (va_wsS RX9 59 yX9_cites wsX9_cites) := goodIn_app (goodIn_of _ (by decide +kernel)) ggX9_citation_X9_cites
set_option maxRecDepth 20000 in
theorem ggX9_citation_X9_ofCitation : GoodIn wsX9_citation wsX9_ofCitation := goodIn_r _ [20, 2, 21, 22, 5, 23, 24, 25, 26, 27, 28, 29, 30, 31, 32, 33, 34, 35, 36, 37, 38, 39, 40, 41, 42, 43, 44, 45, 46, 47, 48, 49] (by decide +kernel) (by decide +kernel)
set_option maxRecDepth 20000 in
theorem gX9_citation_X9_ofCitation : GoodIn wsX9_citation (wsV RX9 156 RX9 yX9_ofCitation wsX9_ofCitation) := goodIn_app (goodIn_of _ (by decide +kernel)) ggX9_citation_X9_ofCitation
set_option maxRecDepth 20000 in
theorem ggX9_ofParagraph_X9_cites : GoodIn wsX9_ofParagraph wsX9_cites := goodIn_r _ [5] (by decide +kernel) (by decide +kernel)
set_option maxRecDepth 20000 in
theorem gX9_ofParagraph_X9_cites : GoodIn wsX9_ofParagraph (va_wsS RX9 59 yX9_cites wsX9_cites) := goodIn_app (goodIn_of _ (by decide +kernel)) ggX9_ofParagraph_X9_cites
set_option maxRecDepth 20000 in
theorem ggX9_ofParagraph_X9_lost : GoodIn wsX9_ofParagraph wsX9_lost := goodIn_r _ [8, 2, 3, 4, 5, 9, 10, 11, 12, 13, 14, 15, 16, 17, 18, 19, 20, 21, 22, 23] (by decide +kernel) (by decide +kernel)
set_option maxRecDepth 20000 in
theorem gX9_ofParagraph_X9_lost : GoodIn wsX9_ofParagraph (va_wsS RX9 66 yX9_lost wsX9_lost) := goodIn_app (goodIn_of _ (by decide +kernel)) ggX9_ofParagraph_X9_lost
set_option maxRecDepth 20000 in
theorem ggX9_ofParagraph_X9_isStale : GoodIn wsX9_ofParagraph wsX9_isStale := goodIn_r _ [26, 2, 3, 4, 5, 12, 13, 14, 15, 16, 17, 18, 19, 20, 9, 10, 11, 21, 22, 23] (by decide +kernel) (by decide +kernel)
set_option maxRecDepth 20000 in
theorem gX9_ofParagraph_X9_isStale : GoodIn wsX9_ofParagraph (va_wsS RX9 69 yX9_isStale wsX9_isStale) := goodIn_app (goodIn_of _ (by decide +kernel)) ggX9_ofParagraph_X9_isStale
set_option maxRecDepth 20000 in
theorem ggX9_paragraph_X9_isParagraph : GoodIn wsX9_paragraph wsX9_isParagraph := goodIn_r _ [5, 6, 7, 4, 8] (by decide +kernel) (by decide +kernel)
set_option maxRecDepth 20000 in
theorem gX9_paragraph_X9_isParagraph : GoodIn wsX9_paragraph (va_wsS RX9 115 yX9_isParagraph wsX9_isParagraph) := goodIn_app (goodIn_of _ (by decide +kernel)) ggX9_paragraph_X9_isParagraph
set_option maxRecDepth 20000 in
theorem ggX9_paragraph_X9_fails : GoodIn wsX9_paragraph wsX9_fails := goodIn_r _ [12, 1, 42, 43, 44, 45, 46, 47, 48, 49, 50, 51, 52] (by decide +kernel) (by decide +kernel)
set_option maxRecDepth 20000 in
theorem gX9_paragraph_X9_fails : GoodIn wsX9_paragraph (wsV RX9 40 RX9 yX9_fails wsX9_fails) := goodIn_app (goodIn_of _ (by decide +kernel)) ggX9_paragraph_X9_fails
set_option maxRecDepth 20000 in
theorem ggX9_paragraph_X9_in : GoodIn wsX9_paragraph wsX9_in := goodIn_r _ [8] (by decide +kernel) (by decide +kernel)
set_option maxRecDepth 20000 in
theorem gX9_paragraph_X9_in : GoodIn wsX9_paragraph (va_wsS RX9 29 yX9_in wsX9_in) := goodIn_app (goodIn_of _ (by decide +kernel)) ggX9_paragraph_X9_in
set_option maxRecDepth 20000 in
theorem ggX9_paragraph_X9_ofParagraph : GoodIn wsX9_paragraph wsX9_ofParagraph := goodIn_r _ [16, 17, 18, 19, 4, 20, 21, 22, 23, 24, 25, 26, 27, 28, 29, 30, 31, 32, 33, 34, 35, 36, 37, 38, 39, 40, 41, 42, 43, 44, 45, 46, 47, 48, 49, 50, 51, 52] (by decide +kernel) (by decide +kernel)
set_option maxRecDepth 20000 in
theorem gX9_paragraph_X9_ofParagraph : GoodIn wsX9_paragraph (wsV RX9 160 RX9 yX9_ofParagraph wsX9_ofParagraph) := goodIn_app (goodIn_of _ (by decide +kernel)) ggX9_paragraph_X9_ofParagraph
set_option maxRecDepth 20000 in
theorem ggX9_row_X9_cites : GoodIn wsX9_row wsX9_cites := goodIn_r _ [5] (by decide +kernel) (by decide +kernel)
set_option maxRecDepth 20000 in
theorem gX9_row_X9_cites : GoodIn wsX9_row (va_wsS RX9 59 yX9_cites wsX9_cites) := goodIn_app (goodIn_of _ (by decide +kernel)) ggX9_row_X9_cites
set_option maxRecDepth 20000 in
theorem ggX9_row_X9_letter : GoodIn wsX9_row wsX9_letter := goodIn_r _ [8, 9, 10, 4, 11, 12, 13, 14] (by decide +kernel) (by decide +kernel)
set_option maxRecDepth 20000 in
theorem gX9_row_X9_letter : GoodIn wsX9_row (va_wsS RX9 52 yX9_letter wsX9_letter) := goodIn_app (goodIn_of _ (by decide +kernel)) ggX9_row_X9_letter
set_option maxRecDepth 20000 in
theorem ggX9_row_X9_isLost : GoodIn wsX9_row wsX9_isLost := goodIn_r _ [17, 6, 7, 4, 8, 9, 10, 11, 12, 13, 14, 18, 19, 20] (by decide +kernel) (by decide +kernel)
set_option maxRecDepth 20000 in
theorem gX9_row_X9_isLost : GoodIn wsX9_row (va_wsS RX9 62 yX9_isLost wsX9_isLost) := goodIn_app (goodIn_of _ (by decide +kernel)) ggX9_row_X9_isLost
set_option maxRecDepth 20000 in
theorem ggX9_table_X9_isPlace : GoodIn wsX9_table wsX9_isPlace := goodIn_r _ [6, 7, 8, 9, 5, 10, 37, 38, 39, 40, 41, 42, 43, 44, 45, 46, 47] (by decide +kernel) (by decide +kernel)
set_option maxRecDepth 20000 in
theorem gX9_table_X9_isPlace : GoodIn wsX9_table (wsV RX9 98 RX9 yX9_isPlace wsX9_isPlace) := goodIn_app (goodIn_of _ (by decide +kernel)) ggX9_table_X9_isPlace
set_option maxRecDepth 20000 in
theorem ggX9_table_X9_row : GoodIn wsX9_table wsX9_row := goodIn_r _ [14, 7, 15, 16, 5, 17, 18, 19, 20, 21, 22, 23, 24, 25, 26, 27, 28, 29, 30, 31, 32, 37, 38, 39, 40, 41, 42, 43, 44, 45, 46, 47] (by decide +kernel) (by decide +kernel)
set_option maxRecDepth 20000 in
theorem gX9_table_X9_row : GoodIn wsX9_table (wsV RX9 163 RX9 yX9_row wsX9_row) := goodIn_app (goodIn_of _ (by decide +kernel)) ggX9_table_X9_row
set_option maxRecDepth 20000 in
theorem ggX9_table_X9_fails : GoodIn wsX9_table wsX9_fails := goodIn_r _ [36, 1, 37, 38, 39, 40, 41, 42, 43, 44, 45, 46, 47] (by decide +kernel) (by decide +kernel)
set_option maxRecDepth 20000 in
theorem gX9_table_X9_fails : GoodIn wsX9_table (wsV RX9 40 RX9 yX9_fails wsX9_fails) := goodIn_app (goodIn_of _ (by decide +kernel)) ggX9_table_X9_fails
set_option maxRecDepth 20000 in
theorem ggX9_uncited_X9_citedBy : GoodIn wsX9_uncited wsX9_citedBy := goodIn_r _ [5, 6, 7, 4, 8, 9, 10, 11, 12, 13, 14, 15, 16, 17, 18, 19, 20, 21, 22, 23] (by decide +kernel) (by decide +kernel)
set_option maxRecDepth 20000 in
theorem gX9_uncited_X9_citedBy : GoodIn wsX9_uncited (va_wsS RX9 149 yX9_citedBy wsX9_citedBy) := goodIn_app (goodIn_of _ (by decide +kernel)) ggX9_uncited_X9_citedBy
set_option maxRecDepth 20000 in
theorem ggX9_allPages_X9_pagesOf : GoodIn wsX9_allPages wsX9_pagesOf := goodIn_r _ [5] (by decide +kernel) (by decide +kernel)
set_option maxRecDepth 20000 in
theorem gX9_allPages_X9_pagesOf : GoodIn wsX9_allPages (va_wsS RX9 56 yX9_pagesOf wsX9_pagesOf) := goodIn_app (goodIn_of _ (by decide +kernel)) ggX9_allPages_X9_pagesOf
set_option maxRecDepth 20000 in
theorem ggX9_allCites_X9_cites : GoodIn wsX9_allCites wsX9_cites := goodIn_r _ [5] (by decide +kernel) (by decide +kernel)
set_option maxRecDepth 20000 in
theorem gX9_allCites_X9_cites : GoodIn wsX9_allCites (va_wsS RX9 59 yX9_cites wsX9_cites) := goodIn_app (goodIn_of _ (by decide +kernel)) ggX9_allCites_X9_cites
set_option maxRecDepth 20000 in
theorem ggX9_counted_X9_allPages : GoodIn wsX9_counted wsX9_allPages := goodIn_r _ [7, 1, 8, 9, 6, 10, 55, 56, 57, 58, 59, 60, 61, 62, 63, 64, 65] (by decide +kernel) (by decide +kernel)
set_option maxRecDepth 20000 in
theorem gX9_counted_X9_allPages : GoodIn wsX9_counted (wsV RX9 166 RX9 yX9_allPages wsX9_allPages) := goodIn_app (goodIn_of _ (by decide +kernel)) ggX9_counted_X9_allPages
set_option maxRecDepth 20000 in
theorem ggX9_counted_X9_binders : GoodIn wsX9_counted wsX9_binders := goodIn_r _ [13, 14, 15, 6, 16, 8, 9, 10] (by decide +kernel) (by decide +kernel)
set_option maxRecDepth 20000 in
theorem gX9_counted_X9_binders : GoodIn wsX9_counted (va_wsS RX9 170 yX9_binders wsX9_binders) := goodIn_app (goodIn_of _ (by decide +kernel)) ggX9_counted_X9_binders
set_option maxRecDepth 20000 in
theorem ggX9_counted_X9_allCites : GoodIn wsX9_counted wsX9_allCites := goodIn_r _ [20, 1, 21, 22, 6, 23, 55, 56, 57, 58, 59, 60, 61, 62, 63, 64, 65] (by decide +kernel) (by decide +kernel)
set_option maxRecDepth 20000 in
theorem gX9_counted_X9_allCites : GoodIn wsX9_counted (wsV RX9 173 RX9 yX9_allCites wsX9_allCites) := goodIn_app (goodIn_of _ (by decide +kernel)) ggX9_counted_X9_allCites
set_option maxRecDepth 20000 in
theorem ggX9_counted_X9_allLost : GoodIn wsX9_counted wsX9_allLost := goodIn_r _ [26, 27, 28, 6, 29, 21, 22, 23, 30, 31, 32, 33, 34, 35, 36, 37, 38, 39, 40, 41, 8, 9, 10] (by decide +kernel) (by decide +kernel)
set_option maxRecDepth 20000 in
theorem gX9_counted_X9_allLost : GoodIn wsX9_counted (va_wsS RX9 104 yX9_allLost wsX9_allLost) := goodIn_app (goodIn_of _ (by decide +kernel)) ggX9_counted_X9_allLost
set_option maxRecDepth 20000 in
theorem ggX9_counted_X9_stale : GoodIn wsX9_counted wsX9_stale := goodIn_r _ [44, 45, 46, 6, 47, 21, 22, 23, 33, 34, 35, 36, 37, 38, 39, 40, 41, 30, 31, 32, 8, 9, 10] (by decide +kernel) (by decide +kernel)
set_option maxRecDepth 20000 in
theorem gX9_counted_X9_stale : GoodIn wsX9_counted (va_wsS RX9 176 yX9_stale wsX9_stale) := goodIn_app (goodIn_of _ (by decide +kernel)) ggX9_counted_X9_stale
set_option maxRecDepth 20000 in
theorem ggX9_counted_X9_uncited : GoodIn wsX9_counted wsX9_uncited := goodIn_r _ [51, 1, 52, 53, 6, 54, 21, 22, 23, 33, 34, 35, 36, 37, 38, 39, 40, 41, 30, 31, 32, 8, 9, 10, 55, 56, 57, 58, 59, 60, 61, 62, 63, 64, 65] (by decide +kernel) (by decide +kernel)
set_option maxRecDepth 20000 in
theorem gX9_counted_X9_uncited : GoodIn wsX9_counted (wsV RX9 179 RX9 yX9_uncited wsX9_uncited) := goodIn_app (goodIn_of _ (by decide +kernel)) ggX9_counted_X9_uncited
set_option maxRecDepth 20000 in
theorem ggX9_count_X9_in : GoodIn wsX9_count wsX9_in := goodIn_r _ [5] (by decide +kernel) (by decide +kernel)
set_option maxRecDepth 20000 in
theorem gX9_count_X9_in : GoodIn wsX9_count (va_wsS RX9 29 yX9_in wsX9_in) := goodIn_app (goodIn_of _ (by decide +kernel)) ggX9_count_X9_in
set_option maxRecDepth 20000 in
theorem ggX9_count_X9_counted : GoodIn wsX9_count wsX9_counted := goodIn_r _ [9, 10, 11, 12, 13, 14, 4, 15, 16, 17, 18, 19, 20, 21, 22, 23, 24, 25, 26, 27, 28, 29, 30, 31, 32, 33, 34, 35, 36, 37, 38, 39, 40, 41, 42, 43, 44, 45, 46, 47, 48, 49, 50, 51, 52, 53, 54, 55, 56, 57, 58, 59, 60, 61, 62, 67, 68, 69, 70, 71, 72, 73, 74, 75, 76, 77] (by decide +kernel) (by decide +kernel)
set_option maxRecDepth 20000 in
theorem gX9_count_X9_counted : GoodIn wsX9_count (wsV RX9 182 RX9 yX9_counted wsX9_counted) := goodIn_app (goodIn_of _ (by decide +kernel)) ggX9_count_X9_counted
set_option maxRecDepth 20000 in
theorem ggX9_count_X9_fails : GoodIn wsX9_count wsX9_fails := goodIn_r _ [66, 1, 67, 68, 69, 70, 71, 72, 73, 74, 75, 76, 77] (by decide +kernel) (by decide +kernel)
set_option maxRecDepth 20000 in
theorem gX9_count_X9_fails : GoodIn wsX9_count (wsV RX9 40 RX9 yX9_fails wsX9_fails) := goodIn_app (goodIn_of _ (by decide +kernel)) ggX9_count_X9_fails
set_option maxRecDepth 20000 in
theorem ggX9_byInserting_X9_copies : GoodIn wsX9_byInserting wsX9_copies := goodIn_r _ [6] (by decide +kernel) (by decide +kernel)
set_option maxRecDepth 20000 in
theorem gX9_byInserting_X9_copies : GoodIn wsX9_byInserting (va_wsS RX9 36 yX9_copies wsX9_copies) := goodIn_app (goodIn_of _ (by decide +kernel)) ggX9_byInserting_X9_copies
set_option maxRecDepth 20000 in
theorem ggX9_byInserting_X9_comes : GoodIn wsX9_byInserting wsX9_comes := goodIn_r _ [9, 10, 11, 5, 12] (by decide +kernel) (by decide +kernel)
set_option maxRecDepth 20000 in
theorem gX9_byInserting_X9_comes : GoodIn wsX9_byInserting (va_wsS RX9 94 yX9_comes wsX9_comes) := goodIn_app (goodIn_of _ (by decide +kernel)) ggX9_byInserting_X9_comes
set_option maxRecDepth 20000 in
theorem ggX9_byInserting_X9_stale : GoodIn wsX9_byInserting wsX9_stale := goodIn_r _ [15, 16, 17, 5, 18, 19, 20, 21, 22, 23, 24, 25, 26, 27, 28, 29, 30, 31, 32, 33, 34, 35, 36] (by decide +kernel) (by decide +kernel)
set_option maxRecDepth 20000 in
theorem gX9_byInserting_X9_stale : GoodIn wsX9_byInserting (va_wsS RX9 176 yX9_stale wsX9_stale) := goodIn_app (goodIn_of _ (by decide +kernel)) ggX9_byInserting_X9_stale
set_option maxRecDepth 20000 in
theorem ggX9_byInserting_X9_binders : GoodIn wsX9_byInserting wsX9_binders := goodIn_r _ [39, 40, 41, 5, 42, 34, 35, 36] (by decide +kernel) (by decide +kernel)
set_option maxRecDepth 20000 in
theorem gX9_byInserting_X9_binders : GoodIn wsX9_byInserting (va_wsS RX9 170 yX9_binders wsX9_binders) := goodIn_app (goodIn_of _ (by decide +kernel)) ggX9_byInserting_X9_binders
set_option maxRecDepth 20000 in
theorem ggX9_ifInserted_X9_in : GoodIn wsX9_ifInserted wsX9_in := goodIn_r _ [6] (by decide +kernel) (by decide +kernel)
set_option maxRecDepth 20000 in
theorem gX9_ifInserted_X9_in : GoodIn wsX9_ifInserted (va_wsS RX9 29 yX9_in wsX9_in) := goodIn_app (goodIn_of _ (by decide +kernel)) ggX9_ifInserted_X9_in
set_option maxRecDepth 20000 in
theorem ggX9_ifInserted_X9_fails : GoodIn wsX9_ifInserted wsX9_fails := goodIn_r _ [10, 1, 58, 59, 60, 61, 62, 63, 64, 65, 66, 67, 68] (by decide +kernel) (by decide +kernel)
set_option maxRecDepth 20000 in
theorem gX9_ifInserted_X9_fails : GoodIn wsX9_ifInserted (wsV RX9 40 RX9 yX9_fails wsX9_fails) := goodIn_app (goodIn_of _ (by decide +kernel)) ggX9_ifInserted_X9_fails
set_option maxRecDepth 20000 in
theorem ggX9_ifInserted_X9_arePages : GoodIn wsX9_ifInserted wsX9_arePages := goodIn_r _ [13, 3, 4, 5, 6] (by decide +kernel) (by decide +kernel)
set_option maxRecDepth 20000 in
theorem gX9_ifInserted_X9_arePages : GoodIn wsX9_ifInserted (va_wsS RX9 87 yX9_arePages wsX9_arePages) := goodIn_app (goodIn_of _ (by decide +kernel)) ggX9_ifInserted_X9_arePages
set_option maxRecDepth 20000 in
theorem ggX9_ifInserted_X9_byInserting : GoodIn wsX9_ifInserted wsX9_byInserting := goodIn_r _ [17, 2, 18, 19, 20, 5, 21, 22, 23, 24, 25, 26, 27, 28, 29, 30, 31, 32, 33, 34, 35, 36, 37, 38, 39, 40, 41, 42, 43, 44, 45, 46, 47, 48, 49, 50, 51, 52, 53, 54, 55, 56, 57, 58, 59, 60, 61, 62, 63, 64, 65, 66, 67, 68] (by decide +kernel) (by decide +kernel)
set_option maxRecDepth 20000 in
theorem gX9_ifInserted_X9_byInserting : GoodIn wsX9_ifInserted (wsV RX9 185 RX9 yX9_byInserting wsX9_byInserting) := goodIn_app (goodIn_of _ (by decide +kernel)) ggX9_ifInserted_X9_byInserting
set_option maxRecDepth 20000 in
theorem ggX9_byDropping_X9_copies : GoodIn wsX9_byDropping wsX9_copies := goodIn_r _ [6] (by decide +kernel) (by decide +kernel)
set_option maxRecDepth 20000 in
theorem gX9_byDropping_X9_copies : GoodIn wsX9_byDropping (va_wsS RX9 36 yX9_copies wsX9_copies) := goodIn_app (goodIn_of _ (by decide +kernel)) ggX9_byDropping_X9_copies
set_option maxRecDepth 20000 in
theorem ggX9_byDropping_X9_goesOut : GoodIn wsX9_byDropping wsX9_goesOut := goodIn_r _ [9] (by decide +kernel) (by decide +kernel)
set_option maxRecDepth 20000 in
theorem gX9_byDropping_X9_goesOut : GoodIn wsX9_byDropping (va_wsS RX9 79 yX9_goesOut wsX9_goesOut) := goodIn_app (goodIn_of _ (by decide +kernel)) ggX9_byDropping_X9_goesOut
set_option maxRecDepth 20000 in
theorem ggX9_byDropping_X9_allLost : GoodIn wsX9_byDropping wsX9_allLost := goodIn_r _ [12, 13, 14, 5, 15, 16, 17, 18, 19, 20, 21, 22, 23, 24, 25, 26, 27, 28, 29, 30, 31, 32, 33] (by decide +kernel) (by decide +kernel)
set_option maxRecDepth 20000 in
theorem gX9_byDropping_X9_allLost : GoodIn wsX9_byDropping (va_wsS RX9 104 yX9_allLost wsX9_allLost) := goodIn_app (goodIn_of _ (by decide +kernel)) ggX9_byDropping_X9_allLost
set_option maxRecDepth 20000 in
theorem ggX9_byDropping_X9_stale : GoodIn wsX9_byDropping wsX9_stale := goodIn_r _ [36, 37, 38, 5, 39, 16, 17, 18, 22, 23, 24, 25, 26, 27, 28, 29, 30, 19, 20, 21, 31, 32, 33] (by decide +kernel) (by decide +kernel)
set_option maxRecDepth 20000 in
theorem gX9_byDropping_X9_stale : GoodIn wsX9_byDropping (va_wsS RX9 176 yX9_stale wsX9_stale) := goodIn_app (goodIn_of _ (by decide +kernel)) ggX9_byDropping_X9_stale
set_option maxRecDepth 20000 in
theorem ggX9_ifDropped_X9_isPlace : GoodIn wsX9_ifDropped wsX9_isPlace := goodIn_r _ [6, 7, 8, 9, 5, 10, 56, 57, 58, 59, 60, 61, 62, 63, 64, 65, 66] (by decide +kernel) (by decide +kernel)
set_option maxRecDepth 20000 in
theorem gX9_ifDropped_X9_isPlace : GoodIn wsX9_ifDropped (wsV RX9 98 RX9 yX9_isPlace wsX9_isPlace) := goodIn_app (goodIn_of _ (by decide +kernel)) ggX9_ifDropped_X9_isPlace
set_option maxRecDepth 20000 in
theorem ggX9_ifDropped_X9_fails : GoodIn wsX9_ifDropped wsX9_fails := goodIn_r _ [14, 1, 56, 57, 58, 59, 60, 61, 62, 63, 64, 65, 66] (by decide +kernel) (by decide +kernel)
set_option maxRecDepth 20000 in
theorem gX9_ifDropped_X9_fails : GoodIn wsX9_ifDropped (wsV RX9 40 RX9 yX9_fails wsX9_fails) := goodIn_app (goodIn_of _ (by decide +kernel)) ggX9_ifDropped_X9_fails
set_option maxRecDepth 20000 in
theorem ggX9_ifDropped_X9_in : GoodIn wsX9_ifDropped wsX9_in := goodIn_r _ [10] (by decide +kernel) (by decide +kernel)
set_option maxRecDepth 20000 in
theorem gX9_ifDropped_X9_in : GoodIn wsX9_ifDropped (va_wsS RX9 29 yX9_in wsX9_in) := goodIn_app (goodIn_of _ (by decide +kernel)) ggX9_ifDropped_X9_in
set_option maxRecDepth 20000 in
theorem ggX9_ifDropped_X9_byDropping : GoodIn wsX9_ifDropped wsX9_byDropping := goodIn_r _ [18, 7, 19, 20, 21, 5, 22, 23, 24, 25, 26, 27, 28, 29, 30, 31, 32, 33, 34, 35, 36, 37, 38, 39, 40, 41, 42, 43, 44, 45, 46, 47, 48, 49, 50, 51, 52, 53, 54, 55, 56, 57, 58, 59, 60, 61, 62, 63, 64, 65, 66] (by decide +kernel) (by decide +kernel)
set_option maxRecDepth 20000 in
theorem gX9_ifDropped_X9_byDropping : GoodIn wsX9_ifDropped (wsV RX9 188 RX9 yX9_byDropping wsX9_byDropping) := goodIn_app (goodIn_of _ (by decide +kernel)) ggX9_ifDropped_X9_byDropping
set_option maxRecDepth 20000 in
theorem ggX9_best_X9_copies : GoodIn wsX9_best wsX9_copies := goodIn_r _ [6] (by decide +kernel) (by decide +kernel)
set_option maxRecDepth 20000 in
theorem gX9_best_X9_copies : GoodIn wsX9_best (va_wsS RX9 36 yX9_copies wsX9_copies) := goodIn_app (goodIn_of _ (by decide +kernel)) ggX9_best_X9_copies
set_option maxRecDepth 20000 in
theorem ggX9_best_X9_moves : GoodIn wsX9_best wsX9_moves := goodIn_r _ [9, 10, 11, 5, 12, 13, 14, 15, 16, 17, 18, 19, 20, 21] (by decide +kernel) (by decide +kernel)
set_option maxRecDepth 20000 in
theorem gX9_best_X9_moves : GoodIn wsX9_best (va_wsS RX9 101 yX9_moves wsX9_moves) := goodIn_app (goodIn_of _ (by decide +kernel)) ggX9_best_X9_moves
set_option maxRecDepth 20000 in
theorem ggX9_best_X9_stale : GoodIn wsX9_best wsX9_stale := goodIn_r _ [24, 25, 26, 5, 27, 28, 29, 30, 31, 32, 33, 34, 35, 36, 37, 38, 39, 40, 41, 42, 13, 14, 15] (by decide +kernel) (by decide +kernel)
set_option maxRecDepth 20000 in
theorem gX9_best_X9_stale : GoodIn wsX9_best (va_wsS RX9 176 yX9_stale wsX9_stale) := goodIn_app (goodIn_of _ (by decide +kernel)) ggX9_best_X9_stale
set_option maxRecDepth 20000 in
theorem ggX9_best_X9_binders : GoodIn wsX9_best wsX9_binders := goodIn_r _ [45, 46, 47, 5, 48, 13, 14, 15] (by decide +kernel) (by decide +kernel)
set_option maxRecDepth 20000 in
theorem gX9_best_X9_binders : GoodIn wsX9_best (va_wsS RX9 170 yX9_binders wsX9_binders) := goodIn_app (goodIn_of _ (by decide +kernel)) ggX9_best_X9_binders
set_option maxRecDepth 20000 in
theorem ggX9_bestMove_X9_isPlace : GoodIn wsX9_bestMove wsX9_isPlace := goodIn_r _ [6, 7, 8, 9, 5, 10, 65, 66, 67, 68, 69, 70, 71, 72, 73, 74, 75] (by decide +kernel) (by decide +kernel)
set_option maxRecDepth 20000 in
theorem gX9_bestMove_X9_isPlace : GoodIn wsX9_bestMove (wsV RX9 98 RX9 yX9_isPlace wsX9_isPlace) := goodIn_app (goodIn_of _ (by decide +kernel)) ggX9_bestMove_X9_isPlace
set_option maxRecDepth 20000 in
theorem ggX9_bestMove_X9_best : GoodIn wsX9_bestMove wsX9_best := goodIn_r _ [14, 7, 15, 16, 17, 5, 18, 19, 20, 21, 22, 23, 24, 25, 26, 27, 28, 29, 30, 31, 32, 33, 34, 35, 36, 37, 38, 39, 40, 41, 42, 43, 44, 45, 46, 47, 48, 49, 50, 51, 52, 53, 54, 55, 56, 57, 58, 59, 60, 65, 66, 67, 68, 69, 70, 71, 72, 73, 74, 75] (by decide +kernel) (by decide +kernel)
set_option maxRecDepth 20000 in
theorem gX9_bestMove_X9_best : GoodIn wsX9_bestMove (wsV RX9 191 RX9 yX9_best wsX9_best) := goodIn_app (goodIn_of _ (by decide +kernel)) ggX9_bestMove_X9_best
set_option maxRecDepth 20000 in
theorem ggX9_bestMove_X9_fails : GoodIn wsX9_bestMove wsX9_fails := goodIn_r _ [64, 1, 65, 66, 67, 68, 69, 70, 71, 72, 73, 74, 75] (by decide +kernel) (by decide +kernel)
set_option maxRecDepth 20000 in
theorem gX9_bestMove_X9_fails : GoodIn wsX9_bestMove (wsV RX9 40 RX9 yX9_fails wsX9_fails) := goodIn_app (goodIn_of _ (by decide +kernel)) ggX9_bestMove_X9_fails
set_option maxRecDepth 20000 in
theorem ggX9_least_X9_copies : GoodIn wsX9_least wsX9_copies := goodIn_r _ [6] (by decide +kernel) (by decide +kernel)
set_option maxRecDepth 20000 in
theorem gX9_least_X9_copies : GoodIn wsX9_least (va_wsS RX9 36 yX9_copies wsX9_copies) := goodIn_app (goodIn_of _ (by decide +kernel)) ggX9_least_X9_copies
set_option maxRecDepth 20000 in
theorem ggX9_least_X9_binders : GoodIn wsX9_least wsX9_binders := goodIn_r _ [9, 10, 11, 5, 12, 13, 14, 15] (by decide +kernel) (by decide +kernel)
set_option maxRecDepth 20000 in
theorem gX9_least_X9_binders : GoodIn wsX9_least (va_wsS RX9 170 yX9_binders wsX9_binders) := goodIn_app (goodIn_of _ (by decide +kernel)) ggX9_least_X9_binders
set_option maxRecDepth 20000 in
theorem ggX9_leastPages_X9_in : GoodIn wsX9_leastPages wsX9_in := goodIn_r _ [5] (by decide +kernel) (by decide +kernel)
set_option maxRecDepth 20000 in
theorem gX9_leastPages_X9_in : GoodIn wsX9_leastPages (va_wsS RX9 29 yX9_in wsX9_in) := goodIn_app (goodIn_of _ (by decide +kernel)) ggX9_leastPages_X9_in
set_option maxRecDepth 20000 in
theorem ggX9_leastPages_X9_least : GoodIn wsX9_leastPages wsX9_least := goodIn_r _ [9, 10, 11, 12, 13, 4, 14, 15, 16, 17, 18, 19, 20, 21, 22, 23, 28, 29, 30, 31, 32, 33, 34, 35, 36, 37, 38] (by decide +kernel) (by decide +kernel)
set_option maxRecDepth 20000 in
theorem gX9_leastPages_X9_least : GoodIn wsX9_leastPages (wsV RX9 194 RX9 yX9_least wsX9_least) := goodIn_app (goodIn_of _ (by decide +kernel)) ggX9_leastPages_X9_least
set_option maxRecDepth 20000 in
theorem ggX9_leastPages_X9_fails : GoodIn wsX9_leastPages wsX9_fails := goodIn_r _ [27, 1, 28, 29, 30, 31, 32, 33, 34, 35, 36, 37, 38] (by decide +kernel) (by decide +kernel)
set_option maxRecDepth 20000 in
theorem gX9_leastPages_X9_fails : GoodIn wsX9_leastPages (wsV RX9 40 RX9 yX9_fails wsX9_fails) := goodIn_app (goodIn_of _ (by decide +kernel)) ggX9_leastPages_X9_fails
set_option maxRecDepth 20000 in
theorem ggX9_share_X9_uncited : GoodIn wsX9_share wsX9_uncited := goodIn_r _ [6, 1, 7, 8, 5, 9, 10, 11, 12, 13, 14, 15, 16, 17, 18, 19, 20, 21, 22, 23, 24, 25, 26, 27, 28, 29, 30, 31, 32, 33, 34, 35, 36, 37, 38] (by decide +kernel) (by decide +kernel)
set_option maxRecDepth 20000 in
theorem gX9_share_X9_uncited : GoodIn wsX9_share (wsV RX9 179 RX9 yX9_uncited wsX9_uncited) := goodIn_app (goodIn_of _ (by decide +kernel)) ggX9_share_X9_uncited
set_option maxRecDepth 20000 in
theorem ggX9_citedShare_X9_share : GoodIn wsX9_citedShare wsX9_share := goodIn_r _ [6, 7, 8, 9, 10, 5, 11, 12, 13, 14, 15, 16, 17, 18, 19, 20, 21, 22, 23, 24, 25, 26, 27, 28, 29, 30, 31, 32, 33, 34, 35, 36, 37, 38, 39, 40, 41, 42, 43] (by decide +kernel) (by decide +kernel)
set_option maxRecDepth 20000 in
theorem gX9_citedShare_X9_share : GoodIn wsX9_citedShare (wsV RX9 197 RX9 yX9_share wsX9_share) := goodIn_app (goodIn_of _ (by decide +kernel)) ggX9_citedShare_X9_share
set_option maxRecDepth 20000 in
theorem ggX9_digest_X9_counted : GoodIn wsX9_digest wsX9_counted := goodIn_r _ [11, 4, 12, 13, 14, 15, 10, 16, 17, 18, 19, 20, 21, 22, 23, 24, 25, 26, 27, 28, 29, 30, 31, 32, 33, 34, 35, 36, 37, 38, 39, 40, 41, 42, 43, 44, 45, 46, 47, 48, 49, 50, 51, 52, 53, 54, 55, 56, 57, 58, 59, 60, 61, 62, 63, 131, 132, 133, 134, 135, 136, 137, 138, 139, 140, 141] (by decide +kernel) (by decide +kernel)
set_option maxRecDepth 20000 in
theorem gX9_digest_X9_counted : GoodIn wsX9_digest (wsV RX9 182 RX9 yX9_counted wsX9_counted) := goodIn_app (goodIn_of _ (by decide +kernel)) ggX9_digest_X9_counted
set_option maxRecDepth 20000 in
theorem ggX9_digest_X9_ofExhibit : GoodIn wsX9_digest wsX9_ofExhibit := goodIn_r _ [67, 4, 68, 69, 10, 70, 17, 18, 19, 23, 24, 25, 61, 62, 63, 30, 31, 32, 42, 43, 44, 45, 46, 47, 48, 49, 50, 39, 40, 41, 131, 132, 133, 134, 135, 136, 137, 138, 139, 140, 141] (by decide +kernel) (by decide +kernel)
set_option maxRecDepth 20000 in
theorem gX9_digest_X9_ofExhibit : GoodIn wsX9_digest (wsV RX9 153 RX9 yX9_ofExhibit wsX9_ofExhibit) := goodIn_app (goodIn_of _ (by decide +kernel)) ggX9_digest_X9_ofExhibit
set_option maxRecDepth 20000 in
theorem ggX9_digest_X9_row : GoodIn wsX9_digest wsX9_row := goodIn_r _ [74, 4, 30, 31, 10, 32, 42, 43, 44, 45, 46, 47, 48, 49, 50, 39, 40, 41, 17, 18, 19, 131, 132, 133, 134, 135, 136, 137, 138, 139, 140, 141] (by decide +kernel) (by decide +kernel)
set_option maxRecDepth 20000 in
theorem gX9_digest_X9_row : GoodIn wsX9_digest (wsV RX9 163 RX9 yX9_row wsX9_row) := goodIn_app (goodIn_of _ (by decide +kernel)) ggX9_digest_X9_row
set_option maxRecDepth 20000 in
theorem ggX9_digest_X9_byDropping : GoodIn wsX9_digest wsX9_byDropping := goodIn_r _ [78, 4, 79, 80, 81, 10, 82, 83, 84, 85, 33, 34, 35, 36, 37, 38, 30, 31, 32, 39, 40, 41, 42, 43, 44, 45, 46, 47, 48, 49, 50, 17, 18, 19, 51, 52, 53, 54, 55, 56, 131, 132, 133, 134, 135, 136, 137, 138, 139, 140, 141] (by decide +kernel) (by decide +kernel)
set_option maxRecDepth 20000 in
theorem gX9_digest_X9_byDropping : GoodIn wsX9_digest (wsV RX9 188 RX9 yX9_byDropping wsX9_byDropping) := goodIn_app (goodIn_of _ (by decide +kernel)) ggX9_digest_X9_byDropping
set_option maxRecDepth 20000 in
theorem ggX9_digest_X9_best : GoodIn wsX9_digest wsX9_best := goodIn_r _ [89, 4, 79, 80, 81, 10, 82, 90, 91, 92, 68, 69, 70, 17, 18, 19, 83, 84, 85, 93, 94, 95, 51, 52, 53, 54, 55, 56, 30, 31, 32, 42, 43, 44, 45, 46, 47, 48, 49, 50, 39, 40, 41, 20, 21, 22, 23, 24, 25, 131, 132, 133, 134, 135, 136, 137, 138, 139, 140, 141] (by decide +kernel) (by decide +kernel)
set_option maxRecDepth 20000 in
theorem gX9_digest_X9_best : GoodIn wsX9_digest (wsV RX9 191 RX9 yX9_best wsX9_best) := goodIn_app (goodIn_of _ (by decide +kernel)) ggX9_digest_X9_best
set_option maxRecDepth 20000 in
theorem ggX9_digest_X9_ofParagraph : GoodIn wsX9_digest wsX9_ofParagraph := goodIn_r _ [99, 4, 30, 31, 10, 32, 36, 37, 38, 39, 40, 41, 42, 43, 44, 45, 46, 47, 48, 49, 50, 17, 18, 19, 54, 55, 56, 131, 132, 133, 134, 135, 136, 137, 138, 139, 140, 141] (by decide +kernel) (by decide +kernel)
set_option maxRecDepth 20000 in
theorem gX9_digest_X9_ofParagraph : GoodIn wsX9_digest (wsV RX9 160 RX9 yX9_ofParagraph wsX9_ofParagraph) := goodIn_app (goodIn_of _ (by decide +kernel)) ggX9_digest_X9_ofParagraph
set_option maxRecDepth 20000 in
theorem ggX9_digest_X9_cites : GoodIn wsX9_digest wsX9_cites := goodIn_r _ [32] (by decide +kernel) (by decide +kernel)
set_option maxRecDepth 20000 in
theorem gX9_digest_X9_cites : GoodIn wsX9_digest (va_wsS RX9 59 yX9_cites wsX9_cites) := goodIn_app (goodIn_of _ (by decide +kernel)) ggX9_digest_X9_cites
set_option maxRecDepth 20000 in
theorem ggX9_digest_X9_ofCitation : GoodIn wsX9_digest wsX9_ofCitation := goodIn_r _ [103, 4, 45, 46, 10, 47, 42, 43, 44, 48, 49, 50, 39, 40, 41, 17, 18, 19, 23, 24, 25, 131, 132, 133, 134, 135, 136, 137, 138, 139, 140, 141] (by decide +kernel) (by decide +kernel)
set_option maxRecDepth 20000 in
theorem gX9_digest_X9_ofCitation : GoodIn wsX9_digest (wsV RX9 156 RX9 yX9_ofCitation wsX9_ofCitation) := goodIn_app (goodIn_of _ (by decide +kernel)) ggX9_digest_X9_ofCitation
set_option maxRecDepth 20000 in
theorem ggX9_digest_X9_byInserting : GoodIn wsX9_digest wsX9_byInserting := goodIn_r _ [107, 4, 79, 80, 81, 10, 82, 108, 109, 110, 93, 94, 95, 51, 52, 53, 54, 55, 56, 30, 31, 32, 42, 43, 44, 45, 46, 47, 48, 49, 50, 39, 40, 41, 17, 18, 19, 20, 21, 22, 23, 24, 25, 131, 132, 133, 134, 135, 136, 137, 138, 139, 140, 141] (by decide +kernel) (by decide +kernel)
set_option maxRecDepth 20000 in
theorem gX9_digest_X9_byInserting : GoodIn wsX9_digest (wsV RX9 185 RX9 yX9_byInserting wsX9_byInserting) := goodIn_app (goodIn_of _ (by decide +kernel)) ggX9_digest_X9_byInserting
set_option maxRecDepth 20000 in
theorem ggX9_digest_X9_least : GoodIn wsX9_digest wsX9_least := goodIn_r _ [114, 4, 79, 80, 81, 10, 82, 20, 21, 22, 23, 24, 25, 17, 18, 19, 131, 132, 133, 134, 135, 136, 137, 138, 139, 140, 141] (by decide +kernel) (by decide +kernel)
set_option maxRecDepth 20000 in
theorem gX9_digest_X9_least : GoodIn wsX9_digest (wsV RX9 194 RX9 yX9_least wsX9_least) := goodIn_app (goodIn_of _ (by decide +kernel)) ggX9_digest_X9_least
set_option maxRecDepth 20000 in
theorem ggX9_digest_X9_share : GoodIn wsX9_digest wsX9_share := goodIn_r _ [118, 4, 57, 58, 59, 10, 60, 61, 62, 63, 30, 31, 32, 42, 43, 44, 45, 46, 47, 48, 49, 50, 39, 40, 41, 17, 18, 19, 131, 132, 133, 134, 135, 136, 137, 138, 139, 140, 141] (by decide +kernel) (by decide +kernel)
set_option maxRecDepth 20000 in
theorem gX9_digest_X9_share : GoodIn wsX9_digest (wsV RX9 197 RX9 yX9_share wsX9_share) := goodIn_app (goodIn_of _ (by decide +kernel)) ggX9_digest_X9_share
set_option maxRecDepth 20000 in
theorem ggX9_digest_Jxe99ae_doubleToLongBits_ccdee : GoodIn wsX9_digest wsJxe99ae_doubleToLongBits_ccdee := goodIn_r _ [122, 123, 124, 125, 126, 127, 128, 129, 121, 130] (by decide +kernel) (by decide +kernel)
set_option maxRecDepth 20000 in
theorem gX9_digest_Jxe99ae_doubleToLongBits_ccdee : GoodIn wsX9_digest (va_wsS RX9 205 yJxe99ae_doubleToLongBits_ccdee wsJxe99ae_doubleToLongBits_ccdee) := goodIn_app (goodIn_of _ (by decide +kernel)) ggX9_digest_Jxe99ae_doubleToLongBits_ccdee
set_option maxRecDepth 20000 in
theorem ggL_insert_X8_insert : GoodIn wsL_insert wsX8_insert := goodIn_ca (goodIn_ca (goodIn_ca (goodIn_r _ [8, 9, 10, 11, 12, 13, 14, 15, 7, 16, 17, 18, 19, 20, 21, 22, 23, 24, 25, 26, 27, 28, 29, 30, 31, 32, 33, 34, 35, 36, 37, 38, 39, 40, 41, 42, 43, 44, 45, 46, 47, 48, 49, 50, 51, 52, 53, 54, 55, 56, 57, 58, 59, 60, 61, 62, 63, 64, 65, 66, 67, 68, 69, 70, 71, 72, 73, 74, 75, 76, 77, 78, 79, 80, 81, 82, 83, 84, 85, 86, 87, 88, 89, 90, 91, 92, 93, 94, 95, 96, 97, 98, 99, 100, 101, 102, 103, 104, 105, 106, 107, 108, 109, 110, 111, 112, 113, 114, 115, 116, 117, 118, 119, 120, 121, 122, 123, 124, 125, 126, 127, 128, 129, 130, 131, 132, 133, 134, 135, 136, 137, 138, 139, 140, 141, 142, 143, 144, 145, 146] (by decide +kernel) (by decide +kernel)) (goodIn_sub (fun _ h => List.mem_cons_of_mem _ (List.mem_append_left _ (List.mem_append_left _ (List.mem_append_right _ h)))) (by decide +kernel))) (goodIn_sub (fun _ h => List.mem_cons_of_mem _ (List.mem_append_left _ (List.mem_append_right _ h))) (by decide +kernel))) (goodIn_sub (fun _ h => List.mem_cons_of_mem _ (List.mem_append_right _ h)) (by decide +kernel))
set_option maxRecDepth 20000 in
theorem gL_insert_X8_insert : GoodIn wsL_insert (wsV RL 7 RX8 yX8_insert wsX8_insert) := goodIn_app (goodIn_of _ (by decide +kernel)) ggL_insert_X8_insert
set_option maxRecDepth 20000 in
theorem ggL_move_X8_move : GoodIn wsL_move wsX8_move := goodIn_ca (goodIn_r _ [6, 7, 8, 9, 10, 11, 12, 13, 14, 15, 5, 16, 17, 18, 19, 20, 21, 22, 23, 24, 25, 26, 27, 28, 29, 30, 31, 32, 33, 34, 35, 36, 37, 38, 39, 40, 41, 42, 43, 44, 45, 46, 47, 48, 49, 50, 51, 52, 53, 54, 55, 56, 57, 58, 59, 60, 61, 62, 63, 64, 65, 66, 67, 68, 69, 70, 71, 72, 73, 74, 75, 76, 77, 78, 79, 80, 81, 82, 83, 84, 85, 86, 87, 88, 89, 90, 91, 92, 93, 94, 95, 96, 97, 98, 99, 100, 101, 102, 103, 104, 105, 106, 107, 108, 109, 110, 111, 112, 113, 114, 115, 116, 117, 118, 119, 120, 121, 122, 123, 124, 125, 126, 127, 128, 129, 130, 131, 132, 133, 134, 135] (by decide +kernel) (by decide +kernel)) (goodIn_sub (fun _ h => List.mem_cons_of_mem _ (List.mem_append_right _ h)) (by decide +kernel))
set_option maxRecDepth 20000 in
theorem gL_move_X8_move : GoodIn wsL_move (wsV RL 19 RX8 yX8_move wsX8_move) := goodIn_app (goodIn_of _ (by decide +kernel)) ggL_move_X8_move
set_option maxRecDepth 20000 in
theorem ggL_drop_X8_drop : GoodIn wsL_drop wsX8_drop := goodIn_ca (goodIn_r _ [6, 7, 8, 9, 10, 11, 12, 13, 5, 14, 15, 16, 17, 18, 19, 20, 21, 22, 23, 24, 25, 26, 27, 28, 29, 30, 31, 32, 33, 34, 35, 36, 37, 38, 39, 40, 41, 42, 43, 44, 45, 46, 47, 48, 49, 50, 51, 52, 53, 54, 55, 56, 57, 58, 59, 60, 61, 62, 63, 64, 65, 66, 67, 68, 69, 70, 71, 72, 73, 74, 75, 76, 77, 78, 79, 80, 81, 82, 83, 84, 85, 86, 87, 88, 89, 90, 91, 92, 93, 94, 95, 96, 97, 98, 99, 100, 101, 102, 103, 104, 105, 106, 107, 108, 109, 110, 111, 112, 113, 114, 115, 116, 117, 118, 119, 120, 121, 122, 123, 124, 125, 126, 127, 128, 129, 130, 131, 132, 133, 134, 135, 136, 137, 138, 139, 140, 141, 142] (by decide +kernel) (by decide +kernel)) (goodIn_sub (fun _ h => List.mem_cons_of_mem _ (List.mem_append_right _ h)) (by decide +kernel))
set_option maxRecDepth 20000 in
theorem gL_drop_X8_drop : GoodIn wsL_drop (wsV RL 22 RX8 yX8_drop wsX8_drop) := goodIn_app (goodIn_of _ (by decide +kernel)) ggL_drop_X8_drop
set_option maxRecDepth 20000 in
theorem ggL_pages_X8_pages : GoodIn wsL_pages wsX8_pages := goodIn_ca (goodIn_ca (goodIn_r _ [7, 8, 9, 10, 11, 12, 13, 14, 15, 6, 16, 17, 18, 19, 20, 21, 22, 23, 24, 25, 26, 27, 28, 29, 30, 31, 32, 33, 34, 35, 36, 37, 38, 39, 40, 41, 42, 43, 44, 45, 46, 47, 48, 49, 50, 51, 52, 53, 54, 55, 56, 57, 58, 59, 60, 61, 62, 63, 64, 65, 66, 67, 68, 69, 70, 71, 72, 73, 74, 75, 76, 77, 78, 79, 80, 81, 82, 83, 84, 85, 86, 87, 88, 89, 90, 91, 92, 93, 94, 95, 96, 97, 98, 99, 100, 101, 102, 103, 104, 105, 106, 107, 108, 109, 110, 111, 112, 113, 114, 115, 116, 117, 118, 119, 120, 121, 122, 123, 124, 125, 126, 127, 128, 129, 130, 131, 132] (by decide +kernel) (by decide +kernel)) (goodIn_sub (fun _ h => List.mem_cons_of_mem _ (List.mem_append_left _ (List.mem_append_right _ h))) (by decide +kernel))) (goodIn_sub (fun _ h => List.mem_cons_of_mem _ (List.mem_append_right _ h)) (by decide +kernel))
set_option maxRecDepth 20000 in
theorem gL_pages_X8_pages : GoodIn wsL_pages (wsV RL 26 RX8 yX8_pages wsX8_pages) := goodIn_app (goodIn_of _ (by decide +kernel)) ggL_pages_X8_pages
set_option maxRecDepth 20000 in
theorem ggL_join_X8_join : GoodIn wsL_join wsX8_join := goodIn_ca (goodIn_ca (goodIn_r _ [7, 8, 9, 10, 11, 12, 13, 14, 15, 16, 17, 18, 19, 20, 21, 22, 6, 23, 24, 25, 26, 27, 28, 29, 30, 31, 32, 33, 34, 35, 36, 37, 38, 39, 40, 41, 42, 43, 44, 45, 46, 47, 48, 49, 50, 51, 52, 53, 54, 55, 56, 57, 58, 59, 60, 61, 62, 63, 64, 65, 66, 67, 68, 69, 70, 71, 72, 73, 74, 75, 76, 77, 78, 79, 80, 81, 82, 83, 84, 85, 86, 87, 88, 89, 90, 91, 92, 93, 94, 95, 96, 97, 98, 99, 100, 101, 102, 103, 104, 105, 106, 107, 108, 109, 110, 111, 112, 113, 114, 115, 116, 117, 118, 119, 120, 121, 122, 123, 124, 125, 126, 127, 128, 129, 130, 131, 132, 133, 134, 135, 136, 137, 138, 139] (by decide +kernel) (by decide +kernel)) (goodIn_sub (fun _ h => List.mem_cons_of_mem _ (List.mem_append_left _ (List.mem_append_right _ h))) (by decide +kernel))) (goodIn_sub (fun _ h => List.mem_cons_of_mem _ (List.mem_append_right _ h)) (by decide +kernel))
set_option maxRecDepth 20000 in
theorem gL_join_X8_join : GoodIn wsL_join (wsV RL 29 RX8 yX8_join wsX8_join) := goodIn_app (goodIn_of _ (by decide +kernel)) ggL_join_X8_join
set_option maxRecDepth 20000 in
theorem ggL_split_X8_split : GoodIn wsL_split wsX8_split := goodIn_ca (goodIn_ca (goodIn_ca (goodIn_r _ [8, 9, 10, 11, 12, 13, 14, 15, 16, 17, 18, 19, 20, 7, 21, 22, 23, 24, 25, 26, 27, 28, 29, 30, 31, 32, 33, 34, 35, 36, 37, 38, 39, 40, 41, 42, 43, 44, 45, 46, 47, 48, 49, 50, 51, 52, 53, 54, 55, 56, 57, 58, 59, 60, 61, 62, 63, 64, 65, 66, 67, 68, 69, 70, 71, 72, 73, 74, 75, 76, 77, 78, 79, 80, 81, 82, 83, 84, 85, 86, 87, 88, 89, 90, 91, 92, 93, 94, 95, 96, 97, 98, 99, 100, 101, 102, 103, 104, 105, 106, 107, 108, 109, 110, 111, 112, 113, 114, 115, 116, 117, 118, 119, 120, 121, 122, 123, 124, 125, 126, 127, 128, 129, 130, 131, 132, 133, 134, 135, 136, 137, 138, 139, 140, 141, 142, 143, 144, 145, 146, 147, 148, 149, 150] (by decide +kernel) (by decide +kernel)) (goodIn_sub (fun _ h => List.mem_cons_of_mem _ (List.mem_append_left _ (List.mem_append_left _ (List.mem_append_right _ h)))) (by decide +kernel))) (goodIn_sub (fun _ h => List.mem_cons_of_mem _ (List.mem_append_left _ (List.mem_append_right _ h))) (by decide +kernel))) (goodIn_sub (fun _ h => List.mem_cons_of_mem _ (List.mem_append_right _ h)) (by decide +kernel))
set_option maxRecDepth 20000 in
theorem gL_split_X8_split : GoodIn wsL_split (wsV RL 32 RX8 yX8_split wsX8_split) := goodIn_app (goodIn_of _ (by decide +kernel)) ggL_split_X8_split
set_option maxRecDepth 20000 in
theorem ggL_cite_X8_cite : GoodIn wsL_cite wsX8_cite := goodIn_ca (goodIn_ca (goodIn_ca (goodIn_r _ [8, 9, 10, 11, 12, 13, 14, 15, 16, 17, 18, 19, 7, 20, 21, 22, 23, 24, 25, 26, 27, 28, 29, 30, 31, 32, 33, 34, 35, 36, 37, 38, 39, 40, 41, 42, 43, 44, 45, 46, 47, 48, 49, 50, 51, 52, 53, 54, 55, 56, 57, 58, 59, 60, 61, 62, 63, 64, 65, 66, 67, 68, 69, 70, 71, 72, 73, 74, 75, 76, 77, 78, 79, 80, 81, 82, 83, 84, 85, 86, 87, 88, 89, 90, 91, 92, 93, 94, 95, 96, 97, 98, 99, 100, 101, 102, 103, 104, 105, 106, 107, 108, 109, 110, 111, 112, 113, 114, 115, 116, 117, 118, 119, 120, 121, 122, 123, 124, 125, 126, 127, 128, 129, 130, 131, 132, 133, 134, 135, 136, 137, 138, 139, 140, 141, 142, 143, 144] (by decide +kernel) (by decide +kernel)) (goodIn_sub (fun _ h => List.mem_cons_of_mem _ (List.mem_append_left _ (List.mem_append_left _ (List.mem_append_right _ h)))) (by decide +kernel))) (goodIn_sub (fun _ h => List.mem_cons_of_mem _ (List.mem_append_left _ (List.mem_append_right _ h))) (by decide +kernel))) (goodIn_sub (fun _ h => List.mem_cons_of_mem _ (List.mem_append_right _ h)) (by decide +kernel))
set_option maxRecDepth 20000 in
theorem gL_cite_X8_cite : GoodIn wsL_cite (wsV RL 35 RX8 yX8_cite wsX8_cite) := goodIn_app (goodIn_of _ (by decide +kernel)) ggL_cite_X8_cite
set_option maxRecDepth 20000 in
theorem ggL_clean_X8_clean : GoodIn wsL_clean wsX8_clean := goodIn_ca (goodIn_r _ [6, 7, 8, 9, 10, 11, 12, 13, 5, 14, 15, 16, 17, 18, 19, 20, 21, 22, 23, 24, 25, 26, 27, 28, 29, 30, 31, 32, 33, 34, 35, 36, 37, 38, 39, 40, 41, 42, 43, 44, 45, 46, 47, 48, 49, 50, 51, 52, 53, 54, 55, 56, 57, 58, 59, 60, 61, 62, 63, 64, 65, 66, 67, 68, 69, 70, 71, 72, 73, 74, 75, 76, 77, 78, 79, 80, 81, 82, 83, 84, 85, 86, 87, 88, 89, 90, 91, 92, 93, 94, 95, 96, 97, 98, 99, 100, 101, 102, 103, 104, 105, 106, 107, 108, 109, 110, 111, 112, 113, 114, 115, 116, 117, 118, 119, 120, 121, 122, 123, 124, 125, 126, 127, 128, 129, 130, 131, 132] (by decide +kernel) (by decide +kernel)) (goodIn_sub (fun _ h => List.mem_cons_of_mem _ (List.mem_append_right _ h)) (by decide +kernel))
set_option maxRecDepth 20000 in
theorem gL_clean_X8_clean : GoodIn wsL_clean (wsV RL 39 RX8 yX8_clean wsX8_clean) := goodIn_app (goodIn_of _ (by decide +kernel)) ggL_clean_X8_clean
set_option maxRecDepth 20000 in
theorem ggL_print_X8_print : GoodIn wsL_print wsX8_print := goodIn_ca (goodIn_r _ [6, 7, 8, 9, 10, 11, 12, 13, 14, 15, 16, 17, 18, 19, 20, 5, 21, 22, 23, 24, 25, 26, 27, 28, 29, 30, 31, 32, 33, 34, 35, 36, 37, 38, 39, 40, 41, 42, 43, 44, 45, 46, 47, 48, 49, 50, 51, 52, 53, 54, 55, 56, 57, 58, 59, 60, 61, 62, 63, 64, 65, 66, 67, 68, 69, 70, 71, 72, 73, 74, 75, 76, 77, 78, 79, 80, 81, 82, 83, 84, 85, 86, 87, 88, 89, 90, 91, 92, 93, 94, 95, 96, 97, 98, 99, 100, 101, 102, 103, 104, 105, 106, 107, 108] (by decide +kernel) (by decide +kernel)) (goodIn_sub (fun _ h => List.mem_cons_of_mem _ (List.mem_append_right _ h)) (by decide +kernel))
set_option maxRecDepth 20000 in
theorem gL_print_X8_print : GoodIn wsL_print (wsV RL 42 RX8 yX8_print wsX8_print) := goodIn_app (goodIn_of _ (by decide +kernel)) ggL_print_X8_print
set_option maxRecDepth 20000 in
theorem ggL_set_X8_set : GoodIn wsL_set wsX8_set := goodIn_ca (goodIn_r _ [6, 7, 8, 9, 10, 11, 12, 13, 14, 15, 16, 17, 18, 19, 20, 21, 22, 23, 24, 25, 26, 27, 28, 29, 30, 31, 32, 33, 34, 35, 36, 37, 38, 39, 40, 41, 42, 43, 44, 45, 46, 47, 48, 49, 50, 51, 52, 53, 54, 55, 56, 57, 58, 59, 60, 61, 62, 63, 64, 65, 66, 67, 68, 69, 70, 71, 72, 73, 74, 75, 76, 77, 78, 79, 80, 81, 82, 83, 84, 85, 86, 87, 88, 5, 89, 90, 91, 92, 93, 94, 95, 96, 97, 98, 99, 100, 101, 102, 103, 104, 105, 106, 107, 108, 109, 110, 111, 112, 113, 114, 115, 116, 117, 118, 119, 120, 121] (by decide +kernel) (by decide +kernel)) (goodIn_sub (fun _ h => List.mem_cons_of_mem _ (List.mem_append_right _ h)) (by decide +kernel))
set_option maxRecDepth 20000 in
theorem gL_set_X8_set : GoodIn wsL_set (wsV RL 45 RX8 yX8_set wsX8_set) := goodIn_app (goodIn_of _ (by decide +kernel)) ggL_set_X8_set
set_option maxRecDepth 20000 in
theorem ggL_append_X8_append : GoodIn wsL_append wsX8_append := goodIn_ca (goodIn_ca (goodIn_r _ [7, 8, 9, 10, 11, 12, 13, 14, 15, 16, 17, 18, 19, 20, 21, 22, 23, 24, 25, 26, 27, 28, 29, 30, 31, 32] (by decide +kernel) (by decide +kernel)) (goodIn_sub (fun _ h => List.mem_cons_of_mem _ (List.mem_append_left _ (List.mem_append_right _ h))) (by decide +kernel))) (goodIn_sub (fun _ h => List.mem_cons_of_mem _ (List.mem_append_right _ h)) (by decide +kernel))
set_option maxRecDepth 20000 in
theorem gL_append_X8_append : GoodIn wsL_append (wsV RL 48 RX8 yX8_append wsX8_append) := goodIn_app (goodIn_of _ (by decide +kernel)) ggL_append_X8_append
set_option maxRecDepth 20000 in
theorem ggL_citeAll_X8_citeAll : GoodIn wsL_citeAll wsX8_citeAll := goodIn_ca (goodIn_ca (goodIn_ca (goodIn_r _ [8, 9, 10, 11, 12, 13, 14, 15, 16, 17, 18, 19, 20, 21, 22, 23, 24, 25, 26, 27, 7, 28, 29, 30, 31, 32, 33, 34, 35, 36, 37, 38, 39, 40, 41, 42, 43, 44, 45, 46, 47, 48, 49, 50, 51, 52, 53, 54, 55, 56, 57, 58, 59, 60, 61, 62, 63, 64, 65, 66, 67, 68, 69, 70, 71, 72, 73, 74, 75, 76, 77, 78, 79, 80, 81, 82, 83, 84, 85, 86, 87, 88, 89, 90, 91, 92, 93, 94, 95, 96, 97, 98, 99, 100, 101, 102, 103, 104, 105, 106, 107, 108, 109, 110, 111, 112, 113, 114, 115, 116, 117, 118, 119, 120, 121, 122, 123, 124, 125, 126, 127, 128, 129, 130, 131, 132, 133, 134, 135, 136, 137, 138, 139, 140, 141, 142, 143, 144, 145, 146, 147, 148, 149, 150, 151, 152, 153, 154, 155, 156, 157, 158, 159, 160, 161, 162, 163, 164, 165, 166, 167, 168, 169, 170, 171, 172, 173, 174, 175, 176, 177, 178, 179, 180, 181, 182, 183, 184, 185, 186, 187] (by decide +kernel) (by decide +kernel)) (goodIn_sub (fun _ h => List.mem_cons_of_mem _ (List.mem_append_left _ (List.mem_append_left _ (List.mem_append_right _ h)))) (by decide +kernel))) (goodIn_sub (fun _ h => List.mem_cons_of_mem _ (List.mem_append_left _ (List.mem_append_right _ h))) (by decide +kernel))) (goodIn_sub (fun _ h => List.mem_cons_of_mem _ (List.mem_append_right _ h)) (by decide +kernel))
set_option maxRecDepth 20000 in
theorem gL_citeAll_X8_citeAll : GoodIn wsL_citeAll (wsV RL 51 RX8 yX8_citeAll wsX8_citeAll) := goodIn_app (goodIn_of _ (by decide +kernel)) ggL_citeAll_X8_citeAll
set_option maxRecDepth 20000 in
theorem ggL_undo_X8_undo : GoodIn wsL_undo wsX8_undo := goodIn_ca (goodIn_r _ [6, 7, 8, 9, 10, 11, 12, 13, 14, 15, 16, 17, 18, 19, 20, 21, 22, 23, 24, 25, 26, 27, 28, 29, 30, 31, 32, 33, 34, 35, 36, 37, 38, 39, 40, 41, 42, 43, 44, 45, 46, 47, 48, 49, 50, 51, 52, 53, 54, 55, 56, 57, 58, 59, 60, 61, 62, 63, 64, 65, 66, 67, 68, 69, 70, 71, 72, 73, 74, 75, 76, 77, 78, 79, 80, 81, 82, 83, 84, 85, 86, 87, 5, 88, 89, 90, 91, 92, 93, 94, 95, 96, 97, 98, 99, 100, 101, 102, 103, 104, 105, 106, 107, 108, 109, 110, 111, 112, 113, 114, 115, 116, 117, 118, 119, 120] (by decide +kernel) (by decide +kernel)) (goodIn_sub (fun _ h => List.mem_cons_of_mem _ (List.mem_append_right _ h)) (by decide +kernel))
set_option maxRecDepth 20000 in
theorem gL_undo_X8_undo : GoodIn wsL_undo (wsV RL 54 RX8 yX8_undo wsX8_undo) := goodIn_app (goodIn_of _ (by decide +kernel)) ggL_undo_X8_undo
set_option maxRecDepth 20000 in
theorem ggL_exhibit_X8_exhibit : GoodIn wsL_exhibit wsX8_exhibit := goodIn_ca (goodIn_r _ [6, 7, 8, 9, 10, 11, 12, 13, 14, 15, 16, 17, 18, 19, 5, 20, 21, 22, 23, 24, 25, 26, 27, 28, 29, 30, 31, 32, 33, 34, 35, 36, 37, 38, 39, 40, 41, 42, 43, 44, 45, 46, 47, 48, 49, 50, 51, 52, 53] (by decide +kernel) (by decide +kernel)) (goodIn_sub (fun _ h => List.mem_cons_of_mem _ (List.mem_append_right _ h)) (by decide +kernel))
set_option maxRecDepth 20000 in
theorem gL_exhibit_X8_exhibit : GoodIn wsL_exhibit (wsV RL 58 RX8 yX8_exhibit wsX8_exhibit) := goodIn_app (goodIn_of _ (by decide +kernel)) ggL_exhibit_X8_exhibit
set_option maxRecDepth 20000 in
theorem ggL_citation_X8_citation : GoodIn wsL_citation wsX8_citation := goodIn_ca (goodIn_ca (goodIn_r _ [7, 8, 9, 10, 11, 12, 13, 14, 15, 16, 17, 18, 19, 6, 20, 21, 22, 23, 24, 25, 26, 27, 28, 29, 30, 31, 32, 33, 34, 35, 36, 37, 38, 39, 40, 41, 42, 43, 44, 45, 46, 47, 48, 49, 50, 51] (by decide +kernel) (by decide +kernel)) (goodIn_sub (fun _ h => List.mem_cons_of_mem _ (List.mem_append_left _ (List.mem_append_right _ h))) (by decide +kernel))) (goodIn_sub (fun _ h => List.mem_cons_of_mem _ (List.mem_append_right _ h)) (by decide +kernel))
set_option maxRecDepth 20000 in
theorem gL_citation_X8_citation : GoodIn wsL_citation (wsV RL 61 RX8 yX8_citation wsX8_citation) := goodIn_app (goodIn_of _ (by decide +kernel)) ggL_citation_X8_citation
set_option maxRecDepth 20000 in
theorem ggL_paragraph_X8_paragraph : GoodIn wsL_paragraph wsX8_paragraph := goodIn_ca (goodIn_ca (goodIn_r _ [7, 8, 9, 10, 11, 12, 13, 14, 15, 6, 16, 17, 18, 19, 20, 21, 22, 23, 24, 25, 26, 27, 28, 29, 30, 31, 32, 33, 34, 35, 36, 37, 38, 39, 40, 41, 42, 43, 44, 45, 46, 47, 48, 49, 50, 51, 52, 53, 54, 55, 56, 57, 58, 59, 60, 61, 62] (by decide +kernel) (by decide +kernel)) (goodIn_sub (fun _ h => List.mem_cons_of_mem _ (List.mem_append_left _ (List.mem_append_right _ h))) (by decide +kernel))) (goodIn_sub (fun _ h => List.mem_cons_of_mem _ (List.mem_append_right _ h)) (by decide +kernel))
set_option maxRecDepth 20000 in
theorem gL_paragraph_X8_paragraph : GoodIn wsL_paragraph (wsV RL 64 RX8 yX8_paragraph wsX8_paragraph) := goodIn_app (goodIn_of _ (by decide +kernel)) ggL_paragraph_X8_paragraph
set_option maxRecDepth 20000 in
theorem ggL_table_X8_table : GoodIn wsL_table wsX8_table := goodIn_ca (goodIn_r _ [6, 7, 8, 9, 5, 10, 11, 12, 13, 14, 15, 16, 17, 18, 19, 20, 21, 22, 23, 24, 25, 26, 27, 28, 29, 30, 31, 32, 33, 34, 35, 36, 37, 38, 39, 40, 41, 42, 43, 44, 45, 46, 47, 48, 49, 50] (by decide +kernel) (by decide +kernel)) (goodIn_sub (fun _ h => List.mem_cons_of_mem _ (List.mem_append_right _ h)) (by decide +kernel))
set_option maxRecDepth 20000 in
theorem gL_table_X8_table : GoodIn wsL_table (wsV RL 67 RX8 yX8_table wsX8_table) := goodIn_app (goodIn_of _ (by decide +kernel)) ggL_table_X8_table
set_option maxRecDepth 20000 in
theorem ggL_count_X8_count : GoodIn wsL_count wsX8_count := goodIn_ca (goodIn_r _ [6, 7, 8, 9, 10, 11, 12, 13, 14, 15, 16, 17, 5, 18, 19, 20, 21, 22, 23, 24, 25, 26, 27, 28, 29, 30, 31, 32, 33, 34, 35, 36, 37, 38, 39, 40, 41, 42, 43, 44, 45, 46, 47, 48, 49, 50, 51, 52, 53, 54, 55, 56, 57, 58, 59, 60, 61, 62, 63, 64, 65, 66, 67, 68, 69, 70, 71, 72, 73, 74, 75, 76, 77, 78, 79, 80, 81, 82, 83, 84, 85, 86, 87, 88, 89, 90, 91, 92, 93, 94, 95, 96, 97, 98, 99, 100, 101] (by decide +kernel) (by decide +kernel)) (goodIn_sub (fun _ h => List.mem_cons_of_mem _ (List.mem_append_right _ h)) (by decide +kernel))
set_option maxRecDepth 20000 in
theorem gL_count_X8_count : GoodIn wsL_count (wsV RL 70 RX8 yX8_count wsX8_count) := goodIn_app (goodIn_of _ (by decide +kernel)) ggL_count_X8_count
set_option maxRecDepth 20000 in
theorem ggL_ifInserted_X8_ifInserted : GoodIn wsL_ifInserted wsX8_ifInserted := goodIn_ca (goodIn_ca (goodIn_r _ [7, 8, 9, 10, 11, 12, 13, 14, 6, 15, 16, 17, 18, 19, 20, 21, 22, 23, 24, 25, 26, 27, 28, 29, 30, 31, 32, 33, 34, 35, 36, 37, 38, 39, 40, 41, 42, 43, 44, 45, 46, 47, 48, 49, 50, 51, 52, 53, 54, 55, 56, 57, 58, 59, 60, 61, 62, 63, 64, 65, 66, 67, 68, 69, 70, 71, 72, 73, 74, 75, 76, 77, 78, 79, 80, 81, 82, 83, 84, 85, 86, 87, 88, 89, 90, 91, 92, 93, 94, 95, 96, 97, 98, 99, 100, 101] (by decide +kernel) (by decide +kernel)) (goodIn_sub (fun _ h => List.mem_cons_of_mem _ (List.mem_append_left _ (List.mem_append_right _ h))) (by decide +kernel))) (goodIn_sub (fun _ h => List.mem_cons_of_mem _ (List.mem_append_right _ h)) (by decide +kernel))
set_option maxRecDepth 20000 in
theorem gL_ifInserted_X8_ifInserted : GoodIn wsL_ifInserted (wsV RL 73 RX8 yX8_ifInserted wsX8_ifInserted) := goodIn_app (goodIn_of _ (by decide +kernel)) ggL_ifInserted_X8_ifInserted
set_option maxRecDepth 20000 in
theorem ggL_ifDropped_X8_ifDropped : GoodIn wsL_ifDropped wsX8_ifDropped := goodIn_ca (goodIn_ca (goodIn_r _ [7, 8, 9, 10, 11, 12, 13, 14, 6, 15, 16, 17, 18, 19, 20, 21, 22, 23, 24, 25, 26, 27, 28, 29, 30, 31, 32, 33, 34, 35, 36, 37, 38, 39, 40, 41, 42, 43, 44, 45, 46, 47, 48, 49, 50, 51, 52, 53, 54, 55, 56, 57, 58, 59, 60, 61, 62, 63, 64, 65, 66, 67, 68, 69, 70, 71, 72, 73, 74, 75, 76, 77, 78, 79, 80, 81, 82, 83, 84, 85, 86, 87, 88, 89, 90, 91, 92, 93, 94, 95, 96] (by decide +kernel) (by decide +kernel)) (goodIn_sub (fun _ h => List.mem_cons_of_mem _ (List.mem_append_left _ (List.mem_append_right _ h))) (by decide +kernel))) (goodIn_sub (fun _ h => List.mem_cons_of_mem _ (List.mem_append_right _ h)) (by decide +kernel))
set_option maxRecDepth 20000 in
theorem gL_ifDropped_X8_ifDropped : GoodIn wsL_ifDropped (wsV RL 76 RX8 yX8_ifDropped wsX8_ifDropped) := goodIn_app (goodIn_of _ (by decide +kernel)) ggL_ifDropped_X8_ifDropped
set_option maxRecDepth 20000 in
theorem ggL_bestMove_X8_bestMove : GoodIn wsL_bestMove wsX8_bestMove := goodIn_ca (goodIn_r _ [6, 7, 8, 9, 10, 11, 12, 13, 14, 5, 15, 16, 17, 18, 19, 20, 21, 22, 23, 24, 25, 26, 27, 28, 29, 30, 31, 32, 33, 34, 35, 36, 37, 38, 39, 40, 41, 42, 43, 44, 45, 46, 47, 48, 49, 50, 51, 52, 53, 54, 55, 56, 57, 58, 59, 60, 61, 62, 63, 64, 65, 66, 67, 68, 69, 70, 71, 72, 73, 74, 75, 76, 77, 78, 79, 80, 81, 82, 83, 84, 85, 86, 87, 88, 89, 90, 91, 92] (by decide +kernel) (by decide +kernel)) (goodIn_sub (fun _ h => List.mem_cons_of_mem _ (List.mem_append_right _ h)) (by decide +kernel))
set_option maxRecDepth 20000 in
theorem gL_bestMove_X8_bestMove : GoodIn wsL_bestMove (wsV RL 79 RX8 yX8_bestMove wsX8_bestMove) := goodIn_app (goodIn_of _ (by decide +kernel)) ggL_bestMove_X8_bestMove
set_option maxRecDepth 20000 in
theorem ggL_leastPages_X8_leastPages : GoodIn wsL_leastPages wsX8_leastPages := goodIn_ca (goodIn_r _ [6, 7, 8, 9, 10, 11, 12, 13, 14, 5, 15, 16, 17, 18, 19, 20, 21, 22, 23, 24, 25, 26, 27, 28, 29] (by decide +kernel) (by decide +kernel)) (goodIn_sub (fun _ h => List.mem_cons_of_mem _ (List.mem_append_right _ h)) (by decide +kernel))
set_option maxRecDepth 20000 in
theorem gL_leastPages_X8_leastPages : GoodIn wsL_leastPages (wsV RL 82 RX8 yX8_leastPages wsX8_leastPages) := goodIn_app (goodIn_of _ (by decide +kernel)) ggL_leastPages_X8_leastPages
set_option maxRecDepth 20000 in
theorem ggL_law_X8_init : GoodIn wsL_law wsX8_init := goodIn_r _ [9, 10, 11, 12, 13, 14, 15, 16, 17, 18, 19, 20, 21, 22, 23, 24, 25, 26, 27, 28, 29, 30, 31, 32, 33, 34, 35, 36, 37, 38, 39, 40, 41, 42, 43, 44, 45, 46, 47, 48, 49, 50, 51, 52, 53, 54, 55, 56, 57, 58, 59, 60, 61, 62, 63, 64, 65, 66, 67, 68, 69, 70, 71, 72, 73, 74, 75, 76, 77, 78, 79, 80, 81, 82, 83, 84, 85, 86, 87, 88, 89, 90, 91, 92, 93, 94, 95, 96, 97, 98, 99, 100, 101, 102, 866, 867, 868, 849, 850, 851, 852, 853, 854, 869, 870, 871, 872, 873, 874, 875, 876, 877, 878, 879, 880, 881, 882, 883, 884, 885, 886, 887, 888, 889, 890, 891, 892, 893, 894, 895, 896] (by decide +kernel) (by decide +kernel)
set_option maxRecDepth 20000 in
theorem gL_law_X8_init : GoodIn wsL_law (wsX8_init) := ggL_law_X8_init
set_option maxRecDepth 20000 in
theorem ggL_law_X9_init : GoodIn wsL_law wsX9_init := goodIn_r _ [105, 106, 11, 12, 33, 107, 108, 109, 110, 111, 855, 856, 857, 858, 859, 860, 861, 862, 863, 864, 865] (by decide +kernel) (by decide +kernel)
set_option maxRecDepth 20000 in
theorem gL_law_X9_init : GoodIn wsL_law (wsX9_init) := ggL_law_X9_init
set_option maxRecDepth 20000 in
theorem ggL_law_L_insert : GoodIn wsL_law wsL_insert := goodIn_ca (goodIn_ca (goodIn_ca (goodIn_r _ [115, 116, 117, 118, 119, 120, 121, 2, 122, 16, 123, 28, 20, 124, 125, 126, 127, 128, 129, 130, 131, 132, 133, 134, 135, 136, 137, 138, 139, 140, 141, 142, 143, 144, 27, 145, 93, 92, 91, 146, 147, 148, 15, 149, 41, 45, 49, 150, 151, 152, 40, 153, 53, 154, 155, 156, 157, 54, 55, 56, 57, 158, 159, 160, 44, 161, 61, 162, 62, 63, 163, 164, 165, 48, 166, 68, 167, 69, 168, 169, 170, 171, 172, 173, 174, 175, 176, 177, 178, 19, 179, 180, 181, 182, 183, 184, 185, 186, 187, 188, 73, 74, 75, 79, 189, 190, 191, 192, 193, 194, 76, 78, 195, 196, 197, 198, 199, 200, 201, 849, 850, 851, 852, 853, 854, 866, 867, 868, 887, 888, 889, 890, 891, 878, 879, 880, 892, 893, 894, 895, 896, 869, 870, 871, 872, 873, 874] (by decide +kernel) (by decide +kernel)) (goodIn_sub (fun _ h => List.mem_append_left _ (List.mem_append_left _ (List.mem_append_right _ h))) (by decide +kernel))) (goodIn_sub (fun _ h => List.mem_append_left _ (List.mem_append_right _ h)) (by decide +kernel))) (goodIn_sub (fun _ h => List.mem_append_right _ h) (by decide +kernel))
set_option maxRecDepth 20000 in
theorem gL_law_L_insert : GoodIn wsL_law (va_wsS RL 89 yL_insert wsL_insert) := goodIn_app (goodIn_of _ (by decide +kernel)) ggL_law_L_insert
set_option maxRecDepth 20000 in
theorem ggL_law_X9_insert : GoodIn wsL_law wsX9_insert := goodIn_r _ [205, 206, 107, 207, 208, 5, 209, 210, 211, 212, 213, 214, 215, 216, 217, 218, 219, 220, 221, 109, 222, 223, 224, 225, 226, 227, 228, 229, 230, 855, 856, 857, 858, 859, 860, 861, 862, 863, 864, 865] (by decide +kernel) (by decide +kernel)
set_option maxRecDepth 20000 in
theorem gL_law_X9_insert : GoodIn wsL_law (wsV RL 94 RX9 yX9_insert wsX9_insert) := goodIn_app (goodIn_of _ (by decide +kernel)) ggL_law_X9_insert
set_option maxRecDepth 20000 in
theorem ggL_law_X9_thrown : GoodIn wsL_law wsX9_thrown := goodIn_r _ [234, 206, 855, 856, 857, 858, 859, 860, 861, 862, 863, 864, 865] (by decide +kernel) (by decide +kernel)
set_option maxRecDepth 20000 in
theorem gL_law_X9_thrown : GoodIn wsL_law (wsV RL 95 RX9 yX9_thrown wsX9_thrown) := goodIn_app (goodIn_of _ (by decide +kernel)) ggL_law_X9_thrown
set_option maxRecDepth 20000 in
theorem ggL_law_L_move : GoodIn wsL_law wsL_move := goodIn_ca (goodIn_r _ [237, 116, 238, 239, 240, 2, 241, 16, 123, 28, 242, 243, 20, 244, 245, 246, 247, 128, 129, 130, 142, 143, 144, 27, 145, 93, 92, 91, 146, 147, 148, 15, 149, 41, 45, 49, 150, 151, 152, 40, 153, 53, 154, 155, 156, 157, 54, 55, 56, 57, 158, 159, 160, 44, 161, 61, 162, 62, 63, 163, 164, 165, 48, 166, 68, 167, 69, 248, 249, 250, 251, 252, 173, 174, 175, 176, 177, 178, 19, 179, 180, 181, 182, 183, 184, 185, 186, 187, 188, 73, 74, 75, 79, 189, 190, 191, 192, 193, 194, 76, 78, 195, 196, 197, 198, 199, 200, 201, 849, 850, 851, 852, 853, 854, 866, 867, 868, 887, 888, 889, 890, 891, 878, 879, 880, 892, 893, 894, 895, 896, 869, 870, 871, 872, 873, 874] (by decide +kernel) (by decide +kernel)) (goodIn_sub (fun _ h => List.mem_append_left _ (List.mem_append_left _ (List.mem_append_right _ h))) (by decide +kernel))
set_option maxRecDepth 20000 in
theorem gL_law_L_move : GoodIn wsL_law (va_wsS RL 98 yL_move wsL_move) := goodIn_app (goodIn_of _ (by decide +kernel)) ggL_law_L_move
set_option maxRecDepth 20000 in
theorem ggL_law_X9_move : GoodIn wsL_law wsX9_move := goodIn_r _ [256, 206, 107, 257, 258, 259, 5, 260, 207, 208, 209, 210, 211, 212, 213, 217, 218, 219, 220, 221, 109, 222, 223, 224, 261, 262, 263, 264, 265, 266, 267, 268, 269, 270, 271, 272, 228, 229, 230, 855, 856, 857, 858, 859, 860, 861, 862, 863, 864, 865] (by decide +kernel) (by decide +kernel)
set_option maxRecDepth 20000 in
theorem gL_law_X9_move : GoodIn wsL_law (wsV RL 100 RX9 yX9_move wsX9_move) := goodIn_app (goodIn_of _ (by decide +kernel)) ggL_law_X9_move
set_option maxRecDepth 20000 in
theorem ggL_law_L_drop : GoodIn wsL_law wsL_drop := goodIn_ca (goodIn_r _ [275, 116, 276, 277, 278, 2, 279, 28, 16, 123, 20, 244, 245, 246, 247, 128, 129, 130, 142, 143, 144, 27, 145, 93, 92, 91, 146, 147, 148, 15, 149, 41, 45, 49, 150, 151, 152, 40, 153, 53, 154, 155, 156, 157, 54, 55, 56, 57, 158, 159, 160, 44, 161, 61, 162, 62, 63, 163, 164, 165, 48, 166, 68, 167, 69, 280, 281, 282, 283, 284, 285, 286, 287, 288, 289, 290, 291, 292, 196, 197, 248, 249, 250, 251, 176, 177, 178, 19, 179, 180, 181, 182, 183, 184, 185, 186, 187, 188, 73, 74, 75, 79, 189, 190, 191, 192, 193, 194, 76, 78, 195, 198, 199, 200, 201, 849, 850, 851, 852, 853, 854, 866, 867, 868, 887, 888, 889, 890, 891, 878, 879, 880, 892, 893, 894, 895, 896, 869, 870, 871, 872, 873, 874] (by decide +kernel) (by decide +kernel)) (goodIn_sub (fun _ h => List.mem_append_left _ (List.mem_append_left _ (List.mem_append_right _ h))) (by decide +kernel))
set_option maxRecDepth 20000 in
theorem gL_law_L_drop : GoodIn wsL_law (va_wsS RL 101 yL_drop wsL_drop) := goodIn_app (goodIn_of _ (by decide +kernel)) ggL_law_L_drop
set_option maxRecDepth 20000 in
theorem ggL_law_X9_drop : GoodIn wsL_law wsX9_drop := goodIn_r _ [296, 206, 107, 257, 258, 259, 5, 260, 207, 208, 209, 210, 211, 212, 213, 217, 218, 219, 220, 221, 109, 222, 223, 224, 297, 298, 299, 300, 301, 302, 303, 304, 305, 306, 307, 308, 309, 310, 311, 312, 313, 314, 315, 316, 317, 267, 268, 269, 270, 271, 272, 855, 856, 857, 858, 859, 860, 861, 862, 863, 864, 865] (by decide +kernel) (by decide +kernel)
set_option maxRecDepth 20000 in
theorem gL_law_X9_drop : GoodIn wsL_law (wsV RL 104 RX9 yX9_drop wsX9_drop) := goodIn_app (goodIn_of _ (by decide +kernel)) ggL_law_X9_drop
set_option maxRecDepth 20000 in
theorem ggL_law_L_pages : GoodIn wsL_law wsL_pages := goodIn_ca (goodIn_ca (goodIn_r _ [320, 116, 117, 321, 322, 323, 2, 324, 28, 16, 123, 243, 20, 244, 245, 246, 247, 128, 129, 130, 131, 132, 133, 134, 135, 142, 143, 144, 27, 145, 93, 92, 91, 146, 147, 148, 15, 149, 41, 45, 49, 150, 151, 152, 40, 153, 53, 154, 155, 156, 157, 54, 55, 56, 57, 158, 159, 160, 44, 161, 61, 162, 62, 63, 163, 164, 165, 48, 166, 68, 167, 69, 176, 177, 178, 19, 179, 180, 181, 182, 183, 184, 185, 186, 187, 188, 73, 74, 75, 79, 189, 190, 191, 192, 193, 194, 76, 78, 195, 196, 197, 198, 199, 200, 201, 849, 850, 851, 852, 853, 854, 866, 867, 868, 887, 888, 889, 890, 891, 878, 879, 880, 892, 893, 894, 895, 896, 869, 870, 871, 872, 873, 874] (by decide +kernel) (by decide +kernel)) (goodIn_sub (fun _ h => List.mem_append_left _ (List.mem_append_left _ (List.mem_append_right _ h))) (by decide +kernel))) (goodIn_sub (fun _ h => List.mem_append_left _ (List.mem_append_right _ h)) (by decide +kernel))
set_option maxRecDepth 20000 in
theorem gL_law_L_pages : GoodIn wsL_law (va_wsS RL 105 yL_pages wsL_pages) := goodIn_app (goodIn_of _ (by decide +kernel)) ggL_law_L_pages
set_option maxRecDepth 20000 in
theorem ggL_law_X9_pages : GoodIn wsL_law wsX9_pages := goodIn_r _ [328, 206, 257, 258, 259, 5, 260, 107, 207, 208, 209, 210, 211, 212, 213, 214, 215, 216, 217, 218, 219, 220, 221, 109, 222, 223, 224, 329, 330, 331, 332, 855, 856, 857, 858, 859, 860, 861, 862, 863, 864, 865] (by decide +kernel) (by decide +kernel)
set_option maxRecDepth 20000 in
theorem gL_law_X9_pages : GoodIn wsL_law (wsV RL 107 RX9 yX9_pages wsX9_pages) := goodIn_app (goodIn_of _ (by decide +kernel)) ggL_law_X9_pages
set_option maxRecDepth 20000 in
theorem ggL_law_L_join : GoodIn wsL_law wsL_join := goodIn_ca (goodIn_ca (goodIn_r _ [335, 116, 118, 336, 337, 338, 2, 339, 128, 129, 140, 141, 16, 123, 130, 243, 28, 288, 242, 20, 244, 245, 246, 247, 142, 143, 144, 27, 145, 93, 92, 91, 146, 147, 148, 15, 149, 41, 45, 49, 150, 151, 152, 40, 153, 53, 154, 155, 156, 157, 54, 55, 56, 57, 158, 159, 160, 44, 161, 61, 162, 62, 63, 163, 164, 165, 48, 166, 68, 167, 69, 340, 341, 342, 343, 196, 197, 248, 249, 250, 251, 176, 177, 178, 19, 179, 180, 181, 182, 183, 184, 185, 186, 187, 188, 73, 74, 75, 79, 189, 190, 191, 192, 193, 194, 76, 78, 195, 198, 199, 200, 201, 849, 850, 851, 852, 853, 854, 866, 867, 868, 887, 888, 889, 890, 891, 878, 879, 880, 892, 893, 894, 895, 896, 869, 870, 871, 872, 873, 874] (by decide +kernel) (by decide +kernel)) (goodIn_sub (fun _ h => List.mem_append_left _ (List.mem_append_left _ (List.mem_append_right _ h))) (by decide +kernel))) (goodIn_sub (fun _ h => List.mem_append_right _ h) (by decide +kernel))
set_option maxRecDepth 20000 in
theorem gL_law_L_join : GoodIn wsL_law (va_wsS RL 108 yL_join wsL_join) := goodIn_app (goodIn_of _ (by decide +kernel)) ggL_law_L_join
set_option maxRecDepth 20000 in
theorem ggL_law_X9_join : GoodIn wsL_law wsX9_join := goodIn_r _ [347, 206, 107, 210, 211, 212, 5, 213, 267, 268, 269, 217, 218, 219, 220, 221, 109, 222, 223, 224, 264, 265, 266, 348, 349, 350, 303, 304, 305, 312, 313, 314, 270, 271, 272, 855, 856, 857, 858, 859, 860, 861, 862, 863, 864, 865] (by decide +kernel) (by decide +kernel)
set_option maxRecDepth 20000 in
theorem gL_law_X9_join : GoodIn wsL_law (wsV RL 110 RX9 yX9_join wsX9_join) := goodIn_app (goodIn_of _ (by decide +kernel)) ggL_law_X9_join
set_option maxRecDepth 20000 in
theorem ggL_law_L_split : GoodIn wsL_law wsL_split := goodIn_ca (goodIn_ca (goodIn_ca (goodIn_r _ [353, 116, 117, 118, 354, 355, 356, 2, 357, 134, 135, 16, 123, 243, 28, 288, 242, 20, 244, 245, 246, 247, 128, 129, 130, 136, 137, 138, 139, 140, 141, 142, 143, 144, 27, 145, 93, 92, 91, 146, 147, 148, 15, 149, 41, 45, 49, 150, 151, 152, 40, 153, 53, 154, 155, 156, 157, 54, 55, 56, 57, 158, 159, 160, 44, 161, 61, 162, 62, 63, 163, 164, 165, 48, 166, 68, 167, 69, 168, 169, 170, 171, 172, 173, 174, 175, 358, 359, 360, 361, 196, 197, 176, 177, 178, 19, 179, 180, 181, 182, 183, 184, 185, 186, 187, 188, 73, 74, 75, 79, 189, 190, 191, 192, 193, 194, 76, 78, 195, 198, 199, 200, 201, 849, 850, 851, 852, 853, 854, 866, 867, 868, 887, 888, 889, 890, 891, 878, 879, 880, 892, 893, 894, 895, 896, 869, 870, 871, 872, 873, 874] (by decide +kernel) (by decide +kernel)) (goodIn_sub (fun _ h => List.mem_append_left _ (List.mem_append_right _ h)) (by decide +kernel))) (goodIn_sub (fun _ h => List.mem_append_left _ (List.mem_append_left _ (List.mem_append_right _ h))) (by decide +kernel))) (goodIn_sub (fun _ h => List.mem_append_right _ h) (by decide +kernel))
set_option maxRecDepth 20000 in
theorem gL_law_L_split : GoodIn wsL_law (va_wsS RL 111 yL_split wsL_split) := goodIn_app (goodIn_of _ (by decide +kernel)) ggL_law_L_split
set_option maxRecDepth 20000 in
theorem ggL_law_X9_split : GoodIn wsL_law wsX9_split := goodIn_r _ [365, 206, 107, 257, 258, 259, 5, 260, 207, 208, 209, 210, 211, 212, 213, 267, 268, 269, 217, 218, 219, 220, 221, 109, 222, 223, 224, 264, 265, 266, 348, 349, 350, 303, 304, 305, 312, 313, 314, 225, 226, 227, 228, 229, 230, 855, 856, 857, 858, 859, 860, 861, 862, 863, 864, 865] (by decide +kernel) (by decide +kernel)
set_option maxRecDepth 20000 in
theorem gL_law_X9_split : GoodIn wsL_law (wsV RL 113 RX9 yX9_split wsX9_split) := goodIn_app (goodIn_of _ (by decide +kernel)) ggL_law_X9_split
set_option maxRecDepth 20000 in
theorem ggL_law_L_cite : GoodIn wsL_law wsL_cite := goodIn_ca (goodIn_ca (goodIn_ca (goodIn_r _ [368, 116, 117, 118, 369, 370, 371, 2, 372, 140, 141, 16, 288, 289, 28, 123, 242, 20, 373, 374, 375, 128, 129, 244, 245, 246, 247, 130, 131, 132, 133, 134, 135, 142, 143, 144, 27, 145, 93, 92, 91, 146, 147, 148, 15, 149, 41, 45, 49, 150, 151, 152, 40, 153, 53, 154, 155, 156, 157, 54, 55, 56, 57, 158, 159, 160, 44, 161, 61, 162, 62, 63, 163, 164, 165, 48, 166, 68, 167, 69, 376, 377, 378, 379, 196, 197, 176, 177, 178, 19, 179, 180, 181, 182, 183, 184, 185, 186, 187, 188, 73, 74, 75, 79, 189, 190, 191, 192, 193, 194, 76, 78, 195, 198, 199, 200, 201, 849, 850, 851, 852, 853, 854, 866, 867, 868, 892, 893, 894, 887, 888, 889, 890, 891, 878, 879, 880, 895, 896, 869, 870, 871, 872, 873, 874] (by decide +kernel) (by decide +kernel)) (goodIn_sub (fun _ h => List.mem_append_right _ h) (by decide +kernel))) (goodIn_sub (fun _ h => List.mem_append_left _ (List.mem_append_left _ (List.mem_append_right _ h))) (by decide +kernel))) (goodIn_sub (fun _ h => List.mem_append_left _ (List.mem_append_right _ h)) (by decide +kernel))
set_option maxRecDepth 20000 in
theorem gL_law_L_cite : GoodIn wsL_law (va_wsS RL 114 yL_cite wsL_cite) := goodIn_app (goodIn_of _ (by decide +kernel)) ggL_law_L_cite
set_option maxRecDepth 20000 in
theorem ggL_law_X9_cite : GoodIn wsL_law wsX9_cite := goodIn_r _ [383, 206, 107, 384, 385, 5, 386, 207, 208, 209, 257, 258, 259, 260, 210, 211, 212, 213, 214, 215, 216, 303, 304, 305, 217, 218, 219, 220, 221, 109, 222, 223, 224, 387, 388, 389, 390, 312, 313, 314, 264, 265, 266, 855, 856, 857, 858, 859, 860, 861, 862, 863, 864, 865] (by decide +kernel) (by decide +kernel)
set_option maxRecDepth 20000 in
theorem gL_law_X9_cite : GoodIn wsL_law (wsV RL 117 RX9 yX9_cite wsX9_cite) := goodIn_app (goodIn_of _ (by decide +kernel)) ggL_law_X9_cite
set_option maxRecDepth 20000 in
theorem ggL_law_L_clean : GoodIn wsL_law wsL_clean := goodIn_ca (goodIn_r _ [393, 116, 394, 395, 396, 2, 397, 28, 16, 288, 20, 291, 373, 374, 375, 128, 129, 142, 143, 144, 27, 145, 93, 92, 91, 146, 147, 148, 15, 149, 41, 45, 49, 150, 151, 152, 40, 153, 53, 154, 155, 156, 157, 54, 55, 56, 57, 158, 159, 160, 44, 161, 61, 162, 62, 63, 163, 164, 165, 48, 166, 68, 167, 69, 398, 399, 400, 401, 196, 197, 402, 377, 378, 379, 176, 177, 178, 19, 179, 180, 181, 182, 183, 184, 185, 186, 187, 188, 73, 74, 75, 79, 189, 190, 191, 192, 193, 194, 76, 78, 195, 198, 199, 200, 201, 849, 850, 851, 852, 853, 854, 866, 867, 868, 869, 870, 871, 872, 873, 874, 878, 879, 880, 887, 888, 889, 890, 891, 892, 893, 894, 895, 896] (by decide +kernel) (by decide +kernel)) (goodIn_sub (fun _ h => List.mem_append_left _ (List.mem_append_left _ (List.mem_append_right _ h))) (by decide +kernel))
set_option maxRecDepth 20000 in
theorem gL_law_L_clean : GoodIn wsL_law (va_wsS RL 118 yL_clean wsL_clean) := goodIn_app (goodIn_of _ (by decide +kernel)) ggL_law_L_clean
set_option maxRecDepth 20000 in
theorem ggL_law_X9_clean : GoodIn wsL_law wsX9_clean := goodIn_r _ [406, 206, 107, 384, 385, 5, 386, 207, 208, 209, 210, 211, 212, 213, 217, 218, 219, 220, 221, 109, 222, 223, 224, 303, 304, 305, 306, 307, 308, 309, 310, 311, 312, 313, 314, 315, 316, 317, 267, 268, 269, 855, 856, 857, 858, 859, 860, 861, 862, 863, 864, 865] (by decide +kernel) (by decide +kernel)
set_option maxRecDepth 20000 in
theorem gL_law_X9_clean : GoodIn wsL_law (wsV RL 120 RX9 yX9_clean wsX9_clean) := goodIn_app (goodIn_of _ (by decide +kernel)) ggL_law_X9_clean
set_option maxRecDepth 20000 in
theorem ggL_law_L_print : GoodIn wsL_law wsL_print := goodIn_ca (goodIn_r _ [409, 116, 410, 411, 412, 2, 413, 28, 16, 34, 288, 289, 414, 415, 416, 20, 290, 417, 291, 373, 374, 375, 128, 129, 142, 143, 144, 27, 145, 93, 92, 91, 146, 147, 148, 15, 149, 41, 45, 49, 150, 151, 152, 40, 153, 53, 154, 155, 156, 157, 54, 55, 56, 57, 158, 159, 160, 44, 161, 61, 162, 62, 63, 163, 164, 165, 48, 166, 68, 167, 69, 418, 419, 420, 421, 292, 196, 197, 422, 423, 424, 849, 850, 851, 852, 853, 854, 866, 867, 868, 892, 893, 894, 895, 896, 869, 870, 871, 872, 873, 874, 878, 879, 880, 887, 888, 889, 890, 891] (by decide +kernel) (by decide +kernel)) (goodIn_sub (fun _ h => List.mem_append_left _ (List.mem_append_left _ (List.mem_append_right _ h))) (by decide +kernel))
set_option maxRecDepth 20000 in
theorem gL_law_L_print : GoodIn wsL_law (va_wsS RL 121 yL_print wsL_print) := goodIn_app (goodIn_of _ (by decide +kernel)) ggL_law_L_print
set_option maxRecDepth 20000 in
theorem ggL_law_X9_print : GoodIn wsL_law wsX9_print := goodIn_r _ [428, 206, 107, 384, 385, 5, 386, 207, 208, 209, 210, 211, 212, 213, 217, 218, 219, 220, 221, 109, 222, 223, 224, 429, 430, 431, 303, 304, 305, 309, 310, 311, 312, 313, 314, 315, 316, 317, 306, 307, 308, 267, 268, 269, 855, 856, 857, 858, 859, 860, 861, 862, 863, 864, 865] (by decide +kernel) (by decide +kernel)
set_option maxRecDepth 20000 in
theorem gL_law_X9_print : GoodIn wsL_law (wsV RL 123 RX9 yX9_print wsX9_print) := goodIn_app (goodIn_of _ (by decide +kernel)) ggL_law_X9_print
set_option maxRecDepth 20000 in
theorem ggL_law_L_set : GoodIn wsL_law wsL_set := goodIn_ca (goodIn_r _ [434, 117, 435, 436, 437, 2, 438, 134, 135, 28, 16, 123, 439, 20, 142, 143, 144, 27, 145, 93, 92, 91, 146, 147, 148, 15, 149, 41, 45, 49, 150, 151, 152, 40, 153, 53, 154, 155, 156, 157, 54, 55, 56, 57, 158, 159, 160, 44, 161, 61, 162, 62, 63, 163, 164, 165, 48, 166, 68, 167, 69, 176, 177, 178, 19, 179, 180, 181, 182, 183, 184, 185, 186, 187, 188, 73, 74, 75, 79, 189, 190, 191, 192, 193, 194, 76, 78, 195, 196, 197, 198, 199, 200, 201, 849, 850, 851, 852, 853, 854, 866, 867, 868, 887, 888, 889, 890, 891, 878, 879, 880, 892, 893, 894, 895, 896, 869, 870, 871, 872, 873, 874] (by decide +kernel) (by decide +kernel)) (goodIn_sub (fun _ h => List.mem_append_left _ (List.mem_append_right _ h)) (by decide +kernel))
set_option maxRecDepth 20000 in
theorem gL_law_L_set : GoodIn wsL_law (va_wsS RL 124 yL_set wsL_set) := goodIn_app (goodIn_of _ (by decide +kernel)) ggL_law_L_set
set_option maxRecDepth 20000 in
theorem ggL_law_X9_set : GoodIn wsL_law wsX9_set := goodIn_r _ [443, 206, 207, 208, 5, 209, 210, 211, 212, 213, 217, 218, 219, 220, 221, 109, 107, 222, 223, 224, 329, 330, 331, 332, 855, 856, 857, 858, 859, 860, 861, 862, 863, 864, 865] (by decide +kernel) (by decide +kernel)
set_option maxRecDepth 20000 in
theorem gL_law_X9_set : GoodIn wsL_law (wsV RL 126 RX9 yX9_set wsX9_set) := goodIn_app (goodIn_of _ (by decide +kernel)) ggL_law_X9_set
set_option maxRecDepth 20000 in
theorem ggL_law_L_append : GoodIn wsL_law wsL_append := goodIn_ca (goodIn_ca (goodIn_r _ [446, 117, 118, 447, 448, 449, 2, 450, 134, 135, 140, 141, 32, 451, 452, 453, 454, 31, 455, 97, 98, 849, 850, 851, 852, 853, 854, 881, 882, 883, 884, 885, 886] (by decide +kernel) (by decide +kernel)) (goodIn_sub (fun _ h => List.mem_append_left _ (List.mem_append_right _ h)) (by decide +kernel))) (goodIn_sub (fun _ h => List.mem_append_right _ h) (by decide +kernel))
set_option maxRecDepth 20000 in
theorem gL_law_L_append : GoodIn wsL_law (va_wsS RL 127 yL_append wsL_append) := goodIn_app (goodIn_of _ (by decide +kernel)) ggL_law_L_append
set_option maxRecDepth 20000 in
theorem ggL_law_X9_append : GoodIn wsL_law wsX9_append := goodIn_r _ [459, 206, 460, 110, 207, 208, 5, 209, 210, 211, 212, 213, 855, 856, 857, 858, 859, 860, 861, 862, 863, 864, 865] (by decide +kernel) (by decide +kernel)
set_option maxRecDepth 20000 in
theorem gL_law_X9_append : GoodIn wsL_law (wsV RL 129 RX9 yX9_append wsX9_append) := goodIn_app (goodIn_of _ (by decide +kernel)) ggL_law_X9_append
set_option maxRecDepth 20000 in
theorem ggL_law_X8_clearBuffer : GoodIn wsL_law wsX8_clearBuffer := goodIn_r _ [464, 32, 451, 849, 850, 851, 852, 853, 854, 881, 882, 883, 884, 885, 886] (by decide +kernel) (by decide +kernel)
set_option maxRecDepth 20000 in
theorem gL_law_X8_clearBuffer : GoodIn wsL_law (wsV RL 130 RX8 yX8_clearBuffer wsX8_clearBuffer) := goodIn_app (goodIn_of _ (by decide +kernel)) ggL_law_X8_clearBuffer
set_option maxRecDepth 20000 in
theorem ggL_law_X9_clearBuffer : GoodIn wsL_law wsX9_clearBuffer := goodIn_r _ [468, 206, 460, 855, 856, 857, 858, 859, 860, 861, 862, 863, 864, 865] (by decide +kernel) (by decide +kernel)
set_option maxRecDepth 20000 in
theorem gL_law_X9_clearBuffer : GoodIn wsL_law (wsV RL 133 RX9 yX9_clearBuffer wsX9_clearBuffer) := goodIn_app (goodIn_of _ (by decide +kernel)) ggL_law_X9_clearBuffer
set_option maxRecDepth 20000 in
theorem ggL_law_X8_firstError : GoodIn wsL_law wsX8_firstError := goodIn_r _ [472, 32, 473, 474, 475, 31, 476, 101, 102, 98, 97, 477, 478, 479, 480, 481, 482, 483, 484, 99, 485, 486, 487, 488, 489, 490, 491, 492, 100, 493, 494, 495, 496, 497, 498, 499, 500, 849, 850, 851, 852, 853, 854, 881, 882, 883, 884, 885, 886] (by decide +kernel) (by decide +kernel)
set_option maxRecDepth 20000 in
theorem gL_law_X8_firstError : GoodIn wsL_law (wsV RL 134 RX8 yX8_firstError wsX8_firstError) := goodIn_app (goodIn_of _ (by decide +kernel)) ggL_law_X8_firstError
set_option maxRecDepth 20000 in
theorem ggL_law_X9_firstError : GoodIn wsL_law wsX9_firstError := goodIn_r _ [504, 206, 505, 506, 460, 507, 508, 509, 5, 510, 511, 512, 513, 514, 515, 110, 111, 516, 517, 518, 519, 207, 208, 209, 520, 521, 522, 523, 855, 856, 857, 858, 859, 860, 861, 862, 863, 864, 865] (by decide +kernel) (by decide +kernel)
set_option maxRecDepth 20000 in
theorem gL_law_X9_firstError : GoodIn wsL_law (wsV RL 137 RX9 yX9_firstError wsX9_firstError) := goodIn_app (goodIn_of _ (by decide +kernel)) ggL_law_X9_firstError
set_option maxRecDepth 20000 in
theorem ggL_law_L_citeAll : GoodIn wsL_law wsL_citeAll := goodIn_ca (goodIn_ca (goodIn_ca (goodIn_r _ [526, 116, 117, 118, 527, 528, 529, 2, 530, 134, 135, 140, 141, 32, 531, 532, 16, 123, 130, 28, 288, 289, 242, 533, 451, 20, 373, 374, 375, 128, 129, 473, 474, 475, 31, 476, 101, 102, 98, 97, 477, 478, 479, 480, 481, 482, 483, 484, 99, 485, 486, 487, 488, 489, 490, 491, 492, 100, 493, 494, 495, 496, 497, 498, 499, 500, 534, 535, 536, 537, 142, 143, 144, 27, 145, 93, 92, 91, 146, 147, 148, 15, 149, 41, 45, 49, 150, 151, 152, 40, 153, 53, 154, 155, 156, 157, 54, 55, 56, 57, 158, 159, 160, 44, 161, 61, 162, 62, 63, 163, 164, 165, 48, 166, 68, 167, 69, 376, 377, 378, 379, 196, 197, 176, 177, 178, 19, 179, 180, 181, 182, 183, 184, 185, 186, 187, 188, 73, 74, 75, 79, 189, 190, 191, 192, 193, 194, 76, 78, 195, 198, 199, 200, 201, 849, 850, 851, 852, 853, 854, 881, 882, 883, 884, 885, 886, 866, 867, 868, 887, 888, 889, 890, 891, 892, 893, 894, 878, 879, 880, 895, 896, 869, 870, 871, 872, 873, 874] (by decide +kernel) (by decide +kernel)) (goodIn_sub (fun _ h => List.mem_append_left _ (List.mem_append_right _ h)) (by decide +kernel))) (goodIn_sub (fun _ h => List.mem_append_right _ h) (by decide +kernel))) (goodIn_sub (fun _ h => List.mem_append_left _ (List.mem_append_left _ (List.mem_append_right _ h))) (by decide +kernel))
set_option maxRecDepth 20000 in
theorem gL_law_L_citeAll : GoodIn wsL_law (va_wsS RL 138 yL_citeAll wsL_citeAll) := goodIn_app (goodIn_of _ (by decide +kernel)) ggL_law_L_citeAll
set_option maxRecDepth 20000 in
theorem ggL_law_X9_citeAll : GoodIn wsL_law wsX9_citeAll := goodIn_r _ [541, 206, 511, 111, 460, 384, 385, 5, 386, 207, 208, 209, 210, 211, 212, 213, 507, 508, 509, 510, 506, 505, 512, 513, 514, 515, 110, 516, 517, 518, 519, 520, 521, 522, 523, 257, 258, 259, 260, 107, 217, 218, 219, 220, 221, 109, 222, 223, 224, 329, 330, 331, 332, 387, 388, 389, 390, 303, 304, 305, 312, 313, 314, 264, 265, 266, 855, 856, 857, 858, 859, 860, 861, 862, 863, 864, 865] (by decide +kernel) (by decide +kernel)
set_option maxRecDepth 20000 in
theorem gL_law_X9_citeAll : GoodIn wsL_law (wsV RL 140 RX9 yX9_citeAll wsX9_citeAll) := goodIn_app (goodIn_of _ (by decide +kernel)) ggL_law_X9_citeAll
set_option maxRecDepth 20000 in
theorem ggL_law_L_undo : GoodIn wsL_law wsL_undo := goodIn_ca (goodIn_r _ [544, 118, 545, 546, 547, 2, 548, 140, 141, 28, 549, 16, 20, 550, 551, 552, 27, 553, 93, 91, 92, 146, 147, 148, 15, 149, 41, 45, 49, 150, 151, 152, 40, 153, 53, 154, 155, 156, 157, 54, 55, 56, 57, 158, 159, 160, 44, 161, 61, 162, 62, 63, 163, 164, 165, 48, 166, 68, 167, 69, 176, 177, 178, 19, 179, 180, 181, 182, 183, 184, 185, 186, 187, 188, 73, 74, 75, 79, 189, 190, 191, 192, 193, 194, 76, 78, 195, 196, 197, 198, 199, 200, 201, 849, 850, 851, 852, 853, 854, 878, 879, 880, 866, 867, 868, 887, 888, 889, 890, 891, 892, 893, 894, 895, 896, 869, 870, 871, 872, 873, 874] (by decide +kernel) (by decide +kernel)) (goodIn_sub (fun _ h => List.mem_append_right _ h) (by decide +kernel))
set_option maxRecDepth 20000 in
theorem gL_law_L_undo : GoodIn wsL_law (va_wsS RL 141 yL_undo wsL_undo) := goodIn_app (goodIn_of _ (by decide +kernel)) ggL_law_L_undo
set_option maxRecDepth 20000 in
theorem ggL_law_X9_undo : GoodIn wsL_law wsX9_undo := goodIn_r _ [557, 206, 221, 109, 107, 210, 211, 212, 5, 213, 222, 223, 224, 855, 856, 857, 858, 859, 860, 861, 862, 863, 864, 865] (by decide +kernel) (by decide +kernel)
set_option maxRecDepth 20000 in
theorem gL_law_X9_undo : GoodIn wsL_law (wsV RL 144 RX9 yX9_undo wsX9_undo) := goodIn_app (goodIn_of _ (by decide +kernel)) ggL_law_X9_undo
set_option maxRecDepth 20000 in
theorem ggL_law_L_exhibit : GoodIn wsL_law wsL_exhibit := goodIn_ca (goodIn_r _ [560, 117, 561, 562, 563, 2, 564, 134, 135, 16, 123, 130, 242, 243, 20, 565, 566, 567, 568, 569, 570, 571, 572, 573, 574, 288, 289, 290, 292, 196, 197, 849, 850, 851, 852, 853, 854, 866, 867, 868, 887, 888, 889, 890, 891, 869, 870, 871, 872, 873, 874, 892, 893, 894] (by decide +kernel) (by decide +kernel)) (goodIn_sub (fun _ h => List.mem_append_left _ (List.mem_append_right _ h)) (by decide +kernel))
set_option maxRecDepth 20000 in
theorem gL_law_L_exhibit : GoodIn wsL_law (va_wsS RL 145 yL_exhibit wsL_exhibit) := goodIn_app (goodIn_of _ (by decide +kernel)) ggL_law_L_exhibit
set_option maxRecDepth 20000 in
theorem ggL_law_X9_exhibit : GoodIn wsL_law wsX9_exhibit := goodIn_r _ [578, 206, 207, 208, 5, 209, 210, 211, 212, 213, 257, 258, 259, 260, 107, 579, 580, 581, 582, 264, 265, 266, 267, 268, 269, 583, 584, 585, 586, 587, 588, 303, 304, 305, 309, 310, 311, 312, 313, 314, 315, 316, 317, 306, 307, 308, 855, 856, 857, 858, 859, 860, 861, 862, 863, 864, 865] (by decide +kernel) (by decide +kernel)
set_option maxRecDepth 20000 in
theorem gL_law_X9_exhibit : GoodIn wsL_law (wsV RL 147 RX9 yX9_exhibit wsX9_exhibit) := goodIn_app (goodIn_of _ (by decide +kernel)) ggL_law_X9_exhibit
set_option maxRecDepth 20000 in
theorem ggL_law_L_citation : GoodIn wsL_law wsL_citation := goodIn_ca (goodIn_ca (goodIn_r _ [591, 116, 117, 592, 593, 594, 2, 595, 134, 135, 16, 288, 289, 596, 20, 290, 417, 291, 373, 374, 375, 128, 129, 568, 569, 570, 292, 196, 197, 597, 598, 599, 600, 567, 849, 850, 851, 852, 853, 854, 866, 867, 868, 892, 893, 894, 869, 870, 871, 872, 873, 874] (by decide +kernel) (by decide +kernel)) (goodIn_sub (fun _ h => List.mem_append_left _ (List.mem_append_right _ h)) (by decide +kernel))) (goodIn_sub (fun _ h => List.mem_append_left _ (List.mem_append_left _ (List.mem_append_right _ h))) (by decide +kernel))
set_option maxRecDepth 20000 in
theorem gL_law_L_citation : GoodIn wsL_law (va_wsS RL 148 yL_citation wsL_citation) := goodIn_app (goodIn_of _ (by decide +kernel)) ggL_law_L_citation
set_option maxRecDepth 20000 in
theorem ggL_law_X9_citation : GoodIn wsL_law wsX9_citation := goodIn_r _ [604, 206, 107, 384, 385, 5, 386, 207, 208, 209, 210, 211, 212, 213, 303, 304, 305, 605, 606, 607, 608, 312, 313, 314, 309, 310, 311, 315, 316, 317, 306, 307, 308, 267, 268, 269, 583, 584, 585, 855, 856, 857, 858, 859, 860, 861, 862, 863, 864, 865] (by decide +kernel) (by decide +kernel)
set_option maxRecDepth 20000 in
theorem gL_law_X9_citation : GoodIn wsL_law (wsV RL 150 RX9 yX9_citation wsX9_citation) := goodIn_app (goodIn_of _ (by decide +kernel)) ggL_law_X9_citation
set_option maxRecDepth 20000 in
theorem ggL_law_L_paragraph : GoodIn wsL_law wsL_paragraph := goodIn_ca (goodIn_ca (goodIn_r _ [611, 116, 117, 612, 613, 614, 2, 615, 16, 288, 289, 34, 414, 415, 373, 374, 375, 128, 129, 568, 569, 570, 134, 135, 616, 617, 618, 619, 20, 291, 292, 196, 197, 418, 419, 420, 421, 290, 417, 416, 422, 423, 424, 849, 850, 851, 852, 853, 854, 866, 867, 868, 892, 893, 894, 895, 896, 869, 870, 871, 872, 873, 874] (by decide +kernel) (by decide +kernel)) (goodIn_sub (fun _ h => List.mem_append_left _ (List.mem_append_left _ (List.mem_append_right _ h))) (by decide +kernel))) (goodIn_sub (fun _ h => List.mem_append_left _ (List.mem_append_right _ h)) (by decide +kernel))
set_option maxRecDepth 20000 in
theorem gL_law_L_paragraph : GoodIn wsL_law (va_wsS RL 151 yL_paragraph wsL_paragraph) := goodIn_app (goodIn_of _ (by decide +kernel)) ggL_law_L_paragraph
set_option maxRecDepth 20000 in
theorem ggL_law_X9_paragraph : GoodIn wsL_law wsX9_paragraph := goodIn_r _ [623, 206, 384, 385, 5, 386, 207, 208, 209, 210, 211, 212, 213, 624, 625, 626, 627, 107, 303, 304, 305, 300, 301, 302, 306, 307, 308, 309, 310, 311, 312, 313, 314, 315, 316, 317, 267, 268, 269, 429, 430, 431, 855, 856, 857, 858, 859, 860, 861, 862, 863, 864, 865] (by decide +kernel) (by decide +kernel)
set_option maxRecDepth 20000 in
theorem gL_law_X9_paragraph : GoodIn wsL_law (wsV RL 153 RX9 yX9_paragraph wsX9_paragraph) := goodIn_app (goodIn_of _ (by decide +kernel)) ggL_law_X9_paragraph
set_option maxRecDepth 20000 in
theorem ggL_law_L_table : GoodIn wsL_law wsL_table := goodIn_ca (goodIn_r _ [630, 116, 631, 632, 633, 2, 634, 244, 245, 246, 247, 128, 129, 16, 123, 130, 284, 285, 286, 287, 288, 289, 20, 290, 291, 292, 196, 197, 849, 850, 851, 852, 853, 854, 866, 867, 868, 887, 888, 889, 890, 891, 892, 893, 894, 869, 870, 871, 872, 873, 874] (by decide +kernel) (by decide +kernel)) (goodIn_sub (fun _ h => List.mem_append_left _ (List.mem_append_left _ (List.mem_append_right _ h))) (by decide +kernel))
set_option maxRecDepth 20000 in
theorem gL_law_L_table : GoodIn wsL_law (va_wsS RL 154 yL_table wsL_table) := goodIn_app (goodIn_of _ (by decide +kernel)) ggL_law_L_table
set_option maxRecDepth 20000 in
theorem ggL_law_X9_table : GoodIn wsL_law wsX9_table := goodIn_r _ [638, 206, 257, 258, 259, 5, 260, 107, 207, 208, 209, 639, 640, 641, 642, 303, 304, 305, 309, 310, 311, 312, 313, 314, 315, 316, 317, 306, 307, 308, 267, 268, 269, 210, 211, 212, 213, 855, 856, 857, 858, 859, 860, 861, 862, 863, 864, 865] (by decide +kernel) (by decide +kernel)
set_option maxRecDepth 20000 in
theorem gL_law_X9_table : GoodIn wsL_law (wsV RL 156 RX9 yX9_table wsX9_table) := goodIn_app (goodIn_of _ (by decide +kernel)) ggL_law_X9_table
set_option maxRecDepth 20000 in
theorem ggL_law_L_count : GoodIn wsL_law wsL_count := goodIn_ca (goodIn_r _ [645, 117, 646, 647, 648, 2, 649, 16, 123, 130, 20, 650, 34, 439, 28, 549, 568, 569, 570, 134, 135, 651, 652, 653, 40, 654, 55, 54, 655, 656, 657, 658, 288, 289, 659, 660, 661, 662, 616, 617, 618, 619, 291, 292, 196, 197, 663, 664, 665, 666, 418, 419, 420, 421, 414, 415, 290, 417, 416, 422, 423, 424, 667, 668, 669, 670, 280, 281, 282, 283, 284, 285, 286, 287, 849, 850, 851, 852, 853, 854, 866, 867, 868, 887, 888, 889, 890, 891, 869, 870, 871, 872, 873, 874, 878, 879, 880, 892, 893, 894, 895, 896] (by decide +kernel) (by decide +kernel)) (goodIn_sub (fun _ h => List.mem_append_left _ (List.mem_append_right _ h)) (by decide +kernel))
set_option maxRecDepth 20000 in
theorem gL_law_L_count : GoodIn wsL_law (va_wsS RL 157 yL_count wsL_count) := goodIn_app (goodIn_of _ (by decide +kernel)) ggL_law_L_count
set_option maxRecDepth 20000 in
theorem ggL_law_X9_count : GoodIn wsL_law wsX9_count := goodIn_r _ [674, 206, 207, 208, 5, 209, 675, 676, 677, 678, 107, 221, 679, 680, 681, 682, 267, 268, 269, 683, 684, 685, 583, 584, 585, 686, 687, 688, 689, 303, 304, 305, 297, 298, 299, 300, 301, 302, 306, 307, 308, 309, 310, 311, 312, 313, 314, 315, 316, 317, 690, 691, 692, 429, 430, 431, 693, 694, 695, 696, 586, 587, 588, 210, 211, 212, 213, 855, 856, 857, 858, 859, 860, 861, 862, 863, 864, 865] (by decide +kernel) (by decide +kernel)
set_option maxRecDepth 20000 in
theorem gL_law_X9_count : GoodIn wsL_law (wsV RL 159 RX9 yX9_count wsX9_count) := goodIn_app (goodIn_of _ (by decide +kernel)) ggL_law_X9_count
set_option maxRecDepth 20000 in
theorem ggL_law_L_ifInserted : GoodIn wsL_law wsL_ifInserted := goodIn_ca (goodIn_ca (goodIn_r _ [699, 116, 117, 700, 701, 702, 2, 703, 24, 16, 123, 704, 124, 125, 126, 127, 128, 129, 130, 131, 132, 133, 134, 135, 568, 569, 570, 705, 706, 707, 23, 708, 709, 83, 84, 85, 710, 711, 712, 713, 714, 663, 664, 665, 666, 418, 419, 420, 421, 288, 289, 414, 415, 20, 290, 291, 417, 416, 292, 196, 197, 422, 423, 424, 715, 716, 717, 718, 719, 720, 439, 721, 722, 723, 849, 850, 851, 852, 853, 854, 866, 867, 868, 875, 876, 877, 887, 888, 889, 890, 891, 892, 893, 894, 895, 896, 869, 870, 871, 872, 873, 874] (by decide +kernel) (by decide +kernel)) (goodIn_sub (fun _ h => List.mem_append_left _ (List.mem_append_left _ (List.mem_append_right _ h))) (by decide +kernel))) (goodIn_sub (fun _ h => List.mem_append_left _ (List.mem_append_right _ h)) (by decide +kernel))
set_option maxRecDepth 20000 in
theorem gL_law_L_ifInserted : GoodIn wsL_law (va_wsS RL 160 yL_ifInserted wsL_ifInserted) := goodIn_app (goodIn_of _ (by decide +kernel)) ggL_law_L_ifInserted
set_option maxRecDepth 20000 in
theorem ggL_law_X9_ifInserted : GoodIn wsL_law wsX9_ifInserted := goodIn_r _ [727, 206, 107, 207, 208, 5, 209, 210, 211, 212, 213, 214, 215, 216, 728, 729, 730, 731, 108, 222, 223, 224, 225, 226, 227, 228, 229, 230, 690, 691, 692, 429, 430, 431, 303, 304, 305, 309, 310, 311, 312, 313, 314, 315, 316, 317, 306, 307, 308, 267, 268, 269, 683, 684, 685, 583, 584, 585, 855, 856, 857, 858, 859, 860, 861, 862, 863, 864, 865] (by decide +kernel) (by decide +kernel)
set_option maxRecDepth 20000 in
theorem gL_law_X9_ifInserted : GoodIn wsL_law (wsV RL 162 RX9 yX9_ifInserted wsX9_ifInserted) := goodIn_app (goodIn_of _ (by decide +kernel)) ggL_law_X9_ifInserted
set_option maxRecDepth 20000 in
theorem ggL_law_L_ifDropped : GoodIn wsL_law wsL_ifDropped := goodIn_ca (goodIn_ca (goodIn_r _ [734, 116, 117, 735, 736, 737, 2, 738, 24, 16, 123, 704, 244, 245, 246, 247, 128, 129, 130, 568, 569, 570, 134, 135, 280, 281, 282, 283, 284, 285, 286, 287, 288, 289, 20, 290, 291, 292, 196, 197, 739, 740, 741, 23, 742, 709, 83, 85, 710, 711, 712, 713, 84, 714, 663, 664, 665, 666, 418, 419, 420, 421, 414, 415, 417, 416, 422, 423, 424, 849, 850, 851, 852, 853, 854, 866, 867, 868, 875, 876, 877, 887, 888, 889, 890, 891, 892, 893, 894, 869, 870, 871, 872, 873, 874, 895, 896] (by decide +kernel) (by decide +kernel)) (goodIn_sub (fun _ h => List.mem_append_left _ (List.mem_append_left _ (List.mem_append_right _ h))) (by decide +kernel))) (goodIn_sub (fun _ h => List.mem_append_left _ (List.mem_append_right _ h)) (by decide +kernel))
set_option maxRecDepth 20000 in
theorem gL_law_L_ifDropped : GoodIn wsL_law (va_wsS RL 163 yL_ifDropped wsL_ifDropped) := goodIn_app (goodIn_of _ (by decide +kernel)) ggL_law_L_ifDropped
set_option maxRecDepth 20000 in
theorem ggL_law_X9_ifDropped : GoodIn wsL_law wsX9_ifDropped := goodIn_r _ [746, 206, 257, 258, 259, 5, 260, 107, 207, 208, 209, 210, 211, 212, 213, 747, 748, 749, 750, 108, 222, 223, 224, 270, 271, 272, 297, 298, 299, 300, 301, 302, 303, 304, 305, 306, 307, 308, 309, 310, 311, 312, 313, 314, 315, 316, 317, 267, 268, 269, 690, 691, 692, 429, 430, 431, 855, 856, 857, 858, 859, 860, 861, 862, 863, 864, 865] (by decide +kernel) (by decide +kernel)
set_option maxRecDepth 20000 in
theorem gL_law_X9_ifDropped : GoodIn wsL_law (wsV RL 165 RX9 yX9_ifDropped wsX9_ifDropped) := goodIn_app (goodIn_of _ (by decide +kernel)) ggL_law_X9_ifDropped
set_option maxRecDepth 20000 in
theorem ggL_law_L_bestMove : GoodIn wsL_law wsL_bestMove := goodIn_ca (goodIn_r _ [753, 116, 754, 755, 756, 2, 757, 16, 123, 130, 24, 704, 244, 245, 246, 247, 128, 129, 758, 759, 760, 23, 761, 709, 83, 85, 710, 711, 712, 713, 84, 714, 663, 664, 665, 666, 418, 419, 420, 421, 288, 289, 414, 415, 20, 290, 291, 417, 416, 292, 196, 197, 422, 423, 424, 715, 716, 717, 718, 719, 720, 439, 721, 722, 723, 849, 850, 851, 852, 853, 854, 866, 867, 868, 887, 888, 889, 890, 891, 875, 876, 877, 892, 893, 894, 895, 896, 869, 870, 871, 872, 873, 874] (by decide +kernel) (by decide +kernel)) (goodIn_sub (fun _ h => List.mem_append_left _ (List.mem_append_left _ (List.mem_append_right _ h))) (by decide +kernel))
set_option maxRecDepth 20000 in
theorem gL_law_L_bestMove : GoodIn wsL_law (va_wsS RL 166 yL_bestMove wsL_bestMove) := goodIn_app (goodIn_of _ (by decide +kernel)) ggL_law_L_bestMove
set_option maxRecDepth 20000 in
theorem ggL_law_X9_bestMove : GoodIn wsL_law wsX9_bestMove := goodIn_r _ [765, 206, 257, 258, 259, 5, 260, 107, 207, 208, 209, 766, 767, 768, 769, 108, 222, 223, 224, 261, 262, 263, 264, 265, 266, 267, 268, 269, 270, 271, 272, 228, 229, 230, 690, 691, 692, 429, 430, 431, 303, 304, 305, 309, 310, 311, 312, 313, 314, 315, 316, 317, 306, 307, 308, 683, 684, 685, 583, 584, 585, 210, 211, 212, 213, 855, 856, 857, 858, 859, 860, 861, 862, 863, 864, 865] (by decide +kernel) (by decide +kernel)
set_option maxRecDepth 20000 in
theorem gL_law_X9_bestMove : GoodIn wsL_law (wsV RL 168 RX9 yX9_bestMove wsX9_bestMove) := goodIn_app (goodIn_of _ (by decide +kernel)) ggL_law_X9_bestMove
set_option maxRecDepth 20000 in
theorem ggL_law_L_leastPages : GoodIn wsL_law wsL_leastPages := goodIn_ca (goodIn_r _ [772, 117, 773, 774, 775, 2, 776, 134, 135, 16, 123, 243, 130, 721, 722, 723, 849, 850, 851, 852, 853, 854, 866, 867, 868, 887, 888, 889, 890, 891] (by decide +kernel) (by decide +kernel)) (goodIn_sub (fun _ h => List.mem_append_left _ (List.mem_append_right _ h)) (by decide +kernel))
set_option maxRecDepth 20000 in
theorem gL_law_L_leastPages : GoodIn wsL_law (va_wsS RL 169 yL_leastPages wsL_leastPages) := goodIn_app (goodIn_of _ (by decide +kernel)) ggL_law_L_leastPages
set_option maxRecDepth 20000 in
theorem ggL_law_X9_leastPages : GoodIn wsL_law wsX9_leastPages := goodIn_r _ [780, 206, 207, 208, 5, 209, 781, 782, 783, 784, 107, 108, 222, 223, 224, 683, 684, 685, 583, 584, 585, 267, 268, 269, 210, 211, 212, 213, 855, 856, 857, 858, 859, 860, 861, 862, 863, 864, 865] (by decide +kernel) (by decide +kernel)
set_option maxRecDepth 20000 in
theorem gL_law_X9_leastPages : GoodIn wsL_law (wsV RL 171 RX9 yX9_leastPages wsX9_leastPages) := goodIn_app (goodIn_of _ (by decide +kernel)) ggL_law_X9_leastPages
set_option maxRecDepth 20000 in
theorem ggL_law_X8_citedShare : GoodIn wsL_law wsX8_citedShare := goodIn_r _ [788, 16, 123, 130, 667, 668, 669, 2, 670, 280, 281, 282, 283, 284, 285, 286, 287, 288, 289, 20, 290, 291, 292, 196, 197, 849, 850, 851, 852, 853, 854, 866, 867, 868, 887, 888, 889, 890, 891, 892, 893, 894, 869, 870, 871, 872, 873, 874] (by decide +kernel) (by decide +kernel)
set_option maxRecDepth 20000 in
theorem gL_law_X8_citedShare : GoodIn wsL_law (wsV RL 172 RX8 yX8_citedShare wsX8_citedShare) := goodIn_app (goodIn_of _ (by decide +kernel)) ggL_law_X8_citedShare
set_option maxRecDepth 20000 in
theorem ggL_law_X9_citedShare : GoodIn wsL_law wsX9_citedShare := goodIn_r _ [792, 206, 793, 794, 795, 5, 796, 107, 693, 694, 695, 696, 586, 587, 588, 303, 304, 305, 309, 310, 311, 312, 313, 314, 315, 316, 317, 306, 307, 308, 267, 268, 269, 855, 856, 857, 858, 859, 860, 861, 862, 863, 864, 865] (by decide +kernel) (by decide +kernel)
set_option maxRecDepth 20000 in
theorem gL_law_X9_citedShare : GoodIn wsL_law (wsV RL 176 RX9 yX9_citedShare wsX9_citedShare) := goodIn_app (goodIn_of _ (by decide +kernel)) ggL_law_X9_citedShare
set_option maxRecDepth 20000 in
theorem ggL_law_X8_digest : GoodIn wsL_law wsX8_digest := goodIn_ca (goodIn_ca (goodIn_r _ [800, 801, 16, 123, 130, 32, 451, 802, 803, 647, 648, 2, 649, 20, 650, 34, 439, 28, 549, 568, 569, 570, 134, 135, 651, 652, 653, 40, 654, 55, 54, 655, 656, 657, 658, 288, 289, 659, 660, 661, 662, 616, 617, 618, 619, 291, 292, 196, 197, 663, 664, 665, 666, 418, 419, 420, 421, 414, 415, 290, 417, 416, 422, 423, 424, 667, 668, 669, 670, 280, 281, 282, 283, 284, 285, 286, 287, 804, 805, 806, 807, 808, 809, 810, 811, 812, 562, 563, 564, 242, 243, 565, 566, 567, 571, 572, 573, 574, 813, 632, 633, 634, 244, 245, 246, 247, 128, 129, 814, 736, 737, 738, 24, 704, 739, 740, 741, 23, 742, 709, 83, 85, 710, 711, 712, 713, 84, 714, 815, 755, 756, 757, 758, 759, 760, 761, 715, 716, 717, 718, 719, 720, 721, 722, 723, 816, 817, 818, 819, 820, 613, 614, 615, 373, 374, 375, 821, 593, 594, 595, 596, 597, 598, 599, 600, 822, 701, 702, 703, 124, 125, 126, 127, 131, 132, 133, 705, 706, 707, 708, 823, 774, 775, 776, 824, 786, 787, 788, 825, 826, 827, 828, 829, 830, 849, 850, 851, 852, 853, 854, 866, 867, 868, 887, 888, 889, 890, 891, 881, 882, 883, 884, 885, 886, 869, 870, 871, 872, 873, 874, 878, 879, 880, 892, 893, 894, 895, 896, 875, 876, 877] (by decide +kernel) (by decide +kernel)) (goodIn_sub (fun _ h => List.mem_append_left _ (List.mem_append_right _ h)) (by decide +kernel))) (goodIn_sub (fun _ h => List.mem_append_left _ (List.mem_append_left _ (List.mem_append_right _ h))) (by decide +kernel))
set_option maxRecDepth 20000 in
theorem gL_law_X8_digest : GoodIn wsL_law (wsV RL 177 RX8 yX8_digest wsX8_digest) := goodIn_app (goodIn_of _ (by decide +kernel)) ggL_law_X8_digest
set_option maxRecDepth 20000 in
theorem ggL_law_X9_digest : GoodIn wsL_law wsX9_digest := goodIn_r _ [834, 206, 835, 836, 107, 460, 110, 675, 676, 677, 5, 678, 221, 679, 680, 681, 682, 267, 268, 269, 683, 684, 685, 583, 584, 585, 686, 687, 688, 689, 303, 304, 305, 297, 298, 299, 300, 301, 302, 306, 307, 308, 309, 310, 311, 312, 313, 314, 315, 316, 317, 690, 691, 692, 429, 430, 431, 693, 694, 695, 696, 586, 587, 588, 579, 580, 581, 582, 264, 265, 266, 639, 640, 641, 642, 747, 748, 749, 750, 108, 222, 223, 224, 270, 271, 272, 766, 767, 768, 769, 261, 262, 263, 228, 229, 230, 624, 625, 626, 627, 605, 606, 607, 608, 728, 729, 730, 731, 225, 226, 227, 781, 782, 783, 784, 793, 794, 795, 796, 837, 838, 839, 840, 841, 842, 843, 844, 845, 846, 847, 848, 855, 856, 857, 858, 859, 860, 861, 862, 863, 864, 865] (by decide +kernel) (by decide +kernel)
set_option maxRecDepth 20000 in
theorem gL_law_X9_digest : GoodIn wsL_law (wsV RL 181 RX9 yX9_digest wsX9_digest) := goodIn_app (goodIn_of _ (by decide +kernel)) ggL_law_X9_digest
