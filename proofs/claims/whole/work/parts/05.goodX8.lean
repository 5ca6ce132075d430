/-! words of one list among another's, by program -/
set_option maxRecDepth 20000 in
theorem ggX8_isPlace_X8_in : GoodIn wsX8_isPlace wsX8_in := goodIn_r _ [4] rfl (by decide +kernel)
set_option maxRecDepth 20000 in
theorem gX8_isPlace_X8_in : GoodIn wsX8_isPlace (va_wsS RX8 75 yX8_in wsX8_in) := goodIn_app (goodIn_of _ (by decide +kernel)) ggX8_isPlace_X8_in
set_option maxRecDepth 20000 in
theorem ggX8_push_X8_copyRow : GoodIn wsX8_push wsX8_copyRow := goodIn_r _ [7] rfl (by decide +kernel)
set_option maxRecDepth 20000 in
theorem gX8_push_X8_copyRow : GoodIn wsX8_push (va_wsS RX8 82 yX8_copyRow wsX8_copyRow) := goodIn_app (goodIn_of _ (by decide +kernel)) ggX8_push_X8_copyRow
set_option maxRecDepth 20000 in
theorem ggX8_record_X8_push : GoodIn wsX8_record wsX8_push := goodIn_r _ [6, 7, 8, 9, 10, 11, 5, 12, 13, 14, 15, 16, 17, 18, 19, 20, 21, 22, 23, 24, 25, 26, 27, 28, 29, 30, 31, 32, 33, 34, 35, 36, 37, 38, 39, 40, 41, 42, 43] rfl (by decide +kernel)
set_option maxRecDepth 20000 in
theorem gX8_record_X8_push : GoodIn wsX8_record (wsV RX8 86 RX8 yX8_push wsX8_push) := goodIn_app (goodIn_of _ (by decide +kernel)) ggX8_record_X8_push
set_option maxRecDepth 20000 in
theorem ggX8_undo_X8_copyRow : GoodIn wsX8_undo wsX8_copyRow := goodIn_r _ [9] rfl (by decide +kernel)
set_option maxRecDepth 20000 in
theorem gX8_undo_X8_copyRow : GoodIn wsX8_undo (va_wsS RX8 82 yX8_copyRow wsX8_copyRow) := goodIn_app (goodIn_of _ (by decide +kernel)) ggX8_undo_X8_copyRow
set_option maxRecDepth 20000 in
theorem ggX8_redo_X8_push : GoodIn wsX8_redo wsX8_push := goodIn_r _ [8, 9, 10, 3, 11, 12, 7, 13, 14, 15, 16, 17, 18, 19, 20, 21, 22, 23, 24, 25, 26, 27, 28, 29, 30, 31, 32, 33, 34, 35, 36, 37, 38, 39, 40, 41, 42, 43, 44] rfl (by decide +kernel)
set_option maxRecDepth 20000 in
theorem gX8_redo_X8_push : GoodIn wsX8_redo (wsV RX8 86 RX8 yX8_push wsX8_push) := goodIn_app (goodIn_of _ (by decide +kernel)) ggX8_redo_X8_push
set_option maxRecDepth 20000 in
theorem ggX8_redo_X8_copyRow : GoodIn wsX8_redo wsX8_copyRow := goodIn_r _ [13] rfl (by decide +kernel)
set_option maxRecDepth 20000 in
theorem gX8_redo_X8_copyRow : GoodIn wsX8_redo (va_wsS RX8 82 yX8_copyRow wsX8_copyRow) := goodIn_app (goodIn_of _ (by decide +kernel)) ggX8_redo_X8_copyRow
set_option maxRecDepth 20000 in
theorem ggX8_add_X8_isLast : GoodIn wsX8_add wsX8_isLast := goodIn_r _ [8, 2, 1, 3, 9, 10, 11, 12, 13, 14, 15, 16, 17, 18, 19, 20, 21, 22, 23, 24, 25, 26, 27, 28, 29, 30, 31, 32, 33, 34, 35, 36, 37, 38, 39] rfl (by decide +kernel)
set_option maxRecDepth 20000 in
theorem gX8_add_X8_isLast : GoodIn wsX8_add (wsV RX8 95 RX8 yX8_isLast wsX8_isLast) := goodIn_app (goodIn_of _ (by decide +kernel)) ggX8_add_X8_isLast
set_option maxRecDepth 20000 in
theorem ggX8_put_X8_isPlace : GoodIn wsX8_put wsX8_isPlace := goodIn_r _ [5, 6, 7, 4, 8] rfl (by decide +kernel)
set_option maxRecDepth 20000 in
theorem gX8_put_X8_isPlace : GoodIn wsX8_put (va_wsS RX8 99 yX8_isPlace wsX8_isPlace) := goodIn_app (goodIn_of _ (by decide +kernel)) ggX8_put_X8_isPlace
set_option maxRecDepth 20000 in
theorem ggX8_put_X8_add : GoodIn wsX8_put wsX8_add := goodIn_r _ [12, 13, 1, 14, 15, 16, 17, 4, 18, 19, 20, 21, 22, 23, 24, 25, 26, 27, 28, 29, 30, 31, 32, 33, 34, 35, 36, 37, 38, 39, 40, 41, 42, 43, 44, 45, 46, 47, 48, 49] rfl (by decide +kernel)
set_option maxRecDepth 20000 in
theorem gX8_put_X8_add : GoodIn wsX8_put (wsV RX8 103 RX8 yX8_add wsX8_add) := goodIn_app (goodIn_of _ (by decide +kernel)) ggX8_put_X8_add
set_option maxRecDepth 20000 in
theorem ggX8_number_X8_isAt : GoodIn wsX8_number wsX8_isAt := goodIn_r _ [8, 1, 9, 3, 10, 11, 12, 13, 14, 15, 16, 17, 18, 19, 20, 21, 22, 23, 24, 25, 26, 27, 28, 29, 30, 31, 32, 33, 34, 35, 36, 37, 38, 39, 40] rfl (by decide +kernel)
set_option maxRecDepth 20000 in
theorem gX8_number_X8_isAt : GoodIn wsX8_number (wsV RX8 117 RX8 yX8_isAt wsX8_isAt) := goodIn_app (goodIn_of _ (by decide +kernel)) ggX8_number_X8_isAt
set_option maxRecDepth 20000 in
theorem ggX8_readPoint_X8_number : GoodIn wsX8_readPoint wsX8_number := goodIn_r _ [10, 2, 1, 11, 12, 13, 14, 9, 15, 16, 17, 18, 19, 20, 21, 22, 23, 24, 25, 26, 27, 28, 29, 30, 31, 32, 33, 34, 35, 36, 37, 38, 39, 40, 41, 42, 43, 44, 45, 46, 47] rfl (by decide +kernel)
set_option maxRecDepth 20000 in
theorem gX8_readPoint_X8_number : GoodIn wsX8_readPoint (wsV RX8 121 RX8 yX8_number wsX8_number) := goodIn_app (goodIn_of _ (by decide +kernel)) ggX8_readPoint_X8_number
set_option maxRecDepth 20000 in
theorem ggX8_readPoint_X8_isAt : GoodIn wsX8_readPoint wsX8_isAt := goodIn_r _ [15, 2, 16, 11, 17, 18, 19, 20, 21, 22, 23, 24, 25, 26, 27, 28, 29, 30, 31, 32, 33, 34, 35, 36, 37, 38, 39, 40, 41, 42, 43, 44, 45, 46, 47] rfl (by decide +kernel)
set_option maxRecDepth 20000 in
theorem gX8_readPoint_X8_isAt : GoodIn wsX8_readPoint (wsV RX8 117 RX8 yX8_isAt wsX8_isAt) := goodIn_app (goodIn_of _ (by decide +kernel)) ggX8_readPoint_X8_isAt
set_option maxRecDepth 20000 in
theorem ggX8_readPoints_X8_readPoint : GoodIn wsX8_readPoints wsX8_readPoint := goodIn_r _ [12, 2, 1, 6, 3, 7, 13, 14, 15, 11, 16, 17, 18, 19, 20, 21, 4, 32, 33, 34, 35, 36, 37, 38, 39, 40, 41, 42, 43, 44, 45, 46, 47, 48, 49, 50, 51, 52, 53, 54, 55, 56, 57, 58, 59, 60, 61, 62] rfl (by decide +kernel)
set_option maxRecDepth 20000 in
theorem gX8_readPoints_X8_readPoint : GoodIn wsX8_readPoints (wsV RX8 128 RX8 yX8_readPoint wsX8_readPoint) := goodIn_app (goodIn_of _ (by decide +kernel)) ggX8_readPoints_X8_readPoint
set_option maxRecDepth 20000 in
theorem ggX8_readPoints_X8_isAt : GoodIn wsX8_readPoints wsX8_isAt := goodIn_r _ [21, 1, 4, 17, 32, 33, 34, 35, 36, 37, 38, 39, 40, 41, 42, 43, 44, 45, 46, 47, 48, 49, 50, 51, 52, 53, 54, 55, 56, 57, 58, 59, 60, 61, 62] rfl (by decide +kernel)
set_option maxRecDepth 20000 in
theorem gX8_readPoints_X8_isAt : GoodIn wsX8_readPoints (wsV RX8 117 RX8 yX8_isAt wsX8_isAt) := goodIn_app (goodIn_of _ (by decide +kernel)) ggX8_readPoints_X8_isAt
set_option maxRecDepth 20000 in
theorem ggX8_readPoints_X8_add : GoodIn wsX8_readPoints wsX8_add := goodIn_r _ [25, 26, 5, 27, 28, 29, 30, 11, 31, 32, 33, 34, 35, 36, 37, 38, 39, 40, 41, 42, 43, 44, 45, 46, 47, 48, 49, 50, 51, 52, 53, 54, 55, 56, 57, 58, 59, 60, 61, 62] rfl (by decide +kernel)
set_option maxRecDepth 20000 in
theorem gX8_readPoints_X8_add : GoodIn wsX8_readPoints (wsV RX8 103 RX8 yX8_add wsX8_add) := goodIn_app (goodIn_of _ (by decide +kernel)) ggX8_readPoints_X8_add
set_option maxRecDepth 20000 in
theorem ggX8_copyStroke_X8_addStroke : GoodIn wsX8_copyStroke wsX8_addStroke := goodIn_r _ [6, 7, 24, 25, 26, 27, 28, 29, 30, 31, 32, 33, 34, 35, 36, 37, 38, 39, 40, 41, 42, 43, 44, 45, 46, 47, 48, 49, 50, 51, 52, 53, 54] rfl (by decide +kernel)
set_option maxRecDepth 20000 in
theorem gX8_copyStroke_X8_addStroke : GoodIn wsX8_copyStroke (wsV RX8 131 RX8 yX8_addStroke wsX8_addStroke) := goodIn_app (goodIn_of _ (by decide +kernel)) ggX8_copyStroke_X8_addStroke
set_option maxRecDepth 20000 in
theorem ggX8_copyStroke_X8_size : GoodIn wsX8_copyStroke wsX8_size := goodIn_r _ [11, 1, 24, 25, 26, 27, 28, 29, 30, 31, 32, 33, 34, 35, 36, 37, 38, 39, 40, 41, 42, 43, 44, 45, 46, 47, 48, 49, 50, 51, 52, 53, 54] rfl (by decide +kernel)
set_option maxRecDepth 20000 in
theorem gX8_copyStroke_X8_size : GoodIn wsX8_copyStroke (wsV RX8 135 RX8 yX8_size wsX8_size) := goodIn_app (goodIn_of _ (by decide +kernel)) ggX8_copyStroke_X8_size
set_option maxRecDepth 20000 in
theorem ggX8_copyStroke_X8_x : GoodIn wsX8_copyStroke wsX8_x := goodIn_r _ [15, 1, 24, 25, 26, 27, 28, 29, 30, 31, 32, 33, 34, 35, 36, 37, 38, 39, 40, 41, 42, 43, 44, 45, 46, 47, 48, 49, 50, 51, 52, 53, 54] rfl (by decide +kernel)
set_option maxRecDepth 20000 in
theorem gX8_copyStroke_X8_x : GoodIn wsX8_copyStroke (wsV RX8 139 RX8 yX8_x wsX8_x) := goodIn_app (goodIn_of _ (by decide +kernel)) ggX8_copyStroke_X8_x
set_option maxRecDepth 20000 in
theorem ggX8_copyStroke_X8_y : GoodIn wsX8_copyStroke wsX8_y := goodIn_r _ [19, 1, 24, 25, 26, 27, 28, 29, 30, 31, 32, 33, 34, 35, 36, 37, 38, 39, 40, 41, 42, 43, 44, 45, 46, 47, 48, 49, 50, 51, 52, 53, 54] rfl (by decide +kernel)
set_option maxRecDepth 20000 in
theorem gX8_copyStroke_X8_y : GoodIn wsX8_copyStroke (wsV RX8 143 RX8 yX8_y wsX8_y) := goodIn_app (goodIn_of _ (by decide +kernel)) ggX8_copyStroke_X8_y
set_option maxRecDepth 20000 in
theorem ggX8_copyStroke_X8_addPoint : GoodIn wsX8_copyStroke wsX8_addPoint := goodIn_r _ [23, 7, 24, 25, 26, 27, 28, 29, 30, 31, 32, 33, 34, 35, 36, 37, 38, 39, 40, 41, 42, 43, 44, 45, 46, 47, 48, 49, 50, 51, 52, 53, 54] rfl (by decide +kernel)
set_option maxRecDepth 20000 in
theorem gX8_copyStroke_X8_addPoint : GoodIn wsX8_copyStroke (wsV RX8 146 RX8 yX8_addPoint wsX8_addPoint) := goodIn_app (goodIn_of _ (by decide +kernel)) ggX8_copyStroke_X8_addPoint
set_option maxRecDepth 20000 in
theorem ggX8_become_X8_record : GoodIn wsX8_become wsX8_record := goodIn_r _ [7, 8, 9, 10, 11, 6, 12, 13, 14, 2, 15, 16, 17, 18, 19, 20, 21, 22, 23, 24, 25, 26, 27, 28, 29, 30, 31, 32, 33, 34, 35, 36, 37, 38, 39, 40, 41, 42, 43, 44, 45, 46, 47, 48] rfl (by decide +kernel)
set_option maxRecDepth 20000 in
theorem gX8_become_X8_record : GoodIn wsX8_become (wsV RX8 149 RX8 yX8_record wsX8_record) := goodIn_app (goodIn_of _ (by decide +kernel)) ggX8_become_X8_record
set_option maxRecDepth 20000 in
theorem ggX8_become_X8_copyRow : GoodIn wsX8_become wsX8_copyRow := goodIn_r _ [17] rfl (by decide +kernel)
set_option maxRecDepth 20000 in
theorem gX8_become_X8_copyRow : GoodIn wsX8_become (va_wsS RX8 82 yX8_copyRow wsX8_copyRow) := goodIn_app (goodIn_of _ (by decide +kernel)) ggX8_become_X8_copyRow
set_option maxRecDepth 20000 in
theorem ggX8_noStroke_X8_strokes : GoodIn wsX8_noStroke wsX8_strokes := goodIn_r _ [5, 6, 10, 11, 12, 13, 14, 15, 16, 17, 18, 19, 20, 21, 22, 23, 24, 25, 26, 27, 28, 29, 30, 31, 32, 33, 34, 35, 36, 37, 38, 39, 40] rfl (by decide +kernel)
set_option maxRecDepth 20000 in
theorem gX8_noStroke_X8_strokes : GoodIn wsX8_noStroke (wsV RX8 152 RX8 yX8_strokes wsX8_strokes) := goodIn_app (goodIn_of _ (by decide +kernel)) ggX8_noStroke_X8_strokes
set_option maxRecDepth 20000 in
theorem ggX8_noStroke_X8_in : GoodIn wsX8_noStroke wsX8_in := goodIn_r _ [9] rfl (by decide +kernel)
set_option maxRecDepth 20000 in
theorem gX8_noStroke_X8_in : GoodIn wsX8_noStroke (va_wsS RX8 75 yX8_in wsX8_in) := goodIn_app (goodIn_of _ (by decide +kernel)) ggX8_noStroke_X8_in
set_option maxRecDepth 20000 in
theorem ggX8_draw_X8_in : GoodIn wsX8_draw wsX8_in := goodIn_r _ [7] rfl (by decide +kernel)
set_option maxRecDepth 20000 in
theorem gX8_draw_X8_in : GoodIn wsX8_draw (va_wsS RX8 75 yX8_in wsX8_in) := goodIn_app (goodIn_of _ (by decide +kernel)) ggX8_draw_X8_in
set_option maxRecDepth 20000 in
theorem ggX8_draw_X8_strokes : GoodIn wsX8_draw wsX8_strokes := goodIn_r _ [11, 12, 60, 61, 62, 63, 64, 65, 66, 67, 68, 69, 70, 71, 72, 73, 74, 75, 76, 77, 78, 79, 80, 81, 82, 83, 84, 85, 86, 87, 88, 89, 90] rfl (by decide +kernel)
set_option maxRecDepth 20000 in
theorem gX8_draw_X8_strokes : GoodIn wsX8_draw (wsV RX8 152 RX8 yX8_strokes wsX8_strokes) := goodIn_app (goodIn_of _ (by decide +kernel)) ggX8_draw_X8_strokes
set_option maxRecDepth 20000 in
theorem ggX8_draw_X8_begin : GoodIn wsX8_draw wsX8_begin := goodIn_r _ [16, 17, 60, 61, 62, 63, 64, 65, 66, 67, 68, 69, 70, 71, 72, 73, 74, 75, 76, 77, 78, 79, 80, 81, 82, 83, 84, 85, 86, 87, 88, 89, 90] rfl (by decide +kernel)
set_option maxRecDepth 20000 in
theorem gX8_draw_X8_begin : GoodIn wsX8_draw (wsV RX8 155 RX8 yX8_begin wsX8_begin) := goodIn_app (goodIn_of _ (by decide +kernel)) ggX8_draw_X8_begin
set_option maxRecDepth 20000 in
theorem ggX8_draw_X8_copyStroke : GoodIn wsX8_draw wsX8_copyStroke := goodIn_r _ [21, 12, 22, 23, 24, 6, 25, 17, 26, 27, 28, 29, 30, 31, 32, 33, 34, 35, 36, 37, 38, 39, 40, 41, 60, 61, 62, 63, 64, 65, 66, 67, 68, 69, 70, 71, 72, 73, 74, 75, 76, 77, 78, 79, 80, 81, 82, 83, 84, 85, 86, 87, 88, 89, 90] rfl (by decide +kernel)
set_option maxRecDepth 20000 in
theorem gX8_draw_X8_copyStroke : GoodIn wsX8_draw (wsV RX8 158 RX8 yX8_copyStroke wsX8_copyStroke) := goodIn_app (goodIn_of _ (by decide +kernel)) ggX8_draw_X8_copyStroke
set_option maxRecDepth 20000 in
theorem ggX8_draw_X8_addStroke : GoodIn wsX8_draw wsX8_addStroke := goodIn_r _ [25, 17, 60, 61, 62, 63, 64, 65, 66, 67, 68, 69, 70, 71, 72, 73, 74, 75, 76, 77, 78, 79, 80, 81, 82, 83, 84, 85, 86, 87, 88, 89, 90] rfl (by decide +kernel)
set_option maxRecDepth 20000 in
theorem gX8_draw_X8_addStroke : GoodIn wsX8_draw (wsV RX8 131 RX8 yX8_addStroke wsX8_addStroke) := goodIn_app (goodIn_of _ (by decide +kernel)) ggX8_draw_X8_addStroke
set_option maxRecDepth 20000 in
theorem ggX8_draw_X8_addPoint : GoodIn wsX8_draw wsX8_addPoint := goodIn_r _ [41, 17, 60, 61, 62, 63, 64, 65, 66, 67, 68, 69, 70, 71, 72, 73, 74, 75, 76, 77, 78, 79, 80, 81, 82, 83, 84, 85, 86, 87, 88, 89, 90] rfl (by decide +kernel)
set_option maxRecDepth 20000 in
theorem gX8_draw_X8_addPoint : GoodIn wsX8_draw (wsV RX8 146 RX8 yX8_addPoint wsX8_addPoint) := goodIn_app (goodIn_of _ (by decide +kernel)) ggX8_draw_X8_addPoint
set_option maxRecDepth 20000 in
theorem ggX8_draw_X8_become : GoodIn wsX8_draw wsX8_become := goodIn_r _ [45, 17, 12, 46, 47, 48, 6, 49, 50, 51, 52, 53, 54, 55, 56, 57, 58, 59, 60, 61, 62, 63, 64, 65, 66, 67, 68, 69, 70, 71, 72, 73, 74, 75, 76, 77, 78, 79, 80, 81, 82, 83, 84, 85, 86, 87, 88, 89, 90] rfl (by decide +kernel)
set_option maxRecDepth 20000 in
theorem gX8_draw_X8_become : GoodIn wsX8_draw (wsV RX8 161 RX8 yX8_become wsX8_become) := goodIn_app (goodIn_of _ (by decide +kernel)) ggX8_draw_X8_become
set_option maxRecDepth 20000 in
theorem ggX8_rub_X8_isPlace : GoodIn wsX8_rub wsX8_isPlace := goodIn_r _ [6, 7, 8, 5, 9] rfl (by decide +kernel)
set_option maxRecDepth 20000 in
theorem gX8_rub_X8_isPlace : GoodIn wsX8_rub (va_wsS RX8 99 yX8_isPlace wsX8_isPlace) := goodIn_app (goodIn_of _ (by decide +kernel)) ggX8_rub_X8_isPlace
set_option maxRecDepth 20000 in
theorem ggX8_rub_X8_in : GoodIn wsX8_rub wsX8_in := goodIn_r _ [9] rfl (by decide +kernel)
set_option maxRecDepth 20000 in
theorem gX8_rub_X8_in : GoodIn wsX8_rub (va_wsS RX8 75 yX8_in wsX8_in) := goodIn_app (goodIn_of _ (by decide +kernel)) ggX8_rub_X8_in
set_option maxRecDepth 20000 in
theorem ggX8_rub_X8_begin : GoodIn wsX8_rub wsX8_begin := goodIn_r _ [13, 2, 59, 60, 61, 62, 63, 64, 65, 66, 67, 68, 69, 70, 71, 72, 73, 74, 75, 76, 77, 78, 79, 80, 81, 82, 83, 84, 85, 86, 87, 88, 89] rfl (by decide +kernel)
set_option maxRecDepth 20000 in
theorem gX8_rub_X8_begin : GoodIn wsX8_rub (wsV RX8 155 RX8 yX8_begin wsX8_begin) := goodIn_app (goodIn_of _ (by decide +kernel)) ggX8_rub_X8_begin
set_option maxRecDepth 20000 in
theorem ggX8_rub_X8_strokes : GoodIn wsX8_rub wsX8_strokes := goodIn_r _ [17, 1, 59, 60, 61, 62, 63, 64, 65, 66, 67, 68, 69, 70, 71, 72, 73, 74, 75, 76, 77, 78, 79, 80, 81, 82, 83, 84, 85, 86, 87, 88, 89] rfl (by decide +kernel)
set_option maxRecDepth 20000 in
theorem gX8_rub_X8_strokes : GoodIn wsX8_rub (wsV RX8 152 RX8 yX8_strokes wsX8_strokes) := goodIn_app (goodIn_of _ (by decide +kernel)) ggX8_rub_X8_strokes
set_option maxRecDepth 20000 in
theorem ggX8_rub_X8_size : GoodIn wsX8_rub wsX8_size := goodIn_r _ [21, 1, 59, 60, 61, 62, 63, 64, 65, 66, 67, 68, 69, 70, 71, 72, 73, 74, 75, 76, 77, 78, 79, 80, 81, 82, 83, 84, 85, 86, 87, 88, 89] rfl (by decide +kernel)
set_option maxRecDepth 20000 in
theorem gX8_rub_X8_size : GoodIn wsX8_rub (wsV RX8 135 RX8 yX8_size wsX8_size) := goodIn_app (goodIn_of _ (by decide +kernel)) ggX8_rub_X8_size
set_option maxRecDepth 20000 in
theorem ggX8_rub_X8_x : GoodIn wsX8_rub wsX8_x := goodIn_r _ [25, 1, 59, 60, 61, 62, 63, 64, 65, 66, 67, 68, 69, 70, 71, 72, 73, 74, 75, 76, 77, 78, 79, 80, 81, 82, 83, 84, 85, 86, 87, 88, 89] rfl (by decide +kernel)
set_option maxRecDepth 20000 in
theorem gX8_rub_X8_x : GoodIn wsX8_rub (wsV RX8 139 RX8 yX8_x wsX8_x) := goodIn_app (goodIn_of _ (by decide +kernel)) ggX8_rub_X8_x
set_option maxRecDepth 20000 in
theorem ggX8_rub_X8_y : GoodIn wsX8_rub wsX8_y := goodIn_r _ [29, 1, 59, 60, 61, 62, 63, 64, 65, 66, 67, 68, 69, 70, 71, 72, 73, 74, 75, 76, 77, 78, 79, 80, 81, 82, 83, 84, 85, 86, 87, 88, 89] rfl (by decide +kernel)
set_option maxRecDepth 20000 in
theorem gX8_rub_X8_y : GoodIn wsX8_rub (wsV RX8 143 RX8 yX8_y wsX8_y) := goodIn_app (goodIn_of _ (by decide +kernel)) ggX8_rub_X8_y
set_option maxRecDepth 20000 in
theorem ggX8_rub_X8_square : GoodIn wsX8_rub wsX8_square := goodIn_r _ [32] rfl (by decide +kernel)
set_option maxRecDepth 20000 in
theorem gX8_rub_X8_square : GoodIn wsX8_rub (va_wsS RX8 164 yX8_square wsX8_square) := goodIn_app (goodIn_of _ (by decide +kernel)) ggX8_rub_X8_square
set_option maxRecDepth 20000 in
theorem ggX8_rub_X8_addStroke : GoodIn wsX8_rub wsX8_addStroke := goodIn_r _ [36, 2, 59, 60, 61, 62, 63, 64, 65, 66, 67, 68, 69, 70, 71, 72, 73, 74, 75, 76, 77, 78, 79, 80, 81, 82, 83, 84, 85, 86, 87, 88, 89] rfl (by decide +kernel)
set_option maxRecDepth 20000 in
theorem gX8_rub_X8_addStroke : GoodIn wsX8_rub (wsV RX8 131 RX8 yX8_addStroke wsX8_addStroke) := goodIn_app (goodIn_of _ (by decide +kernel)) ggX8_rub_X8_addStroke
set_option maxRecDepth 20000 in
theorem ggX8_rub_X8_addPoint : GoodIn wsX8_rub wsX8_addPoint := goodIn_r _ [40, 2, 59, 60, 61, 62, 63, 64, 65, 66, 67, 68, 69, 70, 71, 72, 73, 74, 75, 76, 77, 78, 79, 80, 81, 82, 83, 84, 85, 86, 87, 88, 89] rfl (by decide +kernel)
set_option maxRecDepth 20000 in
theorem gX8_rub_X8_addPoint : GoodIn wsX8_rub (wsV RX8 146 RX8 yX8_addPoint wsX8_addPoint) := goodIn_app (goodIn_of _ (by decide +kernel)) ggX8_rub_X8_addPoint
set_option maxRecDepth 20000 in
theorem ggX8_rub_X8_become : GoodIn wsX8_rub wsX8_become := goodIn_r _ [44, 2, 1, 45, 46, 47, 5, 48, 49, 50, 51, 52, 53, 54, 55, 56, 57, 58, 59, 60, 61, 62, 63, 64, 65, 66, 67, 68, 69, 70, 71, 72, 73, 74, 75, 76, 77, 78, 79, 80, 81, 82, 83, 84, 85, 86, 87, 88, 89] rfl (by decide +kernel)
set_option maxRecDepth 20000 in
theorem gX8_rub_X8_become : GoodIn wsX8_rub (wsV RX8 161 RX8 yX8_become wsX8_become) := goodIn_app (goodIn_of _ (by decide +kernel)) ggX8_rub_X8_become
set_option maxRecDepth 20000 in
theorem ggX8_take_X8_size : GoodIn wsX8_take wsX8_size := goodIn_r _ [8, 9, 18, 19, 20, 21, 22, 23, 24, 25, 26, 27, 28, 29, 30, 31, 32, 33, 34, 35, 36, 37, 38, 39, 40, 41, 42, 43, 44, 45, 46, 47, 48] rfl (by decide +kernel)
set_option maxRecDepth 20000 in
theorem gX8_take_X8_size : GoodIn wsX8_take (wsV RX8 135 RX8 yX8_size wsX8_size) := goodIn_app (goodIn_of _ (by decide +kernel)) ggX8_take_X8_size
set_option maxRecDepth 20000 in
theorem ggX8_take_X8_x : GoodIn wsX8_take wsX8_x := goodIn_r _ [13, 9, 18, 19, 20, 21, 22, 23, 24, 25, 26, 27, 28, 29, 30, 31, 32, 33, 34, 35, 36, 37, 38, 39, 40, 41, 42, 43, 44, 45, 46, 47, 48] rfl (by decide +kernel)
set_option maxRecDepth 20000 in
theorem gX8_take_X8_x : GoodIn wsX8_take (wsV RX8 139 RX8 yX8_x wsX8_x) := goodIn_app (goodIn_of _ (by decide +kernel)) ggX8_take_X8_x
set_option maxRecDepth 20000 in
theorem ggX8_take_X8_y : GoodIn wsX8_take wsX8_y := goodIn_r _ [17, 9, 18, 19, 20, 21, 22, 23, 24, 25, 26, 27, 28, 29, 30, 31, 32, 33, 34, 35, 36, 37, 38, 39, 40, 41, 42, 43, 44, 45, 46, 47, 48] rfl (by decide +kernel)
set_option maxRecDepth 20000 in
theorem gX8_take_X8_y : GoodIn wsX8_take (wsV RX8 143 RX8 yX8_y wsX8_y) := goodIn_app (goodIn_of _ (by decide +kernel)) ggX8_take_X8_y
set_option maxRecDepth 20000 in
theorem ggX8_putBack_X8_size : GoodIn wsX8_putBack wsX8_size := goodIn_r _ [9, 4, 57, 58, 59, 60, 61, 62, 63, 64, 65, 66, 67, 68, 69, 70, 71, 72, 73, 74, 75, 76, 77, 78, 79, 80, 81, 82, 83, 84, 85, 86, 87] rfl (by decide +kernel)
set_option maxRecDepth 20000 in
theorem gX8_putBack_X8_size : GoodIn wsX8_putBack (wsV RX8 135 RX8 yX8_size wsX8_size) := goodIn_app (goodIn_of _ (by decide +kernel)) ggX8_putBack_X8_size
set_option maxRecDepth 20000 in
theorem ggX8_putBack_X8_x : GoodIn wsX8_putBack wsX8_x := goodIn_r _ [13, 4, 57, 58, 59, 60, 61, 62, 63, 64, 65, 66, 67, 68, 69, 70, 71, 72, 73, 74, 75, 76, 77, 78, 79, 80, 81, 82, 83, 84, 85, 86, 87] rfl (by decide +kernel)
set_option maxRecDepth 20000 in
theorem gX8_putBack_X8_x : GoodIn wsX8_putBack (wsV RX8 139 RX8 yX8_x wsX8_x) := goodIn_app (goodIn_of _ (by decide +kernel)) ggX8_putBack_X8_x
set_option maxRecDepth 20000 in
theorem ggX8_putBack_X8_y : GoodIn wsX8_putBack wsX8_y := goodIn_r _ [17, 4, 57, 58, 59, 60, 61, 62, 63, 64, 65, 66, 67, 68, 69, 70, 71, 72, 73, 74, 75, 76, 77, 78, 79, 80, 81, 82, 83, 84, 85, 86, 87] rfl (by decide +kernel)
set_option maxRecDepth 20000 in
theorem gX8_putBack_X8_y : GoodIn wsX8_putBack (wsV RX8 143 RX8 yX8_y wsX8_y) := goodIn_app (goodIn_of _ (by decide +kernel)) ggX8_putBack_X8_y
set_option maxRecDepth 20000 in
theorem ggX8_putBack_X8_begin : GoodIn wsX8_putBack wsX8_begin := goodIn_r _ [21, 22, 57, 58, 59, 60, 61, 62, 63, 64, 65, 66, 67, 68, 69, 70, 71, 72, 73, 74, 75, 76, 77, 78, 79, 80, 81, 82, 83, 84, 85, 86, 87] rfl (by decide +kernel)
set_option maxRecDepth 20000 in
theorem gX8_putBack_X8_begin : GoodIn wsX8_putBack (wsV RX8 155 RX8 yX8_begin wsX8_begin) := goodIn_app (goodIn_of _ (by decide +kernel)) ggX8_putBack_X8_begin
set_option maxRecDepth 20000 in
theorem ggX8_putBack_X8_strokes : GoodIn wsX8_putBack wsX8_strokes := goodIn_r _ [26, 4, 57, 58, 59, 60, 61, 62, 63, 64, 65, 66, 67, 68, 69, 70, 71, 72, 73, 74, 75, 76, 77, 78, 79, 80, 81, 82, 83, 84, 85, 86, 87] rfl (by decide +kernel)
set_option maxRecDepth 20000 in
theorem gX8_putBack_X8_strokes : GoodIn wsX8_putBack (wsV RX8 152 RX8 yX8_strokes wsX8_strokes) := goodIn_app (goodIn_of _ (by decide +kernel)) ggX8_putBack_X8_strokes
set_option maxRecDepth 20000 in
theorem ggX8_putBack_X8_copyStroke : GoodIn wsX8_putBack wsX8_copyStroke := goodIn_r _ [30, 4, 31, 32, 33, 8, 34, 22, 5, 6, 7, 9, 10, 11, 12, 13, 14, 15, 16, 17, 35, 36, 37, 38, 57, 58, 59, 60, 61, 62, 63, 64, 65, 66, 67, 68, 69, 70, 71, 72, 73, 74, 75, 76, 77, 78, 79, 80, 81, 82, 83, 84, 85, 86, 87] rfl (by decide +kernel)
set_option maxRecDepth 20000 in
theorem gX8_putBack_X8_copyStroke : GoodIn wsX8_putBack (wsV RX8 158 RX8 yX8_copyStroke wsX8_copyStroke) := goodIn_app (goodIn_of _ (by decide +kernel)) ggX8_putBack_X8_copyStroke
set_option maxRecDepth 20000 in
theorem ggX8_putBack_X8_addStroke : GoodIn wsX8_putBack wsX8_addStroke := goodIn_r _ [34, 22, 57, 58, 59, 60, 61, 62, 63, 64, 65, 66, 67, 68, 69, 70, 71, 72, 73, 74, 75, 76, 77, 78, 79, 80, 81, 82, 83, 84, 85, 86, 87] rfl (by decide +kernel)
set_option maxRecDepth 20000 in
theorem gX8_putBack_X8_addStroke : GoodIn wsX8_putBack (wsV RX8 131 RX8 yX8_addStroke wsX8_addStroke) := goodIn_app (goodIn_of _ (by decide +kernel)) ggX8_putBack_X8_addStroke
set_option maxRecDepth 20000 in
theorem ggX8_putBack_X8_addPoint : GoodIn wsX8_putBack wsX8_addPoint := goodIn_r _ [38, 22, 57, 58, 59, 60, 61, 62, 63, 64, 65, 66, 67, 68, 69, 70, 71, 72, 73, 74, 75, 76, 77, 78, 79, 80, 81, 82, 83, 84, 85, 86, 87] rfl (by decide +kernel)
set_option maxRecDepth 20000 in
theorem gX8_putBack_X8_addPoint : GoodIn wsX8_putBack (wsV RX8 146 RX8 yX8_addPoint wsX8_addPoint) := goodIn_app (goodIn_of _ (by decide +kernel)) ggX8_putBack_X8_addPoint
set_option maxRecDepth 20000 in
theorem ggX8_putBack_X8_become : GoodIn wsX8_putBack wsX8_become := goodIn_r _ [42, 22, 4, 43, 44, 45, 8, 46, 47, 48, 49, 50, 51, 52, 53, 54, 55, 56, 57, 58, 59, 60, 61, 62, 63, 64, 65, 66, 67, 68, 69, 70, 71, 72, 73, 74, 75, 76, 77, 78, 79, 80, 81, 82, 83, 84, 85, 86, 87] rfl (by decide +kernel)
set_option maxRecDepth 20000 in
theorem gX8_putBack_X8_become : GoodIn wsX8_putBack (wsV RX8 161 RX8 yX8_become wsX8_become) := goodIn_app (goodIn_of _ (by decide +kernel)) ggX8_putBack_X8_become
set_option maxRecDepth 20000 in
theorem ggX8_smooth_X8_noStroke : GoodIn wsX8_smooth wsX8_noStroke := goodIn_r _ [5, 6, 7, 8, 4, 9, 10, 11, 12, 13, 82, 83, 84, 85, 86, 87, 88, 89, 90, 91, 92, 93, 94, 95, 96, 97, 98, 99, 100, 101, 102, 103, 104, 105, 106, 107, 108, 109, 110, 111, 112] rfl (by decide +kernel)
set_option maxRecDepth 20000 in
theorem gX8_smooth_X8_noStroke : GoodIn wsX8_smooth (wsV RX8 170 RX8 yX8_noStroke wsX8_noStroke) := goodIn_app (goodIn_of _ (by decide +kernel)) ggX8_smooth_X8_noStroke
set_option maxRecDepth 20000 in
theorem ggX8_smooth_X8_in : GoodIn wsX8_smooth wsX8_in := goodIn_r _ [13] rfl (by decide +kernel)
set_option maxRecDepth 20000 in
theorem gX8_smooth_X8_in : GoodIn wsX8_smooth (va_wsS RX8 75 yX8_in wsX8_in) := goodIn_app (goodIn_of _ (by decide +kernel)) ggX8_smooth_X8_in
set_option maxRecDepth 20000 in
theorem ggX8_smooth_X8_take : GoodIn wsX8_smooth wsX8_take := goodIn_r _ [17, 18, 19, 20, 21, 22, 23, 4, 24, 10, 25, 26, 27, 28, 29, 30, 31, 32, 82, 83, 84, 85, 86, 87, 88, 89, 90, 91, 92, 93, 94, 95, 96, 97, 98, 99, 100, 101, 102, 103, 104, 105, 106, 107, 108, 109, 110, 111, 112] rfl (by decide +kernel)
set_option maxRecDepth 20000 in
theorem gX8_smooth_X8_take : GoodIn wsX8_smooth (wsV RX8 173 RX8 yX8_take wsX8_take) := goodIn_app (goodIn_of _ (by decide +kernel)) ggX8_smooth_X8_take
set_option maxRecDepth 20000 in
theorem ggX8_smooth_X8_smoothOnce : GoodIn wsX8_smooth wsX8_smoothOnce := goodIn_r _ [36, 18, 37, 19, 38, 20, 82, 83, 84, 85, 86, 87, 88, 89, 90, 91, 92, 93, 94, 95, 96, 97, 98, 99, 100, 101, 102, 103, 104, 105, 106, 107, 108, 109, 110, 111, 112] rfl (by decide +kernel)
set_option maxRecDepth 20000 in
theorem gX8_smooth_X8_smoothOnce : GoodIn wsX8_smooth (wsV RX8 176 RX8 yX8_smoothOnce wsX8_smoothOnce) := goodIn_app (goodIn_of _ (by decide +kernel)) ggX8_smooth_X8_smoothOnce
set_option maxRecDepth 20000 in
theorem ggX8_smooth_X8_dropSame : GoodIn wsX8_smooth wsX8_dropSame := goodIn_r _ [42, 18, 19, 20, 82, 83, 84, 85, 86, 87, 88, 89, 90, 91, 92, 93, 94, 95, 96, 97, 98, 99, 100, 101, 102, 103, 104, 105, 106, 107, 108, 109, 110, 111, 112] rfl (by decide +kernel)
set_option maxRecDepth 20000 in
theorem gX8_smooth_X8_dropSame : GoodIn wsX8_smooth (wsV RX8 179 RX8 yX8_dropSame wsX8_dropSame) := goodIn_app (goodIn_of _ (by decide +kernel)) ggX8_smooth_X8_dropSame
set_option maxRecDepth 20000 in
theorem ggX8_smooth_X8_putBack : GoodIn wsX8_smooth wsX8_putBack := goodIn_r _ [46, 18, 19, 20, 10, 21, 22, 23, 4, 24, 25, 26, 27, 28, 29, 30, 31, 32, 47, 48, 49, 50, 51, 6, 7, 8, 9, 52, 53, 54, 55, 56, 57, 58, 59, 60, 61, 62, 63, 64, 65, 66, 67, 68, 69, 70, 71, 72, 73, 74, 75, 76, 77, 78, 79, 80, 81, 82, 83, 84, 85, 86, 87, 88, 89, 90, 91, 92, 93, 94, 95, 96, 97, 98, 99, 100, 101, 102, 103, 104, 105, 106, 107, 108, 109, 110, 111, 112] rfl (by decide +kernel)
set_option maxRecDepth 20000 in
theorem gX8_smooth_X8_putBack : GoodIn wsX8_smooth (wsV RX8 182 RX8 yX8_putBack wsX8_putBack) := goodIn_app (goodIn_of _ (by decide +kernel)) ggX8_smooth_X8_putBack
set_option maxRecDepth 20000 in
theorem ggX8_thin_X8_noStroke : GoodIn wsX8_thin wsX8_noStroke := goodIn_r _ [8, 9, 10, 11, 7, 12, 13, 14, 15, 16, 79, 80, 81, 82, 83, 84, 85, 86, 87, 88, 89, 90, 91, 92, 93, 94, 95, 96, 97, 98, 99, 100, 101, 102, 103, 104, 105, 106, 107, 108, 109] rfl (by decide +kernel)
set_option maxRecDepth 20000 in
theorem gX8_thin_X8_noStroke : GoodIn wsX8_thin (wsV RX8 170 RX8 yX8_noStroke wsX8_noStroke) := goodIn_app (goodIn_of _ (by decide +kernel)) ggX8_thin_X8_noStroke
set_option maxRecDepth 20000 in
theorem ggX8_thin_X8_in : GoodIn wsX8_thin wsX8_in := goodIn_r _ [16] rfl (by decide +kernel)
set_option maxRecDepth 20000 in
theorem gX8_thin_X8_in : GoodIn wsX8_thin (va_wsS RX8 75 yX8_in wsX8_in) := goodIn_app (goodIn_of _ (by decide +kernel)) ggX8_thin_X8_in
set_option maxRecDepth 20000 in
theorem ggX8_thin_X8_take : GoodIn wsX8_thin wsX8_take := goodIn_r _ [20, 1, 2, 3, 21, 22, 23, 7, 24, 13, 25, 26, 27, 28, 29, 30, 31, 32, 79, 80, 81, 82, 83, 84, 85, 86, 87, 88, 89, 90, 91, 92, 93, 94, 95, 96, 97, 98, 99, 100, 101, 102, 103, 104, 105, 106, 107, 108, 109] rfl (by decide +kernel)
set_option maxRecDepth 20000 in
theorem gX8_thin_X8_take : GoodIn wsX8_thin (wsV RX8 173 RX8 yX8_take wsX8_take) := goodIn_app (goodIn_of _ (by decide +kernel)) ggX8_thin_X8_take
set_option maxRecDepth 20000 in
theorem ggX8_thin_X8_square : GoodIn wsX8_thin wsX8_square := goodIn_r _ [35] rfl (by decide +kernel)
set_option maxRecDepth 20000 in
theorem gX8_thin_X8_square : GoodIn wsX8_thin (va_wsS RX8 164 yX8_square wsX8_square) := goodIn_app (goodIn_of _ (by decide +kernel)) ggX8_thin_X8_square
set_option maxRecDepth 20000 in
theorem ggX8_thin_X8_dropSame : GoodIn wsX8_thin wsX8_dropSame := goodIn_r _ [39, 1, 2, 3, 79, 80, 81, 82, 83, 84, 85, 86, 87, 88, 89, 90, 91, 92, 93, 94, 95, 96, 97, 98, 99, 100, 101, 102, 103, 104, 105, 106, 107, 108, 109] rfl (by decide +kernel)
set_option maxRecDepth 20000 in
theorem gX8_thin_X8_dropSame : GoodIn wsX8_thin (wsV RX8 179 RX8 yX8_dropSame wsX8_dropSame) := goodIn_app (goodIn_of _ (by decide +kernel)) ggX8_thin_X8_dropSame
set_option maxRecDepth 20000 in
theorem ggX8_thin_X8_putBack : GoodIn wsX8_thin wsX8_putBack := goodIn_r _ [43, 1, 2, 3, 13, 21, 22, 23, 7, 24, 25, 26, 27, 28, 29, 30, 31, 32, 44, 45, 46, 47, 48, 9, 10, 11, 12, 49, 50, 51, 52, 53, 54, 55, 56, 57, 58, 59, 60, 61, 62, 63, 64, 65, 66, 67, 68, 69, 70, 71, 72, 73, 74, 75, 76, 77, 78, 79, 80, 81, 82, 83, 84, 85, 86, 87, 88, 89, 90, 91, 92, 93, 94, 95, 96, 97, 98, 99, 100, 101, 102, 103, 104, 105, 106, 107, 108, 109] rfl (by decide +kernel)
set_option maxRecDepth 20000 in
theorem gX8_thin_X8_putBack : GoodIn wsX8_thin (wsV RX8 182 RX8 yX8_putBack wsX8_putBack) := goodIn_app (goodIn_of _ (by decide +kernel)) ggX8_thin_X8_putBack
set_option maxRecDepth 20000 in
theorem ggX8_join_X8_noStroke : GoodIn wsX8_join wsX8_noStroke := goodIn_r _ [5, 6, 7, 8, 4, 9, 10, 11, 12, 13, 61, 62, 63, 64, 65, 66, 67, 68, 69, 70, 71, 72, 73, 74, 75, 76, 77, 78, 79, 80, 81, 82, 83, 84, 85, 86, 87, 88, 89, 90, 91] rfl (by decide +kernel)
set_option maxRecDepth 20000 in
theorem gX8_join_X8_noStroke : GoodIn wsX8_join (wsV RX8 170 RX8 yX8_noStroke wsX8_noStroke) := goodIn_app (goodIn_of _ (by decide +kernel)) ggX8_join_X8_noStroke
set_option maxRecDepth 20000 in
theorem ggX8_join_X8_size : GoodIn wsX8_join wsX8_size := goodIn_r _ [17, 10, 61, 62, 63, 64, 65, 66, 67, 68, 69, 70, 71, 72, 73, 74, 75, 76, 77, 78, 79, 80, 81, 82, 83, 84, 85, 86, 87, 88, 89, 90, 91] rfl (by decide +kernel)
set_option maxRecDepth 20000 in
theorem gX8_join_X8_size : GoodIn wsX8_join (wsV RX8 135 RX8 yX8_size wsX8_size) := goodIn_app (goodIn_of _ (by decide +kernel)) ggX8_join_X8_size
set_option maxRecDepth 20000 in
theorem ggX8_join_X8_x : GoodIn wsX8_join wsX8_x := goodIn_r _ [21, 10, 61, 62, 63, 64, 65, 66, 67, 68, 69, 70, 71, 72, 73, 74, 75, 76, 77, 78, 79, 80, 81, 82, 83, 84, 85, 86, 87, 88, 89, 90, 91] rfl (by decide +kernel)
set_option maxRecDepth 20000 in
theorem gX8_join_X8_x : GoodIn wsX8_join (wsV RX8 139 RX8 yX8_x wsX8_x) := goodIn_app (goodIn_of _ (by decide +kernel)) ggX8_join_X8_x
set_option maxRecDepth 20000 in
theorem ggX8_join_X8_y : GoodIn wsX8_join wsX8_y := goodIn_r _ [25, 10, 61, 62, 63, 64, 65, 66, 67, 68, 69, 70, 71, 72, 73, 74, 75, 76, 77, 78, 79, 80, 81, 82, 83, 84, 85, 86, 87, 88, 89, 90, 91] rfl (by decide +kernel)
set_option maxRecDepth 20000 in
theorem gX8_join_X8_y : GoodIn wsX8_join (wsV RX8 143 RX8 yX8_y wsX8_y) := goodIn_app (goodIn_of _ (by decide +kernel)) ggX8_join_X8_y
set_option maxRecDepth 20000 in
theorem ggX8_join_X8_begin : GoodIn wsX8_join wsX8_begin := goodIn_r _ [29, 30, 61, 62, 63, 64, 65, 66, 67, 68, 69, 70, 71, 72, 73, 74, 75, 76, 77, 78, 79, 80, 81, 82, 83, 84, 85, 86, 87, 88, 89, 90, 91] rfl (by decide +kernel)
set_option maxRecDepth 20000 in
theorem gX8_join_X8_begin : GoodIn wsX8_join (wsV RX8 155 RX8 yX8_begin wsX8_begin) := goodIn_app (goodIn_of _ (by decide +kernel)) ggX8_join_X8_begin
set_option maxRecDepth 20000 in
theorem ggX8_join_X8_strokes : GoodIn wsX8_join wsX8_strokes := goodIn_r _ [9, 10, 61, 62, 63, 64, 65, 66, 67, 68, 69, 70, 71, 72, 73, 74, 75, 76, 77, 78, 79, 80, 81, 82, 83, 84, 85, 86, 87, 88, 89, 90, 91] rfl (by decide +kernel)
set_option maxRecDepth 20000 in
theorem gX8_join_X8_strokes : GoodIn wsX8_join (wsV RX8 152 RX8 yX8_strokes wsX8_strokes) := goodIn_app (goodIn_of _ (by decide +kernel)) ggX8_join_X8_strokes
set_option maxRecDepth 20000 in
theorem ggX8_join_X8_copyStroke : GoodIn wsX8_join wsX8_copyStroke := goodIn_r _ [34, 10, 35, 36, 37, 4, 38, 30, 14, 15, 16, 17, 18, 19, 20, 21, 22, 23, 24, 25, 39, 40, 41, 42, 61, 62, 63, 64, 65, 66, 67, 68, 69, 70, 71, 72, 73, 74, 75, 76, 77, 78, 79, 80, 81, 82, 83, 84, 85, 86, 87, 88, 89, 90, 91] rfl (by decide +kernel)
set_option maxRecDepth 20000 in
theorem gX8_join_X8_copyStroke : GoodIn wsX8_join (wsV RX8 158 RX8 yX8_copyStroke wsX8_copyStroke) := goodIn_app (goodIn_of _ (by decide +kernel)) ggX8_join_X8_copyStroke
set_option maxRecDepth 20000 in
theorem ggX8_join_X8_addPoint : GoodIn wsX8_join wsX8_addPoint := goodIn_r _ [42, 30, 61, 62, 63, 64, 65, 66, 67, 68, 69, 70, 71, 72, 73, 74, 75, 76, 77, 78, 79, 80, 81, 82, 83, 84, 85, 86, 87, 88, 89, 90, 91] rfl (by decide +kernel)
set_option maxRecDepth 20000 in
theorem gX8_join_X8_addPoint : GoodIn wsX8_join (wsV RX8 146 RX8 yX8_addPoint wsX8_addPoint) := goodIn_app (goodIn_of _ (by decide +kernel)) ggX8_join_X8_addPoint
set_option maxRecDepth 20000 in
theorem ggX8_join_X8_become : GoodIn wsX8_join wsX8_become := goodIn_r _ [46, 30, 10, 47, 48, 49, 4, 50, 51, 52, 53, 54, 55, 56, 57, 58, 59, 60, 61, 62, 63, 64, 65, 66, 67, 68, 69, 70, 71, 72, 73, 74, 75, 76, 77, 78, 79, 80, 81, 82, 83, 84, 85, 86, 87, 88, 89, 90, 91] rfl (by decide +kernel)
set_option maxRecDepth 20000 in
theorem gX8_join_X8_become : GoodIn wsX8_join (wsV RX8 161 RX8 yX8_become wsX8_become) := goodIn_app (goodIn_of _ (by decide +kernel)) ggX8_join_X8_become
set_option maxRecDepth 20000 in
theorem ggX8_shift_X8_noStroke : GoodIn wsX8_shift wsX8_noStroke := goodIn_r _ [8, 9, 10, 11, 7, 12, 13, 14, 15, 16, 75, 76, 77, 78, 79, 80, 81, 82, 83, 84, 85, 86, 87, 88, 89, 90, 91, 92, 93, 94, 95, 96, 97, 98, 99, 100, 101, 102, 103, 104, 105] rfl (by decide +kernel)
set_option maxRecDepth 20000 in
theorem gX8_shift_X8_noStroke : GoodIn wsX8_shift (wsV RX8 170 RX8 yX8_noStroke wsX8_noStroke) := goodIn_app (goodIn_of _ (by decide +kernel)) ggX8_shift_X8_noStroke
set_option maxRecDepth 20000 in
theorem ggX8_shift_X8_in : GoodIn wsX8_shift wsX8_in := goodIn_r _ [16] rfl (by decide +kernel)
set_option maxRecDepth 20000 in
theorem gX8_shift_X8_in : GoodIn wsX8_shift (va_wsS RX8 75 yX8_in wsX8_in) := goodIn_app (goodIn_of _ (by decide +kernel)) ggX8_shift_X8_in
set_option maxRecDepth 20000 in
theorem ggX8_shift_X8_take : GoodIn wsX8_shift wsX8_take := goodIn_r _ [20, 1, 2, 3, 21, 22, 23, 7, 24, 13, 25, 26, 27, 28, 29, 30, 31, 32, 75, 76, 77, 78, 79, 80, 81, 82, 83, 84, 85, 86, 87, 88, 89, 90, 91, 92, 93, 94, 95, 96, 97, 98, 99, 100, 101, 102, 103, 104, 105] rfl (by decide +kernel)
set_option maxRecDepth 20000 in
theorem gX8_shift_X8_take : GoodIn wsX8_shift (wsV RX8 173 RX8 yX8_take wsX8_take) := goodIn_app (goodIn_of _ (by decide +kernel)) ggX8_shift_X8_take
set_option maxRecDepth 20000 in
theorem ggX8_shift_X8_isPlace : GoodIn wsX8_shift wsX8_isPlace := goodIn_r _ [35, 14, 15, 7, 16] rfl (by decide +kernel)
set_option maxRecDepth 20000 in
theorem gX8_shift_X8_isPlace : GoodIn wsX8_shift (va_wsS RX8 99 yX8_isPlace wsX8_isPlace) := goodIn_app (goodIn_of _ (by decide +kernel)) ggX8_shift_X8_isPlace
set_option maxRecDepth 20000 in
theorem ggX8_shift_X8_putBack : GoodIn wsX8_shift wsX8_putBack := goodIn_r _ [39, 1, 2, 3, 13, 21, 22, 23, 7, 24, 25, 26, 27, 28, 29, 30, 31, 32, 40, 41, 42, 43, 44, 9, 10, 11, 12, 45, 46, 47, 48, 49, 50, 51, 52, 53, 54, 55, 56, 57, 58, 59, 60, 61, 62, 63, 64, 65, 66, 67, 68, 69, 70, 71, 72, 73, 74, 75, 76, 77, 78, 79, 80, 81, 82, 83, 84, 85, 86, 87, 88, 89, 90, 91, 92, 93, 94, 95, 96, 97, 98, 99, 100, 101, 102, 103, 104, 105] rfl (by decide +kernel)
set_option maxRecDepth 20000 in
theorem gX8_shift_X8_putBack : GoodIn wsX8_shift (wsV RX8 182 RX8 yX8_putBack wsX8_putBack) := goodIn_app (goodIn_of _ (by decide +kernel)) ggX8_shift_X8_putBack
set_option maxRecDepth 20000 in
theorem ggX8_paint_X8_noStroke : GoodIn wsX8_paint wsX8_noStroke := goodIn_r _ [6, 7, 8, 9, 5, 10, 1, 11, 12, 13, 28, 29, 30, 31, 32, 33, 34, 35, 36, 37, 38, 39, 40, 41, 42, 43, 44, 45, 46, 47, 48, 49, 50, 51, 52, 53, 54, 55, 56, 57, 58] rfl (by decide +kernel)
set_option maxRecDepth 20000 in
theorem gX8_paint_X8_noStroke : GoodIn wsX8_paint (wsV RX8 170 RX8 yX8_noStroke wsX8_noStroke) := goodIn_app (goodIn_of _ (by decide +kernel)) ggX8_paint_X8_noStroke
set_option maxRecDepth 20000 in
theorem ggX8_paint_X8_in : GoodIn wsX8_paint wsX8_in := goodIn_r _ [13] rfl (by decide +kernel)
set_option maxRecDepth 20000 in
theorem gX8_paint_X8_in : GoodIn wsX8_paint (va_wsS RX8 75 yX8_in wsX8_in) := goodIn_app (goodIn_of _ (by decide +kernel)) ggX8_paint_X8_in
set_option maxRecDepth 20000 in
theorem ggX8_paint_X8_record : GoodIn wsX8_paint wsX8_record := goodIn_r _ [17, 18, 19, 20, 21, 5, 22, 23, 24, 1, 25, 26, 27, 28, 29, 30, 31, 32, 33, 34, 35, 36, 37, 38, 39, 40, 41, 42, 43, 44, 45, 46, 47, 48, 49, 50, 51, 52, 53, 54, 55, 56, 57, 58] rfl (by decide +kernel)
set_option maxRecDepth 20000 in
theorem gX8_paint_X8_record : GoodIn wsX8_paint (wsV RX8 149 RX8 yX8_record wsX8_record) := goodIn_app (goodIn_of _ (by decide +kernel)) ggX8_paint_X8_record
set_option maxRecDepth 20000 in
theorem ggX8_remove_X8_noStroke : GoodIn wsX8_remove wsX8_noStroke := goodIn_r _ [5, 6, 7, 8, 4, 9, 10, 11, 12, 13, 61, 62, 63, 64, 65, 66, 67, 68, 69, 70, 71, 72, 73, 74, 75, 76, 77, 78, 79, 80, 81, 82, 83, 84, 85, 86, 87, 88, 89, 90, 91] rfl (by decide +kernel)
set_option maxRecDepth 20000 in
theorem gX8_remove_X8_noStroke : GoodIn wsX8_remove (wsV RX8 170 RX8 yX8_noStroke wsX8_noStroke) := goodIn_app (goodIn_of _ (by decide +kernel)) ggX8_remove_X8_noStroke
set_option maxRecDepth 20000 in
theorem ggX8_remove_X8_begin : GoodIn wsX8_remove wsX8_begin := goodIn_r _ [17, 18, 61, 62, 63, 64, 65, 66, 67, 68, 69, 70, 71, 72, 73, 74, 75, 76, 77, 78, 79, 80, 81, 82, 83, 84, 85, 86, 87, 88, 89, 90, 91] rfl (by decide +kernel)
set_option maxRecDepth 20000 in
theorem gX8_remove_X8_begin : GoodIn wsX8_remove (wsV RX8 155 RX8 yX8_begin wsX8_begin) := goodIn_app (goodIn_of _ (by decide +kernel)) ggX8_remove_X8_begin
set_option maxRecDepth 20000 in
theorem ggX8_remove_X8_strokes : GoodIn wsX8_remove wsX8_strokes := goodIn_r _ [9, 10, 61, 62, 63, 64, 65, 66, 67, 68, 69, 70, 71, 72, 73, 74, 75, 76, 77, 78, 79, 80, 81, 82, 83, 84, 85, 86, 87, 88, 89, 90, 91] rfl (by decide +kernel)
set_option maxRecDepth 20000 in
theorem gX8_remove_X8_strokes : GoodIn wsX8_remove (wsV RX8 152 RX8 yX8_strokes wsX8_strokes) := goodIn_app (goodIn_of _ (by decide +kernel)) ggX8_remove_X8_strokes
set_option maxRecDepth 20000 in
theorem ggX8_remove_X8_copyStroke : GoodIn wsX8_remove wsX8_copyStroke := goodIn_r _ [22, 10, 23, 24, 25, 4, 26, 18, 27, 28, 29, 30, 31, 32, 33, 34, 35, 36, 37, 38, 39, 40, 41, 42, 61, 62, 63, 64, 65, 66, 67, 68, 69, 70, 71, 72, 73, 74, 75, 76, 77, 78, 79, 80, 81, 82, 83, 84, 85, 86, 87, 88, 89, 90, 91] rfl (by decide +kernel)
set_option maxRecDepth 20000 in
theorem gX8_remove_X8_copyStroke : GoodIn wsX8_remove (wsV RX8 158 RX8 yX8_copyStroke wsX8_copyStroke) := goodIn_app (goodIn_of _ (by decide +kernel)) ggX8_remove_X8_copyStroke
set_option maxRecDepth 20000 in
theorem ggX8_remove_X8_become : GoodIn wsX8_remove wsX8_become := goodIn_r _ [46, 18, 10, 47, 48, 49, 4, 50, 51, 52, 53, 54, 55, 56, 57, 58, 59, 60, 61, 62, 63, 64, 65, 66, 67, 68, 69, 70, 71, 72, 73, 74, 75, 76, 77, 78, 79, 80, 81, 82, 83, 84, 85, 86, 87, 88, 89, 90, 91] rfl (by decide +kernel)
set_option maxRecDepth 20000 in
theorem gX8_remove_X8_become : GoodIn wsX8_remove (wsV RX8 161 RX8 yX8_become wsX8_become) := goodIn_app (goodIn_of _ (by decide +kernel)) ggX8_remove_X8_become
set_option maxRecDepth 20000 in
theorem ggX8_bound_X8_y : GoodIn wsX8_bound wsX8_y := goodIn_r _ [5, 6, 15, 16, 17, 18, 19, 20, 21, 22, 23, 24, 25, 26, 27, 28, 29, 30, 31, 32, 33, 34, 35, 36, 37, 38, 39, 40, 41, 42, 43, 44, 45] rfl (by decide +kernel)
set_option maxRecDepth 20000 in
theorem gX8_bound_X8_y : GoodIn wsX8_bound (wsV RX8 143 RX8 yX8_y wsX8_y) := goodIn_app (goodIn_of _ (by decide +kernel)) ggX8_bound_X8_y
set_option maxRecDepth 20000 in
theorem ggX8_bound_X8_x : GoodIn wsX8_bound wsX8_x := goodIn_r _ [10, 6, 15, 16, 17, 18, 19, 20, 21, 22, 23, 24, 25, 26, 27, 28, 29, 30, 31, 32, 33, 34, 35, 36, 37, 38, 39, 40, 41, 42, 43, 44, 45] rfl (by decide +kernel)
set_option maxRecDepth 20000 in
theorem gX8_bound_X8_x : GoodIn wsX8_bound (wsV RX8 139 RX8 yX8_x wsX8_x) := goodIn_app (goodIn_of _ (by decide +kernel)) ggX8_bound_X8_x
set_option maxRecDepth 20000 in
theorem ggX8_bound_X8_size : GoodIn wsX8_bound wsX8_size := goodIn_r _ [14, 6, 15, 16, 17, 18, 19, 20, 21, 22, 23, 24, 25, 26, 27, 28, 29, 30, 31, 32, 33, 34, 35, 36, 37, 38, 39, 40, 41, 42, 43, 44, 45] rfl (by decide +kernel)
set_option maxRecDepth 20000 in
theorem gX8_bound_X8_size : GoodIn wsX8_bound (wsV RX8 135 RX8 yX8_size wsX8_size) := goodIn_app (goodIn_of _ (by decide +kernel)) ggX8_bound_X8_size
set_option maxRecDepth 20000 in
theorem ggX8_longOf_X8_size : GoodIn wsX8_longOf wsX8_size := goodIn_r _ [5, 6, 21, 22, 23, 24, 25, 26, 27, 28, 29, 30, 31, 32, 33, 34, 35, 36, 37, 38, 39, 40, 41, 42, 43, 44, 45, 46, 47, 48, 49, 50, 51] rfl (by decide +kernel)
set_option maxRecDepth 20000 in
theorem gX8_longOf_X8_size : GoodIn wsX8_longOf (wsV RX8 135 RX8 yX8_size wsX8_size) := goodIn_app (goodIn_of _ (by decide +kernel)) ggX8_longOf_X8_size
set_option maxRecDepth 20000 in
theorem ggX8_longOf_X8_x : GoodIn wsX8_longOf wsX8_x := goodIn_r _ [10, 6, 21, 22, 23, 24, 25, 26, 27, 28, 29, 30, 31, 32, 33, 34, 35, 36, 37, 38, 39, 40, 41, 42, 43, 44, 45, 46, 47, 48, 49, 50, 51] rfl (by decide +kernel)
set_option maxRecDepth 20000 in
theorem gX8_longOf_X8_x : GoodIn wsX8_longOf (wsV RX8 139 RX8 yX8_x wsX8_x) := goodIn_app (goodIn_of _ (by decide +kernel)) ggX8_longOf_X8_x
set_option maxRecDepth 20000 in
theorem ggX8_longOf_X8_y : GoodIn wsX8_longOf wsX8_y := goodIn_r _ [14, 6, 21, 22, 23, 24, 25, 26, 27, 28, 29, 30, 31, 32, 33, 34, 35, 36, 37, 38, 39, 40, 41, 42, 43, 44, 45, 46, 47, 48, 49, 50, 51] rfl (by decide +kernel)
set_option maxRecDepth 20000 in
theorem gX8_longOf_X8_y : GoodIn wsX8_longOf (wsV RX8 143 RX8 yX8_y wsX8_y) := goodIn_app (goodIn_of _ (by decide +kernel)) ggX8_longOf_X8_y
set_option maxRecDepth 20000 in
theorem ggX8_longOf_X8_square : GoodIn wsX8_longOf wsX8_square := goodIn_r _ [17] rfl (by decide +kernel)
set_option maxRecDepth 20000 in
theorem gX8_longOf_X8_square : GoodIn wsX8_longOf (va_wsS RX8 164 yX8_square wsX8_square) := goodIn_app (goodIn_of _ (by decide +kernel)) ggX8_longOf_X8_square
set_option maxRecDepth 20000 in
theorem ggX8_longOf_X8_root : GoodIn wsX8_longOf wsX8_root := goodIn_r _ [20] rfl (by decide +kernel)
set_option maxRecDepth 20000 in
theorem gX8_longOf_X8_root : GoodIn wsX8_longOf (va_wsS RX8 185 yX8_root wsX8_root) := goodIn_app (goodIn_of _ (by decide +kernel)) ggX8_longOf_X8_root
set_option maxRecDepth 20000 in
theorem ggX8_mayJoin_X8_shared : GoodIn wsX8_mayJoin wsX8_shared := goodIn_r _ [7, 1, 2, 8, 9, 10, 11, 12, 13, 14, 15, 16, 17, 18, 19, 20, 21, 22, 23, 24, 25, 26, 27, 28, 29, 30, 31, 32, 33, 34, 35, 36, 37, 38] rfl (by decide +kernel)
set_option maxRecDepth 20000 in
theorem gX8_mayJoin_X8_shared : GoodIn wsX8_mayJoin (wsV RX8 188 RX8 yX8_shared wsX8_shared) := goodIn_app (goodIn_of _ (by decide +kernel)) ggX8_mayJoin_X8_shared
set_option maxRecDepth 20000 in
theorem ggX8_findLines_X8_strokes : GoodIn wsX8_findLines wsX8_strokes := goodIn_r _ [10, 11, 40, 41, 42, 43, 44, 45, 46, 47, 48, 49, 50, 51, 52, 53, 54, 55, 56, 57, 58, 59, 60, 61, 62, 63, 64, 65, 66, 67, 68, 69, 70] rfl (by decide +kernel)
set_option maxRecDepth 20000 in
theorem gX8_findLines_X8_strokes : GoodIn wsX8_findLines (wsV RX8 152 RX8 yX8_strokes wsX8_strokes) := goodIn_app (goodIn_of _ (by decide +kernel)) ggX8_findLines_X8_strokes
set_option maxRecDepth 20000 in
theorem ggX8_findLines_X8_bound : GoodIn wsX8_findLines wsX8_bound := goodIn_r _ [15, 16, 17, 18, 9, 19, 11, 20, 21, 22, 23, 24, 25, 26, 27, 40, 41, 42, 43, 44, 45, 46, 47, 48, 49, 50, 51, 52, 53, 54, 55, 56, 57, 58, 59, 60, 61, 62, 63, 64, 65, 66, 67, 68, 69, 70] rfl (by decide +kernel)
set_option maxRecDepth 20000 in
theorem gX8_findLines_X8_bound : GoodIn wsX8_findLines (wsV RX8 195 RX8 yX8_bound wsX8_bound) := goodIn_app (goodIn_of _ (by decide +kernel)) ggX8_findLines_X8_bound
set_option maxRecDepth 20000 in
theorem ggX8_findLines_X8_mayJoin : GoodIn wsX8_findLines wsX8_mayJoin := goodIn_r _ [31, 3, 2, 32, 33, 34, 9, 35, 40, 41, 42, 43, 44, 45, 46, 47, 48, 49, 50, 51, 52, 53, 54, 55, 56, 57, 58, 59, 60, 61, 62, 63, 64, 65, 66, 67, 68, 69, 70] rfl (by decide +kernel)
set_option maxRecDepth 20000 in
theorem gX8_findLines_X8_mayJoin : GoodIn wsX8_findLines (wsV RX8 199 RX8 yX8_mayJoin wsX8_mayJoin) := goodIn_app (goodIn_of _ (by decide +kernel)) ggX8_findLines_X8_mayJoin
set_option maxRecDepth 20000 in
theorem ggX8_findLines_X8_shared : GoodIn wsX8_findLines wsX8_shared := goodIn_r _ [35, 3, 2, 40, 41, 42, 43, 44, 45, 46, 47, 48, 49, 50, 51, 52, 53, 54, 55, 56, 57, 58, 59, 60, 61, 62, 63, 64, 65, 66, 67, 68, 69, 70] rfl (by decide +kernel)
set_option maxRecDepth 20000 in
theorem gX8_findLines_X8_shared : GoodIn wsX8_findLines (wsV RX8 188 RX8 yX8_shared wsX8_shared) := goodIn_app (goodIn_of _ (by decide +kernel)) ggX8_findLines_X8_shared
set_option maxRecDepth 20000 in
theorem ggX8_findLines_X8_isAbove : GoodIn wsX8_findLines wsX8_isAbove := goodIn_r _ [39, 2, 3, 40, 41, 42, 43, 44, 45, 46, 47, 48, 49, 50, 51, 52, 53, 54, 55, 56, 57, 58, 59, 60, 61, 62, 63, 64, 65, 66, 67, 68, 69, 70] rfl (by decide +kernel)
set_option maxRecDepth 20000 in
theorem gX8_findLines_X8_isAbove : GoodIn wsX8_findLines (wsV RX8 202 RX8 yX8_isAbove wsX8_isAbove) := goodIn_app (goodIn_of _ (by decide +kernel)) ggX8_findLines_X8_isAbove
set_option maxRecDepth 20000 in
theorem ggX8_isBefore_X8_lineOf : GoodIn wsX8_isBefore wsX8_lineOf := goodIn_r _ [5, 6, 7, 25, 26, 27, 28, 29, 30, 31, 32, 33, 34, 35, 36, 37, 38, 39, 40, 41, 42, 43, 44, 45, 46, 47, 48, 49, 50, 51, 52, 53, 54, 55] rfl (by decide +kernel)
set_option maxRecDepth 20000 in
theorem gX8_isBefore_X8_lineOf : GoodIn wsX8_isBefore (wsV RX8 205 RX8 yX8_lineOf wsX8_lineOf) := goodIn_app (goodIn_of _ (by decide +kernel)) ggX8_isBefore_X8_lineOf
set_option maxRecDepth 20000 in
theorem ggX8_isBefore_X8_bound : GoodIn wsX8_isBefore wsX8_bound := goodIn_r _ [11, 12, 13, 14, 4, 15, 16, 17, 18, 19, 20, 21, 22, 23, 24, 25, 26, 27, 28, 29, 30, 31, 32, 33, 34, 35, 36, 37, 38, 39, 40, 41, 42, 43, 44, 45, 46, 47, 48, 49, 50, 51, 52, 53, 54, 55] rfl (by decide +kernel)
set_option maxRecDepth 20000 in
theorem gX8_isBefore_X8_bound : GoodIn wsX8_isBefore (wsV RX8 195 RX8 yX8_bound wsX8_bound) := goodIn_app (goodIn_of _ (by decide +kernel)) ggX8_isBefore_X8_bound
set_option maxRecDepth 20000 in
theorem ggX8_placeOf_X8_strokes : GoodIn wsX8_placeOf wsX8_strokes := goodIn_r _ [5, 6, 33, 34, 35, 36, 37, 38, 39, 40, 41, 42, 43, 44, 45, 46, 47, 48, 49, 50, 51, 52, 53, 54, 55, 56, 57, 58, 59, 60, 61, 62, 63] rfl (by decide +kernel)
set_option maxRecDepth 20000 in
theorem gX8_placeOf_X8_strokes : GoodIn wsX8_placeOf (wsV RX8 152 RX8 yX8_strokes wsX8_strokes) := goodIn_app (goodIn_of _ (by decide +kernel)) ggX8_placeOf_X8_strokes
set_option maxRecDepth 20000 in
theorem ggX8_placeOf_X8_isBefore : GoodIn wsX8_placeOf wsX8_isBefore := goodIn_r _ [10, 11, 12, 13, 4, 14, 15, 16, 17, 18, 19, 20, 21, 22, 23, 24, 6, 25, 26, 27, 28, 29, 30, 31, 32, 33, 34, 35, 36, 37, 38, 39, 40, 41, 42, 43, 44, 45, 46, 47, 48, 49, 50, 51, 52, 53, 54, 55, 56, 57, 58, 59, 60, 61, 62, 63] rfl (by decide +kernel)
set_option maxRecDepth 20000 in
theorem gX8_placeOf_X8_isBefore : GoodIn wsX8_placeOf (wsV RX8 208 RX8 yX8_isBefore wsX8_isBefore) := goodIn_app (goodIn_of _ (by decide +kernel)) ggX8_placeOf_X8_isBefore
set_option maxRecDepth 20000 in
theorem ggX8_layOut_X8_findLines : GoodIn wsX8_layOut wsX8_findLines := goodIn_r _ [9, 10, 11, 12, 13, 14, 15, 16, 17, 8, 18, 19, 20, 21, 22, 23, 24, 25, 26, 27, 28, 29, 30, 31, 32, 33, 34, 35, 36, 37, 38, 39, 40, 41, 42, 43, 44, 45, 46, 47, 60, 61, 62, 63, 64, 65, 66, 67, 68, 69, 70, 71, 72, 73, 74, 75, 76, 77, 78, 79, 80, 81, 82, 83, 84, 85, 86, 87, 88, 89, 90] rfl (by decide +kernel)
set_option maxRecDepth 20000 in
theorem gX8_layOut_X8_findLines : GoodIn wsX8_layOut (wsV RX8 211 RX8 yX8_findLines wsX8_findLines) := goodIn_app (goodIn_of _ (by decide +kernel)) ggX8_layOut_X8_findLines
set_option maxRecDepth 20000 in
theorem ggX8_layOut_X8_strokes : GoodIn wsX8_layOut wsX8_strokes := goodIn_r _ [18, 19, 60, 61, 62, 63, 64, 65, 66, 67, 68, 69, 70, 71, 72, 73, 74, 75, 76, 77, 78, 79, 80, 81, 82, 83, 84, 85, 86, 87, 88, 89, 90] rfl (by decide +kernel)
set_option maxRecDepth 20000 in
theorem gX8_layOut_X8_strokes : GoodIn wsX8_layOut (wsV RX8 152 RX8 yX8_strokes wsX8_strokes) := goodIn_app (goodIn_of _ (by decide +kernel)) ggX8_layOut_X8_strokes
set_option maxRecDepth 20000 in
theorem ggX8_layOut_X8_placeOf : GoodIn wsX8_layOut wsX8_placeOf := goodIn_r _ [51, 15, 16, 17, 8, 18, 19, 52, 53, 54, 55, 56, 57, 58, 59, 14, 13, 20, 21, 22, 23, 24, 25, 26, 27, 28, 29, 30, 31, 32, 33, 34, 35, 60, 61, 62, 63, 64, 65, 66, 67, 68, 69, 70, 71, 72, 73, 74, 75, 76, 77, 78, 79, 80, 81, 82, 83, 84, 85, 86, 87, 88, 89, 90] rfl (by decide +kernel)
set_option maxRecDepth 20000 in
theorem gX8_layOut_X8_placeOf : GoodIn wsX8_layOut (wsV RX8 214 RX8 yX8_placeOf wsX8_placeOf) := goodIn_app (goodIn_of _ (by decide +kernel)) ggX8_layOut_X8_placeOf
set_option maxRecDepth 20000 in
theorem ggX8_layOut_X8_lineOf : GoodIn wsX8_layOut wsX8_lineOf := goodIn_r _ [59, 14, 13, 60, 61, 62, 63, 64, 65, 66, 67, 68, 69, 70, 71, 72, 73, 74, 75, 76, 77, 78, 79, 80, 81, 82, 83, 84, 85, 86, 87, 88, 89, 90] rfl (by decide +kernel)
set_option maxRecDepth 20000 in
theorem gX8_layOut_X8_lineOf : GoodIn wsX8_layOut (wsV RX8 205 RX8 yX8_lineOf wsX8_lineOf) := goodIn_app (goodIn_of _ (by decide +kernel)) ggX8_layOut_X8_lineOf
set_option maxRecDepth 20000 in
theorem ggX8_layOut_X8_bound : GoodIn wsX8_layOut wsX8_bound := goodIn_r _ [23, 24, 25, 26, 8, 27, 19, 28, 29, 30, 31, 32, 33, 34, 35, 60, 61, 62, 63, 64, 65, 66, 67, 68, 69, 70, 71, 72, 73, 74, 75, 76, 77, 78, 79, 80, 81, 82, 83, 84, 85, 86, 87, 88, 89, 90] rfl (by decide +kernel)
set_option maxRecDepth 20000 in
theorem gX8_layOut_X8_bound : GoodIn wsX8_layOut (wsV RX8 195 RX8 yX8_bound wsX8_bound) := goodIn_app (goodIn_of _ (by decide +kernel)) ggX8_layOut_X8_bound
set_option maxRecDepth 20000 in
theorem ggX8_setGap_X8_in : GoodIn wsX8_setGap wsX8_in := goodIn_r _ [5] rfl (by decide +kernel)
set_option maxRecDepth 20000 in
theorem gX8_setGap_X8_in : GoodIn wsX8_setGap (va_wsS RX8 75 yX8_in wsX8_in) := goodIn_app (goodIn_of _ (by decide +kernel)) ggX8_setGap_X8_in
set_option maxRecDepth 20000 in
theorem ggX8_stroke_X8_noStroke : GoodIn wsX8_stroke wsX8_noStroke := goodIn_r _ [7, 8, 9, 10, 6, 11, 1, 12, 13, 14, 81, 82, 83, 84, 85, 86, 87, 88, 89, 90, 91, 92, 93, 94, 95, 96, 97, 98, 99, 100, 101, 102, 103, 104, 105, 106, 107, 108, 109, 110, 111] rfl (by decide +kernel)
set_option maxRecDepth 20000 in
theorem gX8_stroke_X8_noStroke : GoodIn wsX8_stroke (wsV RX8 170 RX8 yX8_noStroke wsX8_noStroke) := goodIn_app (goodIn_of _ (by decide +kernel)) ggX8_stroke_X8_noStroke
set_option maxRecDepth 20000 in
theorem ggX8_stroke_X8_layOut : GoodIn wsX8_stroke wsX8_layOut := goodIn_r _ [18, 19, 20, 21, 2, 22, 23, 24, 6, 25, 26, 27, 28, 29, 30, 8, 9, 10, 11, 1, 31, 32, 33, 34, 35, 36, 37, 38, 39, 40, 41, 42, 43, 44, 45, 46, 47, 48, 49, 50, 51, 52, 53, 54, 55, 56, 57, 58, 59, 60, 61, 62, 63, 64, 65, 66, 67, 68, 69, 70, 81, 82, 83, 84, 85, 86, 87, 88, 89, 90, 91, 92, 93, 94, 95, 96, 97, 98, 99, 100, 101, 102, 103, 104, 105, 106, 107, 108, 109, 110, 111] rfl (by decide +kernel)
set_option maxRecDepth 20000 in
theorem gX8_stroke_X8_layOut : GoodIn wsX8_stroke (wsV RX8 220 RX8 yX8_layOut wsX8_layOut) := goodIn_app (goodIn_of _ (by decide +kernel)) ggX8_stroke_X8_layOut
set_option maxRecDepth 20000 in
theorem ggX8_stroke_X8_size : GoodIn wsX8_stroke wsX8_size := goodIn_r _ [46, 1, 81, 82, 83, 84, 85, 86, 87, 88, 89, 90, 91, 92, 93, 94, 95, 96, 97, 98, 99, 100, 101, 102, 103, 104, 105, 106, 107, 108, 109, 110, 111] rfl (by decide +kernel)
set_option maxRecDepth 20000 in
theorem gX8_stroke_X8_size : GoodIn wsX8_stroke (wsV RX8 135 RX8 yX8_size wsX8_size) := goodIn_app (goodIn_of _ (by decide +kernel)) ggX8_stroke_X8_size
set_option maxRecDepth 20000 in
theorem ggX8_stroke_X8_bound : GoodIn wsX8_stroke wsX8_bound := goodIn_r _ [34, 35, 36, 37, 6, 38, 1, 39, 40, 41, 42, 43, 44, 45, 46, 81, 82, 83, 84, 85, 86, 87, 88, 89, 90, 91, 92, 93, 94, 95, 96, 97, 98, 99, 100, 101, 102, 103, 104, 105, 106, 107, 108, 109, 110, 111] rfl (by decide +kernel)
set_option maxRecDepth 20000 in
theorem gX8_stroke_X8_bound : GoodIn wsX8_stroke (wsV RX8 195 RX8 yX8_bound wsX8_bound) := goodIn_app (goodIn_of _ (by decide +kernel)) ggX8_stroke_X8_bound
set_option maxRecDepth 20000 in
theorem ggX8_stroke_X8_longOf : GoodIn wsX8_stroke wsX8_longOf := goodIn_r _ [74, 43, 44, 45, 6, 46, 1, 39, 40, 41, 42, 35, 36, 37, 38, 75, 76, 77, 78, 79, 80, 81, 82, 83, 84, 85, 86, 87, 88, 89, 90, 91, 92, 93, 94, 95, 96, 97, 98, 99, 100, 101, 102, 103, 104, 105, 106, 107, 108, 109, 110, 111] rfl (by decide +kernel)
set_option maxRecDepth 20000 in
theorem gX8_stroke_X8_longOf : GoodIn wsX8_stroke (wsV RX8 223 RX8 yX8_longOf wsX8_longOf) := goodIn_app (goodIn_of _ (by decide +kernel)) ggX8_stroke_X8_longOf
set_option maxRecDepth 20000 in
theorem ggX8_stroke_X8_lineOf : GoodIn wsX8_stroke wsX8_lineOf := goodIn_r _ [70, 30, 29, 81, 82, 83, 84, 85, 86, 87, 88, 89, 90, 91, 92, 93, 94, 95, 96, 97, 98, 99, 100, 101, 102, 103, 104, 105, 106, 107, 108, 109, 110, 111] rfl (by decide +kernel)
set_option maxRecDepth 20000 in
theorem gX8_stroke_X8_lineOf : GoodIn wsX8_stroke (wsV RX8 205 RX8 yX8_lineOf wsX8_lineOf) := goodIn_app (goodIn_of _ (by decide +kernel)) ggX8_stroke_X8_lineOf
set_option maxRecDepth 20000 in
theorem ggX8_stroke_X8_placeOf : GoodIn wsX8_stroke wsX8_placeOf := goodIn_r _ [62, 8, 9, 10, 6, 11, 1, 63, 64, 65, 66, 67, 68, 69, 70, 30, 29, 31, 32, 33, 34, 35, 36, 37, 38, 39, 40, 41, 42, 43, 44, 45, 46, 81, 82, 83, 84, 85, 86, 87, 88, 89, 90, 91, 92, 93, 94, 95, 96, 97, 98, 99, 100, 101, 102, 103, 104, 105, 106, 107, 108, 109, 110, 111] rfl (by decide +kernel)
set_option maxRecDepth 20000 in
theorem gX8_stroke_X8_placeOf : GoodIn wsX8_stroke (wsV RX8 214 RX8 yX8_placeOf wsX8_placeOf) := goodIn_app (goodIn_of _ (by decide +kernel)) ggX8_stroke_X8_placeOf
set_option maxRecDepth 20000 in
theorem ggX8_point_X8_noStroke : GoodIn wsX8_point wsX8_noStroke := goodIn_r _ [5, 6, 7, 8, 4, 9, 10, 11, 12, 13, 26, 27, 28, 29, 30, 31, 32, 33, 34, 35, 36, 37, 38, 39, 40, 41, 42, 43, 44, 45, 46, 47, 48, 49, 50, 51, 52, 53, 54, 55, 56] rfl (by decide +kernel)
set_option maxRecDepth 20000 in
theorem gX8_point_X8_noStroke : GoodIn wsX8_point (wsV RX8 170 RX8 yX8_noStroke wsX8_noStroke) := goodIn_app (goodIn_of _ (by decide +kernel)) ggX8_point_X8_noStroke
set_option maxRecDepth 20000 in
theorem ggX8_point_X8_size : GoodIn wsX8_point wsX8_size := goodIn_r _ [17, 10, 26, 27, 28, 29, 30, 31, 32, 33, 34, 35, 36, 37, 38, 39, 40, 41, 42, 43, 44, 45, 46, 47, 48, 49, 50, 51, 52, 53, 54, 55, 56] rfl (by decide +kernel)
set_option maxRecDepth 20000 in
theorem gX8_point_X8_size : GoodIn wsX8_point (wsV RX8 135 RX8 yX8_size wsX8_size) := goodIn_app (goodIn_of _ (by decide +kernel)) ggX8_point_X8_size
set_option maxRecDepth 20000 in
theorem ggX8_point_X8_in : GoodIn wsX8_point wsX8_in := goodIn_r _ [13] rfl (by decide +kernel)
set_option maxRecDepth 20000 in
theorem gX8_point_X8_in : GoodIn wsX8_point (va_wsS RX8 75 yX8_in wsX8_in) := goodIn_app (goodIn_of _ (by decide +kernel)) ggX8_point_X8_in
set_option maxRecDepth 20000 in
theorem ggX8_point_X8_x : GoodIn wsX8_point wsX8_x := goodIn_r _ [21, 10, 26, 27, 28, 29, 30, 31, 32, 33, 34, 35, 36, 37, 38, 39, 40, 41, 42, 43, 44, 45, 46, 47, 48, 49, 50, 51, 52, 53, 54, 55, 56] rfl (by decide +kernel)
set_option maxRecDepth 20000 in
theorem gX8_point_X8_x : GoodIn wsX8_point (wsV RX8 139 RX8 yX8_x wsX8_x) := goodIn_app (goodIn_of _ (by decide +kernel)) ggX8_point_X8_x
set_option maxRecDepth 20000 in
theorem ggX8_point_X8_y : GoodIn wsX8_point wsX8_y := goodIn_r _ [25, 10, 26, 27, 28, 29, 30, 31, 32, 33, 34, 35, 36, 37, 38, 39, 40, 41, 42, 43, 44, 45, 46, 47, 48, 49, 50, 51, 52, 53, 54, 55, 56] rfl (by decide +kernel)
set_option maxRecDepth 20000 in
theorem gX8_point_X8_y : GoodIn wsX8_point (wsV RX8 143 RX8 yX8_y wsX8_y) := goodIn_app (goodIn_of _ (by decide +kernel)) ggX8_point_X8_y
set_option maxRecDepth 20000 in
theorem ggX8_read_X8_layOut : GoodIn wsX8_read wsX8_layOut := goodIn_r _ [6, 1, 7, 8, 9, 10, 11, 12, 5, 13, 14, 15, 16, 17, 18, 19, 20, 21, 22, 23, 24, 25, 26, 27, 28, 29, 30, 31, 32, 33, 34, 35, 36, 37, 38, 39, 40, 41, 42, 43, 44, 45, 46, 47, 48, 49, 50, 51, 52, 53, 54, 55, 56, 57, 58, 59, 60, 61, 62, 63, 64, 65, 66, 67, 68, 69, 70, 71, 72, 73, 74, 75, 76, 77, 78, 79, 80, 81, 82, 83, 84, 85, 86, 87, 88, 89, 90, 91, 92, 93, 94] rfl (by decide +kernel)
set_option maxRecDepth 20000 in
theorem gX8_read_X8_layOut : GoodIn wsX8_read (wsV RX8 220 RX8 yX8_layOut wsX8_layOut) := goodIn_app (goodIn_of _ (by decide +kernel)) ggX8_read_X8_layOut
set_option maxRecDepth 20000 in
theorem ggX8_read_X8_strokes : GoodIn wsX8_read wsX8_strokes := goodIn_r _ [22, 23, 64, 65, 66, 67, 68, 69, 70, 71, 72, 73, 74, 75, 76, 77, 78, 79, 80, 81, 82, 83, 84, 85, 86, 87, 88, 89, 90, 91, 92, 93, 94] rfl (by decide +kernel)
set_option maxRecDepth 20000 in
theorem gX8_read_X8_strokes : GoodIn wsX8_read (wsV RX8 152 RX8 yX8_strokes wsX8_strokes) := goodIn_app (goodIn_of _ (by decide +kernel)) ggX8_read_X8_strokes
set_option maxRecDepth 20000 in
theorem ggX8_line_X8_layOut : GoodIn wsX8_line wsX8_layOut := goodIn_r _ [11, 3, 12, 13, 4, 14, 15, 16, 10, 17, 1, 5, 6, 18, 2, 19, 20, 21, 22, 23, 24, 25, 26, 27, 28, 29, 30, 31, 32, 33, 34, 35, 36, 37, 38, 39, 40, 41, 42, 43, 44, 45, 46, 47, 48, 49, 50, 51, 52, 53, 54, 55, 56, 57, 58, 59, 60, 61, 62, 63, 67, 68, 69, 70, 71, 72, 73, 74, 75, 76, 77, 78, 79, 80, 81, 82, 83, 84, 85, 86, 87, 88, 89, 90, 91, 92, 93, 94, 95, 96, 97] rfl (by decide +kernel)
set_option maxRecDepth 20000 in
theorem gX8_line_X8_layOut : GoodIn wsX8_line (wsV RX8 220 RX8 yX8_layOut wsX8_layOut) := goodIn_app (goodIn_of _ (by decide +kernel)) ggX8_line_X8_layOut
set_option maxRecDepth 20000 in
theorem ggX8_line_X8_in : GoodIn wsX8_line wsX8_in := goodIn_r _ [66] rfl (by decide +kernel)
set_option maxRecDepth 20000 in
theorem gX8_line_X8_in : GoodIn wsX8_line (va_wsS RX8 75 yX8_in wsX8_in) := goodIn_app (goodIn_of _ (by decide +kernel)) ggX8_line_X8_in
set_option maxRecDepth 20000 in
theorem ggX8_line_X8_strokes : GoodIn wsX8_line wsX8_strokes := goodIn_r _ [22, 23, 67, 68, 69, 70, 71, 72, 73, 74, 75, 76, 77, 78, 79, 80, 81, 82, 83, 84, 85, 86, 87, 88, 89, 90, 91, 92, 93, 94, 95, 96, 97] rfl (by decide +kernel)
set_option maxRecDepth 20000 in
theorem gX8_line_X8_strokes : GoodIn wsX8_line (wsV RX8 152 RX8 yX8_strokes wsX8_strokes) := goodIn_app (goodIn_of _ (by decide +kernel)) ggX8_line_X8_strokes
set_option maxRecDepth 20000 in
theorem ggX8_line_X8_lineOf : GoodIn wsX8_line wsX8_lineOf := goodIn_r _ [63, 2, 18, 67, 68, 69, 70, 71, 72, 73, 74, 75, 76, 77, 78, 79, 80, 81, 82, 83, 84, 85, 86, 87, 88, 89, 90, 91, 92, 93, 94, 95, 96, 97] rfl (by decide +kernel)
set_option maxRecDepth 20000 in
theorem gX8_line_X8_lineOf : GoodIn wsX8_line (wsV RX8 205 RX8 yX8_lineOf wsX8_lineOf) := goodIn_app (goodIn_of _ (by decide +kernel)) ggX8_line_X8_lineOf
set_option maxRecDepth 20000 in
theorem ggX8_word_X8_layOut : GoodIn wsX8_word wsX8_layOut := goodIn_r _ [8, 3, 1, 9, 2, 10, 11, 12, 7, 13, 14, 15, 16, 17, 18, 19, 20, 21, 22, 23, 24, 25, 26, 27, 28, 29, 30, 31, 32, 33, 34, 35, 36, 37, 38, 39, 40, 41, 42, 43, 44, 45, 46, 47, 48, 49, 50, 51, 52, 53, 54, 55, 56, 57, 58, 59, 60, 61, 62, 63, 67, 68, 69, 70, 71, 72, 73, 74, 75, 76, 77, 78, 79, 80, 81, 82, 83, 84, 85, 86, 87, 88, 89, 90, 91, 92, 93, 94, 95, 96, 97] rfl (by decide +kernel)
set_option maxRecDepth 20000 in
theorem gX8_word_X8_layOut : GoodIn wsX8_word (wsV RX8 220 RX8 yX8_layOut wsX8_layOut) := goodIn_app (goodIn_of _ (by decide +kernel)) ggX8_word_X8_layOut
set_option maxRecDepth 20000 in
theorem ggX8_word_X8_in : GoodIn wsX8_word wsX8_in := goodIn_r _ [66] rfl (by decide +kernel)
set_option maxRecDepth 20000 in
theorem gX8_word_X8_in : GoodIn wsX8_word (va_wsS RX8 75 yX8_in wsX8_in) := goodIn_app (goodIn_of _ (by decide +kernel)) ggX8_word_X8_in
set_option maxRecDepth 20000 in
theorem ggX8_word_X8_strokes : GoodIn wsX8_word wsX8_strokes := goodIn_r _ [22, 23, 67, 68, 69, 70, 71, 72, 73, 74, 75, 76, 77, 78, 79, 80, 81, 82, 83, 84, 85, 86, 87, 88, 89, 90, 91, 92, 93, 94, 95, 96, 97] rfl (by decide +kernel)
set_option maxRecDepth 20000 in
theorem gX8_word_X8_strokes : GoodIn wsX8_word (wsV RX8 152 RX8 yX8_strokes wsX8_strokes) := goodIn_app (goodIn_of _ (by decide +kernel)) ggX8_word_X8_strokes
set_option maxRecDepth 20000 in
theorem ggX8_word_X8_bound : GoodIn wsX8_word wsX8_bound := goodIn_r _ [27, 28, 29, 30, 7, 31, 23, 32, 33, 34, 35, 36, 37, 38, 39, 67, 68, 69, 70, 71, 72, 73, 74, 75, 76, 77, 78, 79, 80, 81, 82, 83, 84, 85, 86, 87, 88, 89, 90, 91, 92, 93, 94, 95, 96, 97] rfl (by decide +kernel)
set_option maxRecDepth 20000 in
theorem gX8_word_X8_bound : GoodIn wsX8_word (wsV RX8 195 RX8 yX8_bound wsX8_bound) := goodIn_app (goodIn_of _ (by decide +kernel)) ggX8_word_X8_bound
set_option maxRecDepth 20000 in
theorem ggX8_word_X8_lineOf : GoodIn wsX8_word wsX8_lineOf := goodIn_r _ [63, 18, 17, 67, 68, 69, 70, 71, 72, 73, 74, 75, 76, 77, 78, 79, 80, 81, 82, 83, 84, 85, 86, 87, 88, 89, 90, 91, 92, 93, 94, 95, 96, 97] rfl (by decide +kernel)
set_option maxRecDepth 20000 in
theorem gX8_word_X8_lineOf : GoodIn wsX8_word (wsV RX8 205 RX8 yX8_lineOf wsX8_lineOf) := goodIn_app (goodIn_of _ (by decide +kernel)) ggX8_word_X8_lineOf
set_option maxRecDepth 20000 in
theorem ggX8_nearest_X8_isPlace : GoodIn wsX8_nearest wsX8_isPlace := goodIn_r _ [4, 5, 6, 3, 7] rfl (by decide +kernel)
set_option maxRecDepth 20000 in
theorem gX8_nearest_X8_isPlace : GoodIn wsX8_nearest (va_wsS RX8 99 yX8_isPlace wsX8_isPlace) := goodIn_app (goodIn_of _ (by decide +kernel)) ggX8_nearest_X8_isPlace
set_option maxRecDepth 20000 in
theorem ggX8_nearest_X8_strokes : GoodIn wsX8_nearest wsX8_strokes := goodIn_r _ [11, 12, 28, 29, 30, 31, 32, 33, 34, 35, 36, 37, 38, 39, 40, 41, 42, 43, 44, 45, 46, 47, 48, 49, 50, 51, 52, 53, 54, 55, 56, 57, 58] rfl (by decide +kernel)
set_option maxRecDepth 20000 in
theorem gX8_nearest_X8_strokes : GoodIn wsX8_nearest (wsV RX8 152 RX8 yX8_strokes wsX8_strokes) := goodIn_app (goodIn_of _ (by decide +kernel)) ggX8_nearest_X8_strokes
set_option maxRecDepth 20000 in
theorem ggX8_nearest_X8_size : GoodIn wsX8_nearest wsX8_size := goodIn_r _ [16, 12, 28, 29, 30, 31, 32, 33, 34, 35, 36, 37, 38, 39, 40, 41, 42, 43, 44, 45, 46, 47, 48, 49, 50, 51, 52, 53, 54, 55, 56, 57, 58] rfl (by decide +kernel)
set_option maxRecDepth 20000 in
theorem gX8_nearest_X8_size : GoodIn wsX8_nearest (wsV RX8 135 RX8 yX8_size wsX8_size) := goodIn_app (goodIn_of _ (by decide +kernel)) ggX8_nearest_X8_size
set_option maxRecDepth 20000 in
theorem ggX8_nearest_X8_x : GoodIn wsX8_nearest wsX8_x := goodIn_r _ [20, 12, 28, 29, 30, 31, 32, 33, 34, 35, 36, 37, 38, 39, 40, 41, 42, 43, 44, 45, 46, 47, 48, 49, 50, 51, 52, 53, 54, 55, 56, 57, 58] rfl (by decide +kernel)
set_option maxRecDepth 20000 in
theorem gX8_nearest_X8_x : GoodIn wsX8_nearest (wsV RX8 139 RX8 yX8_x wsX8_x) := goodIn_app (goodIn_of _ (by decide +kernel)) ggX8_nearest_X8_x
set_option maxRecDepth 20000 in
theorem ggX8_nearest_X8_y : GoodIn wsX8_nearest wsX8_y := goodIn_r _ [24, 12, 28, 29, 30, 31, 32, 33, 34, 35, 36, 37, 38, 39, 40, 41, 42, 43, 44, 45, 46, 47, 48, 49, 50, 51, 52, 53, 54, 55, 56, 57, 58] rfl (by decide +kernel)
set_option maxRecDepth 20000 in
theorem gX8_nearest_X8_y : GoodIn wsX8_nearest (wsV RX8 143 RX8 yX8_y wsX8_y) := goodIn_app (goodIn_of _ (by decide +kernel)) ggX8_nearest_X8_y
set_option maxRecDepth 20000 in
theorem ggX8_nearest_X8_square : GoodIn wsX8_nearest wsX8_square := goodIn_r _ [27] rfl (by decide +kernel)
set_option maxRecDepth 20000 in
theorem gX8_nearest_X8_square : GoodIn wsX8_nearest (va_wsS RX8 164 yX8_square wsX8_square) := goodIn_app (goodIn_of _ (by decide +kernel)) ggX8_nearest_X8_square
set_option maxRecDepth 20000 in
theorem ggX8_ink_X8_strokes : GoodIn wsX8_ink wsX8_strokes := goodIn_r _ [7, 2, 20, 21, 22, 23, 24, 25, 26, 27, 28, 29, 30, 31, 32, 33, 34, 35, 36, 37, 38, 39, 40, 41, 42, 43, 44, 45, 46, 47, 48, 49, 50] rfl (by decide +kernel)
set_option maxRecDepth 20000 in
theorem gX8_ink_X8_strokes : GoodIn wsX8_ink (wsV RX8 152 RX8 yX8_strokes wsX8_strokes) := goodIn_app (goodIn_of _ (by decide +kernel)) ggX8_ink_X8_strokes
set_option maxRecDepth 20000 in
theorem ggX8_ink_X8_size : GoodIn wsX8_ink wsX8_size := goodIn_r _ [11, 2, 20, 21, 22, 23, 24, 25, 26, 27, 28, 29, 30, 31, 32, 33, 34, 35, 36, 37, 38, 39, 40, 41, 42, 43, 44, 45, 46, 47, 48, 49, 50] rfl (by decide +kernel)
set_option maxRecDepth 20000 in
theorem gX8_ink_X8_size : GoodIn wsX8_ink (wsV RX8 135 RX8 yX8_size wsX8_size) := goodIn_app (goodIn_of _ (by decide +kernel)) ggX8_ink_X8_size
set_option maxRecDepth 20000 in
theorem ggX8_ink_X8_y : GoodIn wsX8_ink wsX8_y := goodIn_r _ [15, 2, 20, 21, 22, 23, 24, 25, 26, 27, 28, 29, 30, 31, 32, 33, 34, 35, 36, 37, 38, 39, 40, 41, 42, 43, 44, 45, 46, 47, 48, 49, 50] rfl (by decide +kernel)
set_option maxRecDepth 20000 in
theorem gX8_ink_X8_y : GoodIn wsX8_ink (wsV RX8 143 RX8 yX8_y wsX8_y) := goodIn_app (goodIn_of _ (by decide +kernel)) ggX8_ink_X8_y
set_option maxRecDepth 20000 in
theorem ggX8_ink_X8_x : GoodIn wsX8_ink wsX8_x := goodIn_r _ [19, 2, 20, 21, 22, 23, 24, 25, 26, 27, 28, 29, 30, 31, 32, 33, 34, 35, 36, 37, 38, 39, 40, 41, 42, 43, 44, 45, 46, 47, 48, 49, 50] rfl (by decide +kernel)
set_option maxRecDepth 20000 in
theorem gX8_ink_X8_x : GoodIn wsX8_ink (wsV RX8 139 RX8 yX8_x wsX8_x) := goodIn_app (goodIn_of _ (by decide +kernel)) ggX8_ink_X8_x
set_option maxRecDepth 20000 in
theorem ggX8_cell_X8_isPlace : GoodIn wsX8_cell wsX8_isPlace := goodIn_r _ [5, 6, 7, 4, 8] rfl (by decide +kernel)
set_option maxRecDepth 20000 in
theorem gX8_cell_X8_isPlace : GoodIn wsX8_cell (va_wsS RX8 99 yX8_isPlace wsX8_isPlace) := goodIn_app (goodIn_of _ (by decide +kernel)) ggX8_cell_X8_isPlace
set_option maxRecDepth 20000 in
theorem ggX8_cell_X8_ink : GoodIn wsX8_cell wsX8_ink := goodIn_r _ [12, 1, 13, 14, 15, 16, 4, 17, 18, 19, 20, 21, 22, 23, 24, 25, 26, 27, 28, 29, 30, 31, 32, 33, 34, 35, 36, 37, 38, 39, 40, 41, 42, 43, 44, 45, 46, 47, 48, 49, 50, 51, 52, 53, 54, 55, 56, 57, 58, 59, 60] rfl (by decide +kernel)
set_option maxRecDepth 20000 in
theorem gX8_cell_X8_ink : GoodIn wsX8_cell (wsV RX8 226 RX8 yX8_ink wsX8_ink) := goodIn_app (goodIn_of _ (by decide +kernel)) ggX8_cell_X8_ink
set_option maxRecDepth 20000 in
theorem ggX8_color_X8_in : GoodIn wsX8_color wsX8_in := goodIn_r _ [5] rfl (by decide +kernel)
set_option maxRecDepth 20000 in
theorem gX8_color_X8_in : GoodIn wsX8_color (va_wsS RX8 75 yX8_in wsX8_in) := goodIn_app (goodIn_of _ (by decide +kernel)) ggX8_color_X8_in
set_option maxRecDepth 20000 in
theorem ggX8_color_X8_strokes : GoodIn wsX8_color wsX8_strokes := goodIn_r _ [9, 1, 41, 42, 43, 44, 45, 46, 47, 48, 49, 50, 51, 52, 53, 54, 55, 56, 57, 58, 59, 60, 61, 62, 63, 64, 65, 66, 67, 68, 69, 70, 71] rfl (by decide +kernel)
set_option maxRecDepth 20000 in
theorem gX8_color_X8_strokes : GoodIn wsX8_color (wsV RX8 152 RX8 yX8_strokes wsX8_strokes) := goodIn_app (goodIn_of _ (by decide +kernel)) ggX8_color_X8_strokes
set_option maxRecDepth 20000 in
theorem ggX8_color_X8_size : GoodIn wsX8_color wsX8_size := goodIn_r _ [13, 1, 41, 42, 43, 44, 45, 46, 47, 48, 49, 50, 51, 52, 53, 54, 55, 56, 57, 58, 59, 60, 61, 62, 63, 64, 65, 66, 67, 68, 69, 70, 71] rfl (by decide +kernel)
set_option maxRecDepth 20000 in
theorem gX8_color_X8_size : GoodIn wsX8_color (wsV RX8 135 RX8 yX8_size wsX8_size) := goodIn_app (goodIn_of _ (by decide +kernel)) ggX8_color_X8_size
set_option maxRecDepth 20000 in
theorem ggX8_color_X8_longOf : GoodIn wsX8_color wsX8_longOf := goodIn_r _ [17, 10, 11, 12, 4, 13, 1, 18, 19, 20, 21, 22, 23, 24, 25, 26, 27, 28, 29, 30, 31, 41, 42, 43, 44, 45, 46, 47, 48, 49, 50, 51, 52, 53, 54, 55, 56, 57, 58, 59, 60, 61, 62, 63, 64, 65, 66, 67, 68, 69, 70, 71] rfl (by decide +kernel)
set_option maxRecDepth 20000 in
theorem gX8_color_X8_longOf : GoodIn wsX8_color (wsV RX8 223 RX8 yX8_longOf wsX8_longOf) := goodIn_app (goodIn_of _ (by decide +kernel)) ggX8_color_X8_longOf
set_option maxRecDepth 20000 in
theorem ggX8_color_X8_ink : GoodIn wsX8_color wsX8_ink := goodIn_r _ [35, 36, 1, 6, 7, 8, 4, 9, 10, 11, 12, 13, 22, 23, 24, 25, 18, 19, 20, 21, 41, 42, 43, 44, 45, 46, 47, 48, 49, 50, 51, 52, 53, 54, 55, 56, 57, 58, 59, 60, 61, 62, 63, 64, 65, 66, 67, 68, 69, 70, 71] rfl (by decide +kernel)
set_option maxRecDepth 20000 in
theorem gX8_color_X8_ink : GoodIn wsX8_color (wsV RX8 226 RX8 yX8_ink wsX8_ink) := goodIn_app (goodIn_of _ (by decide +kernel)) ggX8_color_X8_ink
set_option maxRecDepth 20000 in
theorem ggX8_color_X8_inkedCells : GoodIn wsX8_color wsX8_inkedCells := goodIn_r _ [40, 36, 41, 42, 43, 44, 45, 46, 47, 48, 49, 50, 51, 52, 53, 54, 55, 56, 57, 58, 59, 60, 61, 62, 63, 64, 65, 66, 67, 68, 69, 70, 71] rfl (by decide +kernel)
set_option maxRecDepth 20000 in
theorem gX8_color_X8_inkedCells : GoodIn wsX8_color (wsV RX8 229 RX8 yX8_inkedCells wsX8_inkedCells) := goodIn_app (goodIn_of _ (by decide +kernel)) ggX8_color_X8_inkedCells
set_option maxRecDepth 20000 in
theorem ggX8_count_X8_layOut : GoodIn wsX8_count wsX8_layOut := goodIn_r _ [11, 12, 2, 6, 13, 14, 15, 16, 10, 17, 1, 18, 19, 20, 21, 22, 23, 24, 25, 26, 27, 28, 29, 30, 31, 32, 33, 34, 35, 36, 37, 38, 39, 40, 41, 42, 43, 44, 45, 46, 47, 48, 49, 50, 51, 52, 53, 54, 55, 56, 57, 58, 59, 60, 61, 62, 63, 64, 65, 66, 90, 91, 92, 93, 94, 95, 96, 97, 98, 99, 100, 101, 102, 103, 104, 105, 106, 107, 108, 109, 110, 111, 112, 113, 114, 115, 116, 117, 118, 119, 120] rfl (by decide +kernel)
set_option maxRecDepth 20000 in
theorem gX8_count_X8_layOut : GoodIn wsX8_count (wsV RX8 220 RX8 yX8_layOut wsX8_layOut) := goodIn_app (goodIn_of _ (by decide +kernel)) ggX8_count_X8_layOut
set_option maxRecDepth 20000 in
theorem ggX8_count_X8_ink : GoodIn wsX8_count wsX8_ink := goodIn_r _ [70, 71, 26, 22, 23, 24, 10, 25, 39, 40, 41, 42, 31, 32, 33, 34, 35, 36, 37, 38, 90, 91, 92, 93, 94, 95, 96, 97, 98, 99, 100, 101, 102, 103, 104, 105, 106, 107, 108, 109, 110, 111, 112, 113, 114, 115, 116, 117, 118, 119, 120] rfl (by decide +kernel)
set_option maxRecDepth 20000 in
theorem gX8_count_X8_ink : GoodIn wsX8_count (wsV RX8 226 RX8 yX8_ink wsX8_ink) := goodIn_app (goodIn_of _ (by decide +kernel)) ggX8_count_X8_ink
set_option maxRecDepth 20000 in
theorem ggX8_count_X8_strokes : GoodIn wsX8_count wsX8_strokes := goodIn_r _ [25, 26, 90, 91, 92, 93, 94, 95, 96, 97, 98, 99, 100, 101, 102, 103, 104, 105, 106, 107, 108, 109, 110, 111, 112, 113, 114, 115, 116, 117, 118, 119, 120] rfl (by decide +kernel)
set_option maxRecDepth 20000 in
theorem gX8_count_X8_strokes : GoodIn wsX8_count (wsV RX8 152 RX8 yX8_strokes wsX8_strokes) := goodIn_app (goodIn_of _ (by decide +kernel)) ggX8_count_X8_strokes
set_option maxRecDepth 20000 in
theorem ggX8_count_X8_size : GoodIn wsX8_count wsX8_size := goodIn_r _ [42, 26, 90, 91, 92, 93, 94, 95, 96, 97, 98, 99, 100, 101, 102, 103, 104, 105, 106, 107, 108, 109, 110, 111, 112, 113, 114, 115, 116, 117, 118, 119, 120] rfl (by decide +kernel)
set_option maxRecDepth 20000 in
theorem gX8_count_X8_size : GoodIn wsX8_count (wsV RX8 135 RX8 yX8_size wsX8_size) := goodIn_app (goodIn_of _ (by decide +kernel)) ggX8_count_X8_size
set_option maxRecDepth 20000 in
theorem ggX8_count_X8_longOf : GoodIn wsX8_count wsX8_longOf := goodIn_r _ [75, 39, 40, 41, 10, 42, 26, 35, 36, 37, 38, 31, 32, 33, 34, 76, 77, 78, 79, 80, 81, 90, 91, 92, 93, 94, 95, 96, 97, 98, 99, 100, 101, 102, 103, 104, 105, 106, 107, 108, 109, 110, 111, 112, 113, 114, 115, 116, 117, 118, 119, 120] rfl (by decide +kernel)
set_option maxRecDepth 20000 in
theorem gX8_count_X8_longOf : GoodIn wsX8_count (wsV RX8 223 RX8 yX8_longOf wsX8_longOf) := goodIn_app (goodIn_of _ (by decide +kernel)) ggX8_count_X8_longOf
set_option maxRecDepth 20000 in
theorem ggX8_count_X8_inkedCells : GoodIn wsX8_count wsX8_inkedCells := goodIn_r _ [85, 71, 90, 91, 92, 93, 94, 95, 96, 97, 98, 99, 100, 101, 102, 103, 104, 105, 106, 107, 108, 109, 110, 111, 112, 113, 114, 115, 116, 117, 118, 119, 120] rfl (by decide +kernel)
set_option maxRecDepth 20000 in
theorem gX8_count_X8_inkedCells : GoodIn wsX8_count (wsV RX8 229 RX8 yX8_inkedCells wsX8_inkedCells) := goodIn_app (goodIn_of _ (by decide +kernel)) ggX8_count_X8_inkedCells
set_option maxRecDepth 20000 in
theorem ggX8_count_X8_fullest : GoodIn wsX8_count wsX8_fullest := goodIn_r _ [89, 71, 90, 91, 92, 93, 94, 95, 96, 97, 98, 99, 100, 101, 102, 103, 104, 105, 106, 107, 108, 109, 110, 111, 112, 113, 114, 115, 116, 117, 118, 119, 120] rfl (by decide +kernel)
set_option maxRecDepth 20000 in
theorem gX8_count_X8_fullest : GoodIn wsX8_count (wsV RX8 232 RX8 yX8_fullest wsX8_fullest) := goodIn_app (goodIn_of _ (by decide +kernel)) ggX8_count_X8_fullest
