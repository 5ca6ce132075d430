/-! words of one list among another's, by program -/
set_option maxRecDepth 20000 in
theorem ggX7_init_X5_init : GoodIn wsX7_init wsX5_init := goodIn_r _ [36, 37, 2, 3, 38, 39, 40, 84, 85, 86] (by decide +kernel) (by decide +kernel)
set_option maxRecDepth 20000 in
theorem gX7_init_X5_init_n11 : GoodIn wsX7_init (wsX5_init) := ggX7_init_X5_init
set_option maxRecDepth 20000 in
theorem ggX7_init_X4_init : GoodIn wsX7_init wsX4_init := goodIn_r _ [42, 43, 2, 3, 44, 45, 97, 98] (by decide +kernel) (by decide +kernel)
set_option maxRecDepth 20000 in
theorem gX7_init_X4_init_n18 : GoodIn wsX7_init (wsX4_init) := ggX7_init_X4_init
set_option maxRecDepth 20000 in
theorem ggX7_init_X2_init : GoodIn wsX7_init wsX2_init := goodIn_r _ [47, 48, 2, 3, 38, 49, 99, 100] (by decide +kernel) (by decide +kernel)
set_option maxRecDepth 20000 in
theorem gX7_init_X2_init_n25 : GoodIn wsX7_init (wsX2_init) := ggX7_init_X2_init
set_option maxRecDepth 20000 in
theorem ggX7_init_X0_init : GoodIn wsX7_init wsX0_init := goodIn_r _ [51, 52, 2, 3, 38, 53, 54, 101, 102, 103, 104, 105] (by decide +kernel) (by decide +kernel)
set_option maxRecDepth 20000 in
theorem gX7_init_X0_init_n38 : GoodIn wsX7_init (wsX0_init) := ggX7_init_X0_init
set_option maxRecDepth 20000 in
theorem ggX7_init_X1_init : GoodIn wsX7_init wsX1_init := goodIn_r _ [56, 57, 2, 3, 38, 58, 59, 60, 61, 62, 63, 64, 106, 107, 108, 109, 110, 111, 112, 113] (by decide +kernel) (by decide +kernel)
set_option maxRecDepth 20000 in
theorem gX7_init_X1_init_n45 : GoodIn wsX7_init (wsX1_init) := ggX7_init_X1_init
set_option maxRecDepth 20000 in
theorem ggX7_init_X6_init : GoodIn wsX7_init wsX6_init := goodIn_r _ [66, 67, 2, 3, 38, 68, 69, 70, 71, 72, 73, 74, 75, 76, 77, 78, 114, 115, 116, 117, 118, 119, 120, 121, 122, 123, 124, 125] (by decide +kernel) (by decide +kernel)
set_option maxRecDepth 20000 in
theorem gX7_init_X6_init_n52 : GoodIn wsX7_init (wsX6_init) := ggX7_init_X6_init
set_option maxRecDepth 20000 in
theorem ggX7_init_X3_init : GoodIn wsX7_init wsX3_init := goodIn_r _ [80, 81, 2, 3, 38, 82, 83, 126, 127, 128, 129] (by decide +kernel) (by decide +kernel)
set_option maxRecDepth 20000 in
theorem gX7_init_X3_init_n59 : GoodIn wsX7_init (wsX3_init) := ggX7_init_X3_init
set_option maxRecDepth 20000 in
theorem ggX7_put_X7_isCoordinate : GoodIn wsX7_put wsX7_isCoordinate := goodIn_r _ [6, 7, 8, 5, 9] (by decide +kernel) (by decide +kernel)
set_option maxRecDepth 20000 in
theorem gX7_put_X7_isCoordinate : GoodIn wsX7_put (va_wsS RX7 68 yX7_isCoordinate wsX7_isCoordinate) := goodIn_app (goodIn_of _ (by decide +kernel)) ggX7_put_X7_isCoordinate
set_option maxRecDepth 20000 in
theorem ggX7_put_X5_append : GoodIn wsX7_put wsX5_append := goodIn_r _ [14, 15, 16, 17, 18, 19, 20, 13, 21, 32, 33, 34] (by decide +kernel) (by decide +kernel)
set_option maxRecDepth 20000 in
theorem gX7_put_X5_append : GoodIn wsX7_put (wsV RX7 75 RX5 yX5_append wsX5_append) := goodIn_app (goodIn_of _ (by decide +kernel)) ggX7_put_X5_append
set_option maxRecDepth 20000 in
theorem ggX7_clearPoints_X5_empty : GoodIn wsX7_clearPoints wsX5_empty := goodIn_r _ [7, 8, 19, 20, 21] (by decide +kernel) (by decide +kernel)
set_option maxRecDepth 20000 in
theorem gX7_clearPoints_X5_empty : GoodIn wsX7_clearPoints (wsV RX7 79 RX5 yX5_empty wsX5_empty) := goodIn_app (goodIn_of _ (by decide +kernel)) ggX7_clearPoints_X5_empty
set_option maxRecDepth 20000 in
theorem ggX7_type_X4_append : GoodIn wsX7_type wsX4_append := goodIn_r _ [7, 8, 9, 20, 21] (by decide +kernel) (by decide +kernel)
set_option maxRecDepth 20000 in
theorem gX7_type_X4_append : GoodIn wsX7_type (wsV RX7 85 RX4 yX4_append wsX4_append) := goodIn_app (goodIn_of _ (by decide +kernel)) ggX7_type_X4_append
set_option maxRecDepth 20000 in
theorem ggX7_clearText_X4_empty : GoodIn wsX7_clearText wsX4_empty := goodIn_r _ [7, 8, 19, 20] (by decide +kernel) (by decide +kernel)
set_option maxRecDepth 20000 in
theorem gX7_clearText_X4_empty : GoodIn wsX7_clearText (wsV RX7 88 RX4 yX4_empty wsX4_empty) := goodIn_app (goodIn_of _ (by decide +kernel)) ggX7_clearText_X4_empty
set_option maxRecDepth 20000 in
theorem ggX7_readPoints_X4_parse : GoodIn wsX7_readPoints wsX4_parse := goodIn_r _ [9, 10, 11, 12, 13, 14, 15, 16, 17, 18, 19, 8, 20, 21, 22, 23, 24, 25, 26, 27, 28, 29, 30, 52, 53, 49, 50, 51] (by decide +kernel) (by decide +kernel)
set_option maxRecDepth 20000 in
theorem gX7_readPoints_X4_parse : GoodIn wsX7_readPoints (wsV RX7 89 RX4 yX4_parse wsX4_parse) := goodIn_app (goodIn_of _ (by decide +kernel)) ggX7_readPoints_X4_parse
set_option maxRecDepth 20000 in
theorem ggX7_readPoints_X5_copy : GoodIn wsX7_readPoints wsX5_copy := goodIn_r _ [34, 17, 25, 35, 36, 37, 38, 26, 49, 50, 51] (by decide +kernel) (by decide +kernel)
set_option maxRecDepth 20000 in
theorem gX7_readPoints_X5_copy : GoodIn wsX7_readPoints (wsV RX7 93 RX5 yX5_copy wsX5_copy) := goodIn_app (goodIn_of _ (by decide +kernel)) ggX7_readPoints_X5_copy
set_option maxRecDepth 20000 in
theorem ggX7_draw_X7_isColor : GoodIn wsX7_draw wsX7_isColor := goodIn_r _ [9, 10, 11, 8, 12] (by decide +kernel) (by decide +kernel)
set_option maxRecDepth 20000 in
theorem gX7_draw_X7_isColor : GoodIn wsX7_draw (va_wsS RX7 97 yX7_isColor wsX7_isColor) := goodIn_app (goodIn_of _ (by decide +kernel)) ggX7_draw_X7_isColor
set_option maxRecDepth 20000 in
theorem ggX7_draw_X2_append : GoodIn wsX7_draw wsX2_append := goodIn_r _ [17, 18, 19, 20, 21, 16, 22, 23, 24, 25, 26, 27, 28, 29, 30, 67, 68, 64, 65, 66] (by decide +kernel) (by decide +kernel)
set_option maxRecDepth 20000 in
theorem gX7_draw_X2_append : GoodIn wsX7_draw (wsV RX7 100 RX2 yX2_append wsX2_append) := goodIn_app (goodIn_of _ (by decide +kernel)) ggX7_draw_X2_append
set_option maxRecDepth 20000 in
theorem ggX7_draw_X5_empty : GoodIn wsX7_draw wsX5_empty := goodIn_r _ [35, 36, 64, 65, 66] (by decide +kernel) (by decide +kernel)
set_option maxRecDepth 20000 in
theorem gX7_draw_X5_empty : GoodIn wsX7_draw (wsV RX7 79 RX5 yX5_empty wsX5_empty) := goodIn_app (goodIn_of _ (by decide +kernel)) ggX7_draw_X5_empty
set_option maxRecDepth 20000 in
theorem ggX7_draw_X0_record : GoodIn wsX7_draw wsX0_record := goodIn_r _ [41, 42, 43, 44, 45, 46, 47, 48, 49, 50, 51, 52, 53, 27, 28, 29, 69, 70, 71, 72, 73, 67, 68] (by decide +kernel) (by decide +kernel)
set_option maxRecDepth 20000 in
theorem gX7_draw_X0_record : GoodIn wsX7_draw (wsV RX7 103 RX0 yX0_record wsX0_record) := goodIn_app (goodIn_of _ (by decide +kernel)) ggX7_draw_X0_record
set_option maxRecDepth 20000 in
theorem ggX7_rub_X7_isCoordinate : GoodIn wsX7_rub wsX7_isCoordinate := goodIn_r _ [9, 10, 11, 8, 12] (by decide +kernel) (by decide +kernel)
set_option maxRecDepth 20000 in
theorem gX7_rub_X7_isCoordinate : GoodIn wsX7_rub (va_wsS RX7 68 yX7_isCoordinate wsX7_isCoordinate) := goodIn_app (goodIn_of _ (by decide +kernel)) ggX7_rub_X7_isCoordinate
set_option maxRecDepth 20000 in
theorem ggX7_rub_X7_isWithin : GoodIn wsX7_rub wsX7_isWithin := goodIn_r _ [12] (by decide +kernel) (by decide +kernel)
set_option maxRecDepth 20000 in
theorem gX7_rub_X7_isWithin : GoodIn wsX7_rub (va_wsS RX7 110 yX7_isWithin wsX7_isWithin) := goodIn_app (goodIn_of _ (by decide +kernel)) ggX7_rub_X7_isWithin
set_option maxRecDepth 20000 in
theorem ggX7_rub_X2_empty : GoodIn wsX7_rub wsX2_empty := goodIn_r _ [17, 18, 106, 107] (by decide +kernel) (by decide +kernel)
set_option maxRecDepth 20000 in
theorem gX7_rub_X2_empty : GoodIn wsX7_rub (wsV RX7 114 RX2 yX2_empty wsX2_empty) := goodIn_app (goodIn_of _ (by decide +kernel)) ggX7_rub_X2_empty
set_option maxRecDepth 20000 in
theorem ggX7_rub_X5_empty : GoodIn wsX7_rub wsX5_empty := goodIn_r _ [23, 24, 108, 109, 110] (by decide +kernel) (by decide +kernel)
set_option maxRecDepth 20000 in
theorem gX7_rub_X5_empty : GoodIn wsX7_rub (wsV RX7 79 RX5 yX5_empty wsX5_empty) := goodIn_app (goodIn_of _ (by decide +kernel)) ggX7_rub_X5_empty
set_option maxRecDepth 20000 in
theorem ggX7_rub_X2_size : GoodIn wsX7_rub wsX2_size := goodIn_r _ [28, 29, 106, 107] (by decide +kernel) (by decide +kernel)
set_option maxRecDepth 20000 in
theorem gX7_rub_X2_size : GoodIn wsX7_rub (wsV RX7 115 RX2 yX2_size wsX2_size) := goodIn_app (goodIn_of _ (by decide +kernel)) ggX7_rub_X2_size
set_option maxRecDepth 20000 in
theorem ggX7_rub_X2_x : GoodIn wsX7_rub wsX2_x := goodIn_r _ [33, 29, 106, 107] (by decide +kernel) (by decide +kernel)
set_option maxRecDepth 20000 in
theorem gX7_rub_X2_x : GoodIn wsX7_rub (wsV RX7 118 RX2 yX2_x wsX2_x) := goodIn_app (goodIn_of _ (by decide +kernel)) ggX7_rub_X2_x
set_option maxRecDepth 20000 in
theorem ggX7_rub_X2_y : GoodIn wsX7_rub wsX2_y := goodIn_r _ [37, 29, 106, 107] (by decide +kernel) (by decide +kernel)
set_option maxRecDepth 20000 in
theorem gX7_rub_X2_y : GoodIn wsX7_rub (wsV RX7 122 RX2 yX2_y wsX2_y) := goodIn_app (goodIn_of _ (by decide +kernel)) ggX7_rub_X2_y
set_option maxRecDepth 20000 in
theorem ggX7_rub_X7_square : GoodIn wsX7_rub wsX7_square := goodIn_r _ [40] (by decide +kernel) (by decide +kernel)
set_option maxRecDepth 20000 in
theorem gX7_rub_X7_square : GoodIn wsX7_rub (va_wsS RX7 125 yX7_square wsX7_square) := goodIn_app (goodIn_of _ (by decide +kernel)) ggX7_rub_X7_square
set_option maxRecDepth 20000 in
theorem ggX7_rub_X2_colorOf : GoodIn wsX7_rub wsX2_colorOf := goodIn_r _ [44, 29, 106, 107] (by decide +kernel) (by decide +kernel)
set_option maxRecDepth 20000 in
theorem gX7_rub_X2_colorOf : GoodIn wsX7_rub (wsV RX7 128 RX2 yX2_colorOf wsX2_colorOf) := goodIn_app (goodIn_of _ (by decide +kernel)) ggX7_rub_X2_colorOf
set_option maxRecDepth 20000 in
theorem ggX7_rub_X7_endPart : GoodIn wsX7_rub wsX7_endPart := goodIn_r _ [48, 4, 49, 1, 50, 51, 52, 16, 53, 18, 54, 55, 56, 57, 29, 58, 59, 60, 61, 62, 63, 64, 19, 20, 21, 22, 23, 24, 96, 97, 98, 99, 100, 101, 102, 103, 104, 105, 108, 109, 110, 106, 107] (by decide +kernel) (by decide +kernel)
set_option maxRecDepth 20000 in
theorem gX7_rub_X7_endPart : GoodIn wsX7_rub (wsV RX7 131 RX7 yX7_endPart wsX7_endPart) := goodIn_app (goodIn_of _ (by decide +kernel)) ggX7_rub_X7_endPart
set_option maxRecDepth 20000 in
theorem ggX7_rub_X5_append : GoodIn wsX7_rub wsX5_append := goodIn_r _ [68, 24, 69, 70, 71, 72, 73, 22, 74, 108, 109, 110] (by decide +kernel) (by decide +kernel)
set_option maxRecDepth 20000 in
theorem gX7_rub_X5_append : GoodIn wsX7_rub (wsV RX7 75 RX5 yX5_append wsX5_append) := goodIn_app (goodIn_of _ (by decide +kernel)) ggX7_rub_X5_append
set_option maxRecDepth 20000 in
theorem ggX7_rub_X2_copy : GoodIn wsX7_rub wsX2_copy := goodIn_r _ [78, 18, 29, 60, 61, 62, 63, 106, 107] (by decide +kernel) (by decide +kernel)
set_option maxRecDepth 20000 in
theorem gX7_rub_X2_copy : GoodIn wsX7_rub (wsV RX7 134 RX2 yX2_copy wsX2_copy) := goodIn_app (goodIn_of _ (by decide +kernel)) ggX7_rub_X2_copy
set_option maxRecDepth 20000 in
theorem ggX7_rub_X0_record : GoodIn wsX7_rub wsX0_record := goodIn_r _ [83, 84, 85, 86, 87, 88, 89, 90, 91, 92, 93, 94, 95, 61, 62, 63, 111, 112, 113, 114, 115, 106, 107] (by decide +kernel) (by decide +kernel)
set_option maxRecDepth 20000 in
theorem gX7_rub_X0_record : GoodIn wsX7_rub (wsV RX7 103 RX0 yX0_record wsX0_record) := goodIn_app (goodIn_of _ (by decide +kernel)) ggX7_rub_X0_record
set_option maxRecDepth 20000 in
theorem ggX7_smooth_X2_has : GoodIn wsX7_smooth wsX2_has := goodIn_r _ [7, 8, 105, 106] (by decide +kernel) (by decide +kernel)
set_option maxRecDepth 20000 in
theorem gX7_smooth_X2_has : GoodIn wsX7_smooth (wsV RX7 136 RX2 yX2_has wsX2_has) := goodIn_app (goodIn_of _ (by decide +kernel)) ggX7_smooth_X2_has
set_option maxRecDepth 20000 in
theorem ggX7_smooth_X7_isWithin : GoodIn wsX7_smooth wsX7_isWithin := goodIn_r _ [12] (by decide +kernel) (by decide +kernel)
set_option maxRecDepth 20000 in
theorem gX7_smooth_X7_isWithin : GoodIn wsX7_smooth (va_wsS RX7 110 yX7_isWithin wsX7_isWithin) := goodIn_app (goodIn_of _ (by decide +kernel)) ggX7_smooth_X7_isWithin
set_option maxRecDepth 20000 in
theorem ggX7_smooth_X5_take : GoodIn wsX7_smooth wsX5_take := goodIn_r _ [17, 18, 19, 20, 21, 6, 22, 23, 24, 25, 26, 27, 28, 29, 30, 31, 32, 33, 34, 16, 35, 36, 37, 38, 39, 40, 41, 107, 108, 109, 105, 106] (by decide +kernel) (by decide +kernel)
set_option maxRecDepth 20000 in
theorem gX7_smooth_X5_take : GoodIn wsX7_smooth (wsV RX7 139 RX5 yX5_take wsX5_take) := goodIn_app (goodIn_of _ (by decide +kernel)) ggX7_smooth_X5_take
set_option maxRecDepth 20000 in
theorem ggX7_smooth_X5_smoothOnce : GoodIn wsX7_smooth wsX5_smoothOnce := goodIn_r _ [45, 36, 37, 18, 107, 108, 109] (by decide +kernel) (by decide +kernel)
set_option maxRecDepth 20000 in
theorem gX7_smooth_X5_smoothOnce : GoodIn wsX7_smooth (wsV RX7 143 RX5 yX5_smoothOnce wsX5_smoothOnce) := goodIn_app (goodIn_of _ (by decide +kernel)) ggX7_smooth_X5_smoothOnce
set_option maxRecDepth 20000 in
theorem ggX7_smooth_X5_dropRepeats : GoodIn wsX7_smooth wsX5_dropRepeats := goodIn_r _ [49, 18, 36, 37, 32, 33, 34, 16, 35, 38, 39, 40, 41, 107, 108, 109] (by decide +kernel) (by decide +kernel)
set_option maxRecDepth 20000 in
theorem gX7_smooth_X5_dropRepeats : GoodIn wsX7_smooth (wsV RX7 146 RX5 yX5_dropRepeats wsX5_dropRepeats) := goodIn_app (goodIn_of _ (by decide +kernel)) ggX7_smooth_X5_dropRepeats
set_option maxRecDepth 20000 in
theorem ggX7_smooth_X7_replace : GoodIn wsX7_smooth wsX7_replace := goodIn_r _ [53, 1, 2, 54, 55, 56, 57, 58, 6, 59, 60, 61, 62, 63, 20, 21, 22, 23, 64, 25, 26, 27, 65, 29, 30, 31, 66, 67, 68, 69, 70, 71, 72, 73, 74, 75, 76, 77, 78, 79, 80, 81, 82, 83, 84, 85, 86, 87, 88, 89, 90, 91, 92, 93, 94, 95, 96, 97, 98, 99, 100, 101, 102, 103, 104, 107, 108, 109, 105, 106, 110, 111, 112, 113, 114] (by decide +kernel) (by decide +kernel)
set_option maxRecDepth 20000 in
theorem gX7_smooth_X7_replace : GoodIn wsX7_smooth (wsV RX7 149 RX7 yX7_replace wsX7_replace) := goodIn_app (goodIn_of _ (by decide +kernel)) ggX7_smooth_X7_replace
set_option maxRecDepth 20000 in
theorem ggX7_thin_X2_has : GoodIn wsX7_thin wsX2_has := goodIn_r _ [7, 8, 103, 104] (by decide +kernel) (by decide +kernel)
set_option maxRecDepth 20000 in
theorem gX7_thin_X2_has : GoodIn wsX7_thin (wsV RX7 136 RX2 yX2_has wsX2_has) := goodIn_app (goodIn_of _ (by decide +kernel)) ggX7_thin_X2_has
set_option maxRecDepth 20000 in
theorem ggX7_thin_X7_isWithin : GoodIn wsX7_thin wsX7_isWithin := goodIn_r _ [12] (by decide +kernel) (by decide +kernel)
set_option maxRecDepth 20000 in
theorem gX7_thin_X7_isWithin : GoodIn wsX7_thin (va_wsS RX7 110 yX7_isWithin wsX7_isWithin) := goodIn_app (goodIn_of _ (by decide +kernel)) ggX7_thin_X7_isWithin
set_option maxRecDepth 20000 in
theorem ggX7_thin_X5_take : GoodIn wsX7_thin wsX5_take := goodIn_r _ [17, 18, 19, 20, 21, 6, 22, 23, 24, 25, 26, 27, 28, 29, 30, 31, 32, 33, 34, 16, 35, 36, 37, 38, 39, 40, 41, 105, 106, 107, 103, 104] (by decide +kernel) (by decide +kernel)
set_option maxRecDepth 20000 in
theorem gX7_thin_X5_take : GoodIn wsX7_thin (wsV RX7 139 RX5 yX5_take wsX5_take) := goodIn_app (goodIn_of _ (by decide +kernel)) ggX7_thin_X5_take
set_option maxRecDepth 20000 in
theorem ggX7_thin_X5_dropNear : GoodIn wsX7_thin wsX5_dropNear := goodIn_r _ [45, 18, 36, 37, 46, 11, 47, 32, 33, 34, 16, 35, 38, 39, 40, 41, 105, 106, 107] (by decide +kernel) (by decide +kernel)
set_option maxRecDepth 20000 in
theorem gX7_thin_X5_dropNear : GoodIn wsX7_thin (wsV RX7 152 RX5 yX5_dropNear wsX5_dropNear) := goodIn_app (goodIn_of _ (by decide +kernel)) ggX7_thin_X5_dropNear
set_option maxRecDepth 20000 in
theorem ggX7_thin_X7_replace : GoodIn wsX7_thin wsX7_replace := goodIn_r _ [51, 1, 2, 52, 53, 54, 55, 56, 6, 57, 58, 59, 60, 61, 20, 21, 22, 23, 62, 25, 26, 27, 63, 29, 30, 31, 64, 65, 66, 67, 68, 69, 70, 71, 72, 73, 74, 75, 76, 77, 78, 79, 80, 81, 82, 83, 84, 85, 86, 87, 88, 89, 90, 91, 92, 93, 94, 95, 96, 97, 98, 99, 100, 101, 102, 105, 106, 107, 103, 104, 108, 109, 110, 111, 112] (by decide +kernel) (by decide +kernel)
set_option maxRecDepth 20000 in
theorem gX7_thin_X7_replace : GoodIn wsX7_thin (wsV RX7 149 RX7 yX7_replace wsX7_replace) := goodIn_app (goodIn_of _ (by decide +kernel)) ggX7_thin_X7_replace
set_option maxRecDepth 20000 in
theorem ggX7_join_X2_has : GoodIn wsX7_join wsX2_has := goodIn_r _ [9, 10, 95, 96] (by decide +kernel) (by decide +kernel)
set_option maxRecDepth 20000 in
theorem gX7_join_X2_has : GoodIn wsX7_join (wsV RX7 136 RX2 yX2_has wsX2_has) := goodIn_app (goodIn_of _ (by decide +kernel)) ggX7_join_X2_has
set_option maxRecDepth 20000 in
theorem ggX7_join_X5_take : GoodIn wsX7_join wsX5_take := goodIn_r _ [15, 16, 17, 18, 19, 8, 20, 21, 22, 23, 24, 25, 26, 27, 28, 29, 30, 31, 32, 14, 33, 34, 35, 36, 37, 38, 39, 92, 93, 94, 95, 96] (by decide +kernel) (by decide +kernel)
set_option maxRecDepth 20000 in
theorem gX7_join_X5_take : GoodIn wsX7_join (wsV RX7 139 RX5 yX5_take wsX5_take) := goodIn_app (goodIn_of _ (by decide +kernel)) ggX7_join_X5_take
set_option maxRecDepth 20000 in
theorem ggX7_join_X2_x : GoodIn wsX7_join wsX2_x := goodIn_r _ [25, 21, 95, 96] (by decide +kernel) (by decide +kernel)
set_option maxRecDepth 20000 in
theorem gX7_join_X2_x : GoodIn wsX7_join (wsV RX7 118 RX2 yX2_x wsX2_x) := goodIn_app (goodIn_of _ (by decide +kernel)) ggX7_join_X2_x
set_option maxRecDepth 20000 in
theorem ggX7_join_X2_y : GoodIn wsX7_join wsX2_y := goodIn_r _ [29, 21, 95, 96] (by decide +kernel) (by decide +kernel)
set_option maxRecDepth 20000 in
theorem gX7_join_X2_y : GoodIn wsX7_join (wsV RX7 122 RX2 yX2_y wsX2_y) := goodIn_app (goodIn_of _ (by decide +kernel)) ggX7_join_X2_y
set_option maxRecDepth 20000 in
theorem ggX7_join_X5_isLast : GoodIn wsX7_join wsX5_isLast := goodIn_r _ [39, 16, 34, 35, 92, 93, 94] (by decide +kernel) (by decide +kernel)
set_option maxRecDepth 20000 in
theorem gX7_join_X5_isLast : GoodIn wsX7_join (wsV RX7 156 RX5 yX5_isLast wsX5_isLast) := goodIn_app (goodIn_of _ (by decide +kernel)) ggX7_join_X5_isLast
set_option maxRecDepth 20000 in
theorem ggX7_join_X2_size : GoodIn wsX7_join wsX2_size := goodIn_r _ [20, 21, 95, 96] (by decide +kernel) (by decide +kernel)
set_option maxRecDepth 20000 in
theorem gX7_join_X2_size : GoodIn wsX7_join (wsV RX7 115 RX2 yX2_size wsX2_size) := goodIn_app (goodIn_of _ (by decide +kernel)) ggX7_join_X2_size
set_option maxRecDepth 20000 in
theorem ggX7_join_X5_append : GoodIn wsX7_join wsX5_append := goodIn_r _ [33, 16, 34, 35, 36, 37, 38, 14, 39, 92, 93, 94] (by decide +kernel) (by decide +kernel)
set_option maxRecDepth 20000 in
theorem gX7_join_X5_append : GoodIn wsX7_join (wsV RX7 75 RX5 yX5_append wsX5_append) := goodIn_app (goodIn_of _ (by decide +kernel)) ggX7_join_X5_append
set_option maxRecDepth 20000 in
theorem ggX7_join_X2_colorOf : GoodIn wsX7_join wsX2_colorOf := goodIn_r _ [48, 21, 95, 96] (by decide +kernel) (by decide +kernel)
set_option maxRecDepth 20000 in
theorem gX7_join_X2_colorOf : GoodIn wsX7_join (wsV RX7 128 RX2 yX2_colorOf wsX2_colorOf) := goodIn_app (goodIn_of _ (by decide +kernel)) ggX7_join_X2_colorOf
set_option maxRecDepth 20000 in
theorem ggX7_join_X2_set : GoodIn wsX7_join wsX2_set := goodIn_r _ [52, 21, 53, 54, 55, 56, 57, 58, 59, 95, 96, 92, 93, 94] (by decide +kernel) (by decide +kernel)
set_option maxRecDepth 20000 in
theorem gX7_join_X2_set : GoodIn wsX7_join (wsV RX7 160 RX2 yX2_set wsX2_set) := goodIn_app (goodIn_of _ (by decide +kernel)) ggX7_join_X2_set
set_option maxRecDepth 20000 in
theorem ggX7_join_X2_drop : GoodIn wsX7_join wsX2_drop := goodIn_r _ [63, 10, 21, 55, 56, 57, 58, 64, 6, 7, 8, 9, 95, 96] (by decide +kernel) (by decide +kernel)
set_option maxRecDepth 20000 in
theorem gX7_join_X2_drop : GoodIn wsX7_join (wsV RX7 164 RX2 yX2_drop wsX2_drop) := goodIn_app (goodIn_of _ (by decide +kernel)) ggX7_join_X2_drop
set_option maxRecDepth 20000 in
theorem ggX7_join_X0_record : GoodIn wsX7_join wsX0_record := goodIn_r _ [69, 70, 71, 72, 73, 74, 75, 76, 77, 78, 79, 80, 81, 56, 57, 58, 97, 98, 99, 100, 101, 95, 96] (by decide +kernel) (by decide +kernel)
set_option maxRecDepth 20000 in
theorem gX7_join_X0_record : GoodIn wsX7_join (wsV RX7 103 RX0 yX0_record wsX0_record) := goodIn_app (goodIn_of _ (by decide +kernel)) ggX7_join_X0_record
set_option maxRecDepth 20000 in
theorem ggX7_shift_X2_has : GoodIn wsX7_shift wsX2_has := goodIn_r _ [7, 8, 128, 129] (by decide +kernel) (by decide +kernel)
set_option maxRecDepth 20000 in
theorem gX7_shift_X2_has : GoodIn wsX7_shift (wsV RX7 136 RX2 yX2_has wsX2_has) := goodIn_app (goodIn_of _ (by decide +kernel)) ggX7_shift_X2_has
set_option maxRecDepth 20000 in
theorem ggX7_shift_X7_isWithin : GoodIn wsX7_shift wsX7_isWithin := goodIn_r _ [12] (by decide +kernel) (by decide +kernel)
set_option maxRecDepth 20000 in
theorem gX7_shift_X7_isWithin : GoodIn wsX7_shift (va_wsS RX7 110 yX7_isWithin wsX7_isWithin) := goodIn_app (goodIn_of _ (by decide +kernel)) ggX7_shift_X7_isWithin
set_option maxRecDepth 20000 in
theorem ggX7_shift_X2_left : GoodIn wsX7_shift wsX2_left := goodIn_r _ [16, 17, 18, 19, 6, 20, 21, 22, 23, 24, 25, 26, 27, 28, 29, 128, 129] (by decide +kernel) (by decide +kernel)
set_option maxRecDepth 20000 in
theorem gX7_shift_X2_left : GoodIn wsX7_shift (wsV RX7 167 RX2 yX2_left wsX2_left) := goodIn_app (goodIn_of _ (by decide +kernel)) ggX7_shift_X2_left
set_option maxRecDepth 20000 in
theorem ggX7_shift_X7_isCoordinate : GoodIn wsX7_shift wsX7_isCoordinate := goodIn_r _ [32, 9, 10, 11, 12] (by decide +kernel) (by decide +kernel)
set_option maxRecDepth 20000 in
theorem gX7_shift_X7_isCoordinate : GoodIn wsX7_shift (va_wsS RX7 68 yX7_isCoordinate wsX7_isCoordinate) := goodIn_app (goodIn_of _ (by decide +kernel)) ggX7_shift_X7_isCoordinate
set_option maxRecDepth 20000 in
theorem ggX7_shift_X2_right : GoodIn wsX7_shift wsX2_right := goodIn_r _ [36, 17, 18, 19, 6, 20, 21, 37, 38, 39, 40, 41, 42, 28, 43, 128, 129] (by decide +kernel) (by decide +kernel)
set_option maxRecDepth 20000 in
theorem gX7_shift_X2_right : GoodIn wsX7_shift (wsV RX7 170 RX2 yX2_right wsX2_right) := goodIn_app (goodIn_of _ (by decide +kernel)) ggX7_shift_X2_right
set_option maxRecDepth 20000 in
theorem ggX7_shift_X2_top : GoodIn wsX7_shift wsX2_top := goodIn_r _ [47, 17, 18, 19, 6, 20, 21, 22, 23, 24, 25, 26, 27, 28, 29, 128, 129] (by decide +kernel) (by decide +kernel)
set_option maxRecDepth 20000 in
theorem gX7_shift_X2_top : GoodIn wsX7_shift (wsV RX7 173 RX2 yX2_top wsX2_top) := goodIn_app (goodIn_of _ (by decide +kernel)) ggX7_shift_X2_top
set_option maxRecDepth 20000 in
theorem ggX7_shift_X2_bottom : GoodIn wsX7_shift wsX2_bottom := goodIn_r _ [51, 17, 18, 19, 6, 20, 21, 37, 38, 39, 40, 41, 42, 28, 43, 128, 129] (by decide +kernel) (by decide +kernel)
set_option maxRecDepth 20000 in
theorem gX7_shift_X2_bottom : GoodIn wsX7_shift (wsV RX7 176 RX2 yX2_bottom wsX2_bottom) := goodIn_app (goodIn_of _ (by decide +kernel)) ggX7_shift_X2_bottom
set_option maxRecDepth 20000 in
theorem ggX7_shift_X5_empty : GoodIn wsX7_shift wsX5_empty := goodIn_r _ [56, 57, 130, 131, 132] (by decide +kernel) (by decide +kernel)
set_option maxRecDepth 20000 in
theorem gX7_shift_X5_empty : GoodIn wsX7_shift (wsV RX7 79 RX5 yX5_empty wsX5_empty) := goodIn_app (goodIn_of _ (by decide +kernel)) ggX7_shift_X5_empty
set_option maxRecDepth 20000 in
theorem ggX7_shift_X2_size : GoodIn wsX7_shift wsX2_size := goodIn_r _ [20, 21, 128, 129] (by decide +kernel) (by decide +kernel)
set_option maxRecDepth 20000 in
theorem gX7_shift_X2_size : GoodIn wsX7_shift (wsV RX7 115 RX2 yX2_size wsX2_size) := goodIn_app (goodIn_of _ (by decide +kernel)) ggX7_shift_X2_size
set_option maxRecDepth 20000 in
theorem ggX7_shift_X2_x : GoodIn wsX7_shift wsX2_x := goodIn_r _ [62, 21, 128, 129] (by decide +kernel) (by decide +kernel)
set_option maxRecDepth 20000 in
theorem gX7_shift_X2_x : GoodIn wsX7_shift (wsV RX7 118 RX2 yX2_x wsX2_x) := goodIn_app (goodIn_of _ (by decide +kernel)) ggX7_shift_X2_x
set_option maxRecDepth 20000 in
theorem ggX7_shift_X2_y : GoodIn wsX7_shift wsX2_y := goodIn_r _ [66, 21, 128, 129] (by decide +kernel) (by decide +kernel)
set_option maxRecDepth 20000 in
theorem gX7_shift_X2_y : GoodIn wsX7_shift (wsV RX7 122 RX2 yX2_y wsX2_y) := goodIn_app (goodIn_of _ (by decide +kernel)) ggX7_shift_X2_y
set_option maxRecDepth 20000 in
theorem ggX7_shift_X5_append : GoodIn wsX7_shift wsX5_append := goodIn_r _ [70, 57, 71, 72, 73, 74, 75, 55, 76, 130, 131, 132] (by decide +kernel) (by decide +kernel)
set_option maxRecDepth 20000 in
theorem gX7_shift_X5_append : GoodIn wsX7_shift (wsV RX7 75 RX5 yX5_append wsX5_append) := goodIn_app (goodIn_of _ (by decide +kernel)) ggX7_shift_X5_append
set_option maxRecDepth 20000 in
theorem ggX7_shift_X7_replace : GoodIn wsX7_shift wsX7_replace := goodIn_r _ [80, 1, 2, 81, 82, 83, 84, 85, 6, 86, 87, 88, 89, 17, 18, 19, 20, 21, 90, 60, 61, 62, 91, 64, 65, 66, 92, 93, 94, 95, 96, 97, 98, 99, 100, 101, 102, 103, 104, 105, 106, 107, 108, 109, 110, 111, 27, 28, 29, 112, 113, 114, 115, 116, 117, 118, 119, 120, 121, 122, 123, 124, 125, 126, 127, 130, 131, 132, 128, 129, 133, 134, 135, 136, 137] (by decide +kernel) (by decide +kernel)
set_option maxRecDepth 20000 in
theorem gX7_shift_X7_replace : GoodIn wsX7_shift (wsV RX7 149 RX7 yX7_replace wsX7_replace) := goodIn_app (goodIn_of _ (by decide +kernel)) ggX7_shift_X7_replace
set_option maxRecDepth 20000 in
theorem ggX7_paint_X2_has : GoodIn wsX7_paint wsX2_has := goodIn_r _ [7, 8, 55, 56] (by decide +kernel) (by decide +kernel)
set_option maxRecDepth 20000 in
theorem gX7_paint_X2_has : GoodIn wsX7_paint (wsV RX7 136 RX2 yX2_has wsX2_has) := goodIn_app (goodIn_of _ (by decide +kernel)) ggX7_paint_X2_has
set_option maxRecDepth 20000 in
theorem ggX7_paint_X7_isColor : GoodIn wsX7_paint wsX7_isColor := goodIn_r _ [12, 13, 14, 11, 15] (by decide +kernel) (by decide +kernel)
set_option maxRecDepth 20000 in
theorem gX7_paint_X7_isColor : GoodIn wsX7_paint (va_wsS RX7 97 yX7_isColor wsX7_isColor) := goodIn_app (goodIn_of _ (by decide +kernel)) ggX7_paint_X7_isColor
set_option maxRecDepth 20000 in
theorem ggX7_paint_X2_colorOf : GoodIn wsX7_paint wsX2_colorOf := goodIn_r _ [19, 20, 55, 56] (by decide +kernel) (by decide +kernel)
set_option maxRecDepth 20000 in
theorem gX7_paint_X2_colorOf : GoodIn wsX7_paint (wsV RX7 128 RX2 yX2_colorOf wsX2_colorOf) := goodIn_app (goodIn_of _ (by decide +kernel)) ggX7_paint_X2_colorOf
set_option maxRecDepth 20000 in
theorem ggX7_paint_X2_setColor : GoodIn wsX7_paint wsX2_setColor := goodIn_r _ [24, 20, 55, 56] (by decide +kernel) (by decide +kernel)
set_option maxRecDepth 20000 in
theorem gX7_paint_X2_setColor : GoodIn wsX7_paint (wsV RX7 179 RX2 yX2_setColor wsX2_setColor) := goodIn_app (goodIn_of _ (by decide +kernel)) ggX7_paint_X2_setColor
set_option maxRecDepth 20000 in
theorem ggX7_paint_X0_record : GoodIn wsX7_paint wsX0_record := goodIn_r _ [29, 30, 31, 32, 33, 34, 35, 36, 37, 38, 39, 40, 41, 42, 43, 44, 57, 58, 59, 60, 61, 55, 56] (by decide +kernel) (by decide +kernel)
set_option maxRecDepth 20000 in
theorem gX7_paint_X0_record : GoodIn wsX7_paint (wsV RX7 103 RX0 yX0_record wsX0_record) := goodIn_app (goodIn_of _ (by decide +kernel)) ggX7_paint_X0_record
set_option maxRecDepth 20000 in
theorem ggX7_remove_X2_has : GoodIn wsX7_remove wsX2_has := goodIn_r _ [8, 9, 47, 48] (by decide +kernel) (by decide +kernel)
set_option maxRecDepth 20000 in
theorem gX7_remove_X2_has : GoodIn wsX7_remove (wsV RX7 136 RX2 yX2_has wsX2_has) := goodIn_app (goodIn_of _ (by decide +kernel)) ggX7_remove_X2_has
set_option maxRecDepth 20000 in
theorem ggX7_remove_X2_drop : GoodIn wsX7_remove wsX2_drop := goodIn_r _ [13, 9, 14, 15, 16, 17, 18, 19, 5, 6, 7, 8, 47, 48] (by decide +kernel) (by decide +kernel)
set_option maxRecDepth 20000 in
theorem gX7_remove_X2_drop : GoodIn wsX7_remove (wsV RX7 164 RX2 yX2_drop wsX2_drop) := goodIn_app (goodIn_of _ (by decide +kernel)) ggX7_remove_X2_drop
set_option maxRecDepth 20000 in
theorem ggX7_remove_X0_record : GoodIn wsX7_remove wsX0_record := goodIn_r _ [24, 25, 26, 27, 28, 29, 30, 31, 32, 33, 34, 35, 36, 16, 17, 18, 49, 50, 51, 52, 53, 47, 48] (by decide +kernel) (by decide +kernel)
set_option maxRecDepth 20000 in
theorem gX7_remove_X0_record : GoodIn wsX7_remove (wsV RX7 103 RX0 yX0_record wsX0_record) := goodIn_app (goodIn_of _ (by decide +kernel)) ggX7_remove_X0_record
set_option maxRecDepth 20000 in
theorem ggX7_undo_X0_stepBack : GoodIn wsX7_undo wsX0_stepBack := goodIn_r _ [8, 9, 10, 11, 12, 13, 14, 7, 15, 16, 17, 18, 19, 20, 21, 22, 23, 34, 35, 36, 37, 38, 39, 40] (by decide +kernel) (by decide +kernel)
set_option maxRecDepth 20000 in
theorem gX7_undo_X0_stepBack : GoodIn wsX7_undo (wsV RX7 185 RX0 yX0_stepBack wsX0_stepBack) := goodIn_app (goodIn_of _ (by decide +kernel)) ggX7_undo_X0_stepBack
set_option maxRecDepth 20000 in
theorem ggX7_redo_X0_stepOn : GoodIn wsX7_redo wsX0_stepOn := goodIn_r _ [8, 9, 10, 11, 12, 13, 14, 7, 15, 16, 17, 18, 19, 20, 21, 22, 23, 34, 35, 36, 37, 38, 39, 40] (by decide +kernel) (by decide +kernel)
set_option maxRecDepth 20000 in
theorem gX7_redo_X0_stepOn : GoodIn wsX7_redo (wsV RX7 191 RX0 yX0_stepOn wsX0_stepOn) := goodIn_app (goodIn_of _ (by decide +kernel)) ggX7_redo_X0_stepOn
set_option maxRecDepth 20000 in
theorem ggX7_stroke_X2_has : GoodIn wsX7_stroke wsX2_has := goodIn_r _ [11, 12, 166, 167] (by decide +kernel) (by decide +kernel)
set_option maxRecDepth 20000 in
theorem gX7_stroke_X2_has : GoodIn wsX7_stroke (wsV RX7 136 RX2 yX2_has wsX2_has) := goodIn_app (goodIn_of _ (by decide +kernel)) ggX7_stroke_X2_has
set_option maxRecDepth 20000 in
theorem ggX7_stroke_X2_colorOf : GoodIn wsX7_stroke wsX2_colorOf := goodIn_r _ [16, 17, 166, 167] (by decide +kernel) (by decide +kernel)
set_option maxRecDepth 20000 in
theorem gX7_stroke_X2_colorOf : GoodIn wsX7_stroke (wsV RX7 128 RX2 yX2_colorOf wsX2_colorOf) := goodIn_app (goodIn_of _ (by decide +kernel)) ggX7_stroke_X2_colorOf
set_option maxRecDepth 20000 in
theorem ggX7_stroke_X2_size : GoodIn wsX7_stroke wsX2_size := goodIn_r _ [21, 17, 166, 167] (by decide +kernel) (by decide +kernel)
set_option maxRecDepth 20000 in
theorem gX7_stroke_X2_size : GoodIn wsX7_stroke (wsV RX7 115 RX2 yX2_size wsX2_size) := goodIn_app (goodIn_of _ (by decide +kernel)) ggX7_stroke_X2_size
set_option maxRecDepth 20000 in
theorem ggX7_stroke_X2_left : GoodIn wsX7_stroke wsX2_left := goodIn_r _ [25, 26, 19, 20, 10, 21, 17, 27, 28, 29, 30, 31, 32, 33, 34, 166, 167] (by decide +kernel) (by decide +kernel)
set_option maxRecDepth 20000 in
theorem gX7_stroke_X2_left : GoodIn wsX7_stroke (wsV RX7 167 RX2 yX2_left wsX2_left) := goodIn_app (goodIn_of _ (by decide +kernel)) ggX7_stroke_X2_left
set_option maxRecDepth 20000 in
theorem ggX7_stroke_X2_right : GoodIn wsX7_stroke wsX2_right := goodIn_r _ [38, 26, 19, 20, 10, 21, 17, 39, 40, 41, 42, 43, 44, 33, 45, 166, 167] (by decide +kernel) (by decide +kernel)
set_option maxRecDepth 20000 in
theorem gX7_stroke_X2_right : GoodIn wsX7_stroke (wsV RX7 170 RX2 yX2_right wsX2_right) := goodIn_app (goodIn_of _ (by decide +kernel)) ggX7_stroke_X2_right
set_option maxRecDepth 20000 in
theorem ggX7_stroke_X2_top : GoodIn wsX7_stroke wsX2_top := goodIn_r _ [49, 26, 19, 20, 10, 21, 17, 27, 28, 29, 30, 31, 32, 33, 34, 166, 167] (by decide +kernel) (by decide +kernel)
set_option maxRecDepth 20000 in
theorem gX7_stroke_X2_top : GoodIn wsX7_stroke (wsV RX7 173 RX2 yX2_top wsX2_top) := goodIn_app (goodIn_of _ (by decide +kernel)) ggX7_stroke_X2_top
set_option maxRecDepth 20000 in
theorem ggX7_stroke_X2_bottom : GoodIn wsX7_stroke wsX2_bottom := goodIn_r _ [53, 26, 19, 20, 10, 21, 17, 39, 40, 41, 42, 43, 44, 33, 45, 166, 167] (by decide +kernel) (by decide +kernel)
set_option maxRecDepth 20000 in
theorem gX7_stroke_X2_bottom : GoodIn wsX7_stroke (wsV RX7 176 RX2 yX2_bottom wsX2_bottom) := goodIn_app (goodIn_of _ (by decide +kernel)) ggX7_stroke_X2_bottom
set_option maxRecDepth 20000 in
theorem ggX7_stroke_X2_length : GoodIn wsX7_stroke wsX2_length := goodIn_r _ [57, 26, 19, 20, 10, 21, 17, 58, 59, 60, 61, 62, 63, 64, 65, 66, 67, 68, 69, 70, 166, 167] (by decide +kernel) (by decide +kernel)
set_option maxRecDepth 20000 in
theorem gX7_stroke_X2_length : GoodIn wsX7_stroke (wsV RX7 194 RX2 yX2_length wsX2_length) := goodIn_app (goodIn_of _ (by decide +kernel)) ggX7_stroke_X2_length
set_option maxRecDepth 20000 in
theorem ggX7_stroke_X7_layOut : GoodIn wsX7_stroke wsX7_layOut := goodIn_r _ [74, 2, 1, 4, 75, 76, 77, 78, 79, 80, 81, 82, 83, 84, 85, 32, 33, 34, 86, 44, 45, 87, 88, 47, 48, 10, 49, 26, 19, 20, 21, 17, 27, 28, 29, 30, 31, 89, 51, 52, 53, 39, 40, 41, 42, 43, 90, 91, 92, 93, 94, 95, 96, 97, 98, 99, 100, 101, 102, 103, 104, 105, 106, 107, 108, 109, 110, 111, 112, 113, 114, 115, 116, 117, 118, 119, 120, 121, 122, 123, 124, 125, 126, 127, 128, 129, 130, 23, 24, 25, 131, 132, 133, 134, 135, 36, 37, 38, 136, 137, 138, 139, 140, 141, 142, 143, 144, 145, 146, 147, 148, 149, 150, 151, 152, 153, 166, 167, 154, 155, 156, 157, 158, 159, 160, 161, 162, 163, 164, 165] (by decide +kernel) (by decide +kernel)
set_option maxRecDepth 20000 in
theorem gX7_stroke_X7_layOut : GoodIn wsX7_stroke (wsV RX7 196 RX7 yX7_layOut wsX7_layOut) := goodIn_app (goodIn_of _ (by decide +kernel)) ggX7_stroke_X7_layOut
set_option maxRecDepth 20000 in
theorem ggX7_point_X2_has : GoodIn wsX7_point wsX2_has := goodIn_r _ [6, 7, 35, 36] (by decide +kernel) (by decide +kernel)
set_option maxRecDepth 20000 in
theorem gX7_point_X2_has : GoodIn wsX7_point (wsV RX7 136 RX2 yX2_has wsX2_has) := goodIn_app (goodIn_of _ (by decide +kernel)) ggX7_point_X2_has
set_option maxRecDepth 20000 in
theorem ggX7_point_X2_size : GoodIn wsX7_point wsX2_size := goodIn_r _ [11, 12, 35, 36] (by decide +kernel) (by decide +kernel)
set_option maxRecDepth 20000 in
theorem gX7_point_X2_size : GoodIn wsX7_point (wsV RX7 115 RX2 yX2_size wsX2_size) := goodIn_app (goodIn_of _ (by decide +kernel)) ggX7_point_X2_size
set_option maxRecDepth 20000 in
theorem ggX7_point_X7_isWithin : GoodIn wsX7_point wsX7_isWithin := goodIn_r _ [16] (by decide +kernel) (by decide +kernel)
set_option maxRecDepth 20000 in
theorem gX7_point_X7_isWithin : GoodIn wsX7_point (va_wsS RX7 110 yX7_isWithin wsX7_isWithin) := goodIn_app (goodIn_of _ (by decide +kernel)) ggX7_point_X7_isWithin
set_option maxRecDepth 20000 in
theorem ggX7_point_X2_x : GoodIn wsX7_point wsX2_x := goodIn_r _ [20, 12, 35, 36] (by decide +kernel) (by decide +kernel)
set_option maxRecDepth 20000 in
theorem gX7_point_X2_x : GoodIn wsX7_point (wsV RX7 118 RX2 yX2_x wsX2_x) := goodIn_app (goodIn_of _ (by decide +kernel)) ggX7_point_X2_x
set_option maxRecDepth 20000 in
theorem ggX7_point_X2_y : GoodIn wsX7_point wsX2_y := goodIn_r _ [24, 12, 35, 36] (by decide +kernel) (by decide +kernel)
set_option maxRecDepth 20000 in
theorem gX7_point_X2_y : GoodIn wsX7_point (wsV RX7 122 RX2 yX2_y wsX2_y) := goodIn_app (goodIn_of _ (by decide +kernel)) ggX7_point_X2_y
set_option maxRecDepth 20000 in
theorem ggX7_read_X7_layOut : GoodIn wsX7_read wsX7_layOut := goodIn_r _ [9, 10, 1, 3, 11, 12, 13, 14, 15, 16, 17, 18, 19, 20, 21, 22, 23, 24, 25, 26, 27, 28, 29, 30, 31, 32, 33, 34, 35, 36, 37, 38, 39, 40, 41, 42, 43, 44, 45, 46, 47, 48, 49, 50, 51, 52, 53, 54, 55, 56, 57, 58, 59, 60, 61, 62, 63, 64, 65, 66, 67, 68, 69, 70, 71, 72, 73, 74, 75, 76, 77, 78, 79, 80, 81, 82, 83, 84, 85, 86, 87, 88, 89, 90, 91, 92, 93, 94, 95, 96, 97, 98, 99, 100, 101, 102, 103, 104, 105, 106, 107, 108, 109, 110, 111, 112, 113, 114, 129, 130, 131, 132, 133, 134, 135, 136, 115, 116, 117, 118, 119, 120, 121, 122, 123, 124, 125, 126, 127, 128] (by decide +kernel) (by decide +kernel)
set_option maxRecDepth 20000 in
theorem gX7_read_X7_layOut : GoodIn wsX7_read (wsV RX7 196 RX7 yX7_layOut wsX7_layOut) := goodIn_app (goodIn_of _ (by decide +kernel)) ggX7_read_X7_layOut
set_option maxRecDepth 20000 in
theorem ggX7_line_X7_layOut : GoodIn wsX7_line wsX7_layOut := goodIn_r _ [13, 1, 14, 6, 15, 16, 17, 18, 19, 20, 21, 22, 23, 24, 25, 26, 27, 28, 29, 30, 31, 32, 33, 34, 35, 36, 37, 38, 39, 40, 41, 42, 43, 44, 45, 46, 47, 48, 49, 50, 51, 52, 53, 54, 55, 56, 57, 58, 59, 60, 61, 62, 63, 64, 65, 66, 67, 68, 69, 70, 71, 72, 73, 74, 75, 76, 77, 78, 79, 80, 81, 82, 83, 84, 85, 86, 87, 88, 89, 90, 91, 92, 93, 94, 95, 96, 97, 98, 99, 100, 101, 102, 103, 104, 105, 106, 107, 108, 112, 113, 114, 115, 116, 117, 118, 119, 120, 121, 122, 123, 124, 125, 126, 127, 128, 129, 142, 143, 130, 131, 132, 133, 134, 135, 136, 137, 138, 139, 140, 141] (by decide +kernel) (by decide +kernel)
set_option maxRecDepth 20000 in
theorem gX7_line_X7_layOut : GoodIn wsX7_line (wsV RX7 196 RX7 yX7_layOut wsX7_layOut) := goodIn_app (goodIn_of _ (by decide +kernel)) ggX7_line_X7_layOut
set_option maxRecDepth 20000 in
theorem ggX7_line_X7_isWithin : GoodIn wsX7_line wsX7_isWithin := goodIn_r _ [111] (by decide +kernel) (by decide +kernel)
set_option maxRecDepth 20000 in
theorem gX7_line_X7_isWithin : GoodIn wsX7_line (va_wsS RX7 110 yX7_isWithin wsX7_isWithin) := goodIn_app (goodIn_of _ (by decide +kernel)) ggX7_line_X7_isWithin
set_option maxRecDepth 20000 in
theorem ggX7_word_X7_layOut : GoodIn wsX7_word wsX7_layOut := goodIn_r _ [12, 13, 14, 1, 15, 16, 17, 18, 19, 20, 21, 22, 23, 24, 25, 26, 27, 28, 29, 30, 31, 32, 33, 34, 35, 36, 37, 38, 39, 40, 41, 42, 43, 44, 45, 46, 47, 48, 49, 50, 51, 52, 53, 54, 55, 56, 57, 58, 59, 60, 61, 62, 63, 64, 65, 66, 67, 68, 69, 70, 71, 72, 73, 74, 75, 76, 77, 78, 79, 80, 81, 82, 83, 84, 85, 86, 87, 88, 89, 90, 91, 92, 93, 94, 95, 96, 97, 98, 99, 100, 101, 102, 103, 104, 105, 106, 107, 108, 112, 113, 114, 115, 116, 117, 118, 119, 120, 121, 134, 135, 136, 137, 138, 139, 140, 141, 142, 143, 122, 123, 124, 125, 126, 127, 128, 129, 130, 131, 132, 133] (by decide +kernel) (by decide +kernel)
set_option maxRecDepth 20000 in
theorem gX7_word_X7_layOut : GoodIn wsX7_word (wsV RX7 196 RX7 yX7_layOut wsX7_layOut) := goodIn_app (goodIn_of _ (by decide +kernel)) ggX7_word_X7_layOut
set_option maxRecDepth 20000 in
theorem ggX7_word_X7_isWithin : GoodIn wsX7_word wsX7_isWithin := goodIn_r _ [111] (by decide +kernel) (by decide +kernel)
set_option maxRecDepth 20000 in
theorem gX7_word_X7_isWithin : GoodIn wsX7_word (va_wsS RX7 110 yX7_isWithin wsX7_isWithin) := goodIn_app (goodIn_of _ (by decide +kernel)) ggX7_word_X7_isWithin
set_option maxRecDepth 20000 in
theorem ggX7_setGap_X7_isWithin : GoodIn wsX7_setGap wsX7_isWithin := goodIn_r _ [5] (by decide +kernel) (by decide +kernel)
set_option maxRecDepth 20000 in
theorem gX7_setGap_X7_isWithin : GoodIn wsX7_setGap (va_wsS RX7 110 yX7_isWithin wsX7_isWithin) := goodIn_app (goodIn_of _ (by decide +kernel)) ggX7_setGap_X7_isWithin
set_option maxRecDepth 20000 in
theorem ggX7_nearest_X7_isCoordinate : GoodIn wsX7_nearest wsX7_isCoordinate := goodIn_r _ [6, 7, 8, 5, 9] (by decide +kernel) (by decide +kernel)
set_option maxRecDepth 20000 in
theorem gX7_nearest_X7_isCoordinate : GoodIn wsX7_nearest (va_wsS RX7 68 yX7_isCoordinate wsX7_isCoordinate) := goodIn_app (goodIn_of _ (by decide +kernel)) ggX7_nearest_X7_isCoordinate
set_option maxRecDepth 20000 in
theorem ggX7_nearest_X2_size : GoodIn wsX7_nearest wsX2_size := goodIn_r _ [14, 15, 37, 38] (by decide +kernel) (by decide +kernel)
set_option maxRecDepth 20000 in
theorem gX7_nearest_X2_size : GoodIn wsX7_nearest (wsV RX7 115 RX2 yX2_size wsX2_size) := goodIn_app (goodIn_of _ (by decide +kernel)) ggX7_nearest_X2_size
set_option maxRecDepth 20000 in
theorem ggX7_nearest_X2_x : GoodIn wsX7_nearest wsX2_x := goodIn_r _ [19, 15, 37, 38] (by decide +kernel) (by decide +kernel)
set_option maxRecDepth 20000 in
theorem gX7_nearest_X2_x : GoodIn wsX7_nearest (wsV RX7 118 RX2 yX2_x wsX2_x) := goodIn_app (goodIn_of _ (by decide +kernel)) ggX7_nearest_X2_x
set_option maxRecDepth 20000 in
theorem ggX7_nearest_X2_y : GoodIn wsX7_nearest wsX2_y := goodIn_r _ [23, 15, 37, 38] (by decide +kernel) (by decide +kernel)
set_option maxRecDepth 20000 in
theorem gX7_nearest_X2_y : GoodIn wsX7_nearest (wsV RX7 122 RX2 yX2_y wsX2_y) := goodIn_app (goodIn_of _ (by decide +kernel)) ggX7_nearest_X2_y
set_option maxRecDepth 20000 in
theorem ggX7_nearest_X7_square : GoodIn wsX7_nearest wsX7_square := goodIn_r _ [26] (by decide +kernel) (by decide +kernel)
set_option maxRecDepth 20000 in
theorem gX7_nearest_X7_square : GoodIn wsX7_nearest (va_wsS RX7 125 yX7_square wsX7_square) := goodIn_app (goodIn_of _ (by decide +kernel)) ggX7_nearest_X7_square
set_option maxRecDepth 20000 in
theorem ggX7_cell_X7_isCoordinate : GoodIn wsX7_cell wsX7_isCoordinate := goodIn_r _ [6, 7, 8, 5, 9] (by decide +kernel) (by decide +kernel)
set_option maxRecDepth 20000 in
theorem gX7_cell_X7_isCoordinate : GoodIn wsX7_cell (va_wsS RX7 68 yX7_isCoordinate wsX7_isCoordinate) := goodIn_app (goodIn_of _ (by decide +kernel)) ggX7_cell_X7_isCoordinate
set_option maxRecDepth 20000 in
theorem ggX7_cell_X7_cellOf : GoodIn wsX7_cell wsX7_cellOf := goodIn_r _ [12] (by decide +kernel) (by decide +kernel)
set_option maxRecDepth 20000 in
theorem gX7_cell_X7_cellOf : GoodIn wsX7_cell (va_wsS RX7 243 yX7_cellOf wsX7_cellOf) := goodIn_app (goodIn_of _ (by decide +kernel)) ggX7_cell_X7_cellOf
set_option maxRecDepth 20000 in
theorem ggX7_cell_X2_size : GoodIn wsX7_cell wsX2_size := goodIn_r _ [17, 18, 37, 38] (by decide +kernel) (by decide +kernel)
set_option maxRecDepth 20000 in
theorem gX7_cell_X2_size : GoodIn wsX7_cell (wsV RX7 115 RX2 yX2_size wsX2_size) := goodIn_app (goodIn_of _ (by decide +kernel)) ggX7_cell_X2_size
set_option maxRecDepth 20000 in
theorem ggX7_cell_X2_x : GoodIn wsX7_cell wsX2_x := goodIn_r _ [22, 18, 37, 38] (by decide +kernel) (by decide +kernel)
set_option maxRecDepth 20000 in
theorem gX7_cell_X2_x : GoodIn wsX7_cell (wsV RX7 118 RX2 yX2_x wsX2_x) := goodIn_app (goodIn_of _ (by decide +kernel)) ggX7_cell_X2_x
set_option maxRecDepth 20000 in
theorem ggX7_cell_X2_y : GoodIn wsX7_cell wsX2_y := goodIn_r _ [26, 18, 37, 38] (by decide +kernel) (by decide +kernel)
set_option maxRecDepth 20000 in
theorem gX7_cell_X2_y : GoodIn wsX7_cell (wsV RX7 122 RX2 yX2_y wsX2_y) := goodIn_app (goodIn_of _ (by decide +kernel)) ggX7_cell_X2_y
set_option maxRecDepth 20000 in
theorem ggX7_color_X7_isColor : GoodIn wsX7_color wsX7_isColor := goodIn_r _ [7, 8, 9, 6, 10] (by decide +kernel) (by decide +kernel)
set_option maxRecDepth 20000 in
theorem gX7_color_X7_isColor : GoodIn wsX7_color (va_wsS RX7 97 yX7_isColor wsX7_isColor) := goodIn_app (goodIn_of _ (by decide +kernel)) ggX7_color_X7_isColor
set_option maxRecDepth 20000 in
theorem ggX7_color_X2_strokesOf : GoodIn wsX7_color wsX2_strokesOf := goodIn_r _ [15, 16, 17, 18, 19, 14, 20, 21, 22, 23, 24, 25, 92, 93] (by decide +kernel) (by decide +kernel)
set_option maxRecDepth 20000 in
theorem gX7_color_X2_strokesOf : GoodIn wsX7_color (wsV RX7 246 RX2 yX2_strokesOf wsX2_strokesOf) := goodIn_app (goodIn_of _ (by decide +kernel)) ggX7_color_X2_strokesOf
set_option maxRecDepth 20000 in
theorem ggX7_color_X2_pointsOf : GoodIn wsX7_color wsX2_pointsOf := goodIn_r _ [29, 16, 17, 18, 19, 14, 20, 21, 22, 23, 24, 25, 30, 31, 32, 33, 92, 93] (by decide +kernel) (by decide +kernel)
set_option maxRecDepth 20000 in
theorem gX7_color_X2_pointsOf : GoodIn wsX7_color (wsV RX7 249 RX2 yX2_pointsOf wsX2_pointsOf) := goodIn_app (goodIn_of _ (by decide +kernel)) ggX7_color_X2_pointsOf
set_option maxRecDepth 20000 in
theorem ggX7_color_X2_lengthsOf : GoodIn wsX7_color wsX2_lengthsOf := goodIn_r _ [37, 16, 17, 18, 19, 14, 20, 21, 22, 23, 24, 25, 38, 39, 40, 41, 30, 31, 32, 33, 42, 43, 44, 45, 46, 47, 48, 49, 50, 6, 51, 52, 53, 92, 93] (by decide +kernel) (by decide +kernel)
set_option maxRecDepth 20000 in
theorem gX7_color_X2_lengthsOf : GoodIn wsX7_color (wsV RX7 252 RX2 yX2_lengthsOf wsX2_lengthsOf) := goodIn_app (goodIn_of _ (by decide +kernel)) ggX7_color_X2_lengthsOf
set_option maxRecDepth 20000 in
theorem ggX7_color_X3_take : GoodIn wsX7_color wsX3_take := goodIn_r _ [58, 59, 60, 61, 62, 63, 18, 19, 14, 20, 21, 22, 23, 24, 25, 64, 31, 32, 33, 65, 43, 44, 45, 66, 47, 48, 49, 67, 6, 68, 69, 70, 71, 57, 72, 73, 74, 75, 76, 77, 88, 89, 90, 91, 92, 93] (by decide +kernel) (by decide +kernel)
set_option maxRecDepth 20000 in
theorem gX7_color_X3_take : GoodIn wsX7_color (wsV RX7 255 RX3 yX3_take wsX3_take) := goodIn_app (goodIn_of _ (by decide +kernel)) ggX7_color_X3_take
set_option maxRecDepth 20000 in
theorem ggX7_count_X2_pointsOf : GoodIn wsX7_count wsX2_pointsOf := goodIn_r _ [20, 21, 22, 23, 24, 19, 25, 26, 27, 28, 29, 30, 31, 32, 33, 34, 178, 179] (by decide +kernel) (by decide +kernel)
set_option maxRecDepth 20000 in
theorem gX7_count_X2_pointsOf : GoodIn wsX7_count (wsV RX7 249 RX2 yX2_pointsOf wsX2_pointsOf) := goodIn_app (goodIn_of _ (by decide +kernel)) ggX7_count_X2_pointsOf
set_option maxRecDepth 20000 in
theorem ggX7_count_X2_lengthsOf : GoodIn wsX7_count wsX2_lengthsOf := goodIn_r _ [38, 21, 22, 23, 24, 19, 25, 26, 27, 28, 29, 30, 39, 40, 41, 42, 31, 32, 33, 34, 43, 44, 45, 46, 47, 48, 49, 50, 51, 52, 53, 54, 55, 178, 179] (by decide +kernel) (by decide +kernel)
set_option maxRecDepth 20000 in
theorem gX7_count_X2_lengthsOf : GoodIn wsX7_count (wsV RX7 252 RX2 yX2_lengthsOf wsX2_lengthsOf) := goodIn_app (goodIn_of _ (by decide +kernel)) ggX7_count_X2_lengthsOf
set_option maxRecDepth 20000 in
theorem ggX7_count_X7_layOut : GoodIn wsX7_count wsX7_layOut := goodIn_r _ [59, 3, 1, 5, 15, 60, 61, 62, 63, 64, 65, 66, 67, 68, 69, 70, 71, 72, 73, 74, 75, 76, 77, 78, 79, 19, 80, 31, 32, 33, 34, 30, 81, 82, 83, 84, 85, 86, 87, 88, 89, 90, 91, 92, 93, 94, 95, 96, 97, 98, 99, 100, 101, 102, 103, 104, 105, 106, 107, 108, 109, 110, 111, 112, 113, 114, 115, 116, 117, 118, 119, 120, 121, 122, 123, 124, 125, 126, 127, 128, 129, 130, 131, 132, 133, 134, 135, 136, 137, 138, 139, 140, 141, 142, 143, 144, 145, 146, 168, 169, 170, 171, 172, 173, 174, 175, 176, 177, 180, 181, 182, 183, 184, 185, 186, 187, 178, 179, 188, 189, 190, 191, 192, 193, 194, 195, 196, 197, 198, 199] (by decide +kernel) (by decide +kernel)
set_option maxRecDepth 20000 in
theorem gX7_count_X7_layOut : GoodIn wsX7_count (wsV RX7 196 RX7 yX7_layOut wsX7_layOut) := goodIn_app (goodIn_of _ (by decide +kernel)) ggX7_count_X7_layOut
set_option maxRecDepth 20000 in
theorem ggX7_count_X3_take : GoodIn wsX7_count wsX3_take := goodIn_r _ [151, 152, 153, 154, 155, 156, 23, 24, 19, 25, 26, 27, 28, 29, 30, 157, 32, 33, 34, 158, 44, 45, 46, 159, 48, 49, 50, 160, 52, 161, 162, 163, 164, 150, 165, 166, 167, 74, 71, 75, 200, 201, 202, 203, 178, 179] (by decide +kernel) (by decide +kernel)
set_option maxRecDepth 20000 in
theorem gX7_count_X3_take : GoodIn wsX7_count (wsV RX7 255 RX3 yX3_take wsX3_take) := goodIn_app (goodIn_of _ (by decide +kernel)) ggX7_count_X3_take
set_option maxRecDepth 20000 in
theorem ggX7_endPart_X2_append : GoodIn wsX7_endPart wsX2_append := goodIn_r _ [8, 9, 10, 11, 12, 7, 13, 14, 15, 16, 17, 18, 19, 20, 21, 41, 42, 38, 39, 40] (by decide +kernel) (by decide +kernel)
set_option maxRecDepth 20000 in
theorem gX7_endPart_X2_append : GoodIn wsX7_endPart (wsV RX7 100 RX2 yX2_append wsX2_append) := goodIn_app (goodIn_of _ (by decide +kernel)) ggX7_endPart_X2_append
set_option maxRecDepth 20000 in
theorem ggX7_endPart_X5_empty : GoodIn wsX7_endPart wsX5_empty := goodIn_r _ [26, 27, 38, 39, 40] (by decide +kernel) (by decide +kernel)
set_option maxRecDepth 20000 in
theorem gX7_endPart_X5_empty : GoodIn wsX7_endPart (wsV RX7 79 RX5 yX5_empty wsX5_empty) := goodIn_app (goodIn_of _ (by decide +kernel)) ggX7_endPart_X5_empty
set_option maxRecDepth 20000 in
theorem ggX7_replace_X2_isSame : GoodIn wsX7_replace wsX2_isSame := goodIn_r _ [9, 10, 11, 12, 13, 14, 15, 8, 16, 17, 18, 19, 20, 21, 22, 23, 24, 25, 65, 66, 67, 68, 69] (by decide +kernel) (by decide +kernel)
set_option maxRecDepth 20000 in
theorem gX7_replace_X2_isSame : GoodIn wsX7_replace (wsV RX7 262 RX2 yX2_isSame wsX2_isSame) := goodIn_app (goodIn_of _ (by decide +kernel)) ggX7_replace_X2_isSame
set_option maxRecDepth 20000 in
theorem ggX7_replace_X2_colorOf : GoodIn wsX7_replace wsX2_colorOf := goodIn_r _ [29, 17, 68, 69] (by decide +kernel) (by decide +kernel)
set_option maxRecDepth 20000 in
theorem gX7_replace_X2_colorOf : GoodIn wsX7_replace (wsV RX7 128 RX2 yX2_colorOf wsX2_colorOf) := goodIn_app (goodIn_of _ (by decide +kernel)) ggX7_replace_X2_colorOf
set_option maxRecDepth 20000 in
theorem ggX7_replace_X2_set : GoodIn wsX7_replace wsX2_set := goodIn_r _ [33, 17, 10, 11, 34, 35, 36, 37, 12, 68, 69, 65, 66, 67] (by decide +kernel) (by decide +kernel)
set_option maxRecDepth 20000 in
theorem gX7_replace_X2_set : GoodIn wsX7_replace (wsV RX7 160 RX2 yX2_set wsX2_set) := goodIn_app (goodIn_of _ (by decide +kernel)) ggX7_replace_X2_set
set_option maxRecDepth 20000 in
theorem ggX7_replace_X0_record : GoodIn wsX7_replace wsX0_record := goodIn_r _ [42, 43, 44, 45, 46, 47, 48, 49, 50, 51, 52, 53, 54, 35, 36, 37, 70, 71, 72, 73, 74, 68, 69] (by decide +kernel) (by decide +kernel)
set_option maxRecDepth 20000 in
theorem gX7_replace_X0_record : GoodIn wsX7_replace (wsV RX7 103 RX0 yX0_record wsX0_record) := goodIn_app (goodIn_of _ (by decide +kernel)) ggX7_replace_X0_record
set_option maxRecDepth 20000 in
theorem ggX7_layOut_X1_group : GoodIn wsX7_layOut wsX1_group := goodIn_r _ [9, 10, 11, 12, 13, 14, 15, 16, 17, 18, 19, 20, 21, 22, 23, 24, 25, 26, 27, 28, 29, 30, 31, 32, 33, 34, 35, 36, 37, 38, 39, 40, 41, 42, 43, 44, 45, 46, 47, 48, 8, 49, 50, 51, 52, 53, 54, 55, 56, 57, 58, 59, 60, 61, 108, 109, 110, 111, 112, 113, 114, 115, 116, 117] (by decide +kernel) (by decide +kernel)
set_option maxRecDepth 20000 in
theorem gX7_layOut_X1_group : GoodIn wsX7_layOut (wsV RX7 265 RX1 yX1_group wsX1_group) := goodIn_app (goodIn_of _ (by decide +kernel)) ggX7_layOut_X1_group
set_option maxRecDepth 20000 in
theorem ggX7_layOut_X6_group : GoodIn wsX7_layOut wsX6_group := goodIn_r _ [66, 67, 68, 69, 70, 71, 72, 73, 74, 75, 76, 77, 78, 79, 80, 19, 16, 20, 81, 82, 83, 65, 84, 85, 86, 87, 88, 25, 89, 27, 28, 29, 30, 31, 32, 33, 34, 35, 36, 15, 17, 90, 91, 92, 93, 94, 95, 96, 97, 41, 42, 43, 44, 45, 118, 119, 120, 121, 122, 123, 124, 125, 126, 127, 128, 129, 116, 117, 108, 109, 110, 111, 112, 113, 114, 115] (by decide +kernel) (by decide +kernel)
set_option maxRecDepth 20000 in
theorem gX7_layOut_X6_group : GoodIn wsX7_layOut (wsV RX7 268 RX6 yX6_group wsX6_group) := goodIn_app (goodIn_of _ (by decide +kernel)) ggX7_layOut_X6_group
set_option maxRecDepth 20000 in
theorem ggX7_isCoordinate_X7_isWithin : GoodIn wsX7_isCoordinate wsX7_isWithin := goodIn_r _ [4] (by decide +kernel) (by decide +kernel)
set_option maxRecDepth 20000 in
theorem gX7_isCoordinate_X7_isWithin : GoodIn wsX7_isCoordinate (va_wsS RX7 110 yX7_isWithin wsX7_isWithin) := goodIn_app (goodIn_of _ (by decide +kernel)) ggX7_isCoordinate_X7_isWithin
set_option maxRecDepth 20000 in
theorem ggX7_isColor_X7_isWithin : GoodIn wsX7_isColor wsX7_isWithin := goodIn_r _ [4] (by decide +kernel) (by decide +kernel)
set_option maxRecDepth 20000 in
theorem gX7_isColor_X7_isWithin : GoodIn wsX7_isColor (va_wsS RX7 110 yX7_isWithin wsX7_isWithin) := goodIn_app (goodIn_of _ (by decide +kernel)) ggX7_isColor_X7_isWithin
