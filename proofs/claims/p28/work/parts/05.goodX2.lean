/-! words of one list among another's, by program -/
set_option maxRecDepth 20000 in
theorem ggX2_append_X2_set : GoodIn wsX2_append wsX2_set := goodIn_r _ [6, 7, 8, 9, 10, 11, 12, 13, 14, 15, 16, 17, 18, 19] (by decide +kernel) (by decide +kernel)
set_option maxRecDepth 20000 in
theorem gX2_append_X2_set : GoodIn wsX2_append (wsV RX2 36 RX2 yX2_set wsX2_set) := goodIn_app (goodIn_of _ (by decide +kernel)) ggX2_append_X2_set
set_option maxRecDepth 20000 in
theorem ggX2_drop_X2_has : GoodIn wsX2_drop wsX2_has := goodIn_r _ [11, 1, 12, 13] (by decide +kernel) (by decide +kernel)
set_option maxRecDepth 20000 in
theorem gX2_drop_X2_has : GoodIn wsX2_drop (wsV RX2 40 RX2 yX2_has wsX2_has) := goodIn_app (goodIn_of _ (by decide +kernel)) ggX2_drop_X2_has
set_option maxRecDepth 20000 in
theorem ggX2_isSame_X2_size : GoodIn wsX2_isSame wsX2_size := goodIn_r _ [8, 9, 21, 22] (by decide +kernel) (by decide +kernel)
set_option maxRecDepth 20000 in
theorem gX2_isSame_X2_size : GoodIn wsX2_isSame (wsV RX2 44 RX2 yX2_size wsX2_size) := goodIn_app (goodIn_of _ (by decide +kernel)) ggX2_isSame_X2_size
set_option maxRecDepth 20000 in
theorem ggX2_isSame_X2_x : GoodIn wsX2_isSame wsX2_x := goodIn_r _ [13, 9, 21, 22] (by decide +kernel) (by decide +kernel)
set_option maxRecDepth 20000 in
theorem gX2_isSame_X2_x : GoodIn wsX2_isSame (wsV RX2 47 RX2 yX2_x wsX2_x) := goodIn_app (goodIn_of _ (by decide +kernel)) ggX2_isSame_X2_x
set_option maxRecDepth 20000 in
theorem ggX2_isSame_X2_y : GoodIn wsX2_isSame wsX2_y := goodIn_r _ [17, 9, 21, 22] (by decide +kernel) (by decide +kernel)
set_option maxRecDepth 20000 in
theorem gX2_isSame_X2_y : GoodIn wsX2_isSame (wsV RX2 51 RX2 yX2_y wsX2_y) := goodIn_app (goodIn_of _ (by decide +kernel)) ggX2_isSame_X2_y
set_option maxRecDepth 20000 in
theorem ggX2_left_X2_size : GoodIn wsX2_left wsX2_size := goodIn_r _ [5, 6, 15, 16] (by decide +kernel) (by decide +kernel)
set_option maxRecDepth 20000 in
theorem gX2_left_X2_size : GoodIn wsX2_left (wsV RX2 44 RX2 yX2_size wsX2_size) := goodIn_app (goodIn_of _ (by decide +kernel)) ggX2_left_X2_size
set_option maxRecDepth 20000 in
theorem ggX2_left_X2_leastFrom : GoodIn wsX2_left wsX2_leastFrom := goodIn_r _ [10, 6, 11, 12, 13, 14, 15, 16] (by decide +kernel) (by decide +kernel)
set_option maxRecDepth 20000 in
theorem gX2_left_X2_leastFrom : GoodIn wsX2_left (wsV RX2 54 RX2 yX2_leastFrom wsX2_leastFrom) := goodIn_app (goodIn_of _ (by decide +kernel)) ggX2_left_X2_leastFrom
set_option maxRecDepth 20000 in
theorem ggX2_right_X2_size : GoodIn wsX2_right wsX2_size := goodIn_r _ [5, 6, 15, 16] (by decide +kernel) (by decide +kernel)
set_option maxRecDepth 20000 in
theorem gX2_right_X2_size : GoodIn wsX2_right (wsV RX2 44 RX2 yX2_size wsX2_size) := goodIn_app (goodIn_of _ (by decide +kernel)) ggX2_right_X2_size
set_option maxRecDepth 20000 in
theorem ggX2_right_X2_greatestFrom : GoodIn wsX2_right wsX2_greatestFrom := goodIn_r _ [10, 6, 11, 12, 13, 14, 15, 16] (by decide +kernel) (by decide +kernel)
set_option maxRecDepth 20000 in
theorem gX2_right_X2_greatestFrom : GoodIn wsX2_right (wsV RX2 57 RX2 yX2_greatestFrom wsX2_greatestFrom) := goodIn_app (goodIn_of _ (by decide +kernel)) ggX2_right_X2_greatestFrom
set_option maxRecDepth 20000 in
theorem ggX2_top_X2_size : GoodIn wsX2_top wsX2_size := goodIn_r _ [5, 6, 15, 16] (by decide +kernel) (by decide +kernel)
set_option maxRecDepth 20000 in
theorem gX2_top_X2_size : GoodIn wsX2_top (wsV RX2 44 RX2 yX2_size wsX2_size) := goodIn_app (goodIn_of _ (by decide +kernel)) ggX2_top_X2_size
set_option maxRecDepth 20000 in
theorem ggX2_top_X2_leastFrom : GoodIn wsX2_top wsX2_leastFrom := goodIn_r _ [10, 6, 11, 12, 13, 14, 15, 16] (by decide +kernel) (by decide +kernel)
set_option maxRecDepth 20000 in
theorem gX2_top_X2_leastFrom : GoodIn wsX2_top (wsV RX2 54 RX2 yX2_leastFrom wsX2_leastFrom) := goodIn_app (goodIn_of _ (by decide +kernel)) ggX2_top_X2_leastFrom
set_option maxRecDepth 20000 in
theorem ggX2_bottom_X2_size : GoodIn wsX2_bottom wsX2_size := goodIn_r _ [5, 6, 15, 16] (by decide +kernel) (by decide +kernel)
set_option maxRecDepth 20000 in
theorem gX2_bottom_X2_size : GoodIn wsX2_bottom (wsV RX2 44 RX2 yX2_size wsX2_size) := goodIn_app (goodIn_of _ (by decide +kernel)) ggX2_bottom_X2_size
set_option maxRecDepth 20000 in
theorem ggX2_bottom_X2_greatestFrom : GoodIn wsX2_bottom wsX2_greatestFrom := goodIn_r _ [10, 6, 11, 12, 13, 14, 15, 16] (by decide +kernel) (by decide +kernel)
set_option maxRecDepth 20000 in
theorem gX2_bottom_X2_greatestFrom : GoodIn wsX2_bottom (wsV RX2 57 RX2 yX2_greatestFrom wsX2_greatestFrom) := goodIn_app (goodIn_of _ (by decide +kernel)) ggX2_bottom_X2_greatestFrom
set_option maxRecDepth 20000 in
theorem ggX2_length_X2_size : GoodIn wsX2_length wsX2_size := goodIn_r _ [5, 6, 20, 21] (by decide +kernel) (by decide +kernel)
set_option maxRecDepth 20000 in
theorem gX2_length_X2_size : GoodIn wsX2_length (wsV RX2 44 RX2 yX2_size wsX2_size) := goodIn_app (goodIn_of _ (by decide +kernel)) ggX2_length_X2_size
set_option maxRecDepth 20000 in
theorem ggX2_length_X2_x : GoodIn wsX2_length wsX2_x := goodIn_r _ [10, 6, 20, 21] (by decide +kernel) (by decide +kernel)
set_option maxRecDepth 20000 in
theorem gX2_length_X2_x : GoodIn wsX2_length (wsV RX2 47 RX2 yX2_x wsX2_x) := goodIn_app (goodIn_of _ (by decide +kernel)) ggX2_length_X2_x
set_option maxRecDepth 20000 in
theorem ggX2_length_X2_y : GoodIn wsX2_length wsX2_y := goodIn_r _ [14, 6, 20, 21] (by decide +kernel) (by decide +kernel)
set_option maxRecDepth 20000 in
theorem gX2_length_X2_y : GoodIn wsX2_length (wsV RX2 51 RX2 yX2_y wsX2_y) := goodIn_app (goodIn_of _ (by decide +kernel)) ggX2_length_X2_y
set_option maxRecDepth 20000 in
theorem ggX2_length_X7_square : GoodIn wsX2_length wsX7_square := goodIn_r _ [17] (by decide +kernel) (by decide +kernel)
set_option maxRecDepth 20000 in
theorem gX2_length_X7_square_n68 : GoodIn wsX2_length (wsX7_square) := ggX2_length_X7_square
set_option maxRecDepth 20000 in
theorem ggX2_length_X7_root : GoodIn wsX2_length wsX7_root := goodIn_r _ [19] (by decide +kernel) (by decide +kernel)
set_option maxRecDepth 20000 in
theorem gX2_length_X7_root_n71 : GoodIn wsX2_length (wsX7_root) := ggX2_length_X7_root
set_option maxRecDepth 20000 in
theorem ggX2_isOf_X2_colorOf : GoodIn wsX2_isOf wsX2_colorOf := goodIn_r _ [5, 6, 7, 8] (by decide +kernel) (by decide +kernel)
set_option maxRecDepth 20000 in
theorem gX2_isOf_X2_colorOf : GoodIn wsX2_isOf (wsV RX2 74 RX2 yX2_colorOf wsX2_colorOf) := goodIn_app (goodIn_of _ (by decide +kernel)) ggX2_isOf_X2_colorOf
set_option maxRecDepth 20000 in
theorem ggX2_strokesOf_X2_isOf : GoodIn wsX2_strokesOf wsX2_isOf := goodIn_r _ [6, 7, 8, 9, 5, 10, 11, 12, 13] (by decide +kernel) (by decide +kernel)
set_option maxRecDepth 20000 in
theorem gX2_strokesOf_X2_isOf : GoodIn wsX2_strokesOf (wsV RX2 77 RX2 yX2_isOf wsX2_isOf) := goodIn_app (goodIn_of _ (by decide +kernel)) ggX2_strokesOf_X2_isOf
set_option maxRecDepth 20000 in
theorem ggX2_pointsOf_X2_isOf : GoodIn wsX2_pointsOf wsX2_isOf := goodIn_r _ [6, 7, 8, 9, 5, 10, 11, 16, 17] (by decide +kernel) (by decide +kernel)
set_option maxRecDepth 20000 in
theorem gX2_pointsOf_X2_isOf : GoodIn wsX2_pointsOf (wsV RX2 77 RX2 yX2_isOf wsX2_isOf) := goodIn_app (goodIn_of _ (by decide +kernel)) ggX2_pointsOf_X2_isOf
set_option maxRecDepth 20000 in
theorem ggX2_pointsOf_X2_size : GoodIn wsX2_pointsOf wsX2_size := goodIn_r _ [15, 11, 16, 17] (by decide +kernel) (by decide +kernel)
set_option maxRecDepth 20000 in
theorem gX2_pointsOf_X2_size : GoodIn wsX2_pointsOf (wsV RX2 44 RX2 yX2_size wsX2_size) := goodIn_app (goodIn_of _ (by decide +kernel)) ggX2_pointsOf_X2_size
set_option maxRecDepth 20000 in
theorem ggX2_lengthsOf_X2_isOf : GoodIn wsX2_lengthsOf wsX2_isOf := goodIn_r _ [6, 7, 8, 9, 5, 10, 11, 33, 34] (by decide +kernel) (by decide +kernel)
set_option maxRecDepth 20000 in
theorem gX2_lengthsOf_X2_isOf : GoodIn wsX2_lengthsOf (wsV RX2 77 RX2 yX2_isOf wsX2_isOf) := goodIn_app (goodIn_of _ (by decide +kernel)) ggX2_lengthsOf_X2_isOf
set_option maxRecDepth 20000 in
theorem ggX2_lengthsOf_X2_length : GoodIn wsX2_lengthsOf wsX2_length := goodIn_r _ [15, 16, 17, 18, 5, 19, 11, 20, 21, 22, 23, 24, 25, 26, 27, 28, 29, 30, 31, 32, 33, 34] (by decide +kernel) (by decide +kernel)
set_option maxRecDepth 20000 in
theorem gX2_lengthsOf_X2_length : GoodIn wsX2_lengthsOf (wsV RX2 81 RX2 yX2_length wsX2_length) := goodIn_app (goodIn_of _ (by decide +kernel)) ggX2_lengthsOf_X2_length
