/-! words of one list among another's, by program -/
set_option maxRecDepth 20000 in
theorem ggX5_append_X5_isLast : GoodIn wsX5_append wsX5_isLast := goodIn_r _ [8, 1, 2, 3, 9, 10, 11] (by decide +kernel) (by decide +kernel)
set_option maxRecDepth 20000 in
theorem gX5_append_X5_isLast : GoodIn wsX5_append (wsV RX5 22 RX5 yX5_isLast wsX5_isLast) := goodIn_app (goodIn_of _ (by decide +kernel)) ggX5_append_X5_isLast
set_option maxRecDepth 20000 in
theorem ggX5_take_X2_size : GoodIn wsX5_take wsX2_size := goodIn_r _ [6, 7, 30, 31] (by decide +kernel) (by decide +kernel)
set_option maxRecDepth 20000 in
theorem gX5_take_X2_size : GoodIn wsX5_take (wsV RX5 32 RX2 yX2_size wsX2_size) := goodIn_app (goodIn_of _ (by decide +kernel)) ggX5_take_X2_size
set_option maxRecDepth 20000 in
theorem ggX5_take_X2_x : GoodIn wsX5_take wsX2_x := goodIn_r _ [11, 7, 30, 31] (by decide +kernel) (by decide +kernel)
set_option maxRecDepth 20000 in
theorem gX5_take_X2_x : GoodIn wsX5_take (wsV RX5 37 RX2 yX2_x wsX2_x) := goodIn_app (goodIn_of _ (by decide +kernel)) ggX5_take_X2_x
set_option maxRecDepth 20000 in
theorem ggX5_take_X2_y : GoodIn wsX5_take wsX2_y := goodIn_r _ [15, 7, 30, 31] (by decide +kernel) (by decide +kernel)
set_option maxRecDepth 20000 in
theorem gX5_take_X2_y : GoodIn wsX5_take (wsV RX5 41 RX2 yX2_y wsX2_y) := goodIn_app (goodIn_of _ (by decide +kernel)) ggX5_take_X2_y
set_option maxRecDepth 20000 in
theorem ggX5_take_X5_append : GoodIn wsX5_take wsX5_append := goodIn_r _ [20, 1, 21, 22, 23, 24, 25, 19, 26, 27, 28, 29] (by decide +kernel) (by decide +kernel)
set_option maxRecDepth 20000 in
theorem gX5_take_X5_append : GoodIn wsX5_take (wsV RX5 44 RX5 yX5_append wsX5_append) := goodIn_app (goodIn_of _ (by decide +kernel)) ggX5_take_X5_append
set_option maxRecDepth 20000 in
theorem ggX5_dropRepeats_X5_append : GoodIn wsX5_dropRepeats wsX5_append := goodIn_r _ [8, 1, 2, 3, 9, 10, 11, 7, 12, 13, 14, 15] (by decide +kernel) (by decide +kernel)
set_option maxRecDepth 20000 in
theorem gX5_dropRepeats_X5_append : GoodIn wsX5_dropRepeats (wsV RX5 44 RX5 yX5_append wsX5_append) := goodIn_app (goodIn_of _ (by decide +kernel)) ggX5_dropRepeats_X5_append
set_option maxRecDepth 20000 in
theorem ggX5_dropNear_X7_square : GoodIn wsX5_dropNear wsX7_square := goodIn_r _ [6] (by decide +kernel) (by decide +kernel)
set_option maxRecDepth 20000 in
theorem gX5_dropNear_X7_square_n48 : GoodIn wsX5_dropNear (wsX7_square) := ggX5_dropNear_X7_square
set_option maxRecDepth 20000 in
theorem ggX5_dropNear_X5_append : GoodIn wsX5_dropNear wsX5_append := goodIn_r _ [11, 1, 2, 3, 12, 13, 14, 10, 15, 16, 17, 18] (by decide +kernel) (by decide +kernel)
set_option maxRecDepth 20000 in
theorem gX5_dropNear_X5_append : GoodIn wsX5_dropNear (wsV RX5 44 RX5 yX5_append wsX5_append) := goodIn_app (goodIn_of _ (by decide +kernel)) ggX5_dropNear_X5_append
