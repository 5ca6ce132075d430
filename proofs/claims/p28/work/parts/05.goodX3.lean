/-! words of one list among another's, by program -/
set_option maxRecDepth 20000 in
theorem ggX3_take_X2_isOf : GoodIn wsX3_take wsX2_isOf := goodIn_r _ [9, 10, 11, 12, 8, 13, 14, 44, 45] (by decide +kernel) (by decide +kernel)
set_option maxRecDepth 20000 in
theorem gX3_take_X2_isOf : GoodIn wsX3_take (wsV RX3 28 RX2 yX2_isOf wsX2_isOf) := goodIn_app (goodIn_of _ (by decide +kernel)) ggX3_take_X2_isOf
set_option maxRecDepth 20000 in
theorem ggX3_take_X2_size : GoodIn wsX3_take wsX2_size := goodIn_r _ [18, 14, 44, 45] (by decide +kernel) (by decide +kernel)
set_option maxRecDepth 20000 in
theorem gX3_take_X2_size : GoodIn wsX3_take (wsV RX3 32 RX2 yX2_size wsX2_size) := goodIn_app (goodIn_of _ (by decide +kernel)) ggX3_take_X2_size
set_option maxRecDepth 20000 in
theorem ggX3_take_X2_x : GoodIn wsX3_take wsX2_x := goodIn_r _ [22, 14, 44, 45] (by decide +kernel) (by decide +kernel)
set_option maxRecDepth 20000 in
theorem gX3_take_X2_x : GoodIn wsX3_take (wsV RX3 36 RX2 yX2_x wsX2_x) := goodIn_app (goodIn_of _ (by decide +kernel)) ggX3_take_X2_x
set_option maxRecDepth 20000 in
theorem ggX3_take_X2_y : GoodIn wsX3_take wsX2_y := goodIn_r _ [26, 14, 44, 45] (by decide +kernel) (by decide +kernel)
set_option maxRecDepth 20000 in
theorem gX3_take_X2_y : GoodIn wsX3_take (wsV RX3 40 RX2 yX2_y wsX2_y) := goodIn_app (goodIn_of _ (by decide +kernel)) ggX3_take_X2_y
set_option maxRecDepth 20000 in
theorem ggX3_take_X7_cellOf : GoodIn wsX3_take wsX7_cellOf := goodIn_r _ [29] (by decide +kernel) (by decide +kernel)
set_option maxRecDepth 20000 in
theorem gX3_take_X7_cellOf_n43 : GoodIn wsX3_take (wsX7_cellOf) := ggX3_take_X7_cellOf
set_option maxRecDepth 20000 in
theorem ggX3_take_X3_add : GoodIn wsX3_take wsX3_add := goodIn_r _ [34, 3, 35, 1, 2, 36, 37, 38, 39, 40, 41, 42, 43] (by decide +kernel) (by decide +kernel)
set_option maxRecDepth 20000 in
theorem gX3_take_X3_add : GoodIn wsX3_take (wsV RX3 48 RX3 yX3_add wsX3_add) := goodIn_app (goodIn_of _ (by decide +kernel)) ggX3_take_X3_add
