/-! words of one list among another's, by program -/
set_option maxRecDepth 20000 in
theorem ggX6_group_X6_setOrder : GoodIn wsX6_group wsX6_setOrder := goodIn_r _ [22, 2, 7, 23, 3, 24, 25, 26, 27, 28, 29, 30, 31, 32, 33, 34, 35, 36, 37, 38, 39, 16, 40, 41, 42, 43, 21, 44, 4, 66, 67, 54, 55, 56, 57, 58, 59, 60, 61, 62, 63, 64, 65, 68, 69, 70, 71, 72, 73, 74, 75] (by decide +kernel) (by decide +kernel)
set_option maxRecDepth 20000 in
theorem gX6_group_X6_setOrder : GoodIn wsX6_group (wsV RX6 45 RX6 yX6_setOrder wsX6_setOrder) := goodIn_app (goodIn_of _ (by decide +kernel)) ggX6_group_X6_setOrder
set_option maxRecDepth 20000 in
theorem ggX6_group_X2_right : GoodIn wsX6_group wsX2_right := goodIn_r _ [48, 29, 30, 31, 27, 32, 33, 49, 50, 51, 52, 53, 15, 16, 17, 66, 67] (by decide +kernel) (by decide +kernel)
set_option maxRecDepth 20000 in
theorem gX6_group_X2_right : GoodIn wsX6_group (wsV RX6 63 RX2 yX2_right wsX2_right) := goodIn_app (goodIn_of _ (by decide +kernel)) ggX6_group_X2_right
set_option maxRecDepth 20000 in
theorem ggX6_setOrder_X2_left : GoodIn wsX6_setOrder wsX2_left := goodIn_r _ [9, 10, 11, 12, 8, 13, 14, 15, 16, 17, 18, 19, 20, 21, 22, 29, 30] (by decide +kernel) (by decide +kernel)
set_option maxRecDepth 20000 in
theorem gX6_setOrder_X2_left : GoodIn wsX6_setOrder (wsV RX6 73 RX2 yX2_left wsX2_left) := goodIn_app (goodIn_of _ (by decide +kernel)) ggX6_setOrder_X2_left
set_option maxRecDepth 20000 in
theorem ggX6_setOrder_X6_isBefore : GoodIn wsX6_setOrder wsX6_isBefore := goodIn_r _ [27, 28, 2, 43, 44, 45, 46, 47, 48, 49, 50, 31, 32, 33, 34, 35, 36, 37, 38, 39, 40, 41, 42] (by decide +kernel) (by decide +kernel)
set_option maxRecDepth 20000 in
theorem gX6_setOrder_X6_isBefore : GoodIn wsX6_setOrder (wsV RX6 76 RX6 yX6_isBefore wsX6_isBefore) := goodIn_app (goodIn_of _ (by decide +kernel)) ggX6_setOrder_X6_isBefore
