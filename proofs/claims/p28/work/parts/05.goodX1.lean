/-! words of one list among another's, by program -/
set_option maxRecDepth 20000 in
theorem ggX1_group_X2_top : GoodIn wsX1_group wsX2_top := goodIn_r _ [17, 18, 19, 20, 16, 21, 22, 23, 24, 25, 26, 27, 6, 7, 8, 62, 63] (by decide +kernel) (by decide +kernel)
set_option maxRecDepth 20000 in
theorem gX1_group_X2_top : GoodIn wsX1_group (wsV RX1 42 RX2 yX2_top wsX2_top) := goodIn_app (goodIn_of _ (by decide +kernel)) ggX1_group_X2_top
set_option maxRecDepth 20000 in
theorem ggX1_group_X2_bottom : GoodIn wsX1_group wsX2_bottom := goodIn_r _ [31, 18, 19, 20, 16, 21, 22, 32, 33, 34, 35, 36, 10, 7, 11, 62, 63] (by decide +kernel) (by decide +kernel)
set_option maxRecDepth 20000 in
theorem gX1_group_X2_bottom : GoodIn wsX1_group (wsV RX1 46 RX2 yX2_bottom wsX2_bottom) := goodIn_app (goodIn_of _ (by decide +kernel)) ggX1_group_X2_bottom
set_option maxRecDepth 20000 in
theorem ggX1_group_X1_bestFor : GoodIn wsX1_group wsX1_bestFor := goodIn_r _ [41, 1, 3, 4, 5, 6, 7, 8, 9, 10, 11, 54, 55, 56, 57, 58, 59, 60, 61] (by decide +kernel) (by decide +kernel)
set_option maxRecDepth 20000 in
theorem gX1_group_X1_bestFor : GoodIn wsX1_group (wsV RX1 49 RX1 yX1_bestFor wsX1_bestFor) := goodIn_app (goodIn_of _ (by decide +kernel)) ggX1_group_X1_bestFor
set_option maxRecDepth 20000 in
theorem ggX1_group_X1_rank : GoodIn wsX1_group wsX1_rank := goodIn_r _ [45, 1, 46, 47, 3, 48, 4, 49, 12, 50, 51, 52, 40, 53, 54, 55, 56, 57, 58, 59, 60, 61] (by decide +kernel) (by decide +kernel)
set_option maxRecDepth 20000 in
theorem gX1_group_X1_rank : GoodIn wsX1_group (wsV RX1 61 RX1 yX1_rank wsX1_rank) := goodIn_app (goodIn_of _ (by decide +kernel)) ggX1_group_X1_rank
set_option maxRecDepth 20000 in
theorem ggX1_rank_X1_isBefore : GoodIn wsX1_rank wsX1_isBefore := goodIn_r _ [13, 4, 6, 14, 15, 16, 17, 18, 19, 20, 21] (by decide +kernel) (by decide +kernel)
set_option maxRecDepth 20000 in
theorem gX1_rank_X1_isBefore : GoodIn wsX1_rank (wsV RX1 65 RX1 yX1_isBefore wsX1_isBefore) := goodIn_app (goodIn_of _ (by decide +kernel)) ggX1_rank_X1_isBefore
