/-! words of one list among another's, by program -/
set_option maxRecDepth 20000 in
theorem ggX0_stepBack_X0_show : GoodIn wsX0_stepBack wsX0_show := goodIn_r _ [8, 9, 2, 10, 11, 12, 13, 14, 15, 16, 17, 18, 19, 20, 21, 22, 23] (by decide +kernel) (by decide +kernel)
set_option maxRecDepth 20000 in
theorem gX0_stepBack_X0_show : GoodIn wsX0_stepBack (wsV RX0 48 RX0 yX0_show wsX0_show) := goodIn_app (goodIn_of _ (by decide +kernel)) ggX0_stepBack_X0_show
set_option maxRecDepth 20000 in
theorem ggX0_stepOn_X0_show : GoodIn wsX0_stepOn wsX0_show := goodIn_r _ [8, 9, 2, 10, 11, 12, 13, 14, 15, 16, 17, 18, 19, 20, 21, 22, 23] (by decide +kernel) (by decide +kernel)
set_option maxRecDepth 20000 in
theorem gX0_stepOn_X0_show : GoodIn wsX0_stepOn (wsV RX0 48 RX0 yX0_show wsX0_show) := goodIn_app (goodIn_of _ (by decide +kernel)) ggX0_stepOn_X0_show
