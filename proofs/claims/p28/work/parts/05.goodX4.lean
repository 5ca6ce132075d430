/-! words of one list among another's, by program -/
set_option maxRecDepth 20000 in
theorem ggX4_parse_X5_empty : GoodIn wsX4_parse wsX5_empty := goodIn_r _ [7, 8, 25, 26, 27] (by decide +kernel) (by decide +kernel)
set_option maxRecDepth 20000 in
theorem gX4_parse_X5_empty : GoodIn wsX4_parse (wsV RX4 19 RX5 yX5_empty wsX5_empty) := goodIn_app (goodIn_of _ (by decide +kernel)) ggX4_parse_X5_empty
set_option maxRecDepth 20000 in
theorem ggX4_parse_X4_isDigit : GoodIn wsX4_parse wsX4_isDigit := goodIn_r _ [12] (by decide +kernel) (by decide +kernel)
set_option maxRecDepth 20000 in
theorem gX4_parse_X4_isDigit : GoodIn wsX4_parse (va_wsS RX4 24 yX4_isDigit wsX4_isDigit) := goodIn_app (goodIn_of _ (by decide +kernel)) ggX4_parse_X4_isDigit
set_option maxRecDepth 20000 in
theorem ggX4_parse_X5_append : GoodIn wsX4_parse wsX5_append := goodIn_r _ [16, 8, 17, 18, 19, 20, 21, 6, 22, 25, 26, 27] (by decide +kernel) (by decide +kernel)
set_option maxRecDepth 20000 in
theorem gX4_parse_X5_append : GoodIn wsX4_parse (wsV RX4 28 RX5 yX5_append wsX5_append) := goodIn_app (goodIn_of _ (by decide +kernel)) ggX4_parse_X5_append
