set_option maxRecDepth 20000 in
theorem ggX4_init_X4_restart : GoodIn wsX4_init wsX4_restart := goodIn_r _ [11, 12, 5, 6, 13, 14, 15] (by decide +kernel) (by decide +kernel)
set_option maxRecDepth 20000 in
theorem gX4_init_X4_restart : GoodIn wsX4_init (wsV RX4 18 RX4 yX4_restart wsX4_restart) := goodIn_app (goodIn_of _ (by decide +kernel)) ggX4_init_X4_restart
set_option maxRecDepth 20000 in
theorem ggX4_hasPlace_X4_hasRow : GoodIn wsX4_hasPlace wsX4_hasRow := goodIn_r _ [6, 1, 7, 8, 9] (by decide +kernel) (by decide +kernel)
set_option maxRecDepth 20000 in
theorem gX4_hasPlace_X4_hasRow : GoodIn wsX4_hasPlace (wsV RX4 26 RX4 yX4_hasRow wsX4_hasRow) := goodIn_app (goodIn_of _ (by decide +kernel)) ggX4_hasPlace_X4_hasRow
set_option maxRecDepth 20000 in
theorem ggX4_numAt_X4_hasPlace : GoodIn wsX4_numAt wsX4_hasPlace := goodIn_r _ [6, 7, 8, 9, 10, 5, 11, 12, 13, 14] (by decide +kernel) (by decide +kernel)
set_option maxRecDepth 20000 in
theorem gX4_numAt_X4_hasPlace : GoodIn wsX4_numAt (wsV RX4 30 RX4 yX4_hasPlace wsX4_hasPlace) := goodIn_app (goodIn_of _ (by decide +kernel)) ggX4_numAt_X4_hasPlace
set_option maxRecDepth 20000 in
theorem ggX4_denAt_X4_hasPlace : GoodIn wsX4_denAt wsX4_hasPlace := goodIn_r _ [6, 7, 8, 9, 10, 5, 11, 12, 13, 14] (by decide +kernel) (by decide +kernel)
set_option maxRecDepth 20000 in
theorem gX4_denAt_X4_hasPlace : GoodIn wsX4_denAt (wsV RX4 30 RX4 yX4_hasPlace wsX4_hasPlace) := goodIn_app (goodIn_of _ (by decide +kernel)) ggX4_denAt_X4_hasPlace
set_option maxRecDepth 20000 in
theorem ggX4_put_X10_commonDivisor : GoodIn wsX4_put wsX10_commonDivisor := goodIn_r _ [9, 10] (by decide +kernel) (by decide +kernel)
set_option maxRecDepth 20000 in
theorem gX4_put_X10_commonDivisor_n40 : GoodIn wsX4_put (wsX10_commonDivisor) := ggX4_put_X10_commonDivisor
set_option maxRecDepth 20000 in
theorem ggX4_put_X4_hasPlace : GoodIn wsX4_put wsX4_hasPlace := goodIn_r _ [15, 16, 17, 18, 19, 14, 20, 21, 22, 23] (by decide +kernel) (by decide +kernel)
set_option maxRecDepth 20000 in
theorem gX4_put_X4_hasPlace : GoodIn wsX4_put (wsV RX4 30 RX4 yX4_hasPlace wsX4_hasPlace) := goodIn_app (goodIn_of _ (by decide +kernel)) ggX4_put_X4_hasPlace
set_option maxRecDepth 20000 in
theorem ggX4_show_X4_numAt : GoodIn wsX4_show wsX4_numAt := goodIn_r _ [5, 6, 7, 8, 9, 4, 10, 11, 12, 13, 14, 15, 44, 45, 46] (by decide +kernel) (by decide +kernel)
set_option maxRecDepth 20000 in
theorem gX4_show_X4_numAt : GoodIn wsX4_show (wsV RX4 44 RX4 yX4_numAt wsX4_numAt) := goodIn_app (goodIn_of _ (by decide +kernel)) ggX4_show_X4_numAt
set_option maxRecDepth 20000 in
theorem ggX4_show_X4_denAt : GoodIn wsX4_show wsX4_denAt := goodIn_r _ [19, 20, 7, 8, 9, 4, 10, 11, 12, 13, 14, 15, 44, 45, 46] (by decide +kernel) (by decide +kernel)
set_option maxRecDepth 20000 in
theorem gX4_show_X4_denAt : GoodIn wsX4_show (wsV RX4 48 RX4 yX4_denAt wsX4_denAt) := goodIn_app (goodIn_of _ (by decide +kernel)) ggX4_show_X4_denAt
set_option maxRecDepth 20000 in
theorem ggX4_show_X6_assign : GoodIn wsX4_show wsX6_assign := goodIn_r _ [25, 26, 27, 28, 29, 30, 31, 32, 33, 34, 35, 36, 37, 38, 39, 40, 41, 42, 43, 47, 48, 49, 50, 51] (by decide +kernel) (by decide +kernel)
set_option maxRecDepth 20000 in
theorem gX4_show_X6_assign : GoodIn wsX4_show (wsV RX4 51 RX6 yX6_assign wsX6_assign) := goodIn_app (goodIn_of _ (by decide +kernel)) ggX4_show_X6_assign
set_option maxRecDepth 20000 in
theorem ggX4_limbCount_X4_numAt : GoodIn wsX4_limbCount wsX4_numAt := goodIn_r _ [10, 11, 12, 13, 14, 9, 15, 1, 16, 17, 18, 19, 28, 29, 30] (by decide +kernel) (by decide +kernel)
set_option maxRecDepth 20000 in
theorem gX4_limbCount_X4_numAt : GoodIn wsX4_limbCount (wsV RX4 44 RX4 yX4_numAt wsX4_numAt) := goodIn_app (goodIn_of _ (by decide +kernel)) ggX4_limbCount_X4_numAt
set_option maxRecDepth 20000 in
theorem ggX4_limbCount_X4_limbsOf : GoodIn wsX4_limbCount wsX4_limbsOf := goodIn_r _ [22] (by decide +kernel) (by decide +kernel)
set_option maxRecDepth 20000 in
theorem gX4_limbCount_X4_limbsOf : GoodIn wsX4_limbCount (va_wsS RX4 57 yX4_limbsOf wsX4_limbsOf) := goodIn_app (goodIn_of _ (by decide +kernel)) ggX4_limbCount_X4_limbsOf
set_option maxRecDepth 20000 in
theorem ggX4_limbCount_X4_denAt : GoodIn wsX4_limbCount wsX4_denAt := goodIn_r _ [26, 27, 12, 13, 14, 9, 15, 1, 16, 17, 18, 19, 28, 29, 30] (by decide +kernel) (by decide +kernel)
set_option maxRecDepth 20000 in
theorem gX4_limbCount_X4_denAt : GoodIn wsX4_limbCount (wsV RX4 48 RX4 yX4_denAt wsX4_denAt) := goodIn_app (goodIn_of _ (by decide +kernel)) ggX4_limbCount_X4_denAt
