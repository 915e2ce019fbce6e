set_option maxRecDepth 20000 in
theorem ggX3_init_X9_init : GoodIn wsX3_init wsX9_init := goodIn_r _ [11, 12, 2, 3, 13, 14, 15, 16, 17] (by decide +kernel) (by decide +kernel)
set_option maxRecDepth 20000 in
theorem gX3_init_X9_init : GoodIn wsX3_init (wsX9_init) := ggX3_init_X9_init
set_option maxRecDepth 20000 in
theorem ggX3_clear_X9_clear : GoodIn wsX3_clear wsX9_clear := goodIn_r _ [7, 8, 11, 12] (by decide +kernel) (by decide +kernel)
set_option maxRecDepth 20000 in
theorem gX3_clear_X9_clear : GoodIn wsX3_clear (wsV RX3 22 RX9 yX9_clear wsX9_clear) := goodIn_app (goodIn_of _ (by decide +kernel)) ggX3_clear_X9_clear
