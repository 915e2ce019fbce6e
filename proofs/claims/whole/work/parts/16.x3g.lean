set_option maxRecDepth 20000 in
theorem ggX3_init_X9_init : GoodIn wsX3_init wsX9_init := goodIn_r _ [11, 12, 2, 3, 13, 14, 15, 16, 17] (by decide +kernel) (by decide +kernel)
set_option maxRecDepth 20000 in
theorem gX3_init_X9_init : GoodIn wsX3_init (wsX9_init) := ggX3_init_X9_init
