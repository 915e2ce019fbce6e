set_option maxRecDepth 20000 in
theorem ggX8_init_X3_init : GoodIn wsX8_init wsX3_init := goodIn_r _ [19, 20, 2, 3, 21, 13, 14, 22, 23, 24, 25, 26, 27, 28, 29, 30, 63, 64, 58, 59] rfl (by decide +kernel)
set_option maxRecDepth 20000 in
theorem gX8_init_X3_init : GoodIn wsX8_init (wsX3_init) := ggX8_init_X3_init
set_option maxRecDepth 20000 in
theorem ggX8_init_X6_init : GoodIn wsX8_init wsX6_init := goodIn_r _ [33, 34, 2, 3, 35, 13, 14, 36, 37, 38, 25, 26, 27, 28, 29, 30, 39, 40, 41, 11, 42, 43, 44, 45, 46, 47, 48, 49, 50, 51, 52, 63, 64, 60, 61, 62] rfl (by decide +kernel)
set_option maxRecDepth 20000 in
theorem gX8_init_X6_init : GoodIn wsX8_init (wsX6_init) := ggX8_init_X6_init
set_option maxRecDepth 20000 in
theorem ggX8_init_X9_init : GoodIn wsX8_init wsX9_init := goodIn_r _ [26, 27, 2, 3, 28, 29, 30, 63, 64] rfl (by decide +kernel)
set_option maxRecDepth 20000 in
theorem gX8_init_X9_init : GoodIn wsX8_init (wsX9_init) := ggX8_init_X9_init
