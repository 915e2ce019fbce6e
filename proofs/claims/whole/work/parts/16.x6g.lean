set_option maxRecDepth 20000 in
theorem ggX6_init_X9_init : GoodIn wsX6_init wsX9_init := goodIn_r _ [11, 12, 2, 3, 13, 14, 15, 31, 32] (by decide +kernel) (by decide +kernel)
set_option maxRecDepth 20000 in
theorem gX6_init_X9_init : GoodIn wsX6_init (wsX9_init) := ggX6_init_X9_init
set_option maxRecDepth 20000 in
theorem ggX6_init_X6_clear : GoodIn wsX6_init wsX6_clear := goodIn_r _ [20, 21, 7, 8, 22, 23, 24, 6, 25, 15, 26, 27, 28, 29, 14, 30, 33, 34, 35, 31, 32] (by decide +kernel) (by decide +kernel)
set_option maxRecDepth 20000 in
theorem gX6_init_X6_clear : GoodIn wsX6_init (wsV RX6 21 RX6 yX6_clear wsX6_clear) := goodIn_app (goodIn_of _ (by decide +kernel)) ggX6_init_X6_clear
set_option maxRecDepth 20000 in
theorem ggX6_clear_X9_clear : GoodIn wsX6_clear wsX9_clear := goodIn_r _ [8, 9, 19, 20] (by decide +kernel) (by decide +kernel)
set_option maxRecDepth 20000 in
theorem gX6_clear_X9_clear : GoodIn wsX6_clear (wsV RX6 28 RX9 yX9_clear wsX9_clear) := goodIn_app (goodIn_of _ (by decide +kernel)) ggX6_clear_X9_clear
set_option maxRecDepth 20000 in
theorem ggX6_clear_X9_assign : GoodIn wsX6_clear wsX9_assign := goodIn_r _ [13, 9, 14, 15, 19, 20] (by decide +kernel) (by decide +kernel)
set_option maxRecDepth 20000 in
theorem gX6_clear_X9_assign : GoodIn wsX6_clear (wsV RX6 29 RX9 yX9_assign wsX9_assign) := goodIn_app (goodIn_of _ (by decide +kernel)) ggX6_clear_X9_assign
set_option maxRecDepth 20000 in
theorem ggX6_assign_X10_signOf : GoodIn wsX6_assign wsX10_signOf := goodIn_r _ [10] rfl (by decide +kernel)
set_option maxRecDepth 20000 in
theorem gX6_assign_X10_signOf_n33 : GoodIn wsX6_assign (wsX10_signOf) := ggX6_assign_X10_signOf
set_option maxRecDepth 20000 in
theorem ggX6_assign_X9_assign : GoodIn wsX6_assign wsX9_assign := goodIn_r _ [15, 16, 17, 18, 22, 23] rfl (by decide +kernel)
set_option maxRecDepth 20000 in
theorem gX6_assign_X9_assign : GoodIn wsX6_assign (wsV RX6 29 RX9 yX9_assign wsX9_assign) := goodIn_app (goodIn_of _ (by decide +kernel)) ggX6_assign_X9_assign
set_option maxRecDepth 20000 in
theorem ggX6_limbCount_X9_limbCount : GoodIn wsX6_limbCount wsX9_limbCount := goodIn_r _ [7, 8, 9, 10, 11, 12, 16, 17] (by decide +kernel) (by decide +kernel)
set_option maxRecDepth 20000 in
theorem gX6_limbCount_X9_limbCount : GoodIn wsX6_limbCount (wsV RX6 45 RX9 yX9_limbCount wsX9_limbCount) := goodIn_app (goodIn_of _ (by decide +kernel)) ggX6_limbCount_X9_limbCount
set_option maxRecDepth 20000 in
theorem ggX6_tell_X9_limbCount : GoodIn wsX6_tell wsX9_limbCount := goodIn_r _ [8, 9, 10, 11, 12, 13, 27, 28] (by decide +kernel) (by decide +kernel)
set_option maxRecDepth 20000 in
theorem gX6_tell_X9_limbCount : GoodIn wsX6_tell (wsV RX6 45 RX9 yX9_limbCount wsX9_limbCount) := goodIn_app (goodIn_of _ (by decide +kernel)) ggX6_tell_X9_limbCount
set_option maxRecDepth 20000 in
theorem ggX6_tell_X9_limb : GoodIn wsX6_tell wsX9_limb := goodIn_r _ [17, 18, 19, 5, 6, 7, 8, 9, 10, 11, 12, 13, 20, 21, 22, 23, 27, 28] (by decide +kernel) (by decide +kernel)
set_option maxRecDepth 20000 in
theorem gX6_tell_X9_limb : GoodIn wsX6_tell (wsV RX6 49 RX9 yX9_limb wsX9_limb) := goodIn_app (goodIn_of _ (by decide +kernel)) ggX6_tell_X9_limb
