set_option maxRecDepth 20000 in
theorem ggX0_init_X1_init : GoodIn wsX0_init wsX1_init := goodIn_r _ [24, 25, 2, 3, 26, 27, 28, 50, 51] rfl (by decide +kernel)
set_option maxRecDepth 20000 in
theorem gX0_init_X1_init : GoodIn wsX0_init (wsX1_init) := ggX0_init_X1_init
set_option maxRecDepth 20000 in
theorem ggX0_init_X5_init : GoodIn wsX0_init wsX5_init := goodIn_r _ [31, 32, 2, 3, 33, 34, 13, 14, 35, 36, 37, 38, 39, 40, 41, 42, 43, 44, 45, 46, 26, 47, 48, 61, 62, 63, 64, 65, 66, 67, 68, 69, 70, 71] rfl (by decide +kernel)
set_option maxRecDepth 20000 in
theorem gX0_init_X5_init : GoodIn wsX0_init (wsX5_init) := ggX0_init_X5_init
set_option maxRecDepth 20000 in
theorem ggX0_init_X9_init : GoodIn wsX0_init wsX9_init := goodIn_r _ [45, 46, 2, 3, 26, 47, 48, 70, 71] rfl (by decide +kernel)
set_option maxRecDepth 20000 in
theorem gX0_init_X9_init : GoodIn wsX0_init (wsX9_init) := ggX0_init_X9_init
set_option maxRecDepth 20000 in
theorem ggX0_divideExactly_X1_divide : GoodIn wsX0_divideExactly wsX1_divide := goodIn_r _ [7, 8, 9, 10, 11, 12, 13, 14, 15, 16, 17, 18, 19, 20, 21, 22, 23, 24, 25, 26, 27, 28, 29, 6, 30, 31, 32, 33, 34, 35, 36, 37, 38, 39, 40, 41, 42, 43, 44, 45, 46, 47, 48, 49, 50, 51, 52, 62, 63, 64, 65] rfl (by decide +kernel)
set_option maxRecDepth 20000 in
theorem gX0_divideExactly_X1_divide : GoodIn wsX0_divideExactly (wsV RX0 54 RX1 yX1_divide wsX1_divide) := goodIn_app (goodIn_of _ (by decide +kernel)) ggX0_divideExactly_X1_divide
set_option maxRecDepth 20000 in
theorem ggX0_reduce_X5_cancel : GoodIn wsX0_reduce wsX5_cancel := goodIn_r _ [6, 7, 8, 9, 10, 11, 12, 13, 14, 15, 16, 17, 18, 19, 20, 21, 22, 23, 24, 25, 26, 27, 28, 29, 30, 31, 32, 5, 33, 34, 35, 36, 37, 38, 39, 40, 41, 42, 43, 44, 45, 46, 47, 48, 49, 50, 51, 52, 53, 54, 55, 56, 57, 58, 59, 60, 61, 62, 63, 64, 65, 66, 67, 68, 69, 70, 71, 72, 73, 74, 75, 76, 77, 78, 79, 80, 81, 82, 83, 84, 85, 86, 87, 88, 89, 90, 91, 92, 93, 94, 95, 96, 97, 98, 99, 100, 101, 102, 103, 104, 105, 106, 107, 108, 109, 124, 125, 126, 127, 128, 129, 130, 131, 132, 133, 134, 135, 136] rfl (by decide +kernel)
set_option maxRecDepth 20000 in
theorem gX0_reduce_X5_cancel : GoodIn wsX0_reduce (wsV RX0 71 RX5 yX5_cancel wsX5_cancel) := goodIn_app (goodIn_of _ (by decide +kernel)) ggX0_reduce_X5_cancel
set_option maxRecDepth 20000 in
theorem ggX0_multiplyFractions_X5_cancel : GoodIn wsX0_multiplyFractions wsX5_cancel := goodIn_r _ [10, 11, 12, 13, 14, 15, 16, 17, 18, 19, 20, 21, 22, 23, 24, 25, 26, 27, 28, 29, 30, 31, 32, 33, 34, 35, 36, 9, 37, 38, 39, 40, 41, 42, 43, 44, 45, 46, 47, 48, 49, 50, 51, 52, 53, 54, 55, 56, 57, 58, 59, 60, 61, 62, 63, 64, 65, 66, 67, 68, 69, 70, 71, 72, 73, 74, 75, 76, 77, 78, 79, 80, 81, 82, 83, 84, 85, 86, 87, 88, 89, 90, 91, 92, 93, 94, 95, 96, 97, 98, 99, 100, 101, 102, 103, 104, 105, 106, 107, 108, 109, 110, 111, 112, 113, 131, 132, 133, 134, 135, 136, 137, 138, 139, 140, 141, 142, 143] rfl (by decide +kernel)
set_option maxRecDepth 20000 in
theorem gX0_multiplyFractions_X5_cancel : GoodIn wsX0_multiplyFractions (wsV RX0 71 RX5 yX5_cancel wsX5_cancel) := goodIn_app (goodIn_of _ (by decide +kernel)) ggX0_multiplyFractions_X5_cancel
set_option maxRecDepth 20000 in
theorem ggX0_multiplyFractions_X9_multiply : GoodIn wsX0_multiplyFractions wsX9_multiply := goodIn_r _ [117, 22, 23, 109, 118, 60, 61, 20, 62, 140, 141] rfl (by decide +kernel)
set_option maxRecDepth 20000 in
theorem gX0_multiplyFractions_X9_multiply : GoodIn wsX0_multiplyFractions (wsV RX0 79 RX9 yX9_multiply wsX9_multiply) := goodIn_app (goodIn_of _ (by decide +kernel)) ggX0_multiplyFractions_X9_multiply
set_option maxRecDepth 20000 in
theorem ggX0_takeAway_X9_copyFrom : GoodIn wsX0_takeAway wsX9_copyFrom := goodIn_r _ [5, 6, 7, 8, 9, 10, 11, 33, 34] rfl (by decide +kernel)
set_option maxRecDepth 20000 in
theorem gX0_takeAway_X9_copyFrom : GoodIn wsX0_takeAway (wsV RX0 83 RX9 yX9_copyFrom wsX9_copyFrom) := goodIn_app (goodIn_of _ (by decide +kernel)) ggX0_takeAway_X9_copyFrom
set_option maxRecDepth 20000 in
theorem ggX0_takeAway_X9_add : GoodIn wsX0_takeAway wsX9_add := goodIn_r _ [15, 6, 7, 16, 17, 18, 19, 4, 20, 21, 22, 23, 24, 33, 34] rfl (by decide +kernel)
set_option maxRecDepth 20000 in
theorem gX0_takeAway_X9_add : GoodIn wsX0_takeAway (wsV RX0 87 RX9 yX9_add wsX9_add) := goodIn_app (goodIn_of _ (by decide +kernel)) ggX0_takeAway_X9_add
set_option maxRecDepth 20000 in
theorem ggX0_takeAway_X9_against : GoodIn wsX0_takeAway wsX9_against := goodIn_r _ [28, 6, 7, 33, 34] rfl (by decide +kernel)
set_option maxRecDepth 20000 in
theorem gX0_takeAway_X9_against : GoodIn wsX0_takeAway (wsV RX0 90 RX9 yX9_against wsX9_against) := goodIn_app (goodIn_of _ (by decide +kernel)) ggX0_takeAway_X9_against
set_option maxRecDepth 20000 in
theorem ggX0_takeAway_X9_subtract : GoodIn wsX0_takeAway wsX9_subtract := goodIn_r _ [32, 6, 7, 16, 17, 18, 19, 4, 20, 21, 22, 23, 24, 33, 34] rfl (by decide +kernel)
set_option maxRecDepth 20000 in
theorem gX0_takeAway_X9_subtract : GoodIn wsX0_takeAway (wsV RX0 94 RX9 yX9_subtract wsX9_subtract) := goodIn_app (goodIn_of _ (by decide +kernel)) ggX0_takeAway_X9_subtract
set_option maxRecDepth 20000 in
theorem ggX0_scaleRow_X9_assign : GoodIn wsX0_scaleRow wsX9_assign := goodIn_r _ [14, 15, 16, 17, 159, 160] rfl (by decide +kernel)
set_option maxRecDepth 20000 in
theorem gX0_scaleRow_X9_assign : GoodIn wsX0_scaleRow (wsV RX0 100 RX9 yX9_assign wsX9_assign) := goodIn_app (goodIn_of _ (by decide +kernel)) ggX0_scaleRow_X9_assign
set_option maxRecDepth 20000 in
theorem ggX0_scaleRow_X4_denAt : GoodIn wsX0_scaleRow wsX4_denAt := goodIn_r _ [22, 23, 24, 25, 26, 21, 27, 28, 29, 30, 31, 32, 145, 146, 147] rfl (by decide +kernel)
set_option maxRecDepth 20000 in
theorem gX0_scaleRow_X4_denAt : GoodIn wsX0_scaleRow (wsV RX0 109 RX4 yX4_denAt wsX4_denAt) := goodIn_app (goodIn_of _ (by decide +kernel)) ggX0_scaleRow_X4_denAt
set_option maxRecDepth 20000 in
theorem ggX0_scaleRow_X5_cancel : GoodIn wsX0_scaleRow wsX5_cancel := goodIn_r _ [37, 38, 39, 40, 41, 42, 43, 44, 45, 46, 13, 47, 15, 16, 48, 49, 50, 51, 52, 53, 54, 55, 56, 57, 58, 59, 60, 36, 61, 62, 63, 64, 65, 66, 67, 68, 69, 70, 71, 72, 73, 74, 75, 7, 8, 9, 76, 77, 78, 79, 80, 81, 82, 83, 84, 85, 86, 87, 88, 89, 90, 91, 92, 93, 94, 95, 96, 97, 98, 99, 100, 101, 102, 103, 104, 105, 106, 107, 108, 109, 110, 111, 112, 113, 114, 115, 116, 117, 118, 119, 120, 121, 122, 123, 124, 125, 126, 11, 12, 14, 17, 127, 128, 129, 130, 161, 162, 163, 164, 165, 166, 167, 168, 169, 159, 160, 170, 171] rfl (by decide +kernel)
set_option maxRecDepth 20000 in
theorem gX0_scaleRow_X5_cancel : GoodIn wsX0_scaleRow (wsV RX0 71 RX5 yX5_cancel wsX5_cancel) := goodIn_app (goodIn_of _ (by decide +kernel)) ggX0_scaleRow_X5_cancel
set_option maxRecDepth 20000 in
theorem ggX0_scaleRow_X9_multiply : GoodIn wsX0_scaleRow wsX9_multiply := goodIn_r _ [134, 15, 16, 17, 135, 81, 82, 13, 83, 159, 160] rfl (by decide +kernel)
set_option maxRecDepth 20000 in
theorem gX0_scaleRow_X9_multiply : GoodIn wsX0_scaleRow (wsV RX0 79 RX9 yX9_multiply wsX9_multiply) := goodIn_app (goodIn_of _ (by decide +kernel)) ggX0_scaleRow_X9_multiply
set_option maxRecDepth 20000 in
theorem ggX0_scaleRow_X9_copyFrom : GoodIn wsX0_scaleRow wsX9_copyFrom := goodIn_r _ [51, 15, 16, 52, 53, 54, 55, 159, 160] rfl (by decide +kernel)
set_option maxRecDepth 20000 in
theorem gX0_scaleRow_X9_copyFrom : GoodIn wsX0_scaleRow (wsV RX0 83 RX9 yX9_copyFrom wsX9_copyFrom) := goodIn_app (goodIn_of _ (by decide +kernel)) ggX0_scaleRow_X9_copyFrom
set_option maxRecDepth 20000 in
theorem ggX0_scaleRow_X4_numAt : GoodIn wsX0_scaleRow wsX4_numAt := goodIn_r _ [140, 141, 24, 25, 26, 21, 27, 28, 29, 30, 31, 32, 145, 146, 147] rfl (by decide +kernel)
set_option maxRecDepth 20000 in
theorem gX0_scaleRow_X4_numAt : GoodIn wsX0_scaleRow (wsV RX0 113 RX4 yX4_numAt wsX4_numAt) := goodIn_app (goodIn_of _ (by decide +kernel)) ggX0_scaleRow_X4_numAt
set_option maxRecDepth 20000 in
theorem ggX0_scaleRow_X10_signOf : GoodIn wsX0_scaleRow wsX10_signOf := goodIn_r _ [143] rfl (by decide +kernel)
set_option maxRecDepth 20000 in
theorem gX0_scaleRow_X10_signOf_n116 : GoodIn wsX0_scaleRow (wsX10_signOf) := ggX0_scaleRow_X10_signOf
set_option maxRecDepth 20000 in
theorem ggX0_scaleRow_X1_divide : GoodIn wsX0_scaleRow wsX1_divide := goodIn_r _ [88, 89, 90, 91, 49, 50, 13, 51, 15, 16, 52, 53, 54, 55, 92, 93, 94, 95, 56, 57, 58, 96, 97, 87, 98, 99, 100, 101, 102, 103, 104, 105, 106, 107, 108, 109, 110, 111, 112, 81, 82, 83, 113, 114, 115, 116, 117, 159, 160, 170, 171] rfl (by decide +kernel)
set_option maxRecDepth 20000 in
theorem gX0_scaleRow_X1_divide : GoodIn wsX0_scaleRow (wsV RX0 54 RX1 yX1_divide wsX1_divide) := goodIn_app (goodIn_of _ (by decide +kernel)) ggX0_scaleRow_X1_divide
