set_option maxRecDepth 20000 in
theorem ggX7_residue_X7_isPrime : GoodIn wsX7_residue wsX7_isPrime := goodIn_r _ [9, 10] rfl (by decide +kernel)
set_option maxRecDepth 20000 in
theorem gX7_residue_X7_isPrime : GoodIn wsX7_residue (va_wsS RX7 15 yX7_isPrime wsX7_isPrime) := goodIn_app (goodIn_of _ (by decide +kernel)) ggX7_residue_X7_isPrime
set_option maxRecDepth 20000 in
theorem ggX7_residue_X7_fill : GoodIn wsX7_residue wsX7_fill := goodIn_r _ [14, 5, 15, 16, 17, 18, 19, 20, 21, 22, 23, 24, 25, 26, 27, 28, 29, 30, 31, 32, 33, 34, 35, 36, 37, 38, 39, 40, 8, 41, 54, 55, 56, 57] rfl (by decide +kernel)
set_option maxRecDepth 20000 in
theorem gX7_residue_X7_fill : GoodIn wsX7_residue (wsV RX7 19 RX7 yX7_fill wsX7_fill) := goodIn_app (goodIn_of _ (by decide +kernel)) ggX7_residue_X7_fill
set_option maxRecDepth 20000 in
theorem ggX7_residue_X7_firstRowWith : GoodIn wsX7_residue wsX7_firstRowWith := goodIn_r _ [45, 5, 57] rfl (by decide +kernel)
set_option maxRecDepth 20000 in
theorem gX7_residue_X7_firstRowWith : GoodIn wsX7_residue (wsV RX7 35 RX7 yX7_firstRowWith wsX7_firstRowWith) := goodIn_app (goodIn_of _ (by decide +kernel)) ggX7_residue_X7_firstRowWith
set_option maxRecDepth 20000 in
theorem ggX7_residue_X7_changePlaces : GoodIn wsX7_residue wsX7_changePlaces := goodIn_r _ [49, 5, 57] rfl (by decide +kernel)
set_option maxRecDepth 20000 in
theorem gX7_residue_X7_changePlaces : GoodIn wsX7_residue (wsV RX7 38 RX7 yX7_changePlaces wsX7_changePlaces) := goodIn_app (goodIn_of _ (by decide +kernel)) ggX7_residue_X7_changePlaces
set_option maxRecDepth 20000 in
theorem ggX7_residue_X7_inverse : GoodIn wsX7_residue wsX7_inverse := goodIn_r _ [41] rfl (by decide +kernel)
set_option maxRecDepth 20000 in
theorem gX7_residue_X7_inverse : GoodIn wsX7_residue (va_wsS RX7 42 yX7_inverse wsX7_inverse) := goodIn_app (goodIn_of _ (by decide +kernel)) ggX7_residue_X7_inverse
set_option maxRecDepth 20000 in
theorem ggX7_residue_X7_clearBelow : GoodIn wsX7_residue wsX7_clearBelow := goodIn_r _ [53, 5, 57] rfl (by decide +kernel)
set_option maxRecDepth 20000 in
theorem gX7_residue_X7_clearBelow : GoodIn wsX7_residue (wsV RX7 45 RX7 yX7_clearBelow wsX7_clearBelow) := goodIn_app (goodIn_of _ (by decide +kernel)) ggX7_residue_X7_clearBelow
set_option maxRecDepth 20000 in
theorem ggX7_fill_X4_denAt : GoodIn wsX7_fill wsX4_denAt := goodIn_r _ [6, 7, 8, 9, 10, 5, 11, 12, 13, 14, 15, 16, 30, 31, 32] rfl (by decide +kernel)
set_option maxRecDepth 20000 in
theorem gX7_fill_X4_denAt : GoodIn wsX7_fill (wsV RX7 49 RX4 yX4_denAt wsX4_denAt) := goodIn_app (goodIn_of _ (by decide +kernel)) ggX7_fill_X4_denAt
set_option maxRecDepth 20000 in
theorem ggX7_fill_X4_numAt : GoodIn wsX7_fill wsX4_numAt := goodIn_r _ [20, 21, 8, 9, 10, 5, 11, 12, 13, 14, 15, 16, 30, 31, 32] rfl (by decide +kernel)
set_option maxRecDepth 20000 in
theorem gX7_fill_X4_numAt : GoodIn wsX7_fill (wsV RX7 53 RX4 yX4_numAt wsX4_numAt) := goodIn_app (goodIn_of _ (by decide +kernel)) ggX7_fill_X4_numAt
set_option maxRecDepth 20000 in
theorem ggX7_fill_J9_floorMod_f86c9 : GoodIn wsX7_fill wsJ9_floorMod_f86c9 := goodIn_r _ [25] rfl (by decide +kernel)
set_option maxRecDepth 20000 in
theorem gX7_fill_J9_floorMod_f86c9 : GoodIn wsX7_fill (va_wsS RX7 56 yJ9_floorMod_f86c9 wsJ9_floorMod_f86c9) := goodIn_app (goodIn_of _ (by decide +kernel)) ggX7_fill_J9_floorMod_f86c9
set_option maxRecDepth 20000 in
theorem ggX7_fill_X7_inverse : GoodIn wsX7_fill wsX7_inverse := goodIn_r _ [29] rfl (by decide +kernel)
set_option maxRecDepth 20000 in
theorem gX7_fill_X7_inverse : GoodIn wsX7_fill (va_wsS RX7 42 yX7_inverse wsX7_inverse) := goodIn_app (goodIn_of _ (by decide +kernel)) ggX7_fill_X7_inverse
