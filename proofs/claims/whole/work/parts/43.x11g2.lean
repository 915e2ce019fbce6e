set_option maxRecDepth 20000 in
theorem ggX11_init_X11_clear : GoodIn wsX11_init wsX11_clear := goodIn_r _ [19, 20, 21, 22, 23, 18, 24, 8, 7, 25, 26, 27, 28, 6, 29, 30, 31, 32, 33, 34, 35, 36, 37, 38, 39, 40, 41, 42, 43, 44, 45, 46] rfl (by decide +kernel)
set_option maxRecDepth 20000 in
theorem gX11_init_X11_clear : GoodIn wsX11_init (wsV RX11 37 RX11 yX11_clear wsX11_clear) := goodIn_app (goodIn_of _ (by decide +kernel)) ggX11_init_X11_clear
set_option maxRecDepth 20000 in
theorem ggX11_product_X11_times : GoodIn wsX11_product wsX11_times := goodIn_r _ [6, 7, 8, 9, 10, 11, 12, 5, 13, 14, 15, 16, 17, 18, 19, 20, 21, 66, 67, 68, 69, 70, 71, 72, 73, 74, 75, 76, 77, 78, 79] rfl (by decide +kernel)
set_option maxRecDepth 20000 in
theorem gX11_product_X11_times : GoodIn wsX11_product (wsV RX11 96 RX11 yX11_times wsX11_times) := goodIn_app (goodIn_of _ (by decide +kernel)) ggX11_product_X11_times
set_option maxRecDepth 20000 in
theorem ggX11_product_X11_lowest : GoodIn wsX11_product wsX11_lowest := goodIn_r _ [25, 7, 1, 26, 27, 28, 5, 29, 30, 31, 32, 33, 9, 10, 11, 12, 13, 34, 35, 36, 37, 38, 39, 40, 41, 42, 43, 44, 45, 46, 8, 47, 48, 49, 50, 51, 52, 53, 54, 55, 56, 14, 15, 16, 17, 18, 19, 20, 21, 57, 58, 59, 60, 61, 62, 63, 64, 65, 66, 67, 68, 69, 70, 71, 72, 73, 74, 75, 76, 77, 78, 79] rfl (by decide +kernel)
set_option maxRecDepth 20000 in
theorem gX11_product_X11_lowest : GoodIn wsX11_product (wsV RX11 100 RX11 yX11_lowest wsX11_lowest) := goodIn_app (goodIn_of _ (by decide +kernel)) ggX11_product_X11_lowest
set_option maxRecDepth 20000 in
theorem ggX11_quotient_X11_times : GoodIn wsX11_quotient wsX11_times := goodIn_r _ [6, 7, 8, 9, 10, 11, 12, 5, 13, 14, 15, 16, 17, 18, 19, 20, 21, 66, 67, 68, 69, 70, 71, 72, 73, 74, 75, 76, 77, 78, 79] rfl (by decide +kernel)
set_option maxRecDepth 20000 in
theorem gX11_quotient_X11_times : GoodIn wsX11_quotient (wsV RX11 96 RX11 yX11_times wsX11_times) := goodIn_app (goodIn_of _ (by decide +kernel)) ggX11_quotient_X11_times
set_option maxRecDepth 20000 in
theorem ggX11_quotient_X11_lowest : GoodIn wsX11_quotient wsX11_lowest := goodIn_r _ [25, 7, 1, 26, 27, 28, 5, 29, 30, 31, 32, 33, 9, 10, 11, 12, 13, 34, 35, 36, 37, 38, 39, 40, 41, 42, 43, 44, 45, 46, 8, 47, 48, 49, 50, 51, 52, 53, 54, 55, 56, 14, 15, 16, 17, 18, 19, 20, 21, 57, 58, 59, 60, 61, 62, 63, 64, 65, 66, 67, 68, 69, 70, 71, 72, 73, 74, 75, 76, 77, 78, 79] rfl (by decide +kernel)
set_option maxRecDepth 20000 in
theorem gX11_quotient_X11_lowest : GoodIn wsX11_quotient (wsV RX11 100 RX11 yX11_lowest wsX11_lowest) := goodIn_app (goodIn_of _ (by decide +kernel)) ggX11_quotient_X11_lowest
set_option maxRecDepth 20000 in
theorem ggX11_sum_X11_times : GoodIn wsX11_sum wsX11_times := goodIn_r _ [6, 7, 8, 9, 10, 11, 12, 5, 13, 14, 15, 16, 17, 18, 19, 20, 21, 78, 79, 80, 81, 82, 83, 84, 85, 86, 87, 88, 89, 90, 91] rfl (by decide +kernel)
set_option maxRecDepth 20000 in
theorem gX11_sum_X11_times : GoodIn wsX11_sum (wsV RX11 96 RX11 yX11_times wsX11_times) := goodIn_app (goodIn_of _ (by decide +kernel)) ggX11_sum_X11_times
set_option maxRecDepth 20000 in
theorem ggX11_sum_X11_compare : GoodIn wsX11_sum wsX11_compare := goodIn_r _ [25, 7, 9, 11, 12, 5, 13, 78, 79, 80, 81, 82, 83, 84, 85, 86, 87, 88, 89, 90, 91] rfl (by decide +kernel)
set_option maxRecDepth 20000 in
theorem gX11_sum_X11_compare : GoodIn wsX11_sum (wsV RX11 65 RX11 yX11_compare wsX11_compare) := goodIn_app (goodIn_of _ (by decide +kernel)) ggX11_sum_X11_compare
set_option maxRecDepth 20000 in
theorem ggX11_sum_X11_add : GoodIn wsX11_sum wsX11_add := goodIn_r _ [29, 7, 8, 30, 31, 32, 33, 5, 34, 9, 11, 12, 13, 14, 15, 16, 17, 18, 19, 20, 21, 78, 79, 80, 81, 82, 83, 84, 85, 86, 87, 88, 89, 90, 91] rfl (by decide +kernel)
set_option maxRecDepth 20000 in
theorem gX11_sum_X11_add : GoodIn wsX11_sum (wsV RX11 103 RX11 yX11_add wsX11_add) := goodIn_app (goodIn_of _ (by decide +kernel)) ggX11_sum_X11_add
set_option maxRecDepth 20000 in
theorem ggX11_sum_X11_less : GoodIn wsX11_sum wsX11_less := goodIn_r _ [38, 7, 8, 30, 31, 32, 33, 5, 34, 9, 11, 12, 13, 14, 15, 16, 17, 18, 19, 20, 21, 78, 79, 80, 81, 82, 83, 84, 85, 86, 87, 88, 89, 90, 91] rfl (by decide +kernel)
set_option maxRecDepth 20000 in
theorem gX11_sum_X11_less : GoodIn wsX11_sum (wsV RX11 106 RX11 yX11_less wsX11_less) := goodIn_app (goodIn_of _ (by decide +kernel)) ggX11_sum_X11_less
set_option maxRecDepth 20000 in
theorem ggX11_sum_X11_lowest : GoodIn wsX11_sum wsX11_lowest := goodIn_r _ [42, 7, 1, 43, 44, 45, 5, 46, 47, 48, 49, 50, 9, 10, 11, 12, 13, 51, 52, 53, 54, 55, 56, 57, 58, 59, 60, 61, 62, 63, 8, 30, 64, 22, 23, 24, 25, 65, 66, 67, 68, 14, 15, 16, 17, 18, 19, 20, 21, 69, 70, 71, 72, 73, 74, 75, 76, 77, 78, 79, 80, 81, 82, 83, 84, 85, 86, 87, 88, 89, 90, 91] rfl (by decide +kernel)
set_option maxRecDepth 20000 in
theorem gX11_sum_X11_lowest : GoodIn wsX11_sum (wsV RX11 100 RX11 yX11_lowest wsX11_lowest) := goodIn_app (goodIn_of _ (by decide +kernel)) ggX11_sum_X11_lowest
set_option maxRecDepth 20000 in
theorem ggX11_isSame_X11_compare : GoodIn wsX11_isSame wsX11_compare := goodIn_r _ [6, 7, 8, 9, 10, 5, 11, 12, 13, 14, 15, 16, 17, 18, 19, 20, 21, 22, 23, 24, 25] rfl (by decide +kernel)
set_option maxRecDepth 20000 in
theorem gX11_isSame_X11_compare : GoodIn wsX11_isSame (wsV RX11 65 RX11 yX11_compare wsX11_compare) := goodIn_app (goodIn_of _ (by decide +kernel)) ggX11_isSame_X11_compare
set_option maxRecDepth 20000 in
theorem ggX11_part_X11_at : GoodIn wsX11_part wsX11_at := goodIn_r _ [7] rfl (by decide +kernel)
set_option maxRecDepth 20000 in
theorem gX11_part_X11_at : GoodIn wsX11_part (va_wsS RX11 43 yX11_at wsX11_at) := goodIn_app (goodIn_of _ (by decide +kernel)) ggX11_part_X11_at
set_option maxRecDepth 20000 in
theorem ggX11_clear_X11_zero : GoodIn wsX11_clear wsX11_zero := goodIn_r _ [6, 7, 8, 9, 10, 11, 5, 12, 13, 14, 15, 16, 17, 18, 19, 20, 21, 22, 23, 24, 25, 26, 27, 28, 29, 30, 31] rfl (by decide +kernel)
set_option maxRecDepth 20000 in
theorem gX11_clear_X11_zero : GoodIn wsX11_clear (wsV RX11 85 RX11 yX11_zero wsX11_zero) := goodIn_app (goodIn_of _ (by decide +kernel)) ggX11_clear_X11_zero
set_option maxRecDepth 20000 in
theorem ggX11_size_X11_clear : GoodIn wsX11_size wsX11_clear := goodIn_r _ [7, 8, 9, 10, 11, 6, 12, 13, 14, 15, 16, 17, 18, 19, 20, 21, 22, 23, 24, 25, 26, 27, 28, 29, 30, 31, 32, 33, 34, 35, 36, 37] rfl (by decide +kernel)
set_option maxRecDepth 20000 in
theorem gX11_size_X11_clear : GoodIn wsX11_size (wsV RX11 37 RX11 yX11_clear wsX11_clear) := goodIn_app (goodIn_of _ (by decide +kernel)) ggX11_size_X11_clear
set_option maxRecDepth 20000 in
theorem ggX11_meterOf_X11_place : GoodIn wsX11_meterOf wsX11_place := goodIn_r _ [6] rfl (by decide +kernel)
set_option maxRecDepth 20000 in
theorem gX11_meterOf_X11_place : GoodIn wsX11_meterOf (va_wsS RX11 113 yX11_place wsX11_place) := goodIn_app (goodIn_of _ (by decide +kernel)) ggX11_meterOf_X11_place
set_option maxRecDepth 20000 in
theorem ggX11_setOne_X11_put : GoodIn wsX11_setOne wsX11_put := goodIn_r _ [7, 8, 9, 10, 11, 12, 6, 13, 22, 23, 24, 25, 26, 27, 28, 29, 30, 31, 32, 33, 34, 35] rfl (by decide +kernel)
set_option maxRecDepth 20000 in
theorem gX11_setOne_X11_put : GoodIn wsX11_setOne (wsV RX11 61 RX11 yX11_put wsX11_put) := goodIn_app (goodIn_of _ (by decide +kernel)) ggX11_setOne_X11_put
set_option maxRecDepth 20000 in
theorem ggX11_setOne_X11_meterOf : GoodIn wsX11_setOne wsX11_meterOf := goodIn_r _ [17, 18, 10, 19, 20, 6, 21, 22, 23, 24, 25, 26, 27, 28, 29, 30, 31, 32, 33, 34, 35] rfl (by decide +kernel)
set_option maxRecDepth 20000 in
theorem gX11_setOne_X11_meterOf : GoodIn wsX11_setOne (wsV RX11 116 RX11 yX11_meterOf wsX11_meterOf) := goodIn_app (goodIn_of _ (by decide +kernel)) ggX11_setOne_X11_meterOf
set_option maxRecDepth 20000 in
theorem ggX11_set_X11_place : GoodIn wsX11_set wsX11_place := goodIn_r _ [6] rfl (by decide +kernel)
set_option maxRecDepth 20000 in
theorem gX11_set_X11_place : GoodIn wsX11_set (va_wsS RX11 113 yX11_place wsX11_place) := goodIn_app (goodIn_of _ (by decide +kernel)) ggX11_set_X11_place
set_option maxRecDepth 20000 in
theorem ggX11_set_X11_setOne : GoodIn wsX11_set wsX11_setOne := goodIn_r _ [10, 11, 12, 13, 14, 15, 5, 16, 17, 18, 19, 20, 21, 22, 23, 24, 25, 26, 1, 3, 4, 6, 27, 28, 29, 30, 31, 32, 33, 34, 35, 36, 37, 38, 39, 40] rfl (by decide +kernel)
set_option maxRecDepth 20000 in
theorem gX11_set_X11_setOne : GoodIn wsX11_set (wsV RX11 119 RX11 yX11_setOne wsX11_setOne) := goodIn_app (goodIn_of _ (by decide +kernel)) ggX11_set_X11_setOne
set_option maxRecDepth 20000 in
theorem ggX11_right_X11_place : GoodIn wsX11_right wsX11_place := goodIn_r _ [6] rfl (by decide +kernel)
set_option maxRecDepth 20000 in
theorem gX11_right_X11_place : GoodIn wsX11_right (va_wsS RX11 113 yX11_place wsX11_place) := goodIn_app (goodIn_of _ (by decide +kernel)) ggX11_right_X11_place
set_option maxRecDepth 20000 in
theorem ggX11_right_X11_setOne : GoodIn wsX11_right wsX11_setOne := goodIn_r _ [10, 11, 12, 13, 14, 15, 5, 16, 17, 18, 19, 20, 21, 22, 23, 24, 25, 26, 1, 3, 4, 6, 27, 28, 29, 30, 31, 32, 33, 34, 35, 36, 37, 38, 39, 40] rfl (by decide +kernel)
set_option maxRecDepth 20000 in
theorem gX11_right_X11_setOne : GoodIn wsX11_right (wsV RX11 119 RX11 yX11_setOne wsX11_setOne) := goodIn_app (goodIn_of _ (by decide +kernel)) ggX11_right_X11_setOne
set_option maxRecDepth 20000 in
theorem ggX11_exchange_X11_place : GoodIn wsX11_exchange wsX11_place := goodIn_r _ [5] rfl (by decide +kernel)
set_option maxRecDepth 20000 in
theorem gX11_exchange_X11_place : GoodIn wsX11_exchange (va_wsS RX11 113 yX11_place wsX11_place) := goodIn_app (goodIn_of _ (by decide +kernel)) ggX11_exchange_X11_place
set_option maxRecDepth 20000 in
theorem ggX11_exchange_X11_assign : GoodIn wsX11_exchange wsX11_assign := goodIn_r _ [9, 10, 11, 12, 13, 4, 14, 15, 16, 17, 18, 19, 20, 21, 22, 23, 24, 25, 26, 27, 28, 29, 30, 31, 32, 33] rfl (by decide +kernel)
set_option maxRecDepth 20000 in
theorem gX11_exchange_X11_assign : GoodIn wsX11_exchange (wsV RX11 123 RX11 yX11_assign wsX11_assign) := goodIn_app (goodIn_of _ (by decide +kernel)) ggX11_exchange_X11_assign
set_option maxRecDepth 20000 in
theorem ggX11_clearCell_X11_place : GoodIn wsX11_clearCell wsX11_place := goodIn_r _ [6] rfl (by decide +kernel)
set_option maxRecDepth 20000 in
theorem gX11_clearCell_X11_place : GoodIn wsX11_clearCell (va_wsS RX11 113 yX11_place wsX11_place) := goodIn_app (goodIn_of _ (by decide +kernel)) ggX11_clearCell_X11_place
set_option maxRecDepth 20000 in
theorem ggX11_clearCell_X11_quotient : GoodIn wsX11_clearCell wsX11_quotient := goodIn_r _ [10, 1, 11, 12, 13, 5, 14, 15, 16, 17, 18, 19, 20, 21, 22, 23, 24, 25, 26, 27, 28, 29, 30, 31, 32, 33, 34, 35, 36, 37, 38, 39, 40, 41, 42, 43, 44, 45, 46, 47, 48, 49, 50, 51, 52, 53, 54, 55, 56, 57, 58, 59, 60, 61, 62, 63, 64, 65, 66, 67, 68, 69, 70, 71, 72, 73, 98, 99, 100, 101, 102, 103, 104, 105, 106, 107, 108, 109, 110, 111] rfl (by decide +kernel)
set_option maxRecDepth 20000 in
theorem gX11_clearCell_X11_quotient : GoodIn wsX11_clearCell (wsV RX11 126 RX11 yX11_quotient wsX11_quotient) := goodIn_app (goodIn_of _ (by decide +kernel)) ggX11_clearCell_X11_quotient
set_option maxRecDepth 20000 in
theorem ggX11_clearCell_X11_product : GoodIn wsX11_clearCell wsX11_product := goodIn_r _ [77, 1, 11, 12, 13, 5, 14, 15, 16, 17, 18, 19, 20, 21, 22, 23, 24, 25, 26, 27, 28, 29, 30, 31, 32, 33, 34, 35, 36, 37, 38, 39, 40, 41, 42, 43, 44, 45, 46, 47, 48, 49, 50, 51, 52, 53, 54, 55, 56, 57, 58, 59, 60, 61, 62, 63, 64, 65, 66, 67, 68, 69, 70, 71, 72, 73, 98, 99, 100, 101, 102, 103, 104, 105, 106, 107, 108, 109, 110, 111] rfl (by decide +kernel)
set_option maxRecDepth 20000 in
theorem gX11_clearCell_X11_product : GoodIn wsX11_clearCell (wsV RX11 129 RX11 yX11_product wsX11_product) := goodIn_app (goodIn_of _ (by decide +kernel)) ggX11_clearCell_X11_product
set_option maxRecDepth 20000 in
theorem ggX11_clearCell_X11_sum : GoodIn wsX11_clearCell wsX11_sum := goodIn_r _ [81, 1, 11, 12, 13, 5, 14, 15, 16, 17, 18, 19, 20, 21, 22, 23, 24, 25, 26, 27, 28, 29, 57, 58, 59, 60, 82, 83, 84, 85, 55, 86, 87, 88, 89, 90, 91, 92, 93, 30, 31, 32, 33, 34, 35, 36, 37, 38, 39, 40, 41, 42, 43, 44, 45, 46, 47, 48, 49, 50, 51, 52, 53, 54, 56, 61, 62, 63, 64, 65, 66, 67, 68, 69, 70, 71, 72, 73, 98, 99, 100, 101, 102, 103, 104, 105, 106, 107, 108, 109, 110, 111] rfl (by decide +kernel)
set_option maxRecDepth 20000 in
theorem gX11_clearCell_X11_sum : GoodIn wsX11_clearCell (wsV RX11 132 RX11 yX11_sum wsX11_sum) := goodIn_app (goodIn_of _ (by decide +kernel)) ggX11_clearCell_X11_sum
set_option maxRecDepth 20000 in
theorem ggX11_clearCell_X11_assign : GoodIn wsX11_clearCell wsX11_assign := goodIn_r _ [97, 1, 46, 47, 48, 5, 49, 15, 17, 19, 20, 21, 98, 99, 100, 101, 102, 103, 104, 105, 106, 107, 108, 109, 110, 111] rfl (by decide +kernel)
set_option maxRecDepth 20000 in
theorem gX11_clearCell_X11_assign : GoodIn wsX11_clearCell (wsV RX11 123 RX11 yX11_assign wsX11_assign) := goodIn_app (goodIn_of _ (by decide +kernel)) ggX11_clearCell_X11_assign
set_option maxRecDepth 20000 in
theorem ggX11_eliminate_X11_assign : GoodIn wsX11_eliminate wsX11_assign := goodIn_r _ [15, 8, 16, 17, 18, 14, 19, 20, 21, 22, 23, 24, 118, 119, 120, 121, 122, 123, 124, 125, 126, 127, 128, 129, 130, 131] rfl (by decide +kernel)
set_option maxRecDepth 20000 in
theorem gX11_eliminate_X11_assign : GoodIn wsX11_eliminate (wsV RX11 123 RX11 yX11_assign wsX11_assign) := goodIn_app (goodIn_of _ (by decide +kernel)) ggX11_eliminate_X11_assign
set_option maxRecDepth 20000 in
theorem ggX11_eliminate_X11_meterOf : GoodIn wsX11_eliminate wsX11_meterOf := goodIn_r _ [28, 7, 20, 29, 30, 14, 31, 118, 119, 120, 121, 122, 123, 124, 125, 126, 127, 128, 129, 130, 131] rfl (by decide +kernel)
set_option maxRecDepth 20000 in
theorem gX11_eliminate_X11_meterOf : GoodIn wsX11_eliminate (wsV RX11 116 RX11 yX11_meterOf wsX11_meterOf) := goodIn_app (goodIn_of _ (by decide +kernel)) ggX11_eliminate_X11_meterOf
set_option maxRecDepth 20000 in
theorem ggX11_eliminate_X11_place : GoodIn wsX11_eliminate wsX11_place := goodIn_r _ [31] rfl (by decide +kernel)
set_option maxRecDepth 20000 in
theorem gX11_eliminate_X11_place : GoodIn wsX11_eliminate (va_wsS RX11 113 yX11_place wsX11_place) := goodIn_app (goodIn_of _ (by decide +kernel)) ggX11_eliminate_X11_place
set_option maxRecDepth 20000 in
theorem ggX11_eliminate_X11_exchange : GoodIn wsX11_eliminate wsX11_exchange := goodIn_r _ [35, 7, 29, 30, 14, 31, 11, 12, 13, 15, 8, 16, 17, 18, 19, 20, 21, 22, 23, 24, 118, 119, 120, 121, 122, 123, 124, 125, 126, 127, 128, 129, 130, 131] rfl (by decide +kernel)
set_option maxRecDepth 20000 in
theorem gX11_eliminate_X11_exchange : GoodIn wsX11_eliminate (wsV RX11 145 RX11 yX11_exchange wsX11_exchange) := goodIn_app (goodIn_of _ (by decide +kernel)) ggX11_eliminate_X11_exchange
set_option maxRecDepth 20000 in
theorem ggX11_eliminate_X11_clearCell : GoodIn wsX11_eliminate wsX11_clearCell := goodIn_r _ [39, 8, 7, 29, 30, 14, 31, 40, 41, 42, 43, 44, 45, 46, 47, 20, 48, 21, 49, 22, 23, 24, 50, 51, 52, 53, 54, 55, 56, 57, 58, 59, 60, 61, 62, 63, 64, 65, 66, 67, 68, 69, 70, 71, 72, 73, 16, 17, 18, 19, 74, 75, 76, 77, 78, 79, 80, 81, 82, 83, 84, 85, 86, 87, 88, 89, 90, 91, 92, 93, 94, 95, 96, 97, 98, 99, 100, 101, 102, 103, 104, 105, 106, 107, 108, 109, 110, 111, 112, 113, 114, 115, 116, 117, 11, 12, 13, 15, 118, 119, 120, 121, 122, 123, 124, 125, 126, 127, 128, 129, 130, 131] rfl (by decide +kernel)
set_option maxRecDepth 20000 in
theorem gX11_eliminate_X11_clearCell : GoodIn wsX11_eliminate (wsV RX11 148 RX11 yX11_clearCell wsX11_clearCell) := goodIn_app (goodIn_of _ (by decide +kernel)) ggX11_eliminate_X11_clearCell
set_option maxRecDepth 20000 in
theorem ggX11_eliminate_X11_zero : GoodIn wsX11_eliminate wsX11_zero := goodIn_r _ [65, 8, 20, 66, 67, 68, 14, 69, 21, 49, 22, 23, 24, 118, 119, 120, 121, 122, 123, 124, 125, 126, 127, 128, 129, 130, 131] rfl (by decide +kernel)
set_option maxRecDepth 20000 in
theorem gX11_eliminate_X11_zero : GoodIn wsX11_eliminate (wsV RX11 85 RX11 yX11_zero wsX11_zero) := goodIn_app (goodIn_of _ (by decide +kernel)) ggX11_eliminate_X11_zero
set_option maxRecDepth 20000 in
theorem ggX11_eliminate_X11_put : GoodIn wsX11_eliminate wsX11_put := goodIn_r _ [69, 21, 49, 20, 22, 23, 14, 24, 118, 119, 120, 121, 122, 123, 124, 125, 126, 127, 128, 129, 130, 131] rfl (by decide +kernel)
set_option maxRecDepth 20000 in
theorem gX11_eliminate_X11_put : GoodIn wsX11_eliminate (wsV RX11 61 RX11 yX11_put wsX11_put) := goodIn_app (goodIn_of _ (by decide +kernel)) ggX11_eliminate_X11_put
set_option maxRecDepth 20000 in
theorem ggX11_eliminate_X11_product : GoodIn wsX11_eliminate wsX11_product := goodIn_r _ [101, 8, 44, 45, 46, 14, 47, 20, 48, 21, 49, 22, 23, 24, 50, 51, 52, 53, 54, 55, 56, 57, 58, 59, 60, 61, 62, 63, 64, 65, 66, 67, 68, 69, 70, 71, 72, 73, 16, 17, 18, 19, 74, 75, 76, 77, 78, 79, 80, 81, 82, 83, 84, 85, 86, 87, 88, 89, 90, 91, 92, 93, 94, 95, 96, 97, 118, 119, 120, 121, 122, 123, 124, 125, 126, 127, 128, 129, 130, 131] rfl (by decide +kernel)
set_option maxRecDepth 20000 in
theorem gX11_eliminate_X11_product : GoodIn wsX11_eliminate (wsV RX11 129 RX11 yX11_product wsX11_product) := goodIn_app (goodIn_of _ (by decide +kernel)) ggX11_eliminate_X11_product
set_option maxRecDepth 20000 in
theorem ggX11_pivot_X11_noColumn : GoodIn wsX11_pivot wsX11_noColumn := goodIn_r _ [8, 9, 10, 11, 12, 13, 14, 15, 16, 17, 18, 19, 20, 21, 22, 23] rfl (by decide +kernel)
set_option maxRecDepth 20000 in
theorem gX11_pivot_X11_noColumn : GoodIn wsX11_pivot (wsV RX11 154 RX11 yX11_noColumn wsX11_noColumn) := goodIn_app (goodIn_of _ (by decide +kernel)) ggX11_pivot_X11_noColumn
set_option maxRecDepth 20000 in
theorem ggX11_solve_X11_zero : GoodIn wsX11_solve wsX11_zero := goodIn_r _ [7, 8, 9, 10, 11, 12, 6, 13, 14, 15, 16, 17, 18, 75, 76, 77, 78, 79, 80, 81, 82, 83, 84, 85, 86, 87, 88] rfl (by decide +kernel)
set_option maxRecDepth 20000 in
theorem gX11_solve_X11_zero : GoodIn wsX11_solve (wsV RX11 85 RX11 yX11_zero wsX11_zero) := goodIn_app (goodIn_of _ (by decide +kernel)) ggX11_solve_X11_zero
set_option maxRecDepth 20000 in
theorem ggX11_solve_X11_place : GoodIn wsX11_solve wsX11_place := goodIn_r _ [21] rfl (by decide +kernel)
set_option maxRecDepth 20000 in
theorem gX11_solve_X11_place : GoodIn wsX11_solve (va_wsS RX11 113 yX11_place wsX11_place) := goodIn_app (goodIn_of _ (by decide +kernel)) ggX11_solve_X11_place
set_option maxRecDepth 20000 in
theorem ggX11_solve_X11_quotient : GoodIn wsX11_solve wsX11_quotient := goodIn_r _ [25, 8, 26, 27, 28, 6, 29, 9, 30, 14, 15, 16, 17, 18, 31, 32, 33, 34, 35, 36, 37, 38, 39, 40, 41, 42, 3, 4, 5, 7, 10, 11, 12, 13, 43, 44, 45, 46, 47, 48, 49, 50, 51, 52, 53, 54, 55, 56, 57, 58, 59, 60, 61, 62, 63, 64, 65, 66, 67, 68, 69, 70, 71, 72, 73, 74, 75, 76, 77, 78, 79, 80, 81, 82, 83, 84, 85, 86, 87, 88] rfl (by decide +kernel)
set_option maxRecDepth 20000 in
theorem gX11_solve_X11_quotient : GoodIn wsX11_solve (wsV RX11 126 RX11 yX11_quotient wsX11_quotient) := goodIn_app (goodIn_of _ (by decide +kernel)) ggX11_solve_X11_quotient
set_option maxRecDepth 20000 in
theorem ggX11_solution_X11_noColumn : GoodIn wsX11_solution wsX11_noColumn := goodIn_r _ [8, 9, 93, 94, 95, 96, 97, 98, 99, 100, 101, 102, 103, 104, 105, 106] rfl (by decide +kernel)
set_option maxRecDepth 20000 in
theorem gX11_solution_X11_noColumn : GoodIn wsX11_solution (wsV RX11 154 RX11 yX11_noColumn wsX11_noColumn) := goodIn_app (goodIn_of _ (by decide +kernel)) ggX11_solution_X11_noColumn
set_option maxRecDepth 20000 in
theorem ggX11_solution_X11_noWhich : GoodIn wsX11_solution wsX11_noWhich := goodIn_r _ [12] rfl (by decide +kernel)
set_option maxRecDepth 20000 in
theorem gX11_solution_X11_noWhich : GoodIn wsX11_solution (va_wsS RX11 157 yX11_noWhich wsX11_noWhich) := goodIn_app (goodIn_of _ (by decide +kernel)) ggX11_solution_X11_noWhich
set_option maxRecDepth 20000 in
theorem ggX11_solution_X11_solve : GoodIn wsX11_solution wsX11_solve := goodIn_r _ [16, 17, 9, 18, 19, 20, 7, 21, 22, 23, 24, 25, 26, 27, 28, 29, 30, 31, 32, 33, 34, 35, 36, 37, 38, 39, 40, 41, 42, 43, 44, 45, 46, 47, 48, 49, 50, 51, 52, 53, 54, 55, 56, 57, 58, 59, 60, 61, 62, 63, 64, 65, 66, 67, 68, 69, 70, 71, 72, 73, 74, 75, 76, 77, 78, 79, 80, 81, 82, 83, 84, 85, 86, 87, 88, 93, 94, 95, 96, 97, 98, 99, 100, 101, 102, 103, 104, 105, 106] rfl (by decide +kernel)
set_option maxRecDepth 20000 in
theorem gX11_solution_X11_solve : GoodIn wsX11_solution (wsV RX11 160 RX11 yX11_solve wsX11_solve) := goodIn_app (goodIn_of _ (by decide +kernel)) ggX11_solution_X11_solve
set_option maxRecDepth 20000 in
theorem ggX11_solution_X11_part : GoodIn wsX11_solution wsX11_part := goodIn_r _ [92, 22, 23, 28, 30, 31, 7, 32, 93, 94, 95, 96, 97, 98, 99, 100, 101, 102, 103, 104, 105, 106] rfl (by decide +kernel)
set_option maxRecDepth 20000 in
theorem gX11_solution_X11_part : GoodIn wsX11_solution (wsV RX11 163 RX11 yX11_part wsX11_part) := goodIn_app (goodIn_of _ (by decide +kernel)) ggX11_solution_X11_part
set_option maxRecDepth 20000 in
theorem ggX11_determinant_X11_noWhich : GoodIn wsX11_determinant wsX11_noWhich := goodIn_r _ [6] rfl (by decide +kernel)
set_option maxRecDepth 20000 in
theorem gX11_determinant_X11_noWhich : GoodIn wsX11_determinant (va_wsS RX11 157 yX11_noWhich wsX11_noWhich) := goodIn_app (goodIn_of _ (by decide +kernel)) ggX11_determinant_X11_noWhich
set_option maxRecDepth 20000 in
theorem ggX11_determinant_X11_part : GoodIn wsX11_determinant wsX11_part := goodIn_r _ [10, 11, 12, 13, 14, 15, 5, 16, 17, 18, 19, 20, 21, 22, 23, 24, 25, 26, 27, 28, 29, 30] rfl (by decide +kernel)
set_option maxRecDepth 20000 in
theorem gX11_determinant_X11_part : GoodIn wsX11_determinant (wsV RX11 163 RX11 yX11_part wsX11_part) := goodIn_app (goodIn_of _ (by decide +kernel)) ggX11_determinant_X11_part
set_option maxRecDepth 20000 in
theorem ggX11_cell_X11_noCell : GoodIn wsX11_cell wsX11_noCell := goodIn_r _ [7, 8, 25, 26, 27, 28, 29, 30, 31, 32, 33, 34, 35, 36, 37, 38] rfl (by decide +kernel)
set_option maxRecDepth 20000 in
theorem gX11_cell_X11_noCell : GoodIn wsX11_cell (wsV RX11 166 RX11 yX11_noCell wsX11_noCell) := goodIn_app (goodIn_of _ (by decide +kernel)) ggX11_cell_X11_noCell
set_option maxRecDepth 20000 in
theorem ggX11_cell_X11_noWhich : GoodIn wsX11_cell wsX11_noWhich := goodIn_r _ [11] rfl (by decide +kernel)
set_option maxRecDepth 20000 in
theorem gX11_cell_X11_noWhich : GoodIn wsX11_cell (va_wsS RX11 157 yX11_noWhich wsX11_noWhich) := goodIn_app (goodIn_of _ (by decide +kernel)) ggX11_cell_X11_noWhich
set_option maxRecDepth 20000 in
theorem ggX11_cell_X11_place : GoodIn wsX11_cell wsX11_place := goodIn_r _ [14] rfl (by decide +kernel)
set_option maxRecDepth 20000 in
theorem gX11_cell_X11_place : GoodIn wsX11_cell (va_wsS RX11 113 yX11_place wsX11_place) := goodIn_app (goodIn_of _ (by decide +kernel)) ggX11_cell_X11_place
set_option maxRecDepth 20000 in
theorem ggX11_cell_X11_part : GoodIn wsX11_cell wsX11_part := goodIn_r _ [18, 19, 20, 21, 22, 23, 6, 24, 25, 26, 27, 28, 29, 30, 31, 32, 33, 34, 35, 36, 37, 38] rfl (by decide +kernel)
set_option maxRecDepth 20000 in
theorem gX11_cell_X11_part : GoodIn wsX11_cell (wsV RX11 163 RX11 yX11_part wsX11_part) := goodIn_app (goodIn_of _ (by decide +kernel)) ggX11_cell_X11_part
set_option maxRecDepth 20000 in
theorem ggX11_told_X11_noCell : GoodIn wsX11_told wsX11_noCell := goodIn_r _ [6, 7, 24, 25, 26, 27, 28, 29, 30, 31, 32, 33, 34, 35, 36, 37] rfl (by decide +kernel)
set_option maxRecDepth 20000 in
theorem gX11_told_X11_noCell : GoodIn wsX11_told (wsV RX11 166 RX11 yX11_noCell wsX11_noCell) := goodIn_app (goodIn_of _ (by decide +kernel)) ggX11_told_X11_noCell
set_option maxRecDepth 20000 in
theorem ggX11_told_X11_noWhich : GoodIn wsX11_told wsX11_noWhich := goodIn_r _ [10] rfl (by decide +kernel)
set_option maxRecDepth 20000 in
theorem gX11_told_X11_noWhich : GoodIn wsX11_told (va_wsS RX11 157 yX11_noWhich wsX11_noWhich) := goodIn_app (goodIn_of _ (by decide +kernel)) ggX11_told_X11_noWhich
set_option maxRecDepth 20000 in
theorem ggX11_told_X11_place : GoodIn wsX11_told wsX11_place := goodIn_r _ [13] rfl (by decide +kernel)
set_option maxRecDepth 20000 in
theorem gX11_told_X11_place : GoodIn wsX11_told (va_wsS RX11 113 yX11_place wsX11_place) := goodIn_app (goodIn_of _ (by decide +kernel)) ggX11_told_X11_place
set_option maxRecDepth 20000 in
theorem ggX11_told_X11_part : GoodIn wsX11_told wsX11_part := goodIn_r _ [17, 18, 19, 20, 21, 22, 5, 23, 24, 25, 26, 27, 28, 29, 30, 31, 32, 33, 34, 35, 36, 37] rfl (by decide +kernel)
set_option maxRecDepth 20000 in
theorem gX11_told_X11_part : GoodIn wsX11_told (wsV RX11 163 RX11 yX11_part wsX11_part) := goodIn_app (goodIn_of _ (by decide +kernel)) ggX11_told_X11_part
set_option maxRecDepth 20000 in
theorem ggX11_meter_X11_meterOf : GoodIn wsX11_meter wsX11_meterOf := goodIn_r _ [6, 7, 8, 9, 10, 5, 11, 12, 13, 14, 15, 16, 17, 18, 19, 20, 21, 22, 23, 24, 25] rfl (by decide +kernel)
set_option maxRecDepth 20000 in
theorem gX11_meter_X11_meterOf : GoodIn wsX11_meter (wsV RX11 116 RX11 yX11_meterOf wsX11_meterOf) := goodIn_app (goodIn_of _ (by decide +kernel)) ggX11_meter_X11_meterOf
set_option maxRecDepth 20000 in
theorem ggX11_isRight_X11_zero : GoodIn wsX11_isRight wsX11_zero := goodIn_r _ [9, 10, 11, 12, 13, 14, 8, 15, 16, 17, 18, 19, 20, 110, 111, 112, 113, 114, 115, 116, 117, 118, 119, 120, 121, 122, 123] rfl (by decide +kernel)
set_option maxRecDepth 20000 in
theorem gX11_isRight_X11_zero : GoodIn wsX11_isRight (wsV RX11 85 RX11 yX11_zero wsX11_zero) := goodIn_app (goodIn_of _ (by decide +kernel)) ggX11_isRight_X11_zero
set_option maxRecDepth 20000 in
theorem ggX11_isRight_X11_solve : GoodIn wsX11_isRight wsX11_solve := goodIn_r _ [24, 25, 1, 5, 6, 7, 8, 9, 10, 11, 12, 13, 14, 15, 16, 17, 18, 19, 20, 26, 27, 28, 29, 30, 31, 32, 33, 34, 35, 36, 37, 38, 39, 40, 41, 42, 43, 44, 45, 46, 47, 48, 49, 50, 51, 52, 53, 54, 55, 56, 57, 58, 59, 60, 61, 62, 63, 64, 65, 66, 67, 68, 69, 70, 71, 72, 73, 74, 75, 76, 77, 78, 79, 80, 81, 110, 111, 112, 113, 114, 115, 116, 117, 118, 119, 120, 121, 122, 123] rfl (by decide +kernel)
set_option maxRecDepth 20000 in
theorem gX11_isRight_X11_solve : GoodIn wsX11_isRight (wsV RX11 160 RX11 yX11_solve wsX11_solve) := goodIn_app (goodIn_of _ (by decide +kernel)) ggX11_isRight_X11_solve
set_option maxRecDepth 20000 in
theorem ggX11_isRight_X11_place : GoodIn wsX11_isRight wsX11_place := goodIn_r _ [28] rfl (by decide +kernel)
set_option maxRecDepth 20000 in
theorem gX11_isRight_X11_place : GoodIn wsX11_isRight (va_wsS RX11 113 yX11_place wsX11_place) := goodIn_app (goodIn_of _ (by decide +kernel)) ggX11_isRight_X11_place
set_option maxRecDepth 20000 in
theorem ggX11_isRight_X11_product : GoodIn wsX11_isRight wsX11_product := goodIn_r _ [85, 10, 33, 34, 35, 8, 36, 11, 37, 16, 17, 18, 19, 20, 38, 39, 40, 41, 42, 43, 44, 45, 46, 47, 48, 49, 5, 6, 7, 9, 12, 13, 14, 15, 50, 51, 52, 53, 54, 55, 56, 57, 58, 59, 60, 61, 62, 63, 64, 65, 66, 67, 68, 69, 70, 71, 72, 73, 74, 75, 76, 77, 78, 79, 80, 81, 110, 111, 112, 113, 114, 115, 116, 117, 118, 119, 120, 121, 122, 123] rfl (by decide +kernel)
set_option maxRecDepth 20000 in
theorem gX11_isRight_X11_product : GoodIn wsX11_isRight (wsV RX11 129 RX11 yX11_product wsX11_product) := goodIn_app (goodIn_of _ (by decide +kernel)) ggX11_isRight_X11_product
set_option maxRecDepth 20000 in
theorem ggX11_isRight_X11_sum : GoodIn wsX11_isRight wsX11_sum := goodIn_r _ [89, 10, 33, 34, 35, 8, 36, 11, 37, 16, 17, 18, 19, 20, 38, 39, 40, 41, 42, 43, 44, 45, 65, 66, 67, 68, 90, 91, 92, 93, 63, 94, 95, 96, 97, 98, 99, 100, 101, 46, 47, 48, 49, 5, 6, 7, 9, 12, 13, 14, 15, 50, 51, 52, 53, 54, 55, 56, 57, 58, 59, 60, 61, 62, 64, 69, 70, 71, 72, 73, 74, 75, 76, 77, 78, 79, 80, 81, 110, 111, 112, 113, 114, 115, 116, 117, 118, 119, 120, 121, 122, 123] rfl (by decide +kernel)
set_option maxRecDepth 20000 in
theorem gX11_isRight_X11_sum : GoodIn wsX11_isRight (wsV RX11 132 RX11 yX11_sum wsX11_sum) := goodIn_app (goodIn_of _ (by decide +kernel)) ggX11_isRight_X11_sum
set_option maxRecDepth 20000 in
theorem ggX11_isRight_X11_assign : GoodIn wsX11_isRight wsX11_assign := goodIn_r _ [105, 10, 54, 55, 56, 8, 57, 11, 16, 18, 19, 20, 110, 111, 112, 113, 114, 115, 116, 117, 118, 119, 120, 121, 122, 123] rfl (by decide +kernel)
set_option maxRecDepth 20000 in
theorem gX11_isRight_X11_assign : GoodIn wsX11_isRight (wsV RX11 123 RX11 yX11_assign wsX11_assign) := goodIn_app (goodIn_of _ (by decide +kernel)) ggX11_isRight_X11_assign
set_option maxRecDepth 20000 in
theorem ggX11_isRight_X11_isSame : GoodIn wsX11_isRight wsX11_isSame := goodIn_r _ [109, 10, 65, 66, 67, 8, 68, 11, 16, 18, 19, 20, 110, 111, 112, 113, 114, 115, 116, 117, 118, 119, 120, 121, 122, 123] rfl (by decide +kernel)
set_option maxRecDepth 20000 in
theorem gX11_isRight_X11_isSame : GoodIn wsX11_isRight (wsV RX11 170 RX11 yX11_isSame wsX11_isSame) := goodIn_app (goodIn_of _ (by decide +kernel)) ggX11_isRight_X11_isSame
set_option maxRecDepth 20000 in
theorem ggX11_rest_X11_at : GoodIn wsX11_rest wsX11_at := goodIn_r _ [7] rfl (by decide +kernel)
set_option maxRecDepth 20000 in
theorem gX11_rest_X11_at : GoodIn wsX11_rest (va_wsS RX11 43 yX11_at wsX11_at) := goodIn_app (goodIn_of _ (by decide +kernel)) ggX11_rest_X11_at
set_option maxRecDepth 20000 in
theorem ggX11_modulo_X11_isPrime : GoodIn wsX11_modulo wsX11_isPrime := goodIn_r _ [8, 9] rfl (by decide +kernel)
set_option maxRecDepth 20000 in
theorem gX11_modulo_X11_isPrime : GoodIn wsX11_modulo (va_wsS RX11 174 yX11_isPrime wsX11_isPrime) := goodIn_app (goodIn_of _ (by decide +kernel)) ggX11_modulo_X11_isPrime
set_option maxRecDepth 20000 in
theorem ggX11_modulo_X11_place : GoodIn wsX11_modulo wsX11_place := goodIn_r _ [12] rfl (by decide +kernel)
set_option maxRecDepth 20000 in
theorem gX11_modulo_X11_place : GoodIn wsX11_modulo (va_wsS RX11 113 yX11_place wsX11_place) := goodIn_app (goodIn_of _ (by decide +kernel)) ggX11_modulo_X11_place
set_option maxRecDepth 20000 in
theorem ggX11_modulo_X11_rest : GoodIn wsX11_modulo wsX11_rest := goodIn_r _ [16, 17, 18, 19, 20, 21, 7, 22, 26, 27, 28, 29, 30, 31, 32, 33, 34, 35, 36, 37, 38, 39] rfl (by decide +kernel)
set_option maxRecDepth 20000 in
theorem gX11_modulo_X11_rest : GoodIn wsX11_modulo (wsV RX11 177 RX11 yX11_rest wsX11_rest) := goodIn_app (goodIn_of _ (by decide +kernel)) ggX11_modulo_X11_rest
set_option maxRecDepth 20000 in
theorem ggX11_modulo_X11_power : GoodIn wsX11_modulo wsX11_power := goodIn_r _ [25] rfl (by decide +kernel)
set_option maxRecDepth 20000 in
theorem gX11_modulo_X11_power : GoodIn wsX11_modulo (va_wsS RX11 181 yX11_power wsX11_power) := goodIn_app (goodIn_of _ (by decide +kernel)) ggX11_modulo_X11_power

