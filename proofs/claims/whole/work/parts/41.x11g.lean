set_option maxRecDepth 20000 in
theorem ggX11_trim_X11_at : GoodIn wsX11_trim wsX11_at := goodIn_r _ [6] rfl (by decide +kernel)
set_option maxRecDepth 20000 in
theorem gX11_trim_X11_at : GoodIn wsX11_trim (va_wsS RX11 43 yX11_at wsX11_at) := goodIn_app (goodIn_of _ (by decide +kernel)) ggX11_trim_X11_at
set_option maxRecDepth 20000 in
theorem ggX11_put_X11_at : GoodIn wsX11_put wsX11_at := goodIn_r _ [7] rfl (by decide +kernel)
set_option maxRecDepth 20000 in
theorem gX11_put_X11_at : GoodIn wsX11_put (va_wsS RX11 43 yX11_at wsX11_at) := goodIn_app (goodIn_of _ (by decide +kernel)) ggX11_put_X11_at
set_option maxRecDepth 20000 in
theorem ggX11_copy_X11_at : GoodIn wsX11_copy wsX11_at := goodIn_r _ [6] rfl (by decide +kernel)
set_option maxRecDepth 20000 in
theorem gX11_copy_X11_at : GoodIn wsX11_copy (va_wsS RX11 43 yX11_at wsX11_at) := goodIn_app (goodIn_of _ (by decide +kernel)) ggX11_copy_X11_at
set_option maxRecDepth 20000 in
theorem ggX11_isOne_X11_at : GoodIn wsX11_isOne wsX11_at := goodIn_r _ [6] rfl (by decide +kernel)
set_option maxRecDepth 20000 in
theorem gX11_isOne_X11_at : GoodIn wsX11_isOne (va_wsS RX11 43 yX11_at wsX11_at) := goodIn_app (goodIn_of _ (by decide +kernel)) ggX11_isOne_X11_at
set_option maxRecDepth 20000 in
theorem ggX11_compare_X11_at : GoodIn wsX11_compare wsX11_at := goodIn_r _ [6] rfl (by decide +kernel)
set_option maxRecDepth 20000 in
theorem gX11_compare_X11_at : GoodIn wsX11_compare (va_wsS RX11 43 yX11_at wsX11_at) := goodIn_app (goodIn_of _ (by decide +kernel)) ggX11_compare_X11_at
set_option maxRecDepth 20000 in
theorem ggX11_figureOf_X11_at : GoodIn wsX11_figureOf wsX11_at := goodIn_r _ [6] rfl (by decide +kernel)
set_option maxRecDepth 20000 in
theorem gX11_figureOf_X11_at : GoodIn wsX11_figureOf (va_wsS RX11 43 yX11_at wsX11_at) := goodIn_app (goodIn_of _ (by decide +kernel)) ggX11_figureOf_X11_at
set_option maxRecDepth 20000 in
theorem ggX11_add_X11_figureOf : GoodIn wsX11_add wsX11_figureOf := goodIn_r _ [8, 1, 9, 10, 11, 7, 12, 21, 22, 23, 24, 25, 26, 27, 28, 29, 30, 31, 32, 33, 34] rfl (by decide +kernel)
set_option maxRecDepth 20000 in
theorem gX11_add_X11_figureOf : GoodIn wsX11_add (wsV RX11 49 RX11 yX11_figureOf wsX11_figureOf) := goodIn_app (goodIn_of _ (by decide +kernel)) ggX11_add_X11_figureOf
set_option maxRecDepth 20000 in
theorem ggX11_add_X11_take : GoodIn wsX11_add wsX11_take := goodIn_r _ [16, 9, 2, 10, 11, 7, 12, 17, 18, 19, 20, 1, 21, 22, 23, 24, 25, 26, 27, 28, 29, 30, 31, 32, 33, 34] rfl (by decide +kernel)
set_option maxRecDepth 20000 in
theorem gX11_add_X11_take : GoodIn wsX11_add (wsV RX11 54 RX11 yX11_take wsX11_take) := goodIn_app (goodIn_of _ (by decide +kernel)) ggX11_add_X11_take
set_option maxRecDepth 20000 in
theorem ggX11_less_X11_figureOf : GoodIn wsX11_less wsX11_figureOf := goodIn_r _ [8, 1, 9, 10, 11, 7, 12, 21, 22, 23, 24, 25, 26, 27, 28, 29, 30, 31, 32, 33, 34] rfl (by decide +kernel)
set_option maxRecDepth 20000 in
theorem gX11_less_X11_figureOf : GoodIn wsX11_less (wsV RX11 49 RX11 yX11_figureOf wsX11_figureOf) := goodIn_app (goodIn_of _ (by decide +kernel)) ggX11_less_X11_figureOf
set_option maxRecDepth 20000 in
theorem ggX11_less_X11_take : GoodIn wsX11_less wsX11_take := goodIn_r _ [16, 9, 2, 10, 11, 7, 12, 17, 18, 19, 20, 1, 21, 22, 23, 24, 25, 26, 27, 28, 29, 30, 31, 32, 33, 34] rfl (by decide +kernel)
set_option maxRecDepth 20000 in
theorem gX11_less_X11_take : GoodIn wsX11_less (wsV RX11 54 RX11 yX11_take wsX11_take) := goodIn_app (goodIn_of _ (by decide +kernel)) ggX11_less_X11_take
set_option maxRecDepth 20000 in
theorem ggX11_take_X11_at : GoodIn wsX11_take wsX11_at := goodIn_r _ [6] rfl (by decide +kernel)
set_option maxRecDepth 20000 in
theorem gX11_take_X11_at : GoodIn wsX11_take (va_wsS RX11 43 yX11_at wsX11_at) := goodIn_app (goodIn_of _ (by decide +kernel)) ggX11_take_X11_at
set_option maxRecDepth 20000 in
theorem ggX11_take_X11_trim : GoodIn wsX11_take wsX11_trim := goodIn_r _ [10, 1, 11, 3, 4, 5, 6, 12, 13, 14, 15, 16, 17, 18, 19, 20, 21, 22, 23, 24, 25] rfl (by decide +kernel)
set_option maxRecDepth 20000 in
theorem gX11_take_X11_trim : GoodIn wsX11_take (wsV RX11 58 RX11 yX11_trim wsX11_trim) := goodIn_app (goodIn_of _ (by decide +kernel)) ggX11_take_X11_trim
set_option maxRecDepth 20000 in
theorem ggX11_times_X11_at : GoodIn wsX11_times wsX11_at := goodIn_r _ [8] rfl (by decide +kernel)
set_option maxRecDepth 20000 in
theorem gX11_times_X11_at : GoodIn wsX11_times (va_wsS RX11 43 yX11_at wsX11_at) := goodIn_app (goodIn_of _ (by decide +kernel)) ggX11_times_X11_at
set_option maxRecDepth 20000 in
theorem ggX11_times_X11_take : GoodIn wsX11_times wsX11_take := goodIn_r _ [12, 3, 2, 5, 6, 7, 8, 13, 14, 15, 16, 1, 17, 18, 19, 20, 21, 22, 23, 24, 25, 26, 27, 28, 29, 30] rfl (by decide +kernel)
set_option maxRecDepth 20000 in
theorem gX11_times_X11_take : GoodIn wsX11_times (wsV RX11 54 RX11 yX11_take wsX11_take) := goodIn_app (goodIn_of _ (by decide +kernel)) ggX11_times_X11_take
set_option maxRecDepth 20000 in
theorem ggX11_shortDivide_X11_at : GoodIn wsX11_shortDivide wsX11_at := goodIn_r _ [8] rfl (by decide +kernel)
set_option maxRecDepth 20000 in
theorem gX11_shortDivide_X11_at : GoodIn wsX11_shortDivide (va_wsS RX11 43 yX11_at wsX11_at) := goodIn_app (goodIn_of _ (by decide +kernel)) ggX11_shortDivide_X11_at
set_option maxRecDepth 20000 in
theorem ggX11_shortDivide_X11_take : GoodIn wsX11_shortDivide wsX11_take := goodIn_r _ [12, 2, 4, 5, 6, 7, 8, 13, 14, 15, 16, 1, 21, 22, 23, 24, 25, 26, 27, 28, 29, 30, 31, 32, 33, 34] rfl (by decide +kernel)
set_option maxRecDepth 20000 in
theorem gX11_shortDivide_X11_take : GoodIn wsX11_shortDivide (wsV RX11 54 RX11 yX11_take wsX11_take) := goodIn_app (goodIn_of _ (by decide +kernel)) ggX11_shortDivide_X11_take
set_option maxRecDepth 20000 in
theorem ggX11_shortDivide_X11_put : GoodIn wsX11_shortDivide wsX11_put := goodIn_r _ [20, 2, 3, 1, 5, 6, 7, 8, 21, 22, 23, 24, 25, 26, 27, 28, 29, 30, 31, 32, 33, 34] rfl (by decide +kernel)
set_option maxRecDepth 20000 in
theorem gX11_shortDivide_X11_put : GoodIn wsX11_shortDivide (wsV RX11 61 RX11 yX11_put wsX11_put) := goodIn_app (goodIn_of _ (by decide +kernel)) ggX11_shortDivide_X11_put
set_option maxRecDepth 20000 in
theorem ggX11_divide_X11_compare : GoodIn wsX11_divide wsX11_compare := goodIn_r _ [12, 1, 2, 13, 14, 11, 15, 41, 42, 43, 44, 45, 46, 47, 48, 49, 50, 51, 52, 53, 54] rfl (by decide +kernel)
set_option maxRecDepth 20000 in
theorem gX11_divide_X11_compare : GoodIn wsX11_divide (wsV RX11 65 RX11 yX11_compare wsX11_compare) := goodIn_app (goodIn_of _ (by decide +kernel)) ggX11_divide_X11_compare
set_option maxRecDepth 20000 in
theorem ggX11_divide_X11_copy : GoodIn wsX11_divide wsX11_copy := goodIn_r _ [19, 1, 2, 13, 14, 11, 15, 41, 42, 43, 44, 45, 46, 47, 48, 49, 50, 51, 52, 53, 54] rfl (by decide +kernel)
set_option maxRecDepth 20000 in
theorem gX11_divide_X11_copy : GoodIn wsX11_divide (wsV RX11 68 RX11 yX11_copy wsX11_copy) := goodIn_app (goodIn_of _ (by decide +kernel)) ggX11_divide_X11_copy
set_option maxRecDepth 20000 in
theorem ggX11_divide_X11_shortDivide : GoodIn wsX11_divide wsX11_shortDivide := goodIn_r _ [23, 1, 2, 7, 4, 13, 14, 11, 15, 24, 25, 26, 27, 28, 29, 30, 31, 32, 33, 34, 35, 41, 42, 43, 44, 45, 46, 47, 48, 49, 50, 51, 52, 53, 54] rfl (by decide +kernel)
set_option maxRecDepth 20000 in
theorem gX11_divide_X11_shortDivide : GoodIn wsX11_divide (wsV RX11 71 RX11 yX11_shortDivide wsX11_shortDivide) := goodIn_app (goodIn_of _ (by decide +kernel)) ggX11_divide_X11_shortDivide
set_option maxRecDepth 20000 in
theorem ggX11_divide_X11_at : GoodIn wsX11_divide wsX11_at := goodIn_r _ [15] rfl (by decide +kernel)
set_option maxRecDepth 20000 in
theorem gX11_divide_X11_at : GoodIn wsX11_divide (va_wsS RX11 43 yX11_at wsX11_at) := goodIn_app (goodIn_of _ (by decide +kernel)) ggX11_divide_X11_at
set_option maxRecDepth 20000 in
theorem ggX11_divide_X11_takeAway : GoodIn wsX11_divide wsX11_takeAway := goodIn_r _ [39, 6, 7, 4, 40, 5, 41, 42, 43, 44, 45, 46, 47, 48, 49, 50, 51, 52, 53, 54] rfl (by decide +kernel)
set_option maxRecDepth 20000 in
theorem gX11_divide_X11_takeAway : GoodIn wsX11_divide (wsV RX11 76 RX11 yX11_takeAway wsX11_takeAway) := goodIn_app (goodIn_of _ (by decide +kernel)) ggX11_divide_X11_takeAway
set_option maxRecDepth 20000 in
theorem ggX11_divide_X11_trim : GoodIn wsX11_divide wsX11_trim := goodIn_r _ [31, 2, 1, 13, 14, 11, 15, 41, 42, 43, 44, 45, 46, 47, 48, 49, 50, 51, 52, 53, 54] rfl (by decide +kernel)
set_option maxRecDepth 20000 in
theorem gX11_divide_X11_trim : GoodIn wsX11_divide (wsV RX11 58 RX11 yX11_trim wsX11_trim) := goodIn_app (goodIn_of _ (by decide +kernel)) ggX11_divide_X11_trim
set_option maxRecDepth 20000 in
theorem ggX11_divisor_X11_copy : GoodIn wsX11_divisor wsX11_copy := goodIn_r _ [6, 1, 7, 8, 9, 5, 10, 45, 46, 47, 48, 49, 50, 51, 52, 53, 54, 55, 56, 57, 58] rfl (by decide +kernel)
set_option maxRecDepth 20000 in
theorem gX11_divisor_X11_copy : GoodIn wsX11_divisor (wsV RX11 68 RX11 yX11_copy wsX11_copy) := goodIn_app (goodIn_of _ (by decide +kernel)) ggX11_divisor_X11_copy
set_option maxRecDepth 20000 in
theorem ggX11_divisor_X11_divide : GoodIn wsX11_divisor wsX11_divide := goodIn_r _ [14, 1, 7, 15, 16, 17, 18, 19, 20, 21, 22, 5, 23, 8, 9, 10, 2, 3, 4, 6, 24, 25, 26, 27, 28, 29, 30, 31, 32, 33, 34, 35, 36, 37, 38, 39, 40, 41, 42, 43, 44, 45, 46, 47, 48, 49, 50, 51, 52, 53, 54, 55, 56, 57, 58] rfl (by decide +kernel)
set_option maxRecDepth 20000 in
theorem gX11_divisor_X11_divide : GoodIn wsX11_divisor (wsV RX11 82 RX11 yX11_divide wsX11_divide) := goodIn_app (goodIn_of _ (by decide +kernel)) ggX11_divisor_X11_divide
set_option maxRecDepth 20000 in
theorem ggX11_zero_X11_put : GoodIn wsX11_zero wsX11_put := goodIn_r _ [7, 8, 9, 2, 10, 11, 6, 12, 13, 14, 15, 16, 17, 18, 19, 20, 21, 22, 23, 24, 25, 26] rfl (by decide +kernel)
set_option maxRecDepth 20000 in
theorem gX11_zero_X11_put : GoodIn wsX11_zero (wsV RX11 61 RX11 yX11_put wsX11_put) := goodIn_app (goodIn_of _ (by decide +kernel)) ggX11_zero_X11_put
set_option maxRecDepth 20000 in
theorem ggX11_assign_X11_copy : GoodIn wsX11_assign wsX11_copy := goodIn_r _ [6, 7, 8, 9, 10, 5, 11, 12, 13, 14, 15, 16, 17, 18, 19, 20, 21, 22, 23, 24, 25] rfl (by decide +kernel)
set_option maxRecDepth 20000 in
theorem gX11_assign_X11_copy : GoodIn wsX11_assign (wsV RX11 68 RX11 yX11_copy wsX11_copy) := goodIn_app (goodIn_of _ (by decide +kernel)) ggX11_assign_X11_copy
set_option maxRecDepth 20000 in
theorem ggX11_lowest_X11_zero : GoodIn wsX11_lowest wsX11_zero := goodIn_r _ [7, 2, 1, 8, 9, 10, 6, 11, 12, 13, 14, 15, 16, 58, 59, 60, 61, 62, 63, 64, 65, 66, 67, 68, 69, 70, 71] rfl (by decide +kernel)
set_option maxRecDepth 20000 in
theorem gX11_lowest_X11_zero : GoodIn wsX11_lowest (wsV RX11 85 RX11 yX11_zero wsX11_zero) := goodIn_app (goodIn_of _ (by decide +kernel)) ggX11_lowest_X11_zero
set_option maxRecDepth 20000 in
theorem ggX11_lowest_X11_divisor : GoodIn wsX11_lowest wsX11_divisor := goodIn_r _ [20, 1, 21, 22, 23, 6, 24, 12, 14, 15, 16, 25, 26, 27, 28, 29, 30, 31, 32, 13, 33, 34, 35, 36, 37, 38, 39, 40, 41, 42, 43, 44, 45, 46, 47, 48, 8, 9, 10, 11, 49, 50, 51, 52, 53, 58, 59, 60, 61, 62, 63, 64, 65, 66, 67, 68, 69, 70, 71] rfl (by decide +kernel)
set_option maxRecDepth 20000 in
theorem gX11_lowest_X11_divisor : GoodIn wsX11_lowest (wsV RX11 89 RX11 yX11_divisor wsX11_divisor) := goodIn_app (goodIn_of _ (by decide +kernel)) ggX11_lowest_X11_divisor
set_option maxRecDepth 20000 in
theorem ggX11_lowest_X11_isOne : GoodIn wsX11_lowest wsX11_isOne := goodIn_r _ [57, 1, 12, 14, 15, 6, 16, 58, 59, 60, 61, 62, 63, 64, 65, 66, 67, 68, 69, 70, 71] rfl (by decide +kernel)
set_option maxRecDepth 20000 in
theorem gX11_lowest_X11_isOne : GoodIn wsX11_lowest (wsV RX11 92 RX11 yX11_isOne wsX11_isOne) := goodIn_app (goodIn_of _ (by decide +kernel)) ggX11_lowest_X11_isOne
set_option maxRecDepth 20000 in
theorem ggX11_lowest_X11_copy : GoodIn wsX11_lowest wsX11_copy := goodIn_r _ [24, 1, 12, 14, 15, 6, 16, 58, 59, 60, 61, 62, 63, 64, 65, 66, 67, 68, 69, 70, 71] rfl (by decide +kernel)
set_option maxRecDepth 20000 in
theorem gX11_lowest_X11_copy : GoodIn wsX11_lowest (wsV RX11 68 RX11 yX11_copy wsX11_copy) := goodIn_app (goodIn_of _ (by decide +kernel)) ggX11_lowest_X11_copy
set_option maxRecDepth 20000 in
theorem ggX11_lowest_X11_divide : GoodIn wsX11_lowest wsX11_divide := goodIn_r _ [28, 1, 12, 29, 30, 31, 32, 13, 33, 34, 35, 6, 36, 14, 15, 16, 21, 22, 23, 24, 37, 38, 39, 40, 41, 42, 43, 44, 45, 46, 47, 48, 8, 9, 10, 11, 49, 50, 51, 52, 53, 58, 59, 60, 61, 62, 63, 64, 65, 66, 67, 68, 69, 70, 71] rfl (by decide +kernel)
set_option maxRecDepth 20000 in
theorem gX11_lowest_X11_divide : GoodIn wsX11_lowest (wsV RX11 82 RX11 yX11_divide wsX11_divide) := goodIn_app (goodIn_of _ (by decide +kernel)) ggX11_lowest_X11_divide
