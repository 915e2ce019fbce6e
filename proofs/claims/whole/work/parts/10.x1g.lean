set_option maxRecDepth 20000 in
theorem ggX1_divide_X9_copyFrom : GoodIn wsX1_divide wsX9_copyFrom := goodIn_r _ [7, 8, 9, 10, 11, 12, 13, 47, 48] (by decide +kernel) (by decide +kernel)
set_option maxRecDepth 20000 in
theorem gX1_divide_X9_copyFrom : GoodIn wsX1_divide (wsV RX1 27 RX9 yX9_copyFrom wsX9_copyFrom) := goodIn_app (goodIn_of _ (by decide +kernel)) ggX1_divide_X9_copyFrom
set_option maxRecDepth 20000 in
theorem ggX1_divide_X9_clear : GoodIn wsX1_divide wsX9_clear := goodIn_r _ [17, 8, 47, 48] (by decide +kernel) (by decide +kernel)
set_option maxRecDepth 20000 in
theorem gX1_divide_X9_clear : GoodIn wsX1_divide (wsV RX1 31 RX9 yX9_clear wsX9_clear) := goodIn_app (goodIn_of _ (by decide +kernel)) ggX1_divide_X9_clear
set_option maxRecDepth 20000 in
theorem ggX1_divide_X10_spareBits : GoodIn wsX1_divide wsX10_spareBits := goodIn_r _ [20] (by decide +kernel) (by decide +kernel)
set_option maxRecDepth 20000 in
theorem gX1_divide_X10_spareBits_n34 : GoodIn wsX1_divide (wsX10_spareBits) := ggX1_divide_X10_spareBits
set_option maxRecDepth 20000 in
theorem ggX1_divide_X1_shiftUp : GoodIn wsX1_divide wsX1_shiftUp := goodIn_r _ [24, 25, 47, 48] (by decide +kernel) (by decide +kernel)
set_option maxRecDepth 20000 in
theorem gX1_divide_X1_shiftUp : GoodIn wsX1_divide (va_wsS RX1 38 yX1_shiftUp wsX1_shiftUp) := goodIn_app (goodIn_of _ (by decide +kernel)) ggX1_divide_X1_shiftUp
set_option maxRecDepth 20000 in
theorem ggX1_divide_X1_guessDigit : GoodIn wsX1_divide wsX1_guessDigit := goodIn_r _ [29, 1, 2, 25, 49, 50] (by decide +kernel) (by decide +kernel)
set_option maxRecDepth 20000 in
theorem gX1_divide_X1_guessDigit : GoodIn wsX1_divide (wsV RX1 42 RX1 yX1_guessDigit wsX1_guessDigit) := goodIn_app (goodIn_of _ (by decide +kernel)) ggX1_divide_X1_guessDigit
set_option maxRecDepth 20000 in
theorem ggX1_divide_X1_takeTimes : GoodIn wsX1_divide wsX1_takeTimes := goodIn_r _ [33, 1, 2, 25, 49, 50] (by decide +kernel) (by decide +kernel)
set_option maxRecDepth 20000 in
theorem gX1_divide_X1_takeTimes : GoodIn wsX1_divide (wsV RX1 46 RX1 yX1_takeTimes wsX1_takeTimes) := goodIn_app (goodIn_of _ (by decide +kernel)) ggX1_divide_X1_takeTimes
set_option maxRecDepth 20000 in
theorem ggX1_divide_X1_giveBack : GoodIn wsX1_divide wsX1_giveBack := goodIn_r _ [37, 1, 2, 25, 49, 50] (by decide +kernel) (by decide +kernel)
set_option maxRecDepth 20000 in
theorem gX1_divide_X1_giveBack : GoodIn wsX1_divide (wsV RX1 50 RX1 yX1_giveBack wsX1_giveBack) := goodIn_app (goodIn_of _ (by decide +kernel)) ggX1_divide_X1_giveBack
set_option maxRecDepth 20000 in
theorem ggX1_divide_X9_trim : GoodIn wsX1_divide wsX9_trim := goodIn_r _ [41, 9, 8, 47, 48] (by decide +kernel) (by decide +kernel)
set_option maxRecDepth 20000 in
theorem gX1_divide_X9_trim : GoodIn wsX1_divide (wsV RX1 54 RX9 yX9_trim wsX9_trim) := goodIn_app (goodIn_of _ (by decide +kernel)) ggX1_divide_X9_trim
set_option maxRecDepth 20000 in
theorem ggX1_divide_X1_shiftDown : GoodIn wsX1_divide wsX1_shiftDown := goodIn_r _ [45, 1, 46, 49, 50] (by decide +kernel) (by decide +kernel)
set_option maxRecDepth 20000 in
theorem gX1_divide_X1_shiftDown : GoodIn wsX1_divide (wsV RX1 58 RX1 yX1_shiftDown wsX1_shiftDown) := goodIn_app (goodIn_of _ (by decide +kernel)) ggX1_divide_X1_shiftDown
