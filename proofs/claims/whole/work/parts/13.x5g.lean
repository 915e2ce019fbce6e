set_option maxRecDepth 20000 in
theorem ggX5_init_X9_init : GoodIn wsX5_init wsX9_init := goodIn_r _ [18, 19, 2, 3, 20, 21, 22, 32, 33] (by decide +kernel) (by decide +kernel)
set_option maxRecDepth 20000 in
theorem gX5_init_X9_init : GoodIn wsX5_init (wsX9_init) := ggX5_init_X9_init
set_option maxRecDepth 20000 in
theorem ggX5_cancel_X9_against : GoodIn wsX5_cancel wsX9_against := goodIn_r _ [11, 12, 13, 114, 115] (by decide +kernel) (by decide +kernel)
set_option maxRecDepth 20000 in
theorem gX5_cancel_X9_against : GoodIn wsX5_cancel (wsV RX5 46 RX9 yX9_against wsX9_against) := goodIn_app (goodIn_of _ (by decide +kernel)) ggX5_cancel_X9_against
set_option maxRecDepth 20000 in
theorem ggX5_cancel_X9_copyFrom : GoodIn wsX5_cancel wsX9_copyFrom := goodIn_r _ [17, 12, 13, 18, 19, 20, 21, 114, 115] (by decide +kernel) (by decide +kernel)
set_option maxRecDepth 20000 in
theorem gX5_cancel_X9_copyFrom : GoodIn wsX5_cancel (wsV RX5 50 RX9 yX9_copyFrom wsX9_copyFrom) := goodIn_app (goodIn_of _ (by decide +kernel)) ggX5_cancel_X9_copyFrom
set_option maxRecDepth 20000 in
theorem ggX5_cancel_X10_spareBits : GoodIn wsX5_cancel wsX10_spareBits := goodIn_r _ [24] (by decide +kernel) (by decide +kernel)
set_option maxRecDepth 20000 in
theorem gX5_cancel_X10_spareBits_n63 : GoodIn wsX5_cancel (wsX10_spareBits) := ggX5_cancel_X10_spareBits
set_option maxRecDepth 20000 in
theorem ggX5_cancel_X5_highBits : GoodIn wsX5_cancel wsX5_highBits := goodIn_r _ [28, 29, 30, 31, 10, 32, 12, 13, 114, 115] (by decide +kernel) (by decide +kernel)
set_option maxRecDepth 20000 in
theorem gX5_cancel_X5_highBits : GoodIn wsX5_cancel (va_wsS RX5 67 yX5_highBits wsX5_highBits) := goodIn_app (goodIn_of _ (by decide +kernel)) ggX5_cancel_X5_highBits
set_option maxRecDepth 20000 in
theorem ggX5_cancel_X5_findSteps : GoodIn wsX5_cancel wsX5_findSteps := goodIn_r _ [36, 37, 38, 39, 40, 4, 41, 42, 43, 44, 45, 105, 106, 107, 108, 109, 110, 111, 112, 113] (by decide +kernel) (by decide +kernel)
set_option maxRecDepth 20000 in
theorem gX5_cancel_X5_findSteps : GoodIn wsX5_cancel (wsV RX5 71 RX5 yX5_findSteps wsX5_findSteps) := goodIn_app (goodIn_of _ (by decide +kernel)) ggX5_cancel_X5_findSteps
set_option maxRecDepth 20000 in
theorem ggX5_cancel_X5_carryOut : GoodIn wsX5_cancel wsX5_carryOut := goodIn_r _ [49, 37, 38, 39, 40, 41, 29, 30, 31, 10, 32, 12, 13, 50, 51, 52, 53, 114, 115, 105, 106, 107, 108, 109, 110, 111, 112, 113] (by decide +kernel) (by decide +kernel)
set_option maxRecDepth 20000 in
theorem gX5_cancel_X5_carryOut : GoodIn wsX5_cancel (wsV RX5 75 RX5 yX5_carryOut wsX5_carryOut) := goodIn_app (goodIn_of _ (by decide +kernel)) ggX5_cancel_X5_carryOut
set_option maxRecDepth 20000 in
theorem ggX5_cancel_X1_divide : GoodIn wsX5_cancel wsX1_divide := goodIn_r _ [58, 59, 60, 61, 15, 16, 10, 17, 12, 13, 18, 19, 20, 21, 62, 63, 64, 65, 22, 23, 24, 66, 67, 57, 68, 69, 70, 71, 72, 73, 74, 75, 76, 77, 78, 79, 80, 81, 82, 51, 52, 53, 83, 84, 85, 86, 87, 114, 115, 116, 117] (by decide +kernel) (by decide +kernel)
set_option maxRecDepth 20000 in
theorem gX5_cancel_X1_divide : GoodIn wsX5_cancel (wsV RX5 79 RX1 yX1_divide wsX1_divide) := goodIn_app (goodIn_of _ (by decide +kernel)) ggX5_cancel_X1_divide
set_option maxRecDepth 20000 in
theorem ggX5_cancel_X9_asLong : GoodIn wsX5_cancel wsX9_asLong := goodIn_r _ [91, 92, 30, 31, 10, 32, 12, 13, 114, 115] (by decide +kernel) (by decide +kernel)
set_option maxRecDepth 20000 in
theorem gX5_cancel_X9_asLong : GoodIn wsX5_cancel (wsV RX5 85 RX9 yX9_asLong wsX9_asLong) := goodIn_app (goodIn_of _ (by decide +kernel)) ggX5_cancel_X9_asLong
set_option maxRecDepth 20000 in
theorem ggX5_cancel_X10_commonDivisor : GoodIn wsX5_cancel wsX10_commonDivisor := goodIn_r _ [94, 95] (by decide +kernel) (by decide +kernel)
set_option maxRecDepth 20000 in
theorem gX5_cancel_X10_commonDivisor_n89 : GoodIn wsX5_cancel (wsX10_commonDivisor) := ggX5_cancel_X10_commonDivisor
set_option maxRecDepth 20000 in
theorem ggX5_cancel_X9_assign : GoodIn wsX5_cancel wsX9_assign := goodIn_r _ [99, 12, 13, 100, 114, 115] (by decide +kernel) (by decide +kernel)
set_option maxRecDepth 20000 in
theorem gX5_cancel_X9_assign : GoodIn wsX5_cancel (wsV RX5 93 RX9 yX9_assign wsX9_assign) := goodIn_app (goodIn_of _ (by decide +kernel)) ggX5_cancel_X9_assign
set_option maxRecDepth 20000 in
theorem ggX5_cancel_X9_isOne : GoodIn wsX5_cancel wsX9_isOne := goodIn_r _ [104, 12, 13, 114, 115] (by decide +kernel) (by decide +kernel)
set_option maxRecDepth 20000 in
theorem gX5_cancel_X9_isOne : GoodIn wsX5_cancel (wsV RX5 97 RX9 yX9_isOne wsX9_isOne) := goodIn_app (goodIn_of _ (by decide +kernel)) ggX5_cancel_X9_isOne
set_option maxRecDepth 20000 in
theorem ggX5_highBits_X9_wordAt : GoodIn wsX5_highBits wsX9_wordAt := goodIn_r _ [5, 6, 7, 8, 9] (by decide +kernel) (by decide +kernel)
set_option maxRecDepth 20000 in
theorem gX5_highBits_X9_wordAt : GoodIn wsX5_highBits (wsV RX5 101 RX9 yX9_wordAt wsX9_wordAt) := goodIn_app (goodIn_of _ (by decide +kernel)) ggX5_highBits_X9_wordAt
set_option maxRecDepth 20000 in
theorem ggX5_carryOut_X9_wordAt : GoodIn wsX5_carryOut wsX9_wordAt := goodIn_r _ [10, 11, 12, 17, 18] (by decide +kernel) (by decide +kernel)
set_option maxRecDepth 20000 in
theorem gX5_carryOut_X9_wordAt : GoodIn wsX5_carryOut (wsV RX5 101 RX9 yX9_wordAt wsX9_wordAt) := goodIn_app (goodIn_of _ (by decide +kernel)) ggX5_carryOut_X9_wordAt
set_option maxRecDepth 20000 in
theorem ggX5_carryOut_X9_trim : GoodIn wsX5_carryOut wsX9_trim := goodIn_r _ [16, 12, 11, 17, 18] (by decide +kernel) (by decide +kernel)
set_option maxRecDepth 20000 in
theorem gX5_carryOut_X9_trim : GoodIn wsX5_carryOut (wsV RX5 112 RX9 yX9_trim wsX9_trim) := goodIn_app (goodIn_of _ (by decide +kernel)) ggX5_carryOut_X9_trim
