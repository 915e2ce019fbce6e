set_option maxRecDepth 20000 in
theorem ggX9_asLong_X9_wordAt : GoodIn wsX9_asLong wsX9_wordAt := goodIn_r _ [5, 6, 7, 8, 9] (by decide +kernel) (by decide +kernel)
set_option maxRecDepth 20000 in
theorem gX9_asLong_X9_wordAt : GoodIn wsX9_asLong (wsV RX9 27 RX9 yX9_wordAt wsX9_wordAt) := goodIn_app (goodIn_of _ (by decide +kernel)) ggX9_asLong_X9_wordAt
set_option maxRecDepth 20000 in
theorem ggX9_limbCount_X10_spareBits : GoodIn wsX9_limbCount wsX10_spareBits := goodIn_r _ [5] (by decide +kernel) (by decide +kernel)
set_option maxRecDepth 20000 in
theorem gX9_limbCount_X10_spareBits_n31 : GoodIn wsX9_limbCount (wsX10_spareBits) := ggX9_limbCount_X10_spareBits
set_option maxRecDepth 20000 in
theorem ggX9_limb_X9_limbCount : GoodIn wsX9_limb wsX9_limbCount := goodIn_r _ [6, 7, 8, 9, 10, 11, 16, 17] (by decide +kernel) (by decide +kernel)
set_option maxRecDepth 20000 in
theorem gX9_limb_X9_limbCount : GoodIn wsX9_limb (wsV RX9 34 RX9 yX9_limbCount wsX9_limbCount) := goodIn_app (goodIn_of _ (by decide +kernel)) ggX9_limb_X9_limbCount
set_option maxRecDepth 20000 in
theorem ggX9_limb_X9_wordAt : GoodIn wsX9_limb wsX9_wordAt := goodIn_r _ [15, 7, 8, 16, 17] (by decide +kernel) (by decide +kernel)
set_option maxRecDepth 20000 in
theorem gX9_limb_X9_wordAt : GoodIn wsX9_limb (wsV RX9 27 RX9 yX9_wordAt wsX9_wordAt) := goodIn_app (goodIn_of _ (by decide +kernel)) ggX9_limb_X9_wordAt
set_option maxRecDepth 20000 in
theorem ggX9_add_X9_wordAt : GoodIn wsX9_add wsX9_wordAt := goodIn_r _ [8, 1, 2, 13, 14] (by decide +kernel) (by decide +kernel)
set_option maxRecDepth 20000 in
theorem gX9_add_X9_wordAt : GoodIn wsX9_add (wsV RX9 27 RX9 yX9_wordAt wsX9_wordAt) := goodIn_app (goodIn_of _ (by decide +kernel)) ggX9_add_X9_wordAt
set_option maxRecDepth 20000 in
theorem ggX9_add_X9_trim : GoodIn wsX9_add wsX9_trim := goodIn_r _ [12, 2, 1, 13, 14] (by decide +kernel) (by decide +kernel)
set_option maxRecDepth 20000 in
theorem gX9_add_X9_trim : GoodIn wsX9_add (wsV RX9 39 RX9 yX9_trim wsX9_trim) := goodIn_app (goodIn_of _ (by decide +kernel)) ggX9_add_X9_trim
set_option maxRecDepth 20000 in
theorem ggX9_subtract_X9_wordAt : GoodIn wsX9_subtract wsX9_wordAt := goodIn_r _ [8, 1, 2, 13, 14] (by decide +kernel) (by decide +kernel)
set_option maxRecDepth 20000 in
theorem gX9_subtract_X9_wordAt : GoodIn wsX9_subtract (wsV RX9 27 RX9 yX9_wordAt wsX9_wordAt) := goodIn_app (goodIn_of _ (by decide +kernel)) ggX9_subtract_X9_wordAt
set_option maxRecDepth 20000 in
theorem ggX9_subtract_X9_trim : GoodIn wsX9_subtract wsX9_trim := goodIn_r _ [12, 2, 1, 13, 14] (by decide +kernel) (by decide +kernel)
set_option maxRecDepth 20000 in
theorem gX9_subtract_X9_trim : GoodIn wsX9_subtract (wsV RX9 39 RX9 yX9_trim wsX9_trim) := goodIn_app (goodIn_of _ (by decide +kernel)) ggX9_subtract_X9_trim
set_option maxRecDepth 20000 in
theorem ggX9_multiply_X9_trim : GoodIn wsX9_multiply wsX9_trim := goodIn_r _ [8, 2, 1, 9, 10] (by decide +kernel) (by decide +kernel)
set_option maxRecDepth 20000 in
theorem gX9_multiply_X9_trim : GoodIn wsX9_multiply (wsV RX9 39 RX9 yX9_trim wsX9_trim) := goodIn_app (goodIn_of _ (by decide +kernel)) ggX9_multiply_X9_trim
set_option maxRecDepth 20000 in
theorem ggX10_init_X4_init : GoodIn wsX10_init wsX4_init := goodIn_r _ [24, 25, 2, 3, 26, 27, 28, 29, 30, 31, 6, 32, 33, 168, 169, 170] (by decide +kernel) (by decide +kernel)
set_option maxRecDepth 20000 in
theorem gX10_init_X4_init : GoodIn wsX10_init (wsX4_init) := ggX10_init_X4_init
set_option maxRecDepth 20000 in
theorem ggX10_init_X2_init : GoodIn wsX10_init wsX2_init := goodIn_r _ [36, 37, 2, 3, 38, 39, 40, 41, 42, 43, 44, 45, 46, 47, 48, 49, 50, 51, 17, 18, 52, 53, 54, 55, 56, 57, 58, 59, 60, 61, 62, 63, 64, 65, 66, 67, 68, 69, 70, 71, 72, 73, 74, 75, 76, 77, 78, 79, 80, 81, 82, 83, 84, 85, 86, 87, 88, 89, 90, 91, 92, 93, 94, 95, 96, 97, 98, 99, 100, 101, 102, 103, 104, 105, 106, 107, 108, 109, 110, 111, 112, 113, 114, 115, 116, 117, 118, 119, 120, 121, 122, 123, 124, 125, 126, 127, 128, 129, 130, 131, 132, 133, 134, 135, 136, 137, 138, 139, 140, 141, 142, 143, 144, 145, 146, 147, 148, 149, 150, 151, 152, 153, 154, 155, 156, 157, 158, 159, 160, 161, 198, 199, 200, 201, 202, 203, 204, 205, 206, 177, 178, 179, 180, 181, 182, 183, 184, 185, 186, 187, 188, 189, 190, 191, 192, 193, 207, 208, 209, 210, 195, 196, 197, 211, 212, 213, 214, 215, 216, 217, 218, 219, 220, 221, 222, 223, 224, 225] (by decide +kernel) (by decide +kernel)
set_option maxRecDepth 20000 in
theorem gX10_init_X2_init : GoodIn wsX10_init (wsX2_init) := ggX10_init_X2_init
set_option maxRecDepth 20000 in
theorem ggX10_init_X7_init : GoodIn wsX10_init wsX7_init := goodIn_r _ [164, 165, 2, 3, 46, 166, 194] (by decide +kernel) (by decide +kernel)
set_option maxRecDepth 20000 in
theorem gX10_init_X7_init : GoodIn wsX10_init (wsX7_init) := ggX10_init_X7_init
set_option maxRecDepth 20000 in
theorem ggX10_init_X6_init : GoodIn wsX10_init wsX6_init := goodIn_r _ [137, 138, 2, 3, 139, 57, 58, 140, 141, 142, 110, 111, 112, 46, 113, 114, 143, 144, 145, 18, 146, 147, 148, 149, 150, 151, 152, 153, 154, 155, 156, 213, 214, 195, 196, 197] (by decide +kernel) (by decide +kernel)
set_option maxRecDepth 20000 in
theorem gX10_init_X6_init : GoodIn wsX10_init (wsX6_init) := ggX10_init_X6_init
set_option maxRecDepth 20000 in
theorem ggX10_modulo_X7_residue : GoodIn wsX10_modulo wsX7_residue := goodIn_r _ [7, 8, 9, 10, 11, 12, 13, 14, 6, 15, 16, 17, 18, 19, 20, 21, 22, 23, 24, 25, 26, 27, 28, 29, 30, 31, 32, 33, 34, 35, 36, 37, 38, 39, 40, 41, 42, 43, 44, 45, 46, 47, 48, 49, 50, 51, 52, 53, 54, 55, 56, 57, 58, 59, 66, 67, 68, 69] (by decide +kernel) (by decide +kernel)
set_option maxRecDepth 20000 in
theorem gX10_modulo_X7_residue : GoodIn wsX10_modulo (wsV RX10 151 RX7 yX7_residue wsX7_residue) := goodIn_app (goodIn_of _ (by decide +kernel)) ggX10_modulo_X7_residue
set_option maxRecDepth 20000 in
theorem ggX10_meter_X4_limbCount : GoodIn wsX10_meter wsX4_limbCount := goodIn_r _ [6, 7, 8, 9, 10, 11, 12, 13, 14, 5, 15, 16, 17, 18, 19, 20, 21, 22, 23, 24, 25, 26, 27, 28, 29, 30, 31, 32, 39, 40, 41] (by decide +kernel) (by decide +kernel)
set_option maxRecDepth 20000 in
theorem gX10_meter_X4_limbCount : GoodIn wsX10_meter (wsV RX10 75 RX4 yX4_limbCount wsX4_limbCount) := goodIn_app (goodIn_of _ (by decide +kernel)) ggX10_meter_X4_limbCount
