set_option maxRecDepth 20000 in
theorem ggX2_init_X0_init : GoodIn wsX2_init wsX0_init := goodIn_r _ [39, 40, 2, 3, 41, 42, 43, 44, 45, 46, 47, 48, 49, 25, 26, 50, 51, 52, 53, 54, 55, 56, 57, 58, 59, 60, 12, 61, 62, 63, 64, 65, 66, 67, 68, 69, 70, 71, 72, 73, 74, 75, 76, 77, 78, 79, 80, 81, 82, 83, 167, 168, 130, 131, 132, 133, 134, 135, 136, 137, 138, 169, 170, 171, 172, 173, 174, 175, 176, 177, 165, 166] rfl (by decide +kernel)
set_option maxRecDepth 20000 in
theorem gX2_init_X0_init : GoodIn wsX2_init (wsX0_init) := ggX2_init_X0_init
set_option maxRecDepth 20000 in
theorem ggX2_init_X8_init : GoodIn wsX2_init wsX8_init := goodIn_r _ [86, 87, 2, 3, 88, 89, 90, 91, 20, 21, 18, 19, 92, 25, 26, 93, 94, 95, 96, 97, 98, 99, 100, 101, 102, 78, 79, 80, 12, 81, 82, 103, 104, 105, 106, 107, 108, 109, 110, 111, 112, 113, 114, 115, 116, 117, 118, 119, 120, 121, 122, 123, 124, 125, 156, 157, 158, 159, 163, 164, 160, 161, 162, 165, 166] rfl (by decide +kernel)
set_option maxRecDepth 20000 in
theorem gX2_init_X8_init : GoodIn wsX2_init (wsX8_init) := ggX2_init_X8_init
set_option maxRecDepth 20000 in
theorem ggX2_init_X6_init : GoodIn wsX2_init wsX6_init := goodIn_r _ [105, 106, 2, 3, 107, 25, 26, 108, 109, 110, 78, 79, 80, 12, 81, 82, 111, 112, 113, 19, 114, 115, 116, 117, 118, 119, 120, 121, 122, 123, 124, 165, 166, 160, 161, 162] rfl (by decide +kernel)
set_option maxRecDepth 20000 in
theorem gX2_init_X6_init : GoodIn wsX2_init (wsX6_init) := ggX2_init_X6_init
set_option maxRecDepth 20000 in
theorem ggX2_init_X3_init : GoodIn wsX2_init wsX3_init := goodIn_r _ [97, 98, 2, 3, 99, 25, 26, 100, 101, 102, 78, 79, 80, 12, 81, 82, 165, 166, 163, 164] rfl (by decide +kernel)
set_option maxRecDepth 20000 in
theorem gX2_init_X3_init : GoodIn wsX2_init (wsX3_init) := ggX2_init_X3_init
set_option maxRecDepth 20000 in
theorem ggX2_init_X9_init : GoodIn wsX2_init wsX9_init := goodIn_r _ [79, 80, 2, 3, 12, 81, 82, 165, 166] rfl (by decide +kernel)
set_option maxRecDepth 20000 in
theorem gX2_init_X9_init : GoodIn wsX2_init (wsX9_init) := ggX2_init_X9_init
set_option maxRecDepth 20000 in
theorem ggX2_init_X9_assign : GoodIn wsX2_init wsX9_assign := goodIn_r _ [123, 82, 81, 124, 165, 166] rfl (by decide +kernel)
set_option maxRecDepth 20000 in
theorem gX2_init_X9_assign : GoodIn wsX2_init (wsV RX2 74 RX9 yX9_assign wsX9_assign) := goodIn_app (goodIn_of _ (by decide +kernel)) ggX2_init_X9_assign
set_option maxRecDepth 20000 in
theorem ggX2_run_X2_begin : GoodIn wsX2_run wsX2_begin := goodIn_r _ [16, 17, 18, 9, 19, 1, 20, 3, 21, 5, 4, 22, 6, 23, 24, 25, 26, 27, 28, 29, 30, 31, 32, 33, 34, 35, 36, 37, 38, 39, 40, 41, 42, 43, 44, 45, 46, 47, 48, 49, 50, 51, 52, 53, 54, 55, 56, 57, 58, 59, 60, 61, 62, 63, 64, 65, 66, 67, 68, 69, 70, 71, 72, 73, 74, 75, 76, 77, 78, 79, 80, 81, 82, 83, 84, 85, 86, 87, 88, 89, 90, 91, 92, 93, 94, 95, 96, 97, 98, 99, 100, 101, 102, 103, 104, 105, 106, 107, 108, 109, 110, 111, 112, 113, 114, 115, 116, 117, 118, 119, 120, 121, 122, 123, 124, 125, 126, 127, 128, 129, 130, 131, 132, 133, 134, 135, 136, 137, 138, 139, 140, 141, 142, 143, 144, 145, 146, 147, 148, 149, 150, 151, 152, 153, 154, 155, 156, 157, 158, 159, 160, 161, 162, 163, 164, 165, 166, 167, 168, 169, 170, 171, 172, 173, 174, 175, 176, 177, 178, 179, 180, 181, 182, 183, 184, 185, 186, 187, 188, 189, 15, 190, 191, 192, 193, 194, 195, 196, 197, 198, 291, 292, 293, 270, 271, 272, 273, 274, 275, 276, 277, 278, 279, 280, 281, 282, 283, 284, 285, 286, 287, 288, 289, 290, 294, 295, 296, 297, 298, 299, 300, 301, 302, 303, 304, 305, 306, 307, 308, 309, 310, 311, 312, 313, 314, 315, 316, 317, 318, 319, 320] rfl (by decide +kernel)
set_option maxRecDepth 20000 in
theorem gX2_run_X2_begin : GoodIn wsX2_run (wsV RX2 101 RX2 yX2_begin wsX2_begin) := goodIn_app (goodIn_of _ (by decide +kernel)) ggX2_run_X2_begin
set_option maxRecDepth 20000 in
theorem ggX2_run_X2_firstRowWith : GoodIn wsX2_run wsX2_firstRowWith := goodIn_r _ [202, 3, 1, 4, 270, 271, 272, 273, 274, 275, 276, 277, 278, 279, 280, 281, 282, 283, 284, 285, 286, 287, 288, 289, 290, 303, 304] rfl (by decide +kernel)
set_option maxRecDepth 20000 in
theorem gX2_run_X2_firstRowWith : GoodIn wsX2_run (wsV RX2 105 RX2 yX2_firstRowWith wsX2_firstRowWith) := goodIn_app (goodIn_of _ (by decide +kernel)) ggX2_run_X2_firstRowWith
set_option maxRecDepth 20000 in
theorem ggX2_run_X2_changePlaces : GoodIn wsX2_run wsX2_changePlaces := goodIn_r _ [206, 4, 20, 270, 271, 272, 273, 274, 275, 276, 277, 278, 279, 280, 281, 282, 283, 284, 285, 286] rfl (by decide +kernel)
set_option maxRecDepth 20000 in
theorem gX2_run_X2_changePlaces : GoodIn wsX2_run (wsV RX2 109 RX2 yX2_changePlaces wsX2_changePlaces) := goodIn_app (goodIn_of _ (by decide +kernel)) ggX2_run_X2_changePlaces
set_option maxRecDepth 20000 in
theorem ggX2_run_X2_combineRow : GoodIn wsX2_run wsX2_combineRow := goodIn_r _ [210, 1, 211, 212, 22, 5, 213, 158, 159, 39, 160, 41, 42, 43, 161, 107, 108, 109, 214, 215, 216, 26, 217, 162, 75, 76, 77, 78, 79, 80, 81, 218, 219, 220, 221, 148, 89, 90, 91, 222, 71, 72, 73, 223, 224, 225, 226, 227, 228, 229, 230, 31, 32, 170, 111, 112, 113, 114, 115, 116, 117, 118, 119, 120, 121, 82, 83, 84, 122, 123, 124, 125, 126, 127, 128, 129, 130, 131, 132, 133, 134, 135, 136, 137, 138, 139, 140, 141, 142, 143, 287, 288, 289, 290, 270, 271, 272, 273, 274, 275, 276, 277, 278, 279, 280, 281, 282, 283, 284, 285, 286, 303, 304, 305, 306, 294, 295, 296, 297, 298, 299, 300, 301, 302, 316, 317] rfl (by decide +kernel)
set_option maxRecDepth 20000 in
theorem gX2_run_X2_combineRow : GoodIn wsX2_run (wsV RX2 112 RX2 yX2_combineRow wsX2_combineRow) := goodIn_app (goodIn_of _ (by decide +kernel)) ggX2_run_X2_combineRow
set_option maxRecDepth 20000 in
theorem ggX2_run_X2_refreshCells : GoodIn wsX2_run wsX2_refreshCells := goodIn_r _ [234, 235, 1, 22, 236, 213, 158, 159, 39, 160, 41, 42, 43, 161, 107, 108, 109, 237, 238, 239, 26, 240, 29, 59, 60, 61, 62, 63, 64, 65, 66, 67, 68, 69, 70, 71, 72, 73, 74, 75, 76, 77, 78, 79, 80, 81, 82, 83, 84, 85, 86, 87, 88, 89, 90, 91, 92, 93, 94, 95, 96, 97, 98, 99, 100, 101, 34, 9, 35, 102, 103, 104, 105, 106, 110, 111, 112, 113, 114, 115, 116, 117, 118, 119, 120, 121, 122, 123, 124, 125, 126, 127, 128, 129, 130, 131, 132, 133, 134, 135, 136, 137, 138, 139, 140, 141, 142, 143, 144, 145, 146, 147, 148, 149, 150, 151, 152, 37, 38, 40, 153, 154, 155, 156, 241, 242, 243, 244, 245, 246, 247, 248, 157, 249, 250, 251, 180, 252, 182, 183, 185, 253, 186, 287, 288, 289, 290, 303, 304, 270, 271, 272, 273, 274, 275, 276, 277, 278, 279, 280, 281, 282, 283, 284, 285, 286, 305, 306, 294, 295, 296, 297, 298, 299, 300, 301, 302, 318, 319, 320, 307, 308, 309, 310, 311, 312, 313, 314, 315, 316, 317] rfl (by decide +kernel)
set_option maxRecDepth 20000 in
theorem gX2_run_X2_refreshCells : GoodIn wsX2_run (wsV RX2 116 RX2 yX2_refreshCells wsX2_refreshCells) := goodIn_app (goodIn_of _ (by decide +kernel)) ggX2_run_X2_refreshCells
set_option maxRecDepth 20000 in
theorem ggX2_run_X2_stateLimbs : GoodIn wsX2_run wsX2_stateLimbs := goodIn_r _ [190, 1, 4, 191, 192, 193, 180, 194, 183, 185, 195, 196, 197, 39, 198, 41, 42, 82, 83, 84, 270, 271, 272, 273, 274, 275, 276, 277, 278, 279, 280, 281, 282, 283, 284, 285, 286, 287, 288, 289, 290, 318, 319, 320, 305, 306] rfl (by decide +kernel)
set_option maxRecDepth 20000 in
theorem gX2_run_X2_stateLimbs : GoodIn wsX2_run (wsV RX2 125 RX2 yX2_stateLimbs wsX2_stateLimbs) := goodIn_app (goodIn_of _ (by decide +kernel)) ggX2_run_X2_stateLimbs
set_option maxRecDepth 20000 in
theorem ggX2_run_X2_hasNoRightSidesLeft : GoodIn wsX2_run wsX2_hasNoRightSidesLeft := goodIn_r _ [257, 3, 1, 4, 270, 271, 272, 273, 274, 275, 276, 277, 278, 279, 280, 281, 282, 283, 284, 285, 286, 287, 288, 289, 290, 303, 304] rfl (by decide +kernel)
set_option maxRecDepth 20000 in
theorem gX2_run_X2_hasNoRightSidesLeft : GoodIn wsX2_run (wsV RX2 135 RX2 yX2_hasNoRightSidesLeft wsX2_hasNoRightSidesLeft) := goodIn_app (goodIn_of _ (by decide +kernel)) ggX2_run_X2_hasNoRightSidesLeft
set_option maxRecDepth 20000 in
theorem ggX2_run_X2_findUnknowns : GoodIn wsX2_run wsX2_findUnknowns := goodIn_r _ [261, 1, 262, 2, 11, 22, 4, 5, 237, 238, 239, 26, 240, 29, 59, 60, 61, 62, 63, 64, 65, 66, 67, 68, 69, 70, 71, 72, 39, 73, 41, 42, 74, 75, 76, 77, 78, 79, 80, 81, 82, 83, 84, 85, 86, 87, 88, 89, 90, 91, 92, 93, 94, 95, 96, 97, 98, 99, 100, 101, 34, 9, 35, 102, 103, 104, 105, 106, 107, 108, 109, 110, 111, 112, 113, 114, 115, 116, 117, 118, 119, 120, 121, 122, 123, 124, 125, 126, 127, 128, 129, 130, 131, 132, 133, 134, 135, 136, 137, 138, 139, 140, 141, 142, 143, 144, 145, 146, 147, 148, 149, 150, 151, 152, 37, 38, 40, 43, 153, 154, 155, 156, 249, 250, 251, 180, 252, 182, 183, 185, 253, 186, 270, 271, 272, 273, 274, 275, 276, 277, 278, 279, 280, 281, 282, 283, 284, 285, 286, 287, 288, 289, 290, 303, 304, 294, 295, 296, 297, 298, 299, 300, 301, 302, 318, 319, 320, 307, 308, 309, 310, 311, 312, 313, 314, 315, 305, 306, 316, 317] rfl (by decide +kernel)
set_option maxRecDepth 20000 in
theorem gX2_run_X2_findUnknowns : GoodIn wsX2_run (wsV RX2 139 RX2 yX2_findUnknowns wsX2_findUnknowns) := goodIn_app (goodIn_of _ (by decide +kernel)) ggX2_run_X2_findUnknowns
set_option maxRecDepth 20000 in
theorem ggX2_run_X2_findVolume : GoodIn wsX2_run wsX2_findVolume := goodIn_r _ [266, 3, 1, 267, 235, 211, 4, 22, 5, 20, 249, 250, 251, 180, 252, 182, 183, 185, 253, 119, 120, 39, 121, 41, 186, 37, 38, 40, 42, 43, 268, 213, 158, 159, 160, 161, 107, 108, 109, 269, 75, 76, 77, 78, 79, 80, 81, 237, 238, 239, 26, 240, 29, 59, 60, 61, 62, 63, 64, 65, 66, 67, 68, 69, 70, 71, 72, 73, 74, 82, 83, 84, 85, 86, 87, 88, 89, 90, 91, 92, 93, 94, 95, 96, 97, 98, 99, 100, 101, 34, 9, 35, 102, 103, 104, 105, 106, 110, 111, 112, 113, 114, 115, 116, 117, 118, 122, 123, 124, 125, 126, 127, 128, 129, 130, 131, 132, 133, 134, 135, 136, 137, 138, 139, 140, 141, 142, 143, 144, 145, 146, 147, 148, 149, 150, 151, 152, 153, 154, 155, 156, 270, 271, 272, 273, 274, 275, 276, 277, 278, 279, 280, 281, 282, 283, 284, 285, 286, 287, 288, 289, 290, 318, 319, 320, 305, 306, 294, 295, 296, 297, 298, 299, 300, 301, 302, 303, 304, 307, 308, 309, 310, 311, 312, 313, 314, 315, 316, 317] rfl (by decide +kernel)
set_option maxRecDepth 20000 in
theorem gX2_run_X2_findVolume : GoodIn wsX2_run (wsV RX2 142 RX2 yX2_findVolume wsX2_findVolume) := goodIn_app (goodIn_of _ (by decide +kernel)) ggX2_run_X2_findVolume
set_option maxRecDepth 20000 in
theorem ggX2_begin_X0_scaleRow : GoodIn wsX2_begin wsX0_scaleRow := goodIn_r _ [17, 18, 19, 20, 21, 22, 23, 24, 3, 25, 26, 27, 28, 29, 30, 31, 32, 33, 34, 35, 36, 37, 38, 39, 40, 41, 42, 43, 44, 45, 46, 47, 48, 49, 50, 51, 52, 53, 54, 55, 56, 57, 58, 59, 60, 61, 62, 63, 64, 65, 66, 67, 68, 69, 70, 71, 72, 73, 74, 75, 76, 77, 78, 79, 80, 81, 82, 83, 84, 85, 86, 87, 88, 89, 90, 91, 92, 93, 94, 95, 96, 97, 98, 99, 100, 101, 102, 103, 104, 105, 106, 107, 108, 109, 110, 111, 112, 113, 114, 115, 116, 117, 118, 119, 120, 121, 122, 123, 124, 125, 126, 127, 128, 129, 130, 131, 132, 133, 134, 135, 136, 137, 138, 139, 140, 141, 142, 143, 144, 145, 146, 147, 148, 149, 150, 151, 152, 153, 154, 155, 156, 157, 158, 159, 160, 190, 191, 192, 214, 215, 216, 217, 218, 219, 220, 221, 222, 223, 224, 225, 226, 227, 228, 229, 230, 231, 232, 233, 234, 235, 236, 237] rfl (by decide +kernel)
set_option maxRecDepth 20000 in
theorem gX2_begin_X0_scaleRow : GoodIn wsX2_begin (wsV RX2 154 RX0 yX0_scaleRow wsX0_scaleRow) := goodIn_app (goodIn_of _ (by decide +kernel)) ggX2_begin_X0_scaleRow
set_option maxRecDepth 20000 in
theorem ggX2_begin_X4_show : GoodIn wsX2_begin wsX4_show := goodIn_r _ [164, 165, 154, 155, 37, 156, 157, 40, 41, 42, 43, 44, 45, 46, 47, 48, 166, 35, 36, 38, 39, 167, 168, 169, 170, 171, 172, 173, 174, 24, 3, 25, 175, 158, 73, 159, 176, 27, 28, 29, 30, 31, 32, 33, 190, 191, 192, 238, 239, 240, 225, 226] rfl (by decide +kernel)
set_option maxRecDepth 20000 in
theorem gX2_begin_X4_show : GoodIn wsX2_begin (wsV RX2 161 RX4 yX4_show wsX4_show) := goodIn_app (goodIn_of _ (by decide +kernel)) ggX2_begin_X4_show
set_option maxRecDepth 20000 in
theorem ggX2_begin_X2_stateLimbs : GoodIn wsX2_begin wsX2_stateLimbs := goodIn_r _ [181, 5, 10, 182, 183, 184, 170, 185, 173, 175, 186, 187, 188, 29, 189, 31, 32, 72, 73, 74, 193, 194, 195, 196, 197, 198, 199, 200, 201, 202, 203, 204, 205, 206, 207, 208, 209, 210, 211, 212, 213, 238, 239, 240, 225, 226] rfl (by decide +kernel)
set_option maxRecDepth 20000 in
theorem gX2_begin_X2_stateLimbs : GoodIn wsX2_begin (wsV RX2 125 RX2 yX2_stateLimbs wsX2_stateLimbs) := goodIn_app (goodIn_of _ (by decide +kernel)) ggX2_begin_X2_stateLimbs
set_option maxRecDepth 20000 in
theorem ggX2_combineRow_X9_multiply : GoodIn wsX2_combineRow wsX9_multiply := goodIn_r _ [10, 11, 12, 13, 14, 15, 16, 9, 17, 113, 114] rfl (by decide +kernel)
set_option maxRecDepth 20000 in
theorem gX2_combineRow_X9_multiply : GoodIn wsX2_combineRow (wsV RX2 165 RX9 yX9_multiply wsX9_multiply) := goodIn_app (goodIn_of _ (by decide +kernel)) ggX2_combineRow_X9_multiply
set_option maxRecDepth 20000 in
theorem ggX2_combineRow_X0_takeAway : GoodIn wsX2_combineRow wsX0_takeAway := goodIn_r _ [22, 23, 24, 25, 9, 26, 11, 12, 27, 28, 29, 30, 31, 32, 33, 34, 13, 35, 36, 37, 38, 14, 15, 16, 17, 39, 40, 41, 42, 43, 44, 45, 46, 113, 114] rfl (by decide +kernel)
set_option maxRecDepth 20000 in
theorem gX2_combineRow_X0_takeAway : GoodIn wsX2_combineRow (wsV RX2 169 RX0 yX0_takeAway wsX0_takeAway) := goodIn_app (goodIn_of _ (by decide +kernel)) ggX2_combineRow_X0_takeAway
set_option maxRecDepth 20000 in
theorem ggX2_combineRow_X0_divideExactly : GoodIn wsX2_combineRow wsX0_divideExactly := goodIn_r _ [50, 51, 52, 53, 54, 55, 56, 57, 58, 59, 60, 24, 25, 9, 26, 11, 12, 27, 28, 29, 30, 61, 62, 63, 64, 65, 66, 67, 68, 69, 70, 71, 72, 73, 74, 75, 76, 77, 78, 79, 80, 81, 82, 83, 84, 15, 16, 17, 85, 86, 87, 88, 89, 115, 116, 117, 118, 119, 120, 121, 122, 123, 113, 114, 124, 125] rfl (by decide +kernel)
set_option maxRecDepth 20000 in
theorem gX2_combineRow_X0_divideExactly : GoodIn wsX2_combineRow (wsV RX2 173 RX0 yX0_divideExactly wsX0_divideExactly) := goodIn_app (goodIn_of _ (by decide +kernel)) ggX2_combineRow_X0_divideExactly
set_option maxRecDepth 20000 in
theorem ggX2_refreshCells_X9_multiply : GoodIn wsX2_refreshCells wsX9_multiply := goodIn_r _ [9, 10, 11, 12, 13, 14, 15, 8, 16, 166, 167] rfl (by decide +kernel)
set_option maxRecDepth 20000 in
theorem gX2_refreshCells_X9_multiply : GoodIn wsX2_refreshCells (wsV RX2 165 RX9 yX9_multiply wsX9_multiply) := goodIn_app (goodIn_of _ (by decide +kernel)) ggX2_refreshCells_X9_multiply
set_option maxRecDepth 20000 in
theorem ggX2_refreshCells_X0_reduce : GoodIn wsX2_refreshCells wsX0_reduce := goodIn_r _ [21, 22, 23, 24, 25, 26, 27, 28, 29, 30, 31, 32, 33, 34, 35, 36, 8, 37, 10, 11, 38, 39, 40, 41, 42, 43, 44, 45, 46, 47, 48, 49, 50, 51, 52, 53, 54, 55, 56, 57, 58, 59, 60, 61, 62, 63, 64, 65, 66, 67, 68, 69, 70, 71, 72, 73, 14, 15, 16, 74, 75, 76, 77, 78, 79, 80, 81, 82, 83, 84, 85, 86, 87, 88, 89, 90, 91, 92, 93, 94, 95, 96, 97, 98, 99, 100, 101, 102, 103, 104, 105, 106, 107, 108, 109, 110, 111, 112, 113, 114, 115, 116, 117, 118, 119, 12, 120, 121, 122, 123, 168, 169, 170, 171, 172, 173, 174, 175, 176, 147, 148, 177, 178, 179, 180, 181, 182, 183, 184, 185, 186, 187, 188, 166, 167, 189, 190] rfl (by decide +kernel)
set_option maxRecDepth 20000 in
theorem gX2_refreshCells_X0_reduce : GoodIn wsX2_refreshCells (wsV RX2 177 RX0 yX0_reduce wsX0_reduce) := goodIn_app (goodIn_of _ (by decide +kernel)) ggX2_refreshCells_X0_reduce
set_option maxRecDepth 20000 in
theorem ggX2_refreshCells_X0_multiplyFractions : GoodIn wsX2_refreshCells wsX0_multiplyFractions := goodIn_r _ [127, 22, 128, 129, 130, 131, 23, 24, 25, 26, 27, 28, 29, 30, 31, 32, 33, 34, 35, 36, 8, 37, 10, 11, 38, 39, 40, 41, 42, 43, 44, 45, 46, 47, 48, 49, 50, 51, 52, 53, 54, 55, 56, 57, 58, 59, 60, 61, 62, 63, 64, 65, 66, 67, 68, 69, 70, 71, 72, 73, 14, 15, 16, 74, 75, 76, 77, 78, 79, 80, 81, 82, 83, 84, 85, 86, 87, 88, 89, 90, 91, 92, 93, 94, 95, 96, 97, 98, 99, 100, 101, 102, 103, 104, 105, 106, 107, 108, 109, 110, 111, 112, 113, 114, 115, 116, 117, 118, 119, 12, 120, 121, 122, 123, 132, 6, 7, 9, 13, 168, 169, 170, 171, 172, 173, 174, 175, 176, 177, 178, 179, 180, 181, 182, 183, 184, 185, 186, 187, 188, 166, 167, 189, 190] rfl (by decide +kernel)
set_option maxRecDepth 20000 in
theorem gX2_refreshCells_X0_multiplyFractions : GoodIn wsX2_refreshCells (wsV RX2 181 RX0 yX0_multiplyFractions wsX0_multiplyFractions) := goodIn_app (goodIn_of _ (by decide +kernel)) ggX2_refreshCells_X0_multiplyFractions
set_option maxRecDepth 20000 in
theorem ggX2_refreshCells_X6_clear : GoodIn wsX2_refreshCells wsX6_clear := goodIn_r _ [137, 138, 139, 140, 141, 83, 84, 8, 85, 10, 142, 117, 118, 119, 11, 12, 177, 178, 179, 166, 167] rfl (by decide +kernel)
set_option maxRecDepth 20000 in
theorem gX2_refreshCells_X6_clear : GoodIn wsX2_refreshCells (wsV RX2 185 RX6 yX6_clear wsX6_clear) := goodIn_app (goodIn_of _ (by decide +kernel)) ggX2_refreshCells_X6_clear
set_option maxRecDepth 20000 in
theorem ggX2_stateLimbs_X6_limbCount : GoodIn wsX2_stateLimbs wsX6_limbCount := goodIn_r _ [7, 8, 9, 10, 11, 12, 13, 14, 15, 16, 17, 18, 19, 41, 42, 43, 44, 45] rfl (by decide +kernel)
set_option maxRecDepth 20000 in
theorem gX2_stateLimbs_X6_limbCount : GoodIn wsX2_stateLimbs (wsV RX2 188 RX6 yX6_limbCount wsX6_limbCount) := goodIn_app (goodIn_of _ (by decide +kernel)) ggX2_stateLimbs_X6_limbCount
set_option maxRecDepth 20000 in
theorem ggX2_findUnknowns_X0_reduce : GoodIn wsX2_findUnknowns wsX0_reduce := goodIn_r _ [12, 13, 14, 15, 16, 17, 18, 19, 20, 21, 22, 23, 24, 25, 26, 27, 28, 29, 30, 31, 32, 33, 34, 35, 36, 37, 38, 39, 40, 41, 42, 43, 44, 45, 46, 47, 48, 49, 50, 51, 52, 53, 54, 55, 56, 57, 58, 59, 60, 61, 62, 63, 64, 65, 66, 67, 68, 69, 70, 71, 72, 73, 74, 75, 76, 77, 78, 79, 80, 81, 82, 83, 84, 85, 86, 87, 88, 89, 90, 91, 92, 93, 94, 95, 96, 97, 98, 99, 100, 101, 102, 103, 104, 105, 106, 107, 108, 109, 110, 111, 112, 113, 114, 115, 116, 117, 118, 119, 120, 121, 155, 156, 157, 158, 159, 160, 161, 162, 163, 153, 154, 164, 165, 166, 167, 168, 169, 170, 171, 172, 173, 174, 175, 176, 177, 178, 179] rfl (by decide +kernel)
set_option maxRecDepth 20000 in
theorem gX2_findUnknowns_X0_reduce : GoodIn wsX2_findUnknowns (wsV RX2 177 RX0 yX0_reduce wsX0_reduce) := goodIn_app (goodIn_of _ (by decide +kernel)) ggX2_findUnknowns_X0_reduce
set_option maxRecDepth 20000 in
theorem ggX2_findUnknowns_X6_clear : GoodIn wsX2_findUnknowns wsX6_clear := goodIn_r _ [126, 127, 128, 129, 130, 80, 81, 28, 82, 30, 131, 114, 115, 116, 31, 117, 164, 165, 166, 176, 177] rfl (by decide +kernel)
set_option maxRecDepth 20000 in
theorem gX2_findUnknowns_X6_clear : GoodIn wsX2_findUnknowns (wsV RX2 185 RX6 yX6_clear wsX6_clear) := goodIn_app (goodIn_of _ (by decide +kernel)) ggX2_findUnknowns_X6_clear
set_option maxRecDepth 20000 in
theorem ggX2_findVolume_X6_clear : GoodIn wsX2_findVolume wsX6_clear := goodIn_r _ [14, 15, 16, 17, 18, 19, 20, 21, 22, 23, 24, 25, 26, 27, 28, 29, 162, 163, 164, 165, 166] rfl (by decide +kernel)
set_option maxRecDepth 20000 in
theorem gX2_findVolume_X6_clear : GoodIn wsX2_findVolume (wsV RX2 185 RX6 yX6_clear wsX6_clear) := goodIn_app (goodIn_of _ (by decide +kernel)) ggX2_findVolume_X6_clear
set_option maxRecDepth 20000 in
theorem ggX2_findVolume_X9_assign : GoodIn wsX2_findVolume wsX9_assign := goodIn_r _ [27, 23, 28, 29, 165, 166] rfl (by decide +kernel)
set_option maxRecDepth 20000 in
theorem gX2_findVolume_X9_assign : GoodIn wsX2_findVolume (wsV RX2 74 RX9 yX9_assign wsX9_assign) := goodIn_app (goodIn_of _ (by decide +kernel)) ggX2_findVolume_X9_assign
set_option maxRecDepth 20000 in
theorem ggX2_findVolume_X9_multiply : GoodIn wsX2_findVolume wsX9_multiply := goodIn_r _ [34, 23, 28, 29, 35, 36, 37, 21, 38, 165, 166] rfl (by decide +kernel)
set_option maxRecDepth 20000 in
theorem gX2_findVolume_X9_multiply : GoodIn wsX2_findVolume (wsV RX2 165 RX9 yX9_multiply wsX9_multiply) := goodIn_app (goodIn_of _ (by decide +kernel)) ggX2_findVolume_X9_multiply
set_option maxRecDepth 20000 in
theorem ggX2_findVolume_X9_copyFrom : GoodIn wsX2_findVolume wsX9_copyFrom := goodIn_r _ [42, 23, 28, 43, 44, 45, 46, 165, 166] rfl (by decide +kernel)
set_option maxRecDepth 20000 in
theorem gX2_findVolume_X9_copyFrom : GoodIn wsX2_findVolume (wsV RX2 191 RX9 yX9_copyFrom wsX9_copyFrom) := goodIn_app (goodIn_of _ (by decide +kernel)) ggX2_findVolume_X9_copyFrom
set_option maxRecDepth 20000 in
theorem ggX2_findVolume_X0_reduce : GoodIn wsX2_findVolume wsX0_reduce := goodIn_r _ [51, 52, 53, 54, 55, 56, 57, 58, 59, 60, 61, 62, 63, 64, 65, 66, 21, 67, 23, 28, 68, 40, 41, 42, 43, 44, 45, 46, 69, 70, 71, 72, 73, 74, 75, 76, 77, 78, 79, 80, 81, 82, 83, 84, 85, 86, 87, 88, 89, 90, 91, 92, 93, 94, 95, 96, 36, 37, 38, 97, 98, 99, 100, 101, 102, 103, 104, 105, 19, 20, 22, 106, 107, 108, 109, 110, 111, 112, 113, 114, 115, 116, 117, 118, 119, 120, 121, 122, 123, 124, 125, 126, 127, 128, 129, 130, 131, 132, 133, 134, 135, 136, 25, 26, 27, 29, 137, 138, 139, 140, 167, 168, 169, 170, 171, 172, 173, 174, 175, 176, 177, 162, 163, 164, 178, 179, 180, 181, 182, 183, 184, 185, 186, 165, 166, 187, 188] rfl (by decide +kernel)
set_option maxRecDepth 20000 in
theorem gX2_findVolume_X0_reduce : GoodIn wsX2_findVolume (wsV RX2 177 RX0 yX0_reduce wsX0_reduce) := goodIn_app (goodIn_of _ (by decide +kernel)) ggX2_findVolume_X0_reduce
set_option maxRecDepth 20000 in
theorem ggX2_holds_X0_scaleRow : GoodIn wsX2_holds wsX0_scaleRow := goodIn_r _ [14, 15, 16, 17, 18, 19, 20, 21, 22, 23, 24, 25, 26, 27, 28, 29, 30, 31, 32, 33, 34, 35, 36, 37, 38, 39, 40, 41, 42, 43, 44, 45, 46, 47, 48, 49, 50, 51, 52, 53, 54, 55, 56, 57, 58, 59, 60, 61, 62, 63, 64, 65, 66, 67, 68, 69, 70, 71, 72, 73, 74, 75, 76, 77, 78, 79, 80, 81, 82, 83, 84, 85, 86, 87, 88, 89, 90, 91, 92, 93, 94, 95, 96, 97, 98, 99, 100, 101, 102, 103, 104, 105, 106, 107, 108, 109, 110, 111, 112, 113, 114, 115, 116, 117, 118, 119, 120, 121, 122, 123, 124, 125, 126, 127, 128, 129, 130, 131, 132, 133, 134, 135, 136, 137, 138, 139, 140, 141, 142, 143, 144, 145, 146, 147, 148, 149, 150, 151, 152, 153, 154, 155, 156, 157, 158, 192, 193, 194, 195, 196, 197, 198, 199, 200, 201, 202, 203, 204, 205, 206, 207, 208, 209, 210, 211, 212, 213, 214, 215, 216, 217, 218] rfl (by decide +kernel)
set_option maxRecDepth 20000 in
theorem gX2_holds_X0_scaleRow : GoodIn wsX2_holds (wsV RX2 154 RX0 yX0_scaleRow wsX0_scaleRow) := goodIn_app (goodIn_of _ (by decide +kernel)) ggX2_holds_X0_scaleRow
set_option maxRecDepth 20000 in
theorem ggX2_holds_X9_clear : GoodIn wsX2_holds wsX9_clear := goodIn_r _ [109, 29, 206, 207] rfl (by decide +kernel)
set_option maxRecDepth 20000 in
theorem gX2_holds_X9_clear : GoodIn wsX2_holds (wsV RX2 195 RX9 yX9_clear wsX9_clear) := goodIn_app (goodIn_of _ (by decide +kernel)) ggX2_holds_X9_clear
set_option maxRecDepth 20000 in
theorem ggX2_holds_X2_addProduct : GoodIn wsX2_holds wsX2_addProduct := goodIn_r _ [164, 3, 4, 5, 165, 146, 147, 27, 148, 29, 30, 31, 149, 95, 96, 97, 166, 167, 168, 169, 136, 77, 78, 79, 171, 172, 173, 174, 175, 176, 177, 178, 179, 180, 181, 182, 183, 184, 185, 186, 187, 204, 205, 206, 207] rfl (by decide +kernel)
set_option maxRecDepth 20000 in
theorem gX2_holds_X2_addProduct : GoodIn wsX2_holds (wsV RX2 196 RX2 yX2_addProduct wsX2_addProduct) := goodIn_app (goodIn_of _ (by decide +kernel)) ggX2_holds_X2_addProduct
set_option maxRecDepth 20000 in
theorem ggX2_holds_X9_against : GoodIn wsX2_holds wsX9_against := goodIn_r _ [61, 29, 30, 206, 207] rfl (by decide +kernel)
set_option maxRecDepth 20000 in
theorem gX2_holds_X9_against : GoodIn wsX2_holds (wsV RX2 200 RX9 yX9_against wsX9_against) := goodIn_app (goodIn_of _ (by decide +kernel)) ggX2_holds_X9_against
set_option maxRecDepth 20000 in
theorem ggX2_addProduct_X9_multiply : GoodIn wsX2_addProduct wsX9_multiply := goodIn_r _ [8, 9, 10, 11, 12, 13, 14, 7, 15, 43, 44] rfl (by decide +kernel)
set_option maxRecDepth 20000 in
theorem gX2_addProduct_X9_multiply : GoodIn wsX2_addProduct (wsV RX2 165 RX9 yX9_multiply wsX9_multiply) := goodIn_app (goodIn_of _ (by decide +kernel)) ggX2_addProduct_X9_multiply
set_option maxRecDepth 20000 in
theorem ggX2_addProduct_X9_add : GoodIn wsX2_addProduct wsX9_add := goodIn_r _ [19, 9, 10, 11, 20, 21, 22, 7, 23, 12, 13, 14, 15, 43, 44] rfl (by decide +kernel)
set_option maxRecDepth 20000 in
theorem gX2_addProduct_X9_add : GoodIn wsX2_addProduct (wsV RX2 204 RX9 yX9_add wsX9_add) := goodIn_app (goodIn_of _ (by decide +kernel)) ggX2_addProduct_X9_add
