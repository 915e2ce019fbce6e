set_option maxRecDepth 20000 in
theorem ggL_law_X10_init : GoodIn wsL_law wsX10_init := goodIn_r _ [9, 10, 11, 12, 13, 14, 15, 16, 17, 18, 19, 20, 21, 22, 23, 24, 25, 26, 27, 28, 29, 30, 31, 32, 33, 34, 6, 35, 36, 37, 38, 39, 40, 41, 42, 43, 44, 45, 46, 47, 48, 49, 50, 51, 52, 53, 54, 55, 56, 57, 58, 59, 60, 61, 62, 63, 64, 65, 66, 67, 68, 69, 70, 71, 72, 73, 74, 75, 76, 77, 78, 79, 80, 81, 82, 83, 84, 85, 86, 87, 88, 89, 90, 91, 92, 93, 94, 95, 96, 97, 98, 99, 100, 101, 102, 103, 104, 105, 106, 107, 108, 109, 110, 111, 112, 113, 114, 115, 116, 117, 118, 119, 120, 121, 122, 123, 124, 125, 126, 127, 128, 129, 130, 131, 132, 133, 134, 135, 136, 137, 138, 139, 140, 141, 142, 143, 144, 145, 146, 147, 148, 149, 150, 151, 152, 153, 154, 155, 156, 157, 158, 159, 160, 161, 162, 163, 164, 165, 166, 167, 168, 169, 170, 171, 172, 173, 174, 175, 817, 818, 819, 797, 798, 799, 800, 801, 802, 820, 821, 822, 823, 824, 825, 826, 827, 828, 829, 830, 831, 832, 833, 834, 835, 836, 837, 838, 839, 840, 841, 842, 843, 844, 845, 846, 847, 848, 849, 850, 851, 852, 853, 854, 855, 856, 857, 858, 859, 860, 861, 862, 863, 864, 865, 866, 867, 868] rfl (by decide +kernel)
set_option maxRecDepth 20000 in
theorem gL_law_X10_init : GoodIn wsL_law (wsX10_init) := ggL_law_X10_init
set_option maxRecDepth 20000 in
theorem ggL_law_X11_init : GoodIn wsL_law wsX11_init := goodIn_r _ [178, 179, 11, 12, 180, 54, 181, 182, 183, 184, 185, 186, 187, 6, 188, 189, 190, 191, 5, 192, 193, 194, 195, 196, 197, 198, 199, 200, 201, 202, 203, 204, 205, 803, 804, 805, 806, 807, 808, 809, 810, 811, 812, 813, 814, 815, 816] rfl (by decide +kernel)
set_option maxRecDepth 20000 in
theorem gL_law_X11_init : GoodIn wsL_law (wsX11_init) := ggL_law_X11_init
set_option maxRecDepth 20000 in
theorem ggL_law_L_size : GoodIn wsL_law wsL_size := goodIn_ca (goodIn_r _ [209, 210, 211, 212, 213, 2, 214, 215, 216, 16, 217, 38, 39, 15, 40, 41, 35, 36, 218, 219, 220, 221, 29, 30, 797, 798, 799, 800, 801, 802, 817, 818, 819] rfl (by decide +kernel)) (goodIn_sub (fun _ h => List.mem_append_left _ (List.mem_append_left _ (List.mem_append_right _ h))) (by decide +kernel))
set_option maxRecDepth 20000 in
theorem gL_law_L_size : GoodIn wsL_law (va_wsS RL 63 yL_size wsL_size) := goodIn_app (goodIn_of _ (by decide +kernel)) ggL_law_L_size
set_option maxRecDepth 20000 in
theorem ggL_law_X11_size : GoodIn wsL_law wsX11_size := goodIn_r _ [225, 226, 186, 189, 190, 191, 5, 192, 193, 194, 195, 196, 197, 183, 182, 198, 199, 200, 201, 181, 202, 203, 204, 205, 803, 804, 805, 806, 807, 808, 809, 810, 811, 812, 813, 814, 815, 816] rfl (by decide +kernel)
set_option maxRecDepth 20000 in
theorem gL_law_X11_size : GoodIn wsL_law (wsV RL 68 RX11 yX11_size wsX11_size) := goodIn_app (goodIn_of _ (by decide +kernel)) ggL_law_X11_size
set_option maxRecDepth 20000 in
theorem ggL_law_X11_thrown : GoodIn wsL_law wsX11_thrown := goodIn_r _ [230, 226, 803, 804, 805, 806, 807, 808, 809, 810, 811, 812, 813, 814, 815, 816] rfl (by decide +kernel)
set_option maxRecDepth 20000 in
theorem gL_law_X11_thrown : GoodIn wsL_law (wsV RL 69 RX11 yX11_thrown wsX11_thrown) := goodIn_app (goodIn_of _ (by decide +kernel)) ggL_law_X11_thrown
set_option maxRecDepth 20000 in
theorem ggL_law_L_set : GoodIn wsL_law wsL_set := goodIn_ca (goodIn_ca (goodIn_r _ [233, 234, 210, 235, 236, 237, 2, 238, 239, 240, 215, 216, 16, 241, 242, 243, 15, 244, 41, 245, 246, 247, 248, 249, 250, 251, 252, 35, 36, 253, 254, 255, 256, 257, 258, 259, 260, 218, 219, 220, 221, 29, 30, 261, 262, 263, 264, 265, 266, 267, 268, 269, 270, 271, 272, 273, 274, 275, 797, 798, 799, 800, 801, 802, 817, 818, 819] rfl (by decide +kernel)) (goodIn_sub (fun _ h => List.mem_append_left _ (List.mem_append_right _ h)) (by decide +kernel))) (goodIn_sub (fun _ h => List.mem_append_left _ (List.mem_append_left _ (List.mem_append_right _ h))) (by decide +kernel))
set_option maxRecDepth 20000 in
theorem gL_law_L_set : GoodIn wsL_law (va_wsS RL 72 yL_set wsL_set) := goodIn_app (goodIn_of _ (by decide +kernel)) ggL_law_L_set
set_option maxRecDepth 20000 in
theorem ggL_law_X11_set : GoodIn wsL_law wsX11_set := goodIn_r _ [279, 186, 226, 280, 281, 5, 282, 283, 284, 285, 286, 183, 193, 198, 199, 200, 201, 181, 202, 182, 203, 204, 205, 287, 288, 289, 290, 803, 804, 805, 806, 807, 808, 809, 810, 811, 812, 813, 814, 815, 816] rfl (by decide +kernel)
set_option maxRecDepth 20000 in
theorem gL_law_X11_set : GoodIn wsL_law (wsV RL 75 RX11 yX11_set wsX11_set) := goodIn_app (goodIn_of _ (by decide +kernel)) ggL_law_X11_set
set_option maxRecDepth 20000 in
theorem ggL_law_L_right : GoodIn wsL_law wsL_right := goodIn_ca (goodIn_ca (goodIn_r _ [293, 234, 210, 294, 295, 296, 2, 297, 239, 240, 215, 216, 16, 241, 242, 243, 15, 244, 41, 245, 246, 247, 248, 249, 250, 251, 252, 35, 36, 253, 254, 255, 256, 257, 258, 259, 260, 218, 219, 220, 221, 29, 30, 261, 262, 263, 264, 265, 266, 267, 268, 269, 270, 271, 272, 273, 274, 275, 797, 798, 799, 800, 801, 802, 817, 818, 819] rfl (by decide +kernel)) (goodIn_sub (fun _ h => List.mem_append_left _ (List.mem_append_right _ h)) (by decide +kernel))) (goodIn_sub (fun _ h => List.mem_append_left _ (List.mem_append_left _ (List.mem_append_right _ h))) (by decide +kernel))
set_option maxRecDepth 20000 in
theorem gL_law_L_right : GoodIn wsL_law (va_wsS RL 76 yL_right wsL_right) := goodIn_app (goodIn_of _ (by decide +kernel)) ggL_law_L_right
set_option maxRecDepth 20000 in
theorem ggL_law_X11_right : GoodIn wsL_law wsX11_right := goodIn_r _ [301, 186, 226, 280, 281, 5, 282, 283, 284, 285, 286, 183, 193, 198, 199, 200, 201, 181, 202, 182, 203, 204, 205, 287, 288, 289, 290, 803, 804, 805, 806, 807, 808, 809, 810, 811, 812, 813, 814, 815, 816] rfl (by decide +kernel)
set_option maxRecDepth 20000 in
theorem gL_law_X11_right : GoodIn wsL_law (wsV RL 79 RX11 yX11_right wsX11_right) := goodIn_app (goodIn_of _ (by decide +kernel)) ggL_law_X11_right
set_option maxRecDepth 20000 in
theorem ggL_law_L_eliminate : GoodIn wsL_law wsL_eliminate := goodIn_ca (goodIn_r _ [304, 210, 305, 306, 307, 2, 308, 215, 216, 309, 30, 16, 29, 20, 261, 262, 263, 15, 264, 41, 249, 250, 251, 252, 265, 266, 267, 268, 35, 256, 257, 258, 259, 260, 242, 243, 244, 269, 270, 271, 272, 273, 274, 275, 36, 310, 311, 312, 19, 313, 72, 55, 74, 51, 71, 75, 314, 315, 316, 76, 317, 318, 319, 320, 321, 322, 323, 73, 70, 49, 324, 325, 326, 48, 327, 91, 88, 92, 84, 90, 328, 329, 161, 162, 66, 163, 122, 121, 164, 330, 331, 332, 333, 87, 334, 109, 110, 111, 335, 107, 112, 336, 337, 338, 339, 340, 341, 342, 343, 344, 345, 346, 347, 348, 349, 350, 351, 352, 353, 354, 355, 356, 357, 358, 359, 360, 113, 114, 115, 116, 361, 362, 363, 364, 365, 366, 367, 368, 369, 370, 371, 372, 373, 83, 374, 101, 102, 375, 376, 157, 158, 159, 377, 378, 379, 380, 381, 382, 383, 384, 385, 386, 387, 388, 389, 390, 391, 392, 393, 394, 395, 396, 397, 398, 399, 400, 401, 402, 403, 253, 254, 255, 404, 405, 406, 407, 408, 409, 410, 411, 412, 413, 414, 415, 416, 417, 418, 419, 420, 421, 422, 423, 424, 425, 27, 426, 155, 148, 427, 149, 160, 428, 429, 430, 431, 432, 433, 434, 435, 436, 437, 438, 439, 440, 441, 442, 443, 444, 445, 446, 447, 448, 449, 450, 451, 67, 68, 452, 453, 454, 455, 456, 457, 458, 459, 460, 461, 462, 463, 464, 465, 466, 467, 468, 469, 470, 471, 472, 473, 69, 63, 474, 475, 476, 477, 478, 479, 480, 481, 93, 96, 95, 94, 482, 152, 153, 154, 156, 483, 484, 485, 486, 487, 488, 489, 490, 53, 491, 492, 493, 494, 62, 169, 495, 797, 798, 799, 800, 801, 802, 820, 821, 822, 823, 824, 825, 826, 827, 828, 829, 830, 831, 832, 833, 834, 835, 836, 817, 818, 819, 850, 851, 852, 853, 841, 842, 843, 844, 845, 846, 847, 848, 849, 854, 855, 856, 857, 860, 861, 862, 863, 864, 865, 866, 867, 868, 858, 859, 838, 839, 840] rfl (by decide +kernel)) (goodIn_sub (fun _ h => List.mem_append_left _ (List.mem_append_left _ (List.mem_append_right _ h))) (by decide +kernel))
set_option maxRecDepth 20000 in
theorem gL_law_L_eliminate : GoodIn wsL_law (va_wsS RL 80 yL_eliminate wsL_eliminate) := goodIn_app (goodIn_of _ (by decide +kernel)) ggL_law_L_eliminate
set_option maxRecDepth 20000 in
theorem ggL_law_X11_eliminate : GoodIn wsL_law wsX11_eliminate := goodIn_r _ [499, 500, 226, 193, 501, 502, 503, 186, 183, 187, 504, 505, 506, 507, 5, 508, 509, 510, 511, 512, 182, 181, 203, 204, 205, 287, 288, 289, 290, 280, 281, 282, 513, 514, 515, 516, 517, 518, 519, 520, 521, 522, 523, 524, 525, 526, 527, 528, 184, 202, 529, 530, 531, 532, 533, 534, 535, 536, 537, 538, 539, 540, 194, 195, 196, 197, 198, 199, 200, 201, 541, 542, 543, 544, 545, 546, 547, 548, 549, 550, 185, 551, 552, 553, 554, 555, 556, 557, 558, 559, 560, 561, 562, 563, 564, 565, 566, 567, 568, 569, 570, 571, 572, 573, 574, 575, 576, 577, 578, 579, 580, 581, 582, 583, 584, 585, 586, 587, 803, 804, 805, 806, 807, 808, 809, 810, 811, 812, 813, 814, 815, 816] rfl (by decide +kernel)
set_option maxRecDepth 20000 in
theorem gL_law_X11_eliminate : GoodIn wsL_law (wsV RL 83 RX11 yX11_eliminate wsX11_eliminate) := goodIn_app (goodIn_of _ (by decide +kernel)) ggL_law_X11_eliminate
set_option maxRecDepth 20000 in
theorem ggL_law_X10_rank : GoodIn wsL_law wsX10_rank := goodIn_r _ [591, 30, 20, 797, 798, 799, 800, 801, 802, 820, 821, 822, 823, 824, 825, 826, 827, 828, 829, 830, 831, 832, 833, 834, 835, 836] rfl (by decide +kernel)
set_option maxRecDepth 20000 in
theorem gL_law_X10_rank : GoodIn wsL_law (wsV RL 84 RX10 yX10_rank wsX10_rank) := goodIn_app (goodIn_of _ (by decide +kernel)) ggL_law_X10_rank
set_option maxRecDepth 20000 in
theorem ggL_law_X11_rank : GoodIn wsL_law wsX11_rank := goodIn_r _ [595, 226, 193, 501, 803, 804, 805, 806, 807, 808, 809, 810, 811, 812, 813, 814, 815, 816] rfl (by decide +kernel)
set_option maxRecDepth 20000 in
theorem gL_law_X11_rank : GoodIn wsL_law (wsV RL 87 RX11 yX11_rank wsX11_rank) := goodIn_app (goodIn_of _ (by decide +kernel)) ggL_law_X11_rank
set_option maxRecDepth 20000 in
theorem ggL_law_L_isSolvable : GoodIn wsL_law wsL_isSolvable := goodIn_ca (goodIn_r _ [598, 599, 600, 601, 602, 2, 603, 604, 605, 30, 20, 797, 798, 799, 800, 801, 802, 820, 821, 822, 823, 824, 825, 826, 827, 828, 829, 830, 831, 832, 833, 834, 835, 836] rfl (by decide +kernel)) (goodIn_sub (fun _ h => List.mem_append_right _ h) (by decide +kernel))
set_option maxRecDepth 20000 in
theorem gL_law_L_isSolvable : GoodIn wsL_law (va_wsS RL 88 yL_isSolvable wsL_isSolvable) := goodIn_app (goodIn_of _ (by decide +kernel)) ggL_law_L_isSolvable
set_option maxRecDepth 20000 in
theorem ggL_law_X11_isSolvable : GoodIn wsL_law wsX11_isSolvable := goodIn_r _ [609, 193, 226, 504, 803, 804, 805, 806, 807, 808, 809, 810, 811, 812, 813, 814, 815, 816] rfl (by decide +kernel)
set_option maxRecDepth 20000 in
theorem gL_law_X11_isSolvable : GoodIn wsL_law (wsV RL 91 RX11 yX11_isSolvable wsX11_isSolvable) := goodIn_app (goodIn_of _ (by decide +kernel)) ggL_law_X11_isSolvable
set_option maxRecDepth 20000 in
theorem ggL_law_L_most : GoodIn wsL_law wsL_most := goodIn_ca (goodIn_r _ [612, 599, 613, 614, 615, 2, 616, 604, 605, 30, 20, 797, 798, 799, 800, 801, 802, 820, 821, 822, 823, 824, 825, 826, 827, 828, 829, 830, 831, 832, 833, 834, 835, 836] rfl (by decide +kernel)) (goodIn_sub (fun _ h => List.mem_append_right _ h) (by decide +kernel))
set_option maxRecDepth 20000 in
theorem gL_law_L_most : GoodIn wsL_law (va_wsS RL 92 yL_most wsL_most) := goodIn_app (goodIn_of _ (by decide +kernel)) ggL_law_L_most
set_option maxRecDepth 20000 in
theorem ggL_law_X11_most : GoodIn wsL_law wsX11_most := goodIn_r _ [620, 193, 226, 503, 803, 804, 805, 806, 807, 808, 809, 810, 811, 812, 813, 814, 815, 816] rfl (by decide +kernel)
set_option maxRecDepth 20000 in
theorem gL_law_X11_most : GoodIn wsL_law (wsV RL 94 RX11 yX11_most wsX11_most) := goodIn_app (goodIn_of _ (by decide +kernel)) ggL_law_X11_most
set_option maxRecDepth 20000 in
theorem ggL_law_L_pivot : GoodIn wsL_law wsL_pivot := goodIn_ca (goodIn_ca (goodIn_r _ [623, 234, 599, 624, 625, 626, 2, 627, 239, 240, 604, 605, 16, 30, 20, 241, 242, 243, 15, 244, 41, 797, 798, 799, 800, 801, 802, 820, 821, 822, 823, 824, 825, 826, 827, 828, 829, 830, 831, 832, 833, 834, 835, 836, 817, 818, 819] rfl (by decide +kernel)) (goodIn_sub (fun _ h => List.mem_append_left _ (List.mem_append_right _ h)) (by decide +kernel))) (goodIn_sub (fun _ h => List.mem_append_right _ h) (by decide +kernel))
set_option maxRecDepth 20000 in
theorem gL_law_L_pivot : GoodIn wsL_law (va_wsS RL 95 yL_pivot wsL_pivot) := goodIn_app (goodIn_of _ (by decide +kernel)) ggL_law_L_pivot
set_option maxRecDepth 20000 in
theorem ggL_law_X11_pivot : GoodIn wsL_law wsX11_pivot := goodIn_r _ [631, 193, 226, 187, 632, 633, 634, 5, 635, 186, 803, 804, 805, 806, 807, 808, 809, 810, 811, 812, 813, 814, 815, 816] rfl (by decide +kernel)
set_option maxRecDepth 20000 in
theorem gL_law_X11_pivot : GoodIn wsL_law (wsV RL 97 RX11 yX11_pivot wsX11_pivot) := goodIn_app (goodIn_of _ (by decide +kernel)) ggL_law_X11_pivot
set_option maxRecDepth 20000 in
theorem ggL_law_L_solution : GoodIn wsL_law wsL_solution := goodIn_ca (goodIn_ca (goodIn_r _ [638, 234, 599, 639, 640, 641, 2, 642, 239, 240, 604, 605, 16, 30, 20, 241, 242, 243, 15, 244, 41, 643, 644, 645, 646, 647, 648, 27, 649, 155, 148, 149, 436, 437, 438, 66, 439, 122, 121, 348, 349, 650, 651, 652, 653, 654, 655, 403, 354, 355, 356, 797, 798, 799, 800, 801, 802, 820, 821, 822, 823, 824, 825, 826, 827, 828, 829, 830, 831, 832, 833, 834, 835, 836, 817, 818, 819, 838, 839, 840, 856, 857] rfl (by decide +kernel)) (goodIn_sub (fun _ h => List.mem_append_left _ (List.mem_append_right _ h)) (by decide +kernel))) (goodIn_sub (fun _ h => List.mem_append_right _ h) (by decide +kernel))
set_option maxRecDepth 20000 in
theorem gL_law_L_solution : GoodIn wsL_law (va_wsS RL 98 yL_solution wsL_solution) := goodIn_app (goodIn_of _ (by decide +kernel)) ggL_law_L_solution
set_option maxRecDepth 20000 in
theorem ggL_law_X11_solution : GoodIn wsL_law wsX11_solution := goodIn_r _ [659, 193, 504, 226, 632, 633, 634, 5, 635, 186, 660, 661, 662, 663, 664, 665, 666, 187, 194, 195, 196, 197, 183, 182, 198, 199, 200, 201, 181, 202, 203, 204, 205, 280, 281, 282, 521, 522, 523, 524, 525, 526, 527, 528, 184, 529, 530, 531, 532, 533, 534, 535, 536, 537, 538, 539, 540, 541, 542, 543, 544, 509, 510, 511, 512, 545, 546, 547, 548, 549, 550, 185, 551, 552, 553, 554, 555, 556, 557, 558, 559, 560, 561, 562, 563, 564, 565, 566, 567, 667, 668, 669, 670, 803, 804, 805, 806, 807, 808, 809, 810, 811, 812, 813, 814, 815, 816] rfl (by decide +kernel)
set_option maxRecDepth 20000 in
theorem gL_law_X11_solution : GoodIn wsL_law (wsV RL 100 RX11 yX11_solution wsX11_solution) := goodIn_app (goodIn_of _ (by decide +kernel)) ggL_law_X11_solution
set_option maxRecDepth 20000 in
theorem ggL_law_L_determinant : GoodIn wsL_law wsL_determinant := goodIn_ca (goodIn_ca (goodIn_r _ [673, 234, 599, 674, 675, 676, 2, 677, 239, 240, 604, 605, 30, 20, 643, 644, 645, 646, 647, 648, 27, 649, 155, 148, 149, 436, 437, 438, 66, 439, 122, 121, 348, 349, 650, 651, 652, 653, 654, 655, 403, 354, 355, 356, 797, 798, 799, 800, 801, 802, 820, 821, 822, 823, 824, 825, 826, 827, 828, 829, 830, 831, 832, 833, 834, 835, 836, 838, 839, 840, 856, 857] rfl (by decide +kernel)) (goodIn_sub (fun _ h => List.mem_append_left _ (List.mem_append_right _ h)) (by decide +kernel))) (goodIn_sub (fun _ h => List.mem_append_right _ h) (by decide +kernel))
set_option maxRecDepth 20000 in
theorem gL_law_L_determinant : GoodIn wsL_law (va_wsS RL 101 yL_determinant wsL_determinant) := goodIn_app (goodIn_of _ (by decide +kernel)) ggL_law_L_determinant
set_option maxRecDepth 20000 in
theorem ggL_law_X11_determinant : GoodIn wsL_law wsX11_determinant := goodIn_r _ [681, 193, 226, 660, 661, 5, 662, 667, 668, 669, 670, 183, 182, 181, 203, 204, 205, 803, 804, 805, 806, 807, 808, 809, 810, 811, 812, 813, 814, 815, 816] rfl (by decide +kernel)
set_option maxRecDepth 20000 in
theorem gL_law_X11_determinant : GoodIn wsL_law (wsV RL 104 RX11 yX11_determinant wsX11_determinant) := goodIn_app (goodIn_of _ (by decide +kernel)) ggL_law_X11_determinant
set_option maxRecDepth 20000 in
theorem ggL_law_L_cell : GoodIn wsL_law wsL_cell := goodIn_ca (goodIn_ca (goodIn_r _ [684, 234, 599, 685, 686, 687, 2, 688, 239, 240, 604, 605, 16, 30, 20, 689, 257, 258, 15, 259, 41, 260, 242, 243, 244, 643, 644, 645, 646, 647, 648, 27, 649, 155, 148, 149, 436, 437, 438, 66, 439, 122, 121, 348, 349, 650, 651, 652, 653, 654, 655, 403, 354, 355, 356, 797, 798, 799, 800, 801, 802, 820, 821, 822, 823, 824, 825, 826, 827, 828, 829, 830, 831, 832, 833, 834, 835, 836, 850, 851, 852, 853, 817, 818, 819, 838, 839, 840, 856, 857] rfl (by decide +kernel)) (goodIn_sub (fun _ h => List.mem_append_left _ (List.mem_append_right _ h)) (by decide +kernel))) (goodIn_sub (fun _ h => List.mem_append_right _ h) (by decide +kernel))
set_option maxRecDepth 20000 in
theorem gL_law_L_cell : GoodIn wsL_law (va_wsS RL 105 yL_cell wsL_cell) := goodIn_app (goodIn_of _ (by decide +kernel)) ggL_law_L_cell
set_option maxRecDepth 20000 in
theorem ggL_law_X11_cell : GoodIn wsL_law wsX11_cell := goodIn_r _ [693, 193, 226, 694, 695, 696, 5, 697, 186, 660, 661, 662, 280, 281, 282, 667, 668, 669, 670, 183, 182, 181, 203, 204, 205, 803, 804, 805, 806, 807, 808, 809, 810, 811, 812, 813, 814, 815, 816] rfl (by decide +kernel)
set_option maxRecDepth 20000 in
theorem gL_law_X11_cell : GoodIn wsL_law (wsV RL 107 RX11 yX11_cell wsX11_cell) := goodIn_app (goodIn_of _ (by decide +kernel)) ggL_law_X11_cell
set_option maxRecDepth 20000 in
theorem ggL_law_L_told : GoodIn wsL_law wsL_told := goodIn_ca (goodIn_r _ [700, 234, 701, 702, 703, 2, 704, 239, 240, 16, 28, 689, 257, 258, 15, 259, 41, 260, 242, 243, 244, 643, 644, 645, 705, 420, 421, 422, 265, 266, 267, 268, 35, 256, 272, 273, 274, 275, 36, 423, 424, 425, 27, 426, 155, 148, 427, 250, 251, 252, 149, 416, 417, 160, 161, 162, 66, 163, 122, 121, 164, 646, 647, 648, 649, 436, 437, 438, 439, 348, 349, 650, 651, 652, 653, 654, 655, 403, 354, 355, 356, 797, 798, 799, 800, 801, 802, 817, 818, 819, 838, 839, 840, 856, 857] rfl (by decide +kernel)) (goodIn_sub (fun _ h => List.mem_append_left _ (List.mem_append_right _ h)) (by decide +kernel))
set_option maxRecDepth 20000 in
theorem gL_law_L_told : GoodIn wsL_law (va_wsS RL 108 yL_told wsL_told) := goodIn_app (goodIn_of _ (by decide +kernel)) ggL_law_L_told
set_option maxRecDepth 20000 in
theorem ggL_law_X11_told : GoodIn wsL_law wsX11_told := goodIn_r _ [709, 226, 694, 695, 696, 5, 697, 186, 660, 661, 662, 280, 281, 282, 667, 668, 669, 670, 183, 182, 181, 203, 204, 205, 803, 804, 805, 806, 807, 808, 809, 810, 811, 812, 813, 814, 815, 816] rfl (by decide +kernel)
set_option maxRecDepth 20000 in
theorem gL_law_X11_told : GoodIn wsL_law (wsV RL 110 RX11 yX11_told wsX11_told) := goodIn_app (goodIn_of _ (by decide +kernel)) ggL_law_X11_told
set_option maxRecDepth 20000 in
theorem ggL_law_X10_modulo : GoodIn wsL_law wsX10_modulo := goodIn_r _ [713, 24, 16, 714, 715, 716, 23, 717, 718, 322, 251, 323, 174, 719, 720, 721, 722, 723, 724, 725, 726, 727, 273, 274, 15, 275, 36, 256, 257, 258, 259, 41, 260, 242, 243, 244, 728, 266, 267, 268, 35, 729, 730, 731, 732, 733, 734, 735, 736, 737, 738, 739, 740, 741, 742, 743, 744, 745, 746, 747, 797, 798, 799, 800, 801, 802, 817, 818, 819, 837] rfl (by decide +kernel)
set_option maxRecDepth 20000 in
theorem gL_law_X10_modulo : GoodIn wsL_law (wsV RL 111 RX10 yX10_modulo wsX10_modulo) := goodIn_app (goodIn_of _ (by decide +kernel)) ggL_law_X10_modulo
set_option maxRecDepth 20000 in
theorem ggL_law_X11_modulo : GoodIn wsL_law wsX11_modulo := goodIn_r _ [751, 226, 186, 188, 183, 752, 753, 5, 754, 755, 280, 281, 282, 756, 757, 758, 759, 182, 202, 181, 203, 204, 205, 760, 761, 762, 803, 804, 805, 806, 807, 808, 809, 810, 811, 812, 813, 814, 815, 816] rfl (by decide +kernel)
set_option maxRecDepth 20000 in
theorem gL_law_X11_modulo : GoodIn wsL_law (wsV RL 114 RX11 yX11_modulo wsX11_modulo) := goodIn_app (goodIn_of _ (by decide +kernel)) ggL_law_X11_modulo
set_option maxRecDepth 20000 in
theorem ggL_law_X10_meter : GoodIn wsL_law wsX10_meter := goodIn_r _ [766, 16, 261, 262, 263, 15, 264, 41, 249, 250, 251, 252, 265, 266, 267, 268, 35, 256, 257, 258, 259, 260, 242, 243, 244, 269, 270, 271, 272, 273, 274, 275, 36, 797, 798, 799, 800, 801, 802, 817, 818, 819] rfl (by decide +kernel)
set_option maxRecDepth 20000 in
theorem gL_law_X10_meter : GoodIn wsL_law (wsV RL 115 RX10 yX10_meter wsX10_meter) := goodIn_app (goodIn_of _ (by decide +kernel)) ggL_law_X10_meter
set_option maxRecDepth 20000 in
theorem ggL_law_X11_meter : GoodIn wsL_law wsX11_meter := goodIn_r _ [770, 226, 287, 288, 289, 5, 290, 186, 182, 280, 281, 282, 803, 804, 805, 806, 807, 808, 809, 810, 811, 812, 813, 814, 815, 816] rfl (by decide +kernel)
set_option maxRecDepth 20000 in
theorem gL_law_X11_meter : GoodIn wsL_law (wsV RL 118 RX11 yX11_meter wsX11_meter) := goodIn_app (goodIn_of _ (by decide +kernel)) ggL_law_X11_meter
set_option maxRecDepth 20000 in
theorem ggL_law_L_isRight : GoodIn wsL_law wsL_isRight := goodIn_ca (goodIn_ca (goodIn_r _ [773, 234, 599, 774, 775, 776, 2, 777, 239, 240, 604, 605, 16, 30, 20, 241, 242, 243, 15, 244, 41, 778, 779, 780, 19, 781, 49, 57, 69, 67, 68, 72, 55, 51, 71, 324, 325, 326, 48, 327, 91, 88, 92, 84, 90, 328, 250, 251, 252, 329, 161, 162, 66, 163, 122, 121, 164, 330, 273, 274, 275, 36, 256, 257, 258, 259, 260, 331, 332, 333, 87, 334, 109, 110, 111, 335, 107, 112, 336, 337, 338, 339, 340, 341, 342, 343, 344, 345, 346, 347, 348, 349, 350, 351, 352, 353, 354, 355, 356, 357, 358, 359, 360, 113, 114, 115, 116, 361, 362, 363, 364, 365, 366, 367, 368, 369, 370, 371, 372, 373, 83, 374, 101, 102, 375, 376, 157, 158, 159, 377, 378, 379, 380, 381, 382, 383, 384, 385, 386, 387, 388, 389, 390, 391, 392, 393, 394, 395, 396, 397, 398, 399, 400, 401, 402, 403, 253, 254, 255, 404, 405, 406, 407, 408, 409, 410, 411, 412, 413, 414, 415, 266, 267, 268, 35, 416, 417, 418, 782, 783, 784, 785, 786, 452, 787, 458, 459, 460, 788, 797, 798, 799, 800, 801, 802, 820, 821, 822, 823, 824, 825, 826, 827, 828, 829, 830, 831, 832, 833, 834, 835, 836, 817, 818, 819, 850, 851, 852, 853, 841, 842, 843, 844, 845, 846, 847, 848, 849, 854, 855, 856, 857, 860, 861, 862, 863, 864, 865, 866, 867, 868, 858, 859] rfl (by decide +kernel)) (goodIn_sub (fun _ h => List.mem_append_left _ (List.mem_append_right _ h)) (by decide +kernel))) (goodIn_sub (fun _ h => List.mem_append_right _ h) (by decide +kernel))
set_option maxRecDepth 20000 in
theorem gL_law_L_isRight : GoodIn wsL_law (va_wsS RL 119 yL_isRight wsL_isRight) := goodIn_app (goodIn_of _ (by decide +kernel)) ggL_law_L_isRight
set_option maxRecDepth 20000 in
theorem ggL_law_X11_isRight : GoodIn wsL_law wsX11_isRight := goodIn_r _ [792, 186, 193, 504, 226, 194, 195, 196, 5, 197, 183, 182, 198, 199, 200, 201, 181, 202, 203, 204, 205, 663, 664, 665, 666, 187, 280, 281, 282, 521, 522, 523, 524, 525, 526, 527, 528, 184, 529, 530, 531, 532, 533, 534, 535, 536, 537, 538, 539, 540, 541, 542, 543, 544, 509, 510, 511, 512, 545, 546, 547, 548, 549, 550, 185, 551, 552, 553, 554, 555, 556, 557, 558, 559, 560, 561, 562, 563, 564, 565, 566, 567, 568, 569, 570, 571, 572, 573, 574, 575, 576, 577, 578, 579, 580, 581, 582, 583, 584, 585, 586, 587, 505, 506, 507, 508, 793, 794, 795, 796, 803, 804, 805, 806, 807, 808, 809, 810, 811, 812, 813, 814, 815, 816] rfl (by decide +kernel)
set_option maxRecDepth 20000 in
theorem gL_law_X11_isRight : GoodIn wsL_law (wsV RL 121 RX11 yX11_isRight wsX11_isRight) := goodIn_app (goodIn_of _ (by decide +kernel)) ggL_law_X11_isRight
