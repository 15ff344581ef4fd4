/-! the law's rows -/
set_option maxRecDepth 20000 in
theorem ggL_law_X4_init : GoodIn wsL_law wsX4_init := goodIn_r _ [6, 7, 8, 9, 10, 11, 12, 13, 14, 15, 16, 17, 18, 19, 20, 21, 22, 23, 24, 25, 26, 27, 28, 29, 30, 31, 32, 33, 34, 35, 36, 37, 38, 39, 3, 40, 41, 42, 43, 44, 45, 46, 47, 48, 49, 50, 51, 52, 53, 54, 55, 56, 57, 58, 476, 477, 470, 471, 472, 473, 474, 475, 478, 479, 480, 481, 482, 483, 484, 485, 486, 487, 488, 489, 490, 491] (by decide +kernel) (by decide +kernel)
set_option maxRecDepth 20000 in
theorem gL_law_X4_init : GoodIn wsL_law (wsX4_init) := ggL_law_X4_init
set_option maxRecDepth 20000 in
theorem ggL_law_X4_undo : GoodIn wsL_law wsX4_undo := goodIn_r _ [62, 18, 63, 13, 64, 65, 66, 17, 67, 68, 48, 69, 70, 71, 12, 72, 73, 33, 74, 75, 76, 25, 77, 39, 78, 79, 80, 81, 40, 41, 42, 82, 83, 84, 470, 471, 472, 473, 474, 475, 478, 479, 476, 477, 485, 486, 487, 488, 489, 490, 491] (by decide +kernel) (by decide +kernel)
set_option maxRecDepth 20000 in
theorem gL_law_X4_undo : GoodIn wsL_law (wsV RL 123 RX4 yX4_undo wsX4_undo) := goodIn_app (goodIn_of _ (by decide +kernel)) ggL_law_X4_undo
set_option maxRecDepth 20000 in
theorem ggL_law_X4_restore : GoodIn wsL_law wsX4_restore := goodIn_r _ [88, 27, 18, 13, 14, 89, 90, 91, 92, 17, 93, 68, 48, 94, 95, 96, 97, 69, 70, 71, 12, 72, 73, 33, 74, 75, 76, 25, 77, 39, 78, 79, 80, 81, 40, 41, 42, 82, 83, 84, 98, 470, 471, 472, 473, 474, 475, 476, 477, 478, 479, 485, 486, 487, 488, 489, 490, 491] (by decide +kernel) (by decide +kernel)
set_option maxRecDepth 20000 in
theorem gL_law_X4_restore : GoodIn wsL_law (wsV RL 127 RX4 yX4_restore wsX4_restore) := goodIn_app (goodIn_of _ (by decide +kernel)) ggL_law_X4_restore
set_option maxRecDepth 20000 in
theorem ggL_law_X4_most : GoodIn wsL_law wsX4_most := goodIn_r _ [102, 13, 103, 104, 105, 12, 106, 107, 108, 109, 110, 73, 33, 111, 112, 113, 114, 115, 116, 117, 118, 25, 119, 39, 120, 2, 121, 470, 471, 472, 473, 474, 475, 476, 477, 485, 486, 487, 488, 489, 490, 491] (by decide +kernel) (by decide +kernel)
set_option maxRecDepth 20000 in
theorem gL_law_X4_most : GoodIn wsL_law (wsV RL 111 RX4 yX4_most wsX4_most) := goodIn_app (goodIn_of _ (by decide +kernel)) ggL_law_X4_most
set_option maxRecDepth 20000 in
theorem ggL_law_X4_ofAll : GoodIn wsL_law wsX4_ofAll := goodIn_r _ [125, 13, 126, 127, 128, 12, 129, 107, 108, 109, 110, 73, 33, 111, 112, 113, 114, 115, 116, 117, 118, 25, 119, 39, 120, 2, 121, 470, 471, 472, 473, 474, 475, 476, 477, 485, 486, 487, 488, 489, 490, 491] (by decide +kernel) (by decide +kernel)
set_option maxRecDepth 20000 in
theorem gL_law_X4_ofAll : GoodIn wsL_law (wsV RL 85 RX4 yX4_ofAll wsX4_ofAll) := goodIn_app (goodIn_of _ (by decide +kernel)) ggL_law_X4_ofAll
set_option maxRecDepth 20000 in
theorem ggL_law_X4_count : GoodIn wsL_law wsX4_count := goodIn_r _ [133, 13, 89, 18, 63, 22, 134, 135, 136, 137, 12, 138, 73, 33, 139, 140, 141, 142, 143, 144, 145, 146, 25, 147, 41, 40, 148, 149, 150, 151, 152, 153, 154, 155, 156, 157, 158, 159, 42, 160, 161, 162, 163, 164, 165, 166, 167, 168, 169, 170, 171, 107, 108, 109, 110, 111, 172, 173, 174, 175, 176, 177, 178, 179, 180, 181, 182, 183, 470, 471, 472, 473, 474, 475, 476, 477, 478, 479, 480, 481, 482, 483, 484, 485, 486, 487, 488, 489, 490, 491] (by decide +kernel) (by decide +kernel)
set_option maxRecDepth 20000 in
theorem gL_law_X4_count : GoodIn wsL_law (wsV RL 13 RX4 yX4_count wsX4_count) := goodIn_app (goodIn_of _ (by decide +kernel)) ggL_law_X4_count
set_option maxRecDepth 20000 in
theorem ggL_law_X4_keep : GoodIn wsL_law wsX4_keep := goodIn_r _ [187, 14, 13, 27, 89, 98, 70, 71, 12, 72, 73, 33, 74, 75, 76, 25, 77, 39, 78, 79, 80, 81, 40, 41, 42, 82, 83, 84, 470, 471, 472, 473, 474, 475, 476, 477, 485, 486, 487, 488, 489, 490, 491] (by decide +kernel) (by decide +kernel)
set_option maxRecDepth 20000 in
theorem gL_law_X4_keep : GoodIn wsL_law (wsV RL 130 RX4 yX4_keep wsX4_keep) := goodIn_app (goodIn_of _ (by decide +kernel)) ggL_law_X4_keep
set_option maxRecDepth 20000 in
theorem ggL_law_L_cell : GoodIn wsL_law wsL_cell := goodIn_r _ [437, 438] (by decide +kernel) (by decide +kernel)
set_option maxRecDepth 20000 in
theorem gL_law_L_cell : GoodIn wsL_law (va_wsS RL 137 yL_cell wsL_cell) := goodIn_app (goodIn_of _ (by decide +kernel)) ggL_law_L_cell
set_option maxRecDepth 20000 in
theorem ggL_law_L_up : GoodIn wsL_law wsL_up := goodIn_r _ [441, 442] (by decide +kernel) (by decide +kernel)
set_option maxRecDepth 20000 in
theorem gL_law_L_up : GoodIn wsL_law (va_wsS RL 101 yL_up wsL_up) := goodIn_app (goodIn_of _ (by decide +kernel)) ggL_law_L_up
set_option maxRecDepth 20000 in
theorem ggL_law_X4_newSet : GoodIn wsL_law wsX4_newSet := goodIn_r _ [275, 13, 89, 18, 90, 91, 92, 17, 93, 68, 48, 94, 95, 96, 97, 69, 70, 71, 12, 72, 73, 33, 74, 75, 76, 25, 77, 39, 78, 79, 80, 81, 40, 41, 42, 82, 83, 84, 276, 277, 278, 279, 280, 281, 282, 283, 284, 285, 286, 287, 288, 289, 290, 291, 292, 293, 294, 470, 471, 472, 473, 474, 475, 476, 477, 478, 479, 485, 486, 487, 488, 489, 490, 491] (by decide +kernel) (by decide +kernel)
set_option maxRecDepth 20000 in
theorem gL_law_X4_newSet : GoodIn wsL_law (wsV RL 39 RX4 yX4_newSet wsX4_newSet) := goodIn_app (goodIn_of _ (by decide +kernel)) ggL_law_X4_newSet
set_option maxRecDepth 20000 in
theorem ggL_law_X4_tollToDock : GoodIn wsL_law wsX4_tollToDock := goodIn_r _ [434, 26, 13, 201, 205, 206, 207, 2, 208, 89, 327, 75, 76, 25, 77, 39, 78, 79, 80, 81, 40, 41, 42, 82, 83, 84, 307, 308, 309, 310, 311, 312, 313, 314, 232, 233, 234, 235, 236, 237, 238, 239, 156, 157, 158, 159, 315, 316, 317, 318, 470, 471, 472, 473, 474, 475, 476, 477, 485, 486, 487, 488, 489, 490, 491] (by decide +kernel) (by decide +kernel)
set_option maxRecDepth 20000 in
theorem gL_law_X4_tollToDock : GoodIn wsL_law (wsV RL 88 RX4 yX4_tollToDock wsX4_tollToDock) := goodIn_app (goodIn_of _ (by decide +kernel)) ggL_law_X4_tollToDock
set_option maxRecDepth 20000 in
theorem ggL_law_X4_set : GoodIn wsL_law wsX4_set := goodIn_r _ [200, 13, 201, 202, 203, 204, 205, 206, 207, 2, 208, 89, 209, 165, 166, 25, 167, 41, 210, 211, 212, 213, 214, 145, 146, 147, 40, 215, 153, 154, 155, 156, 157, 158, 159, 42, 216, 217, 218, 219, 220, 221, 222, 223, 39, 224, 173, 174, 175, 176, 177, 178, 225, 226, 227, 228, 229, 230, 231, 232, 233, 234, 235, 236, 237, 238, 239, 470, 471, 472, 473, 474, 475, 476, 477, 485, 486, 487, 488, 489, 490, 491] (by decide +kernel) (by decide +kernel)
set_option maxRecDepth 20000 in
theorem gL_law_X4_set : GoodIn wsL_law (wsV RL 19 RX4 yX4_set wsX4_set) := goodIn_app (goodIn_of _ (by decide +kernel)) ggL_law_X4_set
set_option maxRecDepth 20000 in
theorem ggL_law_X4_dock : GoodIn wsL_law wsX4_dock := goodIn_r _ [306, 18, 13, 201, 205, 206, 207, 2, 208, 89, 90, 91, 92, 17, 93, 68, 48, 94, 95, 96, 97, 69, 70, 71, 12, 72, 73, 33, 74, 75, 76, 25, 77, 39, 78, 79, 80, 81, 40, 41, 42, 82, 83, 84, 307, 308, 309, 310, 311, 312, 313, 314, 232, 233, 234, 235, 236, 237, 238, 239, 156, 157, 158, 159, 315, 316, 317, 318, 470, 471, 472, 473, 474, 475, 476, 477, 478, 479, 485, 486, 487, 488, 489, 490, 491] (by decide +kernel) (by decide +kernel)
set_option maxRecDepth 20000 in
theorem gL_law_X4_dock : GoodIn wsL_law (wsV RL 48 RX4 yX4_dock wsX4_dock) := goodIn_app (goodIn_of _ (by decide +kernel)) ggL_law_X4_dock
set_option maxRecDepth 20000 in
theorem ggL_law_X4_boat : GoodIn wsL_law wsX4_boat := goodIn_r _ [243, 13, 201, 244, 245, 246, 205, 206, 207, 2, 208, 89, 247, 157, 158, 25, 159, 41, 42, 248, 233, 234, 235, 236, 237, 238, 239, 156, 249, 250, 251, 252, 40, 232, 470, 471, 472, 473, 474, 475, 476, 477, 485, 486, 487, 488, 489, 490, 491] (by decide +kernel) (by decide +kernel)
set_option maxRecDepth 20000 in
theorem gL_law_X4_boat : GoodIn wsL_law (wsV RL 23 RX4 yX4_boat wsX4_boat) := goodIn_app (goodIn_of _ (by decide +kernel)) ggL_law_X4_boat
set_option maxRecDepth 20000 in
theorem ggL_law_L_mark : GoodIn wsL_law wsL_mark := goodIn_r _ [194, 195, 196, 130, 131, 132, 2, 133, 13, 89, 18, 63, 22, 134, 135, 136, 137, 12, 138, 73, 33, 139, 140, 141, 142, 143, 144, 145, 146, 25, 147, 41, 40, 148, 149, 150, 151, 152, 153, 154, 155, 156, 157, 158, 159, 42, 160, 161, 162, 163, 164, 165, 166, 167, 168, 169, 170, 171, 107, 108, 109, 110, 111, 172, 173, 174, 175, 176, 177, 178, 179, 180, 181, 182, 183, 197, 198, 199, 200, 201, 202, 203, 204, 205, 206, 207, 208, 209, 210, 211, 212, 213, 214, 215, 216, 217, 218, 219, 220, 221, 222, 223, 39, 224, 225, 226, 227, 228, 229, 230, 231, 232, 233, 234, 235, 236, 237, 238, 239, 240, 241, 242, 243, 244, 245, 246, 247, 248, 249, 250, 251, 252, 253, 254, 255, 256, 257, 120, 121, 258, 259, 260, 261, 262, 263, 264, 265, 266, 267, 268, 269, 270, 271, 470, 471, 472, 473, 474, 475, 476, 477, 478, 479, 480, 481, 482, 483, 484, 485, 486, 487, 488, 489, 490, 491] (by decide +kernel) (by decide +kernel)
set_option maxRecDepth 20000 in
theorem gL_law_L_mark : GoodIn wsL_law (va_wsS RL 33 yL_mark wsL_mark) := goodIn_app (goodIn_of _ (by decide +kernel)) ggL_law_L_mark
