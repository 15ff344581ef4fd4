/-! rows of fails (printed) -/
set_option maxRecDepth 20000 in
theorem ggL_fails_L_mark : GoodIn wsL_fails wsL_mark := goodIn_r _ [4, 5, 6, 7, 8, 9, 10, 11, 12, 13, 14, 15, 16, 17, 18, 19, 20, 21, 22, 23, 24, 25, 26, 27, 28, 29, 30, 31, 32, 33, 34, 35, 36, 37, 38, 39, 40, 41, 42, 43, 44, 45, 46, 47, 48, 49, 50, 51, 52, 53, 54, 55, 56, 57, 58, 59, 60, 61, 62, 63, 64, 65, 66, 67, 68, 69, 70, 71, 72, 73, 74, 75, 76, 77, 78, 79, 80, 81, 82, 83, 84, 85, 86, 87, 88, 89, 90, 91, 92, 93, 94, 95, 96, 97, 98, 99, 100, 101, 102, 103, 104, 105, 106, 107, 108, 109, 110, 111, 112, 113, 114, 115, 116, 117, 118, 119, 120, 121, 122, 123, 124, 125, 126, 127, 128, 129, 130, 131, 132, 133, 134, 135, 136, 137, 138, 139, 140, 141, 142, 143, 144, 145, 146, 147, 148, 149, 150, 151, 152, 153, 154, 155, 156, 367, 368, 369, 370, 371, 372, 373, 374, 375, 376, 377, 378, 379, 380, 381, 382, 383, 384, 385, 386, 387, 388] (by decide +kernel) (by decide +kernel)
set_option maxRecDepth 20000 in
theorem gL_fails_L_mark : GoodIn wsL_fails (va_wsS RL 33 yL_mark wsL_mark) := goodIn_app (goodIn_of _ (by decide +kernel)) ggL_fails_L_mark
set_option maxRecDepth 20000 in
theorem ggL_fails_X4_count : GoodIn wsL_fails wsX4_count := goodIn_r _ [11, 12, 13, 14, 15, 16, 17, 18, 19, 20, 21, 22, 23, 24, 25, 26, 27, 28, 29, 30, 31, 32, 33, 34, 35, 36, 37, 38, 39, 40, 41, 42, 43, 44, 45, 46, 47, 48, 49, 50, 51, 52, 53, 54, 55, 56, 57, 58, 59, 60, 61, 62, 63, 64, 65, 66, 67, 68, 69, 70, 71, 72, 73, 74, 75, 76, 77, 78, 367, 368, 369, 370, 371, 372, 373, 374, 375, 376, 377, 378, 379, 380, 381, 382, 383, 384, 385, 386, 387, 388] (by decide +kernel) (by decide +kernel)
set_option maxRecDepth 20000 in
theorem gL_fails_X4_count : GoodIn wsL_fails (wsV RL 13 RX4 yX4_count wsX4_count) := goodIn_app (goodIn_of _ (by decide +kernel)) ggL_fails_X4_count
set_option maxRecDepth 20000 in
theorem ggL_fails_X4_newSet : GoodIn wsL_fails wsX4_newSet := goodIn_r _ [160, 12, 13, 14, 161, 162, 163, 164, 165, 166, 167, 168, 169, 170, 171, 172, 173, 174, 21, 175, 23, 24, 176, 177, 178, 33, 179, 106, 180, 181, 182, 183, 36, 35, 49, 184, 185, 186, 187, 188, 189, 190, 191, 192, 193, 194, 195, 196, 197, 198, 199, 200, 201, 202, 203, 204, 205, 367, 368, 369, 370, 371, 372, 373, 374, 375, 376, 382, 383, 384, 385, 386, 387, 388] (by decide +kernel) (by decide +kernel)
set_option maxRecDepth 20000 in
theorem gL_fails_X4_newSet : GoodIn wsL_fails (wsV RL 39 RX4 yX4_newSet wsX4_newSet) := goodIn_app (goodIn_of _ (by decide +kernel)) ggL_fails_X4_newSet
set_option maxRecDepth 20000 in
theorem ggL_fails_X4_pay : GoodIn wsL_fails wsX4_pay := goodIn_r _ [209, 12, 83, 84, 14, 87, 88, 89, 10, 90, 13, 161, 162, 163, 164, 165, 166, 167, 168, 169, 170, 171, 172, 173, 174, 21, 175, 23, 24, 176, 177, 178, 33, 179, 106, 180, 181, 182, 183, 36, 35, 49, 184, 185, 186, 367, 368, 369, 370, 371, 372, 373, 374, 382, 383, 384, 385, 386, 387, 388, 375, 376] (by decide +kernel) (by decide +kernel)
set_option maxRecDepth 20000 in
theorem gL_fails_X4_pay : GoodIn wsL_fails (wsV RL 42 RX4 yX4_pay wsX4_pay) := goodIn_app (goodIn_of _ (by decide +kernel)) ggL_fails_X4_pay
set_option maxRecDepth 20000 in
theorem ggL_fails_X4_sail : GoodIn wsL_fails wsX4_sail := goodIn_r _ [213, 12, 83, 85, 14, 87, 88, 89, 10, 90, 13, 161, 162, 163, 164, 165, 166, 167, 168, 169, 170, 171, 172, 173, 174, 21, 175, 23, 24, 176, 177, 178, 33, 179, 106, 180, 181, 182, 183, 36, 35, 49, 184, 185, 186, 92, 93, 94, 95, 96, 31, 32, 34, 367, 368, 369, 370, 371, 372, 373, 374, 382, 383, 384, 385, 386, 387, 388, 375, 376] (by decide +kernel) (by decide +kernel)
set_option maxRecDepth 20000 in
theorem gL_fails_X4_sail : GoodIn wsL_fails (wsV RL 45 RX4 yX4_sail wsX4_sail) := goodIn_app (goodIn_of _ (by decide +kernel)) ggL_fails_X4_sail
set_option maxRecDepth 20000 in
theorem ggL_fails_X4_dock : GoodIn wsL_fails wsX4_dock := goodIn_r _ [217, 14, 12, 83, 87, 88, 89, 10, 90, 13, 161, 162, 163, 164, 165, 166, 167, 168, 169, 170, 171, 172, 173, 174, 21, 175, 23, 24, 176, 177, 178, 33, 179, 106, 180, 181, 182, 183, 36, 35, 49, 184, 185, 186, 218, 219, 220, 221, 222, 223, 224, 225, 115, 116, 117, 118, 119, 120, 121, 122, 45, 46, 47, 48, 226, 227, 228, 229, 367, 368, 369, 370, 371, 372, 373, 374, 375, 376, 382, 383, 384, 385, 386, 387, 388] (by decide +kernel) (by decide +kernel)
set_option maxRecDepth 20000 in
theorem gL_fails_X4_dock : GoodIn wsL_fails (wsV RL 48 RX4 yX4_dock wsX4_dock) := goodIn_app (goodIn_of _ (by decide +kernel)) ggL_fails_X4_dock
set_option maxRecDepth 20000 in
theorem ggL_fails_X4_add : GoodIn wsL_fails wsX4_add := goodIn_r _ [233, 12, 83, 128, 234, 235, 236, 10, 237, 238, 87, 88, 89, 90, 13, 140, 141, 142, 239, 177, 178, 33, 179, 106, 180, 181, 182, 183, 36, 35, 49, 184, 185, 186, 240, 241, 242, 243, 244, 245, 246, 247, 248, 249, 250, 251, 252, 253, 254, 255, 256, 257, 258, 259, 260, 261, 262, 263, 264, 265, 266, 226, 227, 228, 229, 115, 116, 117, 118, 119, 120, 121, 122, 45, 46, 47, 48, 267, 268, 269, 270, 14, 161, 162, 163, 164, 165, 166, 167, 168, 169, 170, 171, 172, 173, 174, 21, 175, 23, 24, 176, 367, 368, 369, 370, 371, 372, 373, 374, 382, 383, 384, 385, 386, 387, 388, 375, 376] (by decide +kernel) (by decide +kernel)
set_option maxRecDepth 20000 in
theorem gL_fails_X4_add : GoodIn wsL_fails (wsV RL 51 RX4 yX4_add wsX4_add) := goodIn_app (goodIn_of _ (by decide +kernel)) ggL_fails_X4_add
set_option maxRecDepth 20000 in
theorem ggL_fails_X4_remove : GoodIn wsL_fails wsX4_remove := goodIn_r _ [274, 12, 83, 127, 234, 235, 236, 10, 237, 238, 87, 88, 89, 90, 13, 140, 141, 142, 239, 177, 178, 33, 179, 106, 180, 181, 182, 183, 36, 35, 49, 184, 185, 186, 240, 241, 242, 243, 244, 245, 246, 247, 248, 249, 250, 251, 252, 253, 254, 255, 256, 257, 258, 259, 260, 261, 262, 263, 264, 265, 266, 226, 227, 228, 229, 115, 116, 117, 118, 119, 120, 121, 122, 45, 46, 47, 48, 267, 268, 269, 270, 14, 161, 162, 163, 164, 165, 166, 167, 168, 169, 170, 171, 172, 173, 174, 21, 175, 23, 24, 176, 367, 368, 369, 370, 371, 372, 373, 374, 382, 383, 384, 385, 386, 387, 388, 375, 376] (by decide +kernel) (by decide +kernel)
set_option maxRecDepth 20000 in
theorem gL_fails_X4_remove : GoodIn wsL_fails (wsV RL 54 RX4 yX4_remove wsX4_remove) := goodIn_app (goodIn_of _ (by decide +kernel)) ggL_fails_X4_remove
set_option maxRecDepth 20000 in
theorem ggL_fails_X4_addRange : GoodIn wsL_fails wsX4_addRange := goodIn_r _ [278, 234, 235, 236, 10, 237, 238, 12, 83, 87, 88, 89, 90, 13, 140, 141, 142, 239, 177, 178, 33, 179, 106, 180, 181, 182, 183, 36, 35, 49, 184, 185, 186, 240, 241, 242, 243, 244, 245, 246, 247, 248, 249, 250, 251, 252, 253, 254, 255, 256, 257, 258, 259, 260, 261, 262, 263, 264, 265, 266, 226, 227, 228, 229, 115, 116, 117, 118, 119, 120, 121, 122, 45, 46, 47, 48, 267, 268, 269, 270, 14, 161, 162, 163, 164, 165, 166, 167, 168, 169, 170, 171, 172, 173, 174, 21, 175, 23, 24, 176, 367, 368, 369, 370, 371, 372, 373, 374, 382, 383, 384, 385, 386, 387, 388, 375, 376] (by decide +kernel) (by decide +kernel)
set_option maxRecDepth 20000 in
theorem gL_fails_X4_addRange : GoodIn wsL_fails (wsV RL 57 RX4 yX4_addRange wsX4_addRange) := goodIn_app (goodIn_of _ (by decide +kernel)) ggL_fails_X4_addRange
set_option maxRecDepth 20000 in
theorem ggL_fails_X4_removeRange : GoodIn wsL_fails wsX4_removeRange := goodIn_r _ [282, 234, 235, 236, 10, 237, 238, 12, 83, 87, 88, 89, 90, 13, 140, 141, 142, 239, 177, 178, 33, 179, 106, 180, 181, 182, 183, 36, 35, 49, 184, 185, 186, 240, 241, 242, 243, 244, 245, 246, 247, 248, 249, 250, 251, 252, 253, 254, 255, 256, 257, 258, 259, 260, 261, 262, 263, 264, 265, 266, 226, 227, 228, 229, 115, 116, 117, 118, 119, 120, 121, 122, 45, 46, 47, 48, 267, 268, 269, 270, 14, 161, 162, 163, 164, 165, 166, 167, 168, 169, 170, 171, 172, 173, 174, 21, 175, 23, 24, 176, 367, 368, 369, 370, 371, 372, 373, 374, 382, 383, 384, 385, 386, 387, 388, 375, 376] (by decide +kernel) (by decide +kernel)
set_option maxRecDepth 20000 in
theorem gL_fails_X4_removeRange : GoodIn wsL_fails (wsV RL 60 RX4 yX4_removeRange wsX4_removeRange) := goodIn_app (goodIn_of _ (by decide +kernel)) ggL_fails_X4_removeRange
set_option maxRecDepth 20000 in
theorem ggL_fails_X4_combine : GoodIn wsL_fails wsX4_combine := goodIn_r _ [286, 12, 83, 85, 238, 14, 87, 88, 89, 10, 90, 13, 287, 288, 289, 239, 177, 178, 33, 179, 106, 180, 181, 182, 183, 36, 35, 49, 184, 185, 186, 290, 291, 292, 293, 195, 196, 197, 198, 199, 200, 201, 202, 203, 204, 205, 294, 295, 296, 255, 256, 257, 258, 141, 142, 251, 252, 253, 254, 259, 260, 261, 262, 115, 116, 117, 118, 119, 120, 121, 122, 45, 46, 47, 48, 161, 162, 163, 164, 165, 166, 167, 168, 169, 170, 171, 172, 173, 174, 21, 175, 23, 24, 176, 91, 55, 56, 57, 367, 368, 369, 370, 371, 372, 373, 374, 382, 383, 384, 385, 386, 387, 388, 375, 376] (by decide +kernel) (by decide +kernel)
set_option maxRecDepth 20000 in
theorem gL_fails_X4_combine : GoodIn wsL_fails (wsV RL 63 RX4 yX4_combine wsX4_combine) := goodIn_app (goodIn_of _ (by decide +kernel)) ggL_fails_X4_combine
set_option maxRecDepth 20000 in
theorem ggL_fails_X4_readRanges : GoodIn wsL_fails wsX4_readRanges := goodIn_r _ [300, 16, 238, 12, 83, 301, 302, 303, 87, 88, 89, 10, 90, 13, 304, 305, 306, 307, 308, 309, 310, 311, 312, 313, 314, 315, 316, 317, 318, 319, 320, 321, 141, 142, 239, 177, 178, 33, 179, 106, 180, 181, 182, 183, 36, 35, 49, 184, 185, 186, 240, 241, 242, 243, 244, 245, 246, 247, 248, 249, 250, 251, 252, 253, 254, 255, 256, 257, 258, 259, 260, 261, 262, 263, 264, 265, 266, 226, 227, 228, 229, 115, 116, 117, 118, 119, 120, 121, 122, 45, 46, 47, 48, 267, 268, 269, 270, 14, 161, 162, 163, 164, 165, 166, 167, 168, 169, 170, 171, 172, 173, 174, 21, 175, 23, 24, 176, 367, 368, 369, 370, 371, 372, 373, 374, 377, 378, 379, 380, 381, 382, 383, 384, 385, 386, 387, 388, 375, 376] (by decide +kernel) (by decide +kernel)
set_option maxRecDepth 20000 in
theorem gL_fails_X4_readRanges : GoodIn wsL_fails (wsV RL 67 RX4 yX4_readRanges wsX4_readRanges) := goodIn_app (goodIn_of _ (by decide +kernel)) ggL_fails_X4_readRanges
set_option maxRecDepth 20000 in
theorem ggL_fails_X4_has : GoodIn wsL_fails wsX4_has := goodIn_r _ [325, 12, 83, 87, 88, 89, 10, 90, 13, 140, 141, 142, 326, 252, 253, 33, 254, 106, 367, 368, 369, 370, 371, 372, 373, 374, 382, 383, 384, 385, 386, 387, 388] (by decide +kernel) (by decide +kernel)
set_option maxRecDepth 20000 in
theorem gL_fails_X4_has : GoodIn wsL_fails (wsV RL 70 RX4 yX4_has wsX4_has) := goodIn_app (goodIn_of _ (by decide +kernel)) ggL_fails_X4_has
set_option maxRecDepth 20000 in
theorem ggL_fails_X4_set : GoodIn wsL_fails wsX4_set := goodIn_r _ [82, 12, 83, 84, 85, 86, 87, 88, 89, 10, 90, 13, 91, 55, 56, 33, 57, 35, 92, 93, 94, 95, 96, 31, 32, 34, 36, 97, 42, 43, 44, 45, 46, 47, 48, 49, 98, 99, 100, 101, 102, 103, 104, 105, 106, 107, 68, 69, 70, 71, 72, 73, 108, 109, 110, 111, 112, 113, 114, 115, 116, 117, 118, 119, 120, 121, 122, 367, 368, 369, 370, 371, 372, 373, 374, 382, 383, 384, 385, 386, 387, 388] (by decide +kernel) (by decide +kernel)
set_option maxRecDepth 20000 in
theorem gL_fails_X4_set : GoodIn wsL_fails (wsV RL 19 RX4 yX4_set wsX4_set) := goodIn_app (goodIn_of _ (by decide +kernel)) ggL_fails_X4_set
set_option maxRecDepth 20000 in
theorem ggL_fails_X4_boat : GoodIn wsL_fails wsX4_boat := goodIn_r _ [126, 12, 83, 127, 128, 129, 87, 88, 89, 10, 90, 13, 130, 46, 47, 33, 48, 35, 49, 131, 116, 117, 118, 119, 120, 121, 122, 45, 132, 133, 134, 135, 36, 115, 367, 368, 369, 370, 371, 372, 373, 374, 382, 383, 384, 385, 386, 387, 388] (by decide +kernel) (by decide +kernel)
set_option maxRecDepth 20000 in
theorem gL_fails_X4_boat : GoodIn wsL_fails (wsV RL 23 RX4 yX4_boat wsX4_boat) := goodIn_app (goodIn_of _ (by decide +kernel)) ggL_fails_X4_boat
set_option maxRecDepth 20000 in
theorem ggL_fails_X4_rank : GoodIn wsL_fails wsX4_rank := goodIn_r _ [139, 12, 83, 87, 88, 89, 10, 90, 13, 140, 141, 142, 143, 144, 145, 33, 146, 106, 107, 68, 69, 70, 71, 72, 73, 367, 368, 369, 370, 371, 372, 373, 374, 382, 383, 384, 385, 386, 387, 388] (by decide +kernel) (by decide +kernel)
set_option maxRecDepth 20000 in
theorem gL_fails_X4_rank : GoodIn wsL_fails (wsV RL 27 RX4 yX4_rank wsX4_rank) := goodIn_app (goodIn_of _ (by decide +kernel)) ggL_fails_X4_rank
set_option maxRecDepth 20000 in
theorem ggL_fails_X4_at : GoodIn wsL_fails wsX4_at := goodIn_r _ [330, 12, 83, 87, 88, 89, 10, 90, 13, 102, 103, 104, 33, 105, 106, 107, 68, 69, 70, 71, 72, 73, 108, 109, 110, 367, 368, 369, 370, 371, 372, 373, 374, 382, 383, 384, 385, 386, 387, 388] (by decide +kernel) (by decide +kernel)
set_option maxRecDepth 20000 in
theorem gL_fails_X4_at : GoodIn wsL_fails (wsV RL 73 RX4 yX4_at wsX4_at) := goodIn_app (goodIn_of _ (by decide +kernel)) ggL_fails_X4_at
set_option maxRecDepth 20000 in
theorem ggL_fails_X4_next : GoodIn wsL_fails wsX4_next := goodIn_r _ [150, 12, 83, 87, 88, 89, 10, 90, 13, 140, 141, 142, 151, 152, 153, 33, 154, 155, 144, 145, 146, 106, 107, 68, 69, 70, 71, 72, 73, 156, 103, 104, 105, 108, 109, 110, 367, 368, 369, 370, 371, 372, 373, 374, 382, 383, 384, 385, 386, 387, 388] (by decide +kernel) (by decide +kernel)
set_option maxRecDepth 20000 in
theorem gL_fails_X4_next : GoodIn wsL_fails (wsV RL 30 RX4 yX4_next wsX4_next) := goodIn_app (goodIn_of _ (by decide +kernel)) ggL_fails_X4_next
set_option maxRecDepth 20000 in
theorem ggL_fails_X4_nearest : GoodIn wsL_fails wsX4_nearest := goodIn_r _ [334, 12, 83, 87, 88, 89, 10, 90, 13, 140, 141, 142, 143, 144, 145, 33, 146, 106, 107, 68, 69, 70, 71, 72, 73, 102, 103, 104, 105, 108, 109, 110, 151, 152, 153, 154, 155, 156, 367, 368, 369, 370, 371, 372, 373, 374, 382, 383, 384, 385, 386, 387, 388] (by decide +kernel) (by decide +kernel)
set_option maxRecDepth 20000 in
theorem gL_fails_X4_nearest : GoodIn wsL_fails (wsV RL 76 RX4 yX4_nearest wsX4_nearest) := goodIn_app (goodIn_of _ (by decide +kernel)) ggL_fails_X4_nearest
set_option maxRecDepth 20000 in
theorem ggL_fails_X4_gap : GoodIn wsL_fails wsX4_gap := goodIn_r _ [338, 12, 83, 87, 88, 89, 10, 90, 13, 339, 340, 341, 33, 342, 251, 252, 253, 254, 106, 141, 142, 367, 368, 369, 370, 371, 372, 373, 374, 382, 383, 384, 385, 386, 387, 388] (by decide +kernel) (by decide +kernel)
set_option maxRecDepth 20000 in
theorem gL_fails_X4_gap : GoodIn wsL_fails (wsV RL 79 RX4 yX4_gap wsX4_gap) := goodIn_app (goodIn_of _ (by decide +kernel)) ggL_fails_X4_gap
set_option maxRecDepth 20000 in
theorem ggL_fails_X4_sizeOf : GoodIn wsL_fails wsX4_sizeOf := goodIn_r _ [346, 12, 83, 347, 87, 88, 89, 10, 90, 13, 287, 288, 289, 348, 294, 295, 296, 349, 68, 69, 70, 71, 72, 73, 367, 368, 369, 370, 371, 372, 373, 374, 382, 383, 384, 385, 386, 387, 388] (by decide +kernel) (by decide +kernel)
set_option maxRecDepth 20000 in
theorem gL_fails_X4_sizeOf : GoodIn wsL_fails (wsV RL 82 RX4 yX4_sizeOf wsX4_sizeOf) := goodIn_app (goodIn_of _ (by decide +kernel)) ggL_fails_X4_sizeOf
set_option maxRecDepth 20000 in
theorem ggL_fails_X4_ofAll : GoodIn wsL_fails wsX4_ofAll := goodIn_r _ [353, 12, 354, 355, 356, 21, 357, 62, 63, 64, 65, 23, 24, 66, 358, 359, 360, 361, 362, 252, 253, 33, 254, 106, 141, 10, 142, 367, 368, 369, 370, 371, 372, 373, 374, 382, 383, 384, 385, 386, 387, 388] (by decide +kernel) (by decide +kernel)
set_option maxRecDepth 20000 in
theorem gL_fails_X4_ofAll : GoodIn wsL_fails (wsV RL 85 RX4 yX4_ofAll wsX4_ofAll) := goodIn_app (goodIn_of _ (by decide +kernel)) ggL_fails_X4_ofAll
set_option maxRecDepth 20000 in
theorem ggL_fails_X4_tollToDock : GoodIn wsL_fails wsX4_tollToDock := goodIn_r _ [366, 238, 12, 83, 87, 88, 89, 10, 90, 13, 239, 177, 178, 33, 179, 106, 180, 181, 182, 183, 36, 35, 49, 184, 185, 186, 218, 219, 220, 221, 222, 223, 224, 225, 115, 116, 117, 118, 119, 120, 121, 122, 45, 46, 47, 48, 226, 227, 228, 229, 367, 368, 369, 370, 371, 372, 373, 374, 382, 383, 384, 385, 386, 387, 388] (by decide +kernel) (by decide +kernel)
set_option maxRecDepth 20000 in
theorem gL_fails_X4_tollToDock : GoodIn wsL_fails (wsV RL 88 RX4 yX4_tollToDock wsX4_tollToDock) := goodIn_app (goodIn_of _ (by decide +kernel)) ggL_fails_X4_tollToDock
theorem dL_fails_0 : decode cL_fails 0 = .ok (.aload_n 0, 1) := by decide +kernel
theorem dL_fails_1 : decode cL_fails 1 = .ok (.invokestatic 33, 3) := by decide +kernel
theorem dL_fails_4 : decode cL_fails 4 = .ok (.lstore_n 1, 1) := by decide +kernel
theorem dL_fails_5 : decode cL_fails 5 = .ok (.aload_n 0, 1) := by decide +kernel
theorem dL_fails_6 : decode cL_fails 6 = .ok (.bipush 9, 2) := by decide +kernel
theorem dL_fails_8 : decode cL_fails 8 = .ok (.invokevirtual 13, 3) := by decide +kernel
theorem dL_fails_11 : decode cL_fails 11 = .ok (.istore_n 3, 1) := by decide +kernel
theorem dL_fails_12 : decode cL_fails 12 = .ok (.aload_n 0, 1) := by decide +kernel
theorem dL_fails_13 : decode cL_fails 13 = .ok (.iconst 0, 1) := by decide +kernel
theorem dL_fails_14 : decode cL_fails 14 = .ok (.invokevirtual 13, 3) := by decide +kernel
theorem dL_fails_17 : decode cL_fails 17 = .ok (.istore 4, 2) := by decide +kernel
theorem dL_fails_19 : decode cL_fails 19 = .ok (.aload_n 0, 1) := by decide +kernel
theorem dL_fails_20 : decode cL_fails 20 = .ok (.iconst (-1), 1) := by decide +kernel
theorem dL_fails_21 : decode cL_fails 21 = .ok (.invokevirtual 39, 3) := by decide +kernel
theorem dL_fails_24 : decode cL_fails 24 = .ok (.bipush (-2), 2) := by decide +kernel
theorem dL_fails_26 : decode cL_fails 26 = .ok (.if_icmp .ne 258, 3) := by decide +kernel
theorem dL_fails_29 : decode cL_fails 29 = .ok (.aload_n 0, 1) := by decide +kernel
theorem dL_fails_30 : decode cL_fails 30 = .ok (.sipush 10000, 3) := by decide +kernel
theorem dL_fails_33 : decode cL_fails 33 = .ok (.invokevirtual 39, 3) := by decide +kernel
theorem dL_fails_36 : decode cL_fails 36 = .ok (.bipush (-2), 2) := by decide +kernel
theorem dL_fails_38 : decode cL_fails 38 = .ok (.if_icmp .ne 246, 3) := by decide +kernel
theorem dL_fails_41 : decode cL_fails 41 = .ok (.aload_n 0, 1) := by decide +kernel
theorem dL_fails_42 : decode cL_fails 42 = .ok (.iload 4, 2) := by decide +kernel
theorem dL_fails_44 : decode cL_fails 44 = .ok (.iconst 1, 1) := by decide +kernel
theorem dL_fails_45 : decode cL_fails 45 = .ok (.invokevirtual 42, 3) := by decide +kernel
theorem dL_fails_48 : decode cL_fails 48 = .ok (.iconst (-1), 1) := by decide +kernel
theorem dL_fails_49 : decode cL_fails 49 = .ok (.if_icmp .ne 235, 3) := by decide +kernel
theorem dL_fails_52 : decode cL_fails 52 = .ok (.aload_n 0, 1) := by decide +kernel
theorem dL_fails_53 : decode cL_fails 53 = .ok (.iload 4, 2) := by decide +kernel
theorem dL_fails_55 : decode cL_fails 55 = .ok (.invokevirtual 45, 3) := by decide +kernel
theorem dL_fails_58 : decode cL_fails 58 = .ok (.iconst (-1), 1) := by decide +kernel
theorem dL_fails_59 : decode cL_fails 59 = .ok (.if_icmp .ne 225, 3) := by decide +kernel
theorem dL_fails_62 : decode cL_fails 62 = .ok (.aload_n 0, 1) := by decide +kernel
theorem dL_fails_63 : decode cL_fails 63 = .ok (.iconst (-1), 1) := by decide +kernel
theorem dL_fails_64 : decode cL_fails 64 = .ok (.invokevirtual 48, 3) := by decide +kernel
theorem dL_fails_67 : decode cL_fails 67 = .ok (.iconst (-1), 1) := by decide +kernel
theorem dL_fails_68 : decode cL_fails 68 = .ok (.if_icmp .ne 216, 3) := by decide +kernel
theorem dL_fails_71 : decode cL_fails 71 = .ok (.aload_n 0, 1) := by decide +kernel
theorem dL_fails_72 : decode cL_fails 72 = .ok (.iload 4, 2) := by decide +kernel
theorem dL_fails_74 : decode cL_fails 74 = .ok (.iconst 0, 1) := by decide +kernel
theorem dL_fails_75 : decode cL_fails 75 = .ok (.invokevirtual 51, 3) := by decide +kernel
theorem dL_fails_78 : decode cL_fails 78 = .ok (.iconst (-1), 1) := by decide +kernel
theorem dL_fails_79 : decode cL_fails 79 = .ok (.if_icmp .ne 205, 3) := by decide +kernel
theorem dL_fails_82 : decode cL_fails 82 = .ok (.aload_n 0, 1) := by decide +kernel
theorem dL_fails_83 : decode cL_fails 83 = .ok (.iconst (-1), 1) := by decide +kernel
theorem dL_fails_84 : decode cL_fails 84 = .ok (.iconst 0, 1) := by decide +kernel
theorem dL_fails_85 : decode cL_fails 85 = .ok (.invokevirtual 54, 3) := by decide +kernel
theorem dL_fails_88 : decode cL_fails 88 = .ok (.iconst (-1), 1) := by decide +kernel
theorem dL_fails_89 : decode cL_fails 89 = .ok (.if_icmp .ne 195, 3) := by decide +kernel
theorem dL_fails_92 : decode cL_fails 92 = .ok (.aload_n 0, 1) := by decide +kernel
theorem dL_fails_93 : decode cL_fails 93 = .ok (.iload 4, 2) := by decide +kernel
theorem dL_fails_95 : decode cL_fails 95 = .ok (.iconst 0, 1) := by decide +kernel
theorem dL_fails_96 : decode cL_fails 96 = .ok (.iconst 0, 1) := by decide +kernel
theorem dL_fails_97 : decode cL_fails 97 = .ok (.invokevirtual 57, 3) := by decide +kernel
theorem dL_fails_100 : decode cL_fails 100 = .ok (.iconst (-1), 1) := by decide +kernel
theorem dL_fails_101 : decode cL_fails 101 = .ok (.if_icmp .ne 183, 3) := by decide +kernel
theorem dL_fails_104 : decode cL_fails 104 = .ok (.aload_n 0, 1) := by decide +kernel
theorem dL_fails_105 : decode cL_fails 105 = .ok (.iload 4, 2) := by decide +kernel
theorem dL_fails_107 : decode cL_fails 107 = .ok (.iconst 0, 1) := by decide +kernel
theorem dL_fails_108 : decode cL_fails 108 = .ok (.iconst 0, 1) := by decide +kernel
theorem dL_fails_109 : decode cL_fails 109 = .ok (.invokevirtual 60, 3) := by decide +kernel
theorem dL_fails_112 : decode cL_fails 112 = .ok (.iconst (-1), 1) := by decide +kernel
theorem dL_fails_113 : decode cL_fails 113 = .ok (.if_icmp .ne 171, 3) := by decide +kernel
theorem dL_fails_116 : decode cL_fails 116 = .ok (.aload_n 0, 1) := by decide +kernel
theorem dL_fails_117 : decode cL_fails 117 = .ok (.iconst 0, 1) := by decide +kernel
theorem dL_fails_118 : decode cL_fails 118 = .ok (.iload 4, 2) := by decide +kernel
theorem dL_fails_120 : decode cL_fails 120 = .ok (.iconst 0, 1) := by decide +kernel
theorem dL_fails_121 : decode cL_fails 121 = .ok (.iconst 0, 1) := by decide +kernel
theorem dL_fails_122 : decode cL_fails 122 = .ok (.invokevirtual 63, 3) := by decide +kernel
theorem dL_fails_125 : decode cL_fails 125 = .ok (.iconst (-1), 1) := by decide +kernel
theorem dL_fails_126 : decode cL_fails 126 = .ok (.if_icmp .ne 158, 3) := by decide +kernel
theorem dL_fails_129 : decode cL_fails 129 = .ok (.aload_n 0, 1) := by decide +kernel
theorem dL_fails_130 : decode cL_fails 130 = .ok (.iload 4, 2) := by decide +kernel
theorem dL_fails_132 : decode cL_fails 132 = .ok (.invokevirtual 67, 3) := by decide +kernel
theorem dL_fails_135 : decode cL_fails 135 = .ok (.iconst (-1), 1) := by decide +kernel
theorem dL_fails_136 : decode cL_fails 136 = .ok (.if_icmp .ne 148, 3) := by decide +kernel
theorem dL_fails_139 : decode cL_fails 139 = .ok (.aload_n 0, 1) := by decide +kernel
theorem dL_fails_140 : decode cL_fails 140 = .ok (.iload 4, 2) := by decide +kernel
theorem dL_fails_142 : decode cL_fails 142 = .ok (.iconst 0, 1) := by decide +kernel
theorem dL_fails_143 : decode cL_fails 143 = .ok (.invokevirtual 70, 3) := by decide +kernel
theorem dL_fails_146 : decode cL_fails 146 = .ok (.iconst (-1), 1) := by decide +kernel
theorem dL_fails_147 : decode cL_fails 147 = .ok (.if_icmp .ne 137, 3) := by decide +kernel
theorem dL_fails_150 : decode cL_fails 150 = .ok (.aload_n 0, 1) := by decide +kernel
theorem dL_fails_151 : decode cL_fails 151 = .ok (.iload 4, 2) := by decide +kernel
theorem dL_fails_153 : decode cL_fails 153 = .ok (.iconst 0, 1) := by decide +kernel
theorem dL_fails_154 : decode cL_fails 154 = .ok (.invokevirtual 19, 3) := by decide +kernel
theorem dL_fails_157 : decode cL_fails 157 = .ok (.iconst (-1), 1) := by decide +kernel
theorem dL_fails_158 : decode cL_fails 158 = .ok (.if_icmp .ne 126, 3) := by decide +kernel
theorem dL_fails_161 : decode cL_fails 161 = .ok (.aload_n 0, 1) := by decide +kernel
theorem dL_fails_162 : decode cL_fails 162 = .ok (.iconst (-1), 1) := by decide +kernel
theorem dL_fails_163 : decode cL_fails 163 = .ok (.iconst 0, 1) := by decide +kernel
theorem dL_fails_164 : decode cL_fails 164 = .ok (.iconst 0, 1) := by decide +kernel
theorem dL_fails_165 : decode cL_fails 165 = .ok (.invokevirtual 23, 3) := by decide +kernel
theorem dL_fails_168 : decode cL_fails 168 = .ok (.iconst (-1), 1) := by decide +kernel
theorem dL_fails_169 : decode cL_fails 169 = .ok (.if_icmp .ne 115, 3) := by decide +kernel
theorem dL_fails_172 : decode cL_fails 172 = .ok (.aload_n 0, 1) := by decide +kernel
theorem dL_fails_173 : decode cL_fails 173 = .ok (.iload 4, 2) := by decide +kernel
theorem dL_fails_175 : decode cL_fails 175 = .ok (.iconst 0, 1) := by decide +kernel
theorem dL_fails_176 : decode cL_fails 176 = .ok (.invokevirtual 27, 3) := by decide +kernel
theorem dL_fails_179 : decode cL_fails 179 = .ok (.iconst (-1), 1) := by decide +kernel
theorem dL_fails_180 : decode cL_fails 180 = .ok (.if_icmp .ne 104, 3) := by decide +kernel
theorem dL_fails_183 : decode cL_fails 183 = .ok (.aload_n 0, 1) := by decide +kernel
theorem dL_fails_184 : decode cL_fails 184 = .ok (.iload 4, 2) := by decide +kernel
theorem dL_fails_186 : decode cL_fails 186 = .ok (.iconst 0, 1) := by decide +kernel
theorem dL_fails_187 : decode cL_fails 187 = .ok (.invokevirtual 73, 3) := by decide +kernel
theorem dL_fails_190 : decode cL_fails 190 = .ok (.iconst (-1), 1) := by decide +kernel
theorem dL_fails_191 : decode cL_fails 191 = .ok (.if_icmp .ne 93, 3) := by decide +kernel
theorem dL_fails_194 : decode cL_fails 194 = .ok (.aload_n 0, 1) := by decide +kernel
theorem dL_fails_195 : decode cL_fails 195 = .ok (.iload 4, 2) := by decide +kernel
theorem dL_fails_197 : decode cL_fails 197 = .ok (.iconst 0, 1) := by decide +kernel
theorem dL_fails_198 : decode cL_fails 198 = .ok (.invokevirtual 30, 3) := by decide +kernel
theorem dL_fails_201 : decode cL_fails 201 = .ok (.iconst (-1), 1) := by decide +kernel
theorem dL_fails_202 : decode cL_fails 202 = .ok (.if_icmp .ne 82, 3) := by decide +kernel
theorem dL_fails_205 : decode cL_fails 205 = .ok (.aload_n 0, 1) := by decide +kernel
theorem dL_fails_206 : decode cL_fails 206 = .ok (.iload 4, 2) := by decide +kernel
theorem dL_fails_208 : decode cL_fails 208 = .ok (.iconst 0, 1) := by decide +kernel
theorem dL_fails_209 : decode cL_fails 209 = .ok (.invokevirtual 76, 3) := by decide +kernel
theorem dL_fails_212 : decode cL_fails 212 = .ok (.iconst (-1), 1) := by decide +kernel
theorem dL_fails_213 : decode cL_fails 213 = .ok (.if_icmp .ne 71, 3) := by decide +kernel
theorem dL_fails_216 : decode cL_fails 216 = .ok (.aload_n 0, 1) := by decide +kernel
theorem dL_fails_217 : decode cL_fails 217 = .ok (.iload 4, 2) := by decide +kernel
theorem dL_fails_219 : decode cL_fails 219 = .ok (.iconst 1, 1) := by decide +kernel
theorem dL_fails_220 : decode cL_fails 220 = .ok (.invokevirtual 79, 3) := by decide +kernel
theorem dL_fails_223 : decode cL_fails 223 = .ok (.iconst (-1), 1) := by decide +kernel
theorem dL_fails_224 : decode cL_fails 224 = .ok (.if_icmp .ne 60, 3) := by decide +kernel
theorem dL_fails_227 : decode cL_fails 227 = .ok (.aload_n 0, 1) := by decide +kernel
theorem dL_fails_228 : decode cL_fails 228 = .ok (.iconst 0, 1) := by decide +kernel
theorem dL_fails_229 : decode cL_fails 229 = .ok (.iload 4, 2) := by decide +kernel
theorem dL_fails_231 : decode cL_fails 231 = .ok (.iconst 0, 1) := by decide +kernel
theorem dL_fails_232 : decode cL_fails 232 = .ok (.invokevirtual 82, 3) := by decide +kernel
theorem dL_fails_235 : decode cL_fails 235 = .ok (.iconst (-1), 1) := by decide +kernel
theorem dL_fails_236 : decode cL_fails 236 = .ok (.if_icmp .ne 48, 3) := by decide +kernel
theorem dL_fails_239 : decode cL_fails 239 = .ok (.aload_n 0, 1) := by decide +kernel
theorem dL_fails_240 : decode cL_fails 240 = .ok (.iconst (-1), 1) := by decide +kernel
theorem dL_fails_241 : decode cL_fails 241 = .ok (.invokevirtual 85, 3) := by decide +kernel
theorem dL_fails_244 : decode cL_fails 244 = .ok (.bipush (-2), 2) := by decide +kernel
theorem dL_fails_246 : decode cL_fails 246 = .ok (.if_icmp .ne 38, 3) := by decide +kernel
theorem dL_fails_249 : decode cL_fails 249 = .ok (.aload_n 0, 1) := by decide +kernel
theorem dL_fails_250 : decode cL_fails 250 = .ok (.iload 4, 2) := by decide +kernel
theorem dL_fails_252 : decode cL_fails 252 = .ok (.invokevirtual 88, 3) := by decide +kernel
theorem dL_fails_255 : decode cL_fails 255 = .ok (.iconst (-1), 1) := by decide +kernel
theorem dL_fails_256 : decode cL_fails 256 = .ok (.if_icmp .ne 28, 3) := by decide +kernel
theorem dL_fails_259 : decode cL_fails 259 = .ok (.aload_n 0, 1) := by decide +kernel
theorem dL_fails_260 : decode cL_fails 260 = .ok (.bipush 11, 2) := by decide +kernel
theorem dL_fails_262 : decode cL_fails 262 = .ok (.invokevirtual 13, 3) := by decide +kernel
theorem dL_fails_265 : decode cL_fails 265 = .ok (.bipush (-2), 2) := by decide +kernel
theorem dL_fails_267 : decode cL_fails 267 = .ok (.if_icmp .ne 17, 3) := by decide +kernel
theorem dL_fails_270 : decode cL_fails 270 = .ok (.aload_n 0, 1) := by decide +kernel
theorem dL_fails_271 : decode cL_fails 271 = .ok (.iconst (-1), 1) := by decide +kernel
theorem dL_fails_272 : decode cL_fails 272 = .ok (.invokevirtual 13, 3) := by decide +kernel
theorem dL_fails_275 : decode cL_fails 275 = .ok (.bipush (-2), 2) := by decide +kernel
theorem dL_fails_277 : decode cL_fails 277 = .ok (.if_icmp .ne 7, 3) := by decide +kernel
theorem dL_fails_280 : decode cL_fails 280 = .ok (.iconst 1, 1) := by decide +kernel
theorem dL_fails_281 : decode cL_fails 281 = .ok (.goto 4, 3) := by decide +kernel
theorem dL_fails_284 : decode cL_fails 284 = .ok (.iconst 0, 1) := by decide +kernel
theorem dL_fails_285 : decode cL_fails 285 = .ok (.istore 5, 2) := by decide +kernel
theorem dL_fails_287 : decode cL_fails 287 = .ok (.iload 5, 2) := by decide +kernel
theorem dL_fails_289 : decode cL_fails 289 = .ok (.ifCond .eq 244, 3) := by decide +kernel
theorem dL_fails_292 : decode cL_fails 292 = .ok (.iload 4, 2) := by decide +kernel
theorem dL_fails_294 : decode cL_fails 294 = .ok (.ifCond .eq 235, 3) := by decide +kernel
theorem dL_fails_297 : decode cL_fails 297 = .ok (.aload_n 0, 1) := by decide +kernel
theorem dL_fails_298 : decode cL_fails 298 = .ok (.iconst 0, 1) := by decide +kernel
theorem dL_fails_299 : decode cL_fails 299 = .ok (.iconst 0, 1) := by decide +kernel
theorem dL_fails_300 : decode cL_fails 300 = .ok (.invokevirtual 42, 3) := by decide +kernel
theorem dL_fails_303 : decode cL_fails 303 = .ok (.bipush (-2), 2) := by decide +kernel
theorem dL_fails_305 : decode cL_fails 305 = .ok (.if_icmp .ne 228, 3) := by decide +kernel
theorem dL_fails_308 : decode cL_fails 308 = .ok (.aload_n 0, 1) := by decide +kernel
theorem dL_fails_309 : decode cL_fails 309 = .ok (.iconst 0, 1) := by decide +kernel
theorem dL_fails_310 : decode cL_fails 310 = .ok (.sipush 10000, 3) := by decide +kernel
theorem dL_fails_313 : decode cL_fails 313 = .ok (.invokevirtual 42, 3) := by decide +kernel
theorem dL_fails_316 : decode cL_fails 316 = .ok (.bipush (-2), 2) := by decide +kernel
theorem dL_fails_318 : decode cL_fails 318 = .ok (.if_icmp .ne 215, 3) := by decide +kernel
theorem dL_fails_321 : decode cL_fails 321 = .ok (.aload_n 0, 1) := by decide +kernel
theorem dL_fails_322 : decode cL_fails 322 = .ok (.iconst 0, 1) := by decide +kernel
theorem dL_fails_323 : decode cL_fails 323 = .ok (.sipush 2048, 3) := by decide +kernel
theorem dL_fails_326 : decode cL_fails 326 = .ok (.invokevirtual 51, 3) := by decide +kernel
theorem dL_fails_329 : decode cL_fails 329 = .ok (.bipush (-2), 2) := by decide +kernel
theorem dL_fails_331 : decode cL_fails 331 = .ok (.if_icmp .ne 202, 3) := by decide +kernel
theorem dL_fails_334 : decode cL_fails 334 = .ok (.aload_n 0, 1) := by decide +kernel
theorem dL_fails_335 : decode cL_fails 335 = .ok (.iconst 0, 1) := by decide +kernel
theorem dL_fails_336 : decode cL_fails 336 = .ok (.iconst (-1), 1) := by decide +kernel
theorem dL_fails_337 : decode cL_fails 337 = .ok (.invokevirtual 54, 3) := by decide +kernel
theorem dL_fails_340 : decode cL_fails 340 = .ok (.bipush (-2), 2) := by decide +kernel
theorem dL_fails_342 : decode cL_fails 342 = .ok (.if_icmp .ne 191, 3) := by decide +kernel
theorem dL_fails_345 : decode cL_fails 345 = .ok (.aload_n 0, 1) := by decide +kernel
theorem dL_fails_346 : decode cL_fails 346 = .ok (.iconst 0, 1) := by decide +kernel
theorem dL_fails_347 : decode cL_fails 347 = .ok (.iconst 5, 1) := by decide +kernel
theorem dL_fails_348 : decode cL_fails 348 = .ok (.iconst 4, 1) := by decide +kernel
theorem dL_fails_349 : decode cL_fails 349 = .ok (.invokevirtual 57, 3) := by decide +kernel
theorem dL_fails_352 : decode cL_fails 352 = .ok (.bipush (-2), 2) := by decide +kernel
theorem dL_fails_354 : decode cL_fails 354 = .ok (.if_icmp .ne 179, 3) := by decide +kernel
theorem dL_fails_357 : decode cL_fails 357 = .ok (.aload_n 0, 1) := by decide +kernel
theorem dL_fails_358 : decode cL_fails 358 = .ok (.iconst 0, 1) := by decide +kernel
theorem dL_fails_359 : decode cL_fails 359 = .ok (.iconst (-1), 1) := by decide +kernel
theorem dL_fails_360 : decode cL_fails 360 = .ok (.iconst 4, 1) := by decide +kernel
theorem dL_fails_361 : decode cL_fails 361 = .ok (.invokevirtual 57, 3) := by decide +kernel
theorem dL_fails_364 : decode cL_fails 364 = .ok (.bipush (-2), 2) := by decide +kernel
theorem dL_fails_366 : decode cL_fails 366 = .ok (.if_icmp .ne 167, 3) := by decide +kernel
theorem dL_fails_369 : decode cL_fails 369 = .ok (.aload_n 0, 1) := by decide +kernel
theorem dL_fails_370 : decode cL_fails 370 = .ok (.iconst 0, 1) := by decide +kernel
theorem dL_fails_371 : decode cL_fails 371 = .ok (.iconst 0, 1) := by decide +kernel
theorem dL_fails_372 : decode cL_fails 372 = .ok (.sipush 2048, 3) := by decide +kernel
theorem dL_fails_375 : decode cL_fails 375 = .ok (.invokevirtual 60, 3) := by decide +kernel
theorem dL_fails_378 : decode cL_fails 378 = .ok (.bipush (-2), 2) := by decide +kernel
theorem dL_fails_380 : decode cL_fails 380 = .ok (.if_icmp .ne 153, 3) := by decide +kernel
theorem dL_fails_383 : decode cL_fails 383 = .ok (.aload_n 0, 1) := by decide +kernel
theorem dL_fails_384 : decode cL_fails 384 = .ok (.iconst 4, 1) := by decide +kernel
theorem dL_fails_385 : decode cL_fails 385 = .ok (.iconst 0, 1) := by decide +kernel
theorem dL_fails_386 : decode cL_fails 386 = .ok (.iconst 0, 1) := by decide +kernel
theorem dL_fails_387 : decode cL_fails 387 = .ok (.iconst 0, 1) := by decide +kernel
theorem dL_fails_388 : decode cL_fails 388 = .ok (.invokevirtual 63, 3) := by decide +kernel
theorem dL_fails_391 : decode cL_fails 391 = .ok (.bipush (-2), 2) := by decide +kernel
theorem dL_fails_393 : decode cL_fails 393 = .ok (.if_icmp .ne 140, 3) := by decide +kernel
theorem dL_fails_396 : decode cL_fails 396 = .ok (.aload_n 0, 1) := by decide +kernel
theorem dL_fails_397 : decode cL_fails 397 = .ok (.iconst 0, 1) := by decide +kernel
theorem dL_fails_398 : decode cL_fails 398 = .ok (.iconst (-1), 1) := by decide +kernel
theorem dL_fails_399 : decode cL_fails 399 = .ok (.invokevirtual 70, 3) := by decide +kernel
theorem dL_fails_402 : decode cL_fails 402 = .ok (.bipush (-2), 2) := by decide +kernel
theorem dL_fails_404 : decode cL_fails 404 = .ok (.if_icmp .ne 129, 3) := by decide +kernel
theorem dL_fails_407 : decode cL_fails 407 = .ok (.aload_n 0, 1) := by decide +kernel
theorem dL_fails_408 : decode cL_fails 408 = .ok (.iconst 0, 1) := by decide +kernel
theorem dL_fails_409 : decode cL_fails 409 = .ok (.bipush 10, 2) := by decide +kernel
theorem dL_fails_411 : decode cL_fails 411 = .ok (.invokevirtual 19, 3) := by decide +kernel
theorem dL_fails_414 : decode cL_fails 414 = .ok (.bipush (-2), 2) := by decide +kernel
theorem dL_fails_416 : decode cL_fails 416 = .ok (.if_icmp .ne 117, 3) := by decide +kernel
theorem dL_fails_419 : decode cL_fails 419 = .ok (.aload_n 0, 1) := by decide +kernel
theorem dL_fails_420 : decode cL_fails 420 = .ok (.iconst 0, 1) := by decide +kernel
theorem dL_fails_421 : decode cL_fails 421 = .ok (.bipush 8, 2) := by decide +kernel
theorem dL_fails_423 : decode cL_fails 423 = .ok (.iconst 0, 1) := by decide +kernel
theorem dL_fails_424 : decode cL_fails 424 = .ok (.invokevirtual 23, 3) := by decide +kernel
theorem dL_fails_427 : decode cL_fails 427 = .ok (.bipush (-2), 2) := by decide +kernel
theorem dL_fails_429 : decode cL_fails 429 = .ok (.if_icmp .ne 104, 3) := by decide +kernel
theorem dL_fails_432 : decode cL_fails 432 = .ok (.aload_n 0, 1) := by decide +kernel
theorem dL_fails_433 : decode cL_fails 433 = .ok (.iconst 0, 1) := by decide +kernel
theorem dL_fails_434 : decode cL_fails 434 = .ok (.iconst 0, 1) := by decide +kernel
theorem dL_fails_435 : decode cL_fails 435 = .ok (.bipush 6, 2) := by decide +kernel
theorem dL_fails_437 : decode cL_fails 437 = .ok (.invokevirtual 23, 3) := by decide +kernel
theorem dL_fails_440 : decode cL_fails 440 = .ok (.bipush (-2), 2) := by decide +kernel
theorem dL_fails_442 : decode cL_fails 442 = .ok (.if_icmp .ne 91, 3) := by decide +kernel
theorem dL_fails_445 : decode cL_fails 445 = .ok (.aload_n 0, 1) := by decide +kernel
theorem dL_fails_446 : decode cL_fails 446 = .ok (.iconst 0, 1) := by decide +kernel
theorem dL_fails_447 : decode cL_fails 447 = .ok (.sipush 2048, 3) := by decide +kernel
theorem dL_fails_450 : decode cL_fails 450 = .ok (.invokevirtual 27, 3) := by decide +kernel
theorem dL_fails_453 : decode cL_fails 453 = .ok (.bipush (-2), 2) := by decide +kernel
theorem dL_fails_455 : decode cL_fails 455 = .ok (.if_icmp .ne 78, 3) := by decide +kernel
theorem dL_fails_458 : decode cL_fails 458 = .ok (.aload_n 0, 1) := by decide +kernel
theorem dL_fails_459 : decode cL_fails 459 = .ok (.iconst 0, 1) := by decide +kernel
theorem dL_fails_460 : decode cL_fails 460 = .ok (.iconst (-1), 1) := by decide +kernel
theorem dL_fails_461 : decode cL_fails 461 = .ok (.invokevirtual 73, 3) := by decide +kernel
theorem dL_fails_464 : decode cL_fails 464 = .ok (.bipush (-2), 2) := by decide +kernel
theorem dL_fails_466 : decode cL_fails 466 = .ok (.if_icmp .ne 67, 3) := by decide +kernel
theorem dL_fails_469 : decode cL_fails 469 = .ok (.aload_n 0, 1) := by decide +kernel
theorem dL_fails_470 : decode cL_fails 470 = .ok (.iconst 0, 1) := by decide +kernel
theorem dL_fails_471 : decode cL_fails 471 = .ok (.sipush 2048, 3) := by decide +kernel
theorem dL_fails_474 : decode cL_fails 474 = .ok (.invokevirtual 30, 3) := by decide +kernel
theorem dL_fails_477 : decode cL_fails 477 = .ok (.bipush (-2), 2) := by decide +kernel
theorem dL_fails_479 : decode cL_fails 479 = .ok (.if_icmp .ne 54, 3) := by decide +kernel
theorem dL_fails_482 : decode cL_fails 482 = .ok (.aload_n 0, 1) := by decide +kernel
theorem dL_fails_483 : decode cL_fails 483 = .ok (.iconst 0, 1) := by decide +kernel
theorem dL_fails_484 : decode cL_fails 484 = .ok (.iconst (-1), 1) := by decide +kernel
theorem dL_fails_485 : decode cL_fails 485 = .ok (.invokevirtual 76, 3) := by decide +kernel
theorem dL_fails_488 : decode cL_fails 488 = .ok (.bipush (-2), 2) := by decide +kernel
theorem dL_fails_490 : decode cL_fails 490 = .ok (.if_icmp .ne 43, 3) := by decide +kernel
theorem dL_fails_493 : decode cL_fails 493 = .ok (.aload_n 0, 1) := by decide +kernel
theorem dL_fails_494 : decode cL_fails 494 = .ok (.iconst 0, 1) := by decide +kernel
theorem dL_fails_495 : decode cL_fails 495 = .ok (.iconst 0, 1) := by decide +kernel
theorem dL_fails_496 : decode cL_fails 496 = .ok (.invokevirtual 79, 3) := by decide +kernel
theorem dL_fails_499 : decode cL_fails 499 = .ok (.bipush (-2), 2) := by decide +kernel
theorem dL_fails_501 : decode cL_fails 501 = .ok (.if_icmp .ne 32, 3) := by decide +kernel
theorem dL_fails_504 : decode cL_fails 504 = .ok (.aload_n 0, 1) := by decide +kernel
theorem dL_fails_505 : decode cL_fails 505 = .ok (.iconst 0, 1) := by decide +kernel
theorem dL_fails_506 : decode cL_fails 506 = .ok (.sipush 2049, 3) := by decide +kernel
theorem dL_fails_509 : decode cL_fails 509 = .ok (.invokevirtual 79, 3) := by decide +kernel
theorem dL_fails_512 : decode cL_fails 512 = .ok (.bipush (-2), 2) := by decide +kernel
theorem dL_fails_514 : decode cL_fails 514 = .ok (.if_icmp .ne 19, 3) := by decide +kernel
theorem dL_fails_517 : decode cL_fails 517 = .ok (.aload_n 0, 1) := by decide +kernel
theorem dL_fails_518 : decode cL_fails 518 = .ok (.iconst (-1), 1) := by decide +kernel
theorem dL_fails_519 : decode cL_fails 519 = .ok (.iconst 0, 1) := by decide +kernel
theorem dL_fails_520 : decode cL_fails 520 = .ok (.iconst 0, 1) := by decide +kernel
theorem dL_fails_521 : decode cL_fails 521 = .ok (.invokevirtual 82, 3) := by decide +kernel
theorem dL_fails_524 : decode cL_fails 524 = .ok (.bipush (-2), 2) := by decide +kernel
theorem dL_fails_526 : decode cL_fails 526 = .ok (.if_icmp .ne 7, 3) := by decide +kernel
theorem dL_fails_529 : decode cL_fails 529 = .ok (.iconst 1, 1) := by decide +kernel
theorem dL_fails_530 : decode cL_fails 530 = .ok (.goto 4, 3) := by decide +kernel
theorem dL_fails_533 : decode cL_fails 533 = .ok (.iconst 0, 1) := by decide +kernel
theorem dL_fails_534 : decode cL_fails 534 = .ok (.istore 5, 2) := by decide +kernel
theorem dL_fails_536 : decode cL_fails 536 = .ok (.iload 5, 2) := by decide +kernel
theorem dL_fails_538 : decode cL_fails 538 = .ok (.ifCond .eq 26, 3) := by decide +kernel
theorem dL_fails_541 : decode cL_fails 541 = .ok (.aload_n 0, 1) := by decide +kernel
theorem dL_fails_542 : decode cL_fails 542 = .ok (.invokestatic 33, 3) := by decide +kernel
theorem dL_fails_545 : decode cL_fails 545 = .ok (.lload_n 1, 1) := by decide +kernel
theorem dL_fails_546 : decode cL_fails 546 = .ok (.lcmp, 1) := by decide +kernel
theorem dL_fails_547 : decode cL_fails 547 = .ok (.ifCond .ne 17, 3) := by decide +kernel
theorem dL_fails_550 : decode cL_fails 550 = .ok (.aload_n 0, 1) := by decide +kernel
theorem dL_fails_551 : decode cL_fails 551 = .ok (.bipush 9, 2) := by decide +kernel
theorem dL_fails_553 : decode cL_fails 553 = .ok (.invokevirtual 13, 3) := by decide +kernel
theorem dL_fails_556 : decode cL_fails 556 = .ok (.iload_n 3, 1) := by decide +kernel
theorem dL_fails_557 : decode cL_fails 557 = .ok (.if_icmp .ne 7, 3) := by decide +kernel
theorem dL_fails_560 : decode cL_fails 560 = .ok (.iconst 1, 1) := by decide +kernel
theorem dL_fails_561 : decode cL_fails 561 = .ok (.goto 4, 3) := by decide +kernel
theorem dL_fails_564 : decode cL_fails 564 = .ok (.iconst 0, 1) := by decide +kernel
theorem dL_fails_565 : decode cL_fails 565 = .ok (.ireturn, 1) := by decide +kernel
