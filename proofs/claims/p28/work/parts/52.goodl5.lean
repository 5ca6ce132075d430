/-! words of one list among another's, by program -/
set_option maxRecDepth 20000 in
theorem ggL_errors_X7_count : GoodIn wsL_errors wsX7_count := goodIn_r _ [5, 6, 7, 8, 9, 10, 11, 12, 13, 14, 15, 16, 17, 18, 19, 20, 21, 22, 23, 24, 25, 26, 27, 28, 29, 30, 31, 32, 33, 34, 35, 36, 37, 38, 39, 40, 41, 42, 43, 44, 45, 46, 47, 48, 49, 50, 51, 52, 53, 54, 55, 56, 4, 57, 58, 59, 60, 61, 62, 63, 64, 65, 66, 67, 68, 69, 70, 71, 72, 73, 74, 75, 76, 77, 78, 79, 80, 81, 82, 83, 84, 85, 86, 87, 88, 89, 90, 91, 92, 93, 94, 95, 96, 97, 98, 99, 100, 101, 102, 103, 104, 105, 106, 107, 108, 109, 110, 111, 112, 113, 114, 115, 116, 117, 118, 119, 120, 121, 122, 123, 124, 125, 126, 127, 128, 129, 130, 131, 132, 133, 134, 135, 136, 137, 138, 139, 140, 141, 142, 143, 144, 145, 146, 147, 148, 149, 150, 151, 152, 153, 154, 155, 156, 157, 158, 159, 160, 161, 162, 163, 164, 165, 166, 167, 168, 169, 170, 171, 332, 333, 334, 335, 336, 337, 338, 339, 340, 341, 342, 343, 344, 345, 346, 347, 348, 349, 350, 351, 352, 353, 354, 355, 356, 357, 358, 359, 360, 361, 362, 363, 364, 365, 366, 367, 368, 369, 370, 371, 372, 373, 374, 375] (by decide +kernel) (by decide +kernel)
set_option maxRecDepth 20000 in
theorem gL_errors_X7_count : GoodIn wsL_errors (wsV RL 9 RX7 yX7_count wsX7_count) := goodIn_app (goodIn_of _ (by decide +kernel)) ggL_errors_X7_count
set_option maxRecDepth 20000 in
theorem ggL_errors_X7_put : GoodIn wsL_errors wsX7_put := goodIn_r _ [175, 15, 16, 176, 177, 4, 178, 179, 180, 181, 182, 183, 184, 185, 186, 187, 188, 189, 190, 191, 192, 193, 332, 333, 334, 335, 336, 337, 338, 339, 340, 341, 368, 369, 370] (by decide +kernel) (by decide +kernel)
set_option maxRecDepth 20000 in
theorem gL_errors_X7_put : GoodIn wsL_errors (wsV RL 95 RX7 yX7_put wsX7_put) := goodIn_app (goodIn_of _ (by decide +kernel)) ggL_errors_X7_put
set_option maxRecDepth 20000 in
theorem ggL_errors_X7_draw : GoodIn wsL_errors wsX7_draw := goodIn_r _ [197, 15, 16, 6, 17, 7, 198, 199, 4, 200, 179, 180, 181, 201, 202, 203, 24, 204, 26, 205, 206, 207, 208, 35, 209, 210, 211, 212, 213, 214, 215, 216, 217, 218, 185, 219, 187, 220, 221, 222, 223, 224, 225, 226, 227, 74, 75, 76, 228, 229, 230, 231, 232, 233, 332, 333, 334, 335, 336, 337, 338, 339, 340, 341, 368, 369, 370, 342, 343, 371, 372, 373, 374, 375] (by decide +kernel) (by decide +kernel)
set_option maxRecDepth 20000 in
theorem gL_errors_X7_draw : GoodIn wsL_errors (wsV RL 98 RX7 yX7_draw wsX7_draw) := goodIn_app (goodIn_of _ (by decide +kernel)) ggL_errors_X7_draw
set_option maxRecDepth 20000 in
theorem ggL_errors_X7_rub : GoodIn wsL_errors wsX7_rub := goodIn_r _ [237, 238, 6, 7, 239, 17, 176, 177, 4, 178, 179, 180, 181, 240, 241, 242, 24, 243, 26, 216, 217, 218, 185, 219, 187, 244, 37, 38, 39, 35, 245, 49, 50, 51, 246, 53, 54, 55, 247, 56, 57, 248, 32, 33, 34, 249, 250, 251, 252, 16, 201, 202, 203, 204, 205, 206, 207, 208, 209, 210, 211, 212, 213, 214, 215, 182, 183, 184, 186, 188, 189, 190, 191, 192, 193, 253, 254, 255, 256, 220, 221, 222, 223, 224, 225, 226, 227, 74, 75, 76, 228, 229, 230, 231, 232, 233, 332, 333, 334, 335, 336, 337, 338, 339, 340, 341, 342, 343, 368, 369, 370, 371, 372, 373, 374, 375] (by decide +kernel) (by decide +kernel)
set_option maxRecDepth 20000 in
theorem gL_errors_X7_rub : GoodIn wsL_errors (wsV RL 63 RX7 yX7_rub wsX7_rub) := goodIn_app (goodIn_of _ (by decide +kernel)) ggL_errors_X7_rub
set_option maxRecDepth 20000 in
theorem ggL_errors_X7_smooth : GoodIn wsL_errors wsX7_smooth := goodIn_r _ [260, 6, 239, 261, 262, 263, 24, 264, 26, 179, 180, 4, 181, 265, 266, 267, 185, 268, 187, 269, 37, 38, 39, 35, 270, 49, 50, 51, 271, 53, 54, 55, 272, 183, 184, 186, 188, 189, 190, 191, 192, 193, 273, 274, 275, 276, 277, 278, 279, 280, 281, 282, 283, 284, 17, 16, 285, 286, 287, 288, 209, 210, 215, 36, 48, 52, 248, 32, 33, 34, 289, 206, 207, 208, 211, 212, 213, 214, 220, 221, 222, 223, 224, 225, 226, 227, 74, 75, 76, 228, 229, 230, 231, 232, 233, 332, 333, 334, 335, 336, 337, 338, 339, 340, 341, 342, 343, 368, 369, 370, 371, 372, 373, 374, 375] (by decide +kernel) (by decide +kernel)
set_option maxRecDepth 20000 in
theorem gL_errors_X7_smooth : GoodIn wsL_errors (wsV RL 66 RX7 yX7_smooth wsX7_smooth) := goodIn_app (goodIn_of _ (by decide +kernel)) ggL_errors_X7_smooth
set_option maxRecDepth 20000 in
theorem ggL_errors_X7_thin : GoodIn wsL_errors wsX7_thin := goodIn_r _ [293, 6, 239, 261, 262, 263, 24, 264, 26, 179, 180, 4, 181, 265, 266, 267, 185, 268, 187, 269, 37, 38, 39, 35, 270, 49, 50, 51, 271, 53, 54, 55, 272, 183, 184, 186, 188, 189, 190, 191, 192, 193, 294, 295, 296, 297, 56, 57, 281, 282, 283, 284, 17, 16, 285, 286, 287, 288, 209, 210, 215, 36, 48, 52, 248, 32, 33, 34, 289, 206, 207, 208, 211, 212, 213, 214, 220, 221, 222, 223, 224, 225, 226, 227, 74, 75, 76, 228, 229, 230, 231, 232, 233, 332, 333, 334, 335, 336, 337, 338, 339, 340, 341, 342, 343, 368, 369, 370, 371, 372, 373, 374, 375] (by decide +kernel) (by decide +kernel)
set_option maxRecDepth 20000 in
theorem gL_errors_X7_thin : GoodIn wsL_errors (wsV RL 69 RX7 yX7_thin wsX7_thin) := goodIn_app (goodIn_of _ (by decide +kernel)) ggL_errors_X7_thin
set_option maxRecDepth 20000 in
theorem ggL_errors_X7_join : GoodIn wsL_errors wsX7_join := goodIn_r _ [301, 6, 239, 16, 17, 261, 262, 263, 24, 264, 26, 265, 266, 267, 185, 268, 187, 269, 37, 38, 39, 35, 270, 49, 50, 51, 271, 53, 54, 55, 272, 183, 184, 186, 188, 189, 190, 191, 192, 193, 245, 246, 302, 244, 182, 248, 32, 33, 34, 289, 206, 207, 208, 209, 210, 211, 212, 213, 214, 215, 303, 304, 305, 306, 307, 220, 221, 222, 223, 224, 225, 226, 227, 74, 75, 76, 228, 229, 230, 231, 232, 233, 332, 333, 334, 335, 336, 337, 338, 339, 340, 341, 368, 369, 370, 342, 343, 371, 372, 373, 374, 375] (by decide +kernel) (by decide +kernel)
set_option maxRecDepth 20000 in
theorem gL_errors_X7_join : GoodIn wsL_errors (wsV RL 72 RX7 yX7_join wsX7_join) := goodIn_app (goodIn_of _ (by decide +kernel)) ggL_errors_X7_join
set_option maxRecDepth 20000 in
theorem ggL_errors_X7_shift : GoodIn wsL_errors wsX7_shift := goodIn_r _ [311, 6, 239, 261, 262, 263, 24, 264, 26, 179, 180, 4, 181, 312, 140, 141, 142, 36, 37, 38, 39, 35, 85, 86, 87, 88, 89, 74, 75, 76, 176, 177, 178, 313, 148, 149, 150, 94, 95, 96, 97, 98, 78, 79, 314, 82, 83, 84, 315, 91, 92, 93, 216, 217, 218, 185, 219, 187, 244, 245, 49, 50, 51, 246, 53, 54, 55, 182, 183, 184, 186, 188, 189, 190, 191, 192, 193, 281, 282, 283, 284, 17, 16, 285, 286, 287, 288, 209, 210, 215, 48, 52, 248, 32, 33, 34, 289, 206, 207, 208, 211, 212, 213, 214, 220, 221, 222, 223, 224, 225, 226, 227, 228, 229, 230, 231, 232, 233, 332, 333, 334, 335, 336, 337, 338, 339, 340, 341, 342, 343, 368, 369, 370, 371, 372, 373, 374, 375] (by decide +kernel) (by decide +kernel)
set_option maxRecDepth 20000 in
theorem gL_errors_X7_shift : GoodIn wsL_errors (wsV RL 101 RX7 yX7_shift wsX7_shift) := goodIn_app (goodIn_of _ (by decide +kernel)) ggL_errors_X7_shift
set_option maxRecDepth 20000 in
theorem ggL_errors_X7_paint : GoodIn wsL_errors wsX7_paint := goodIn_r _ [319, 6, 17, 261, 262, 263, 24, 264, 26, 198, 199, 4, 200, 179, 180, 181, 248, 32, 33, 34, 35, 320, 321, 322, 323, 220, 221, 222, 223, 224, 225, 226, 227, 74, 75, 76, 228, 229, 230, 231, 232, 233, 212, 213, 214, 332, 333, 334, 335, 336, 337, 338, 339, 340, 341, 342, 343, 371, 372, 373, 374, 375] (by decide +kernel) (by decide +kernel)
set_option maxRecDepth 20000 in
theorem gL_errors_X7_paint : GoodIn wsL_errors (wsV RL 104 RX7 yX7_paint wsX7_paint) := goodIn_app (goodIn_of _ (by decide +kernel)) ggL_errors_X7_paint
set_option maxRecDepth 20000 in
theorem ggL_errors_X7_remove : GoodIn wsL_errors wsX7_remove := goodIn_r _ [327, 6, 17, 7, 261, 262, 263, 24, 264, 26, 303, 304, 305, 306, 35, 211, 212, 213, 214, 307, 220, 221, 222, 223, 224, 225, 226, 227, 74, 75, 76, 228, 229, 230, 231, 232, 233, 332, 333, 334, 335, 336, 337, 338, 339, 340, 341, 342, 343, 371, 372, 373, 374, 375] (by decide +kernel) (by decide +kernel)
set_option maxRecDepth 20000 in
theorem gL_errors_X7_remove : GoodIn wsL_errors (wsV RL 107 RX7 yX7_remove wsX7_remove) := goodIn_app (goodIn_of _ (by decide +kernel)) ggL_errors_X7_remove
set_option maxRecDepth 20000 in
theorem ggL_errors_X7_setGap : GoodIn wsL_errors wsX7_setGap := goodIn_r _ [331, 20, 179, 180, 4, 181, 332, 333, 334, 335, 336, 337, 338, 339, 340, 341] (by decide +kernel) (by decide +kernel)
set_option maxRecDepth 20000 in
theorem gL_errors_X7_setGap : GoodIn wsL_errors (wsV RL 110 RX7 yX7_setGap wsX7_setGap) := goodIn_app (goodIn_of _ (by decide +kernel)) ggL_errors_X7_setGap
