/-! words of one list among another's, by program -/
set_option maxRecDepth 20000 in
theorem ggL_joins_X7_join : GoodIn wsL_joins wsX7_join := goodIn_r _ [5, 6, 7, 8, 9, 10, 11, 12, 13, 14, 15, 16, 17, 18, 19, 20, 21, 22, 23, 24, 25, 26, 27, 28, 29, 30, 31, 32, 33, 34, 35, 36, 37, 38, 39, 40, 41, 42, 43, 44, 45, 46, 47, 48, 49, 50, 51, 52, 53, 54, 55, 56, 57, 58, 59, 60, 61, 62, 63, 64, 65, 66, 67, 68, 69, 70, 71, 72, 73, 74, 75, 76, 77, 78, 79, 80, 81, 82, 83, 84, 85, 86, 255, 256, 257, 258, 259, 260, 261, 262, 263, 264, 265, 266, 267, 268, 269, 270, 271, 272, 273, 274] (by decide +kernel) (by decide +kernel)
set_option maxRecDepth 20000 in
theorem gL_joins_X7_join : GoodIn wsL_joins (wsV RL 72 RX7 yX7_join wsX7_join) := goodIn_app (goodIn_of _ (by decide +kernel)) ggL_joins_X7_join
set_option maxRecDepth 20000 in
theorem ggL_joins_X7_stroke : GoodIn wsL_joins wsX7_stroke := goodIn_r _ [90, 6, 91, 92, 93, 94, 95, 10, 11, 12, 13, 14, 15, 50, 51, 52, 53, 26, 48, 23, 24, 25, 96, 97, 98, 99, 100, 101, 102, 103, 104, 105, 78, 79, 80, 106, 107, 108, 109, 110, 111, 112, 113, 114, 115, 116, 117, 118, 119, 120, 121, 122, 123, 124, 125, 126, 127, 128, 129, 28, 29, 30, 130, 32, 33, 34, 131, 4, 132, 133, 134, 135, 136, 137, 138, 139, 140, 141, 142, 143, 144, 145, 146, 147, 148, 149, 150, 151, 152, 153, 154, 155, 156, 157, 158, 159, 160, 161, 162, 163, 164, 165, 166, 167, 168, 169, 170, 171, 172, 173, 174, 175, 176, 177, 178, 179, 180, 181, 182, 183, 184, 185, 186, 187, 188, 189, 190, 191, 192, 193, 194, 195, 196, 197, 198, 199, 255, 256, 257, 258, 259, 260, 261, 262, 263, 264, 275, 276, 277, 278, 279, 280, 281, 282, 283, 284, 285, 286, 287, 288, 289, 290, 291, 292, 293, 294, 268, 269] (by decide +kernel) (by decide +kernel)
set_option maxRecDepth 20000 in
theorem gL_joins_X7_stroke : GoodIn wsL_joins (wsV RL 17 RX7 yX7_stroke wsX7_stroke) := goodIn_app (goodIn_of _ (by decide +kernel)) ggL_joins_X7_stroke
set_option maxRecDepth 20000 in
theorem ggL_joins_X7_point : GoodIn wsL_joins wsX7_point := goodIn_r _ [203, 6, 10, 11, 12, 13, 14, 15, 48, 23, 24, 25, 26, 204, 205, 4, 206, 45, 28, 29, 30, 46, 32, 33, 34, 255, 256, 257, 258, 259, 260, 261, 262, 263, 264, 268, 269] (by decide +kernel) (by decide +kernel)
set_option maxRecDepth 20000 in
theorem gL_joins_X7_point : GoodIn wsL_joins (wsV RL 23 RX7 yX7_point wsX7_point) := goodIn_app (goodIn_of _ (by decide +kernel)) ggL_joins_X7_point
set_option maxRecDepth 20000 in
theorem ggL_joins_X7_count : GoodIn wsL_joins wsX7_count := goodIn_r _ [210, 6, 211, 91, 212, 93, 213, 214, 215, 216, 217, 8, 9, 218, 219, 139, 220, 221, 222, 13, 223, 15, 224, 225, 226, 227, 228, 51, 52, 53, 26, 100, 23, 24, 25, 229, 230, 231, 232, 233, 126, 127, 128, 129, 28, 29, 30, 130, 32, 33, 34, 131, 4, 132, 133, 134, 135, 136, 137, 138, 140, 141, 142, 143, 144, 145, 146, 147, 148, 149, 78, 79, 80, 150, 115, 116, 151, 152, 118, 119, 120, 101, 102, 103, 104, 105, 153, 122, 123, 124, 110, 111, 112, 113, 114, 154, 155, 156, 157, 158, 159, 160, 161, 162, 163, 164, 165, 166, 167, 168, 169, 170, 171, 172, 173, 174, 175, 176, 177, 178, 179, 180, 181, 182, 183, 184, 185, 186, 187, 188, 189, 190, 191, 192, 193, 194, 97, 98, 99, 195, 196, 197, 198, 199, 107, 108, 109, 234, 235, 236, 237, 238, 239, 240, 241, 242, 243, 244, 245, 246, 247, 248, 249, 250, 251, 252, 253, 254, 255, 256, 257, 258, 259, 260, 261, 262, 263, 264, 268, 269, 275, 276, 277, 278, 279, 280, 281, 282, 283, 284, 285, 286, 287, 288, 289, 290, 291, 292, 293, 294, 295, 296, 297, 298, 265, 266, 267, 270, 271, 272, 273, 274] (by decide +kernel) (by decide +kernel)
set_option maxRecDepth 20000 in
theorem gL_joins_X7_count : GoodIn wsL_joins (wsV RL 9 RX7 yX7_count wsX7_count) := goodIn_app (goodIn_of _ (by decide +kernel)) ggL_joins_X7_count
set_option maxRecDepth 20000 in
theorem ggL_history_L_whole : GoodIn wsL_history wsL_whole := goodIn_r _ [4, 5, 6, 7, 8, 9, 10, 11, 12, 13, 14, 15, 16, 17, 18, 19, 20, 21, 22, 23, 24, 25, 26, 27, 28, 29, 30, 31, 32, 33, 34, 35, 36, 37, 38, 39, 40, 41, 42, 43, 44, 45, 46, 47, 48, 49, 50, 51, 52, 53, 54, 55, 56, 57, 58, 59, 60, 61, 62, 63, 64, 65, 66, 67, 68, 69, 70, 71, 72, 73, 74, 75, 76, 77, 78, 79, 80, 81, 82, 83, 84, 85, 86, 87, 88, 89, 90, 91, 92, 93, 94, 95, 96, 97, 98, 99, 100, 101, 102, 103, 104, 105, 106, 107, 108, 109, 110, 111, 112, 113, 114, 115, 116, 117, 118, 119, 120, 121, 122, 123, 124, 125, 126, 127, 128, 129, 130, 131, 132, 133, 134, 135, 136, 137, 138, 139, 140, 141, 142, 143, 144, 145, 146, 147, 148, 149, 150, 151, 152, 153, 154, 155, 156, 157, 158, 159, 160, 161, 162, 163, 164, 165, 166, 167, 168, 169, 170, 171, 172, 173, 174, 175, 176, 177, 178, 179, 180, 181, 182, 183, 184, 185, 186, 187, 188, 189, 190, 191, 192, 193, 194, 195, 196, 197, 198, 199, 200, 201, 202, 203, 204, 237, 238, 239, 240, 241, 242, 243, 244, 245, 246, 247, 248, 249, 250, 251, 252, 253, 254, 255, 256, 257, 258, 259, 260, 261, 262, 263, 264, 265, 266, 267, 268, 269, 270, 271, 272, 273, 274, 275, 276, 277, 278, 279, 280] (by decide +kernel) (by decide +kernel)
set_option maxRecDepth 20000 in
theorem gL_history_L_whole : GoodIn wsL_history (va_wsS RL 59 yL_whole wsL_whole) := goodIn_app (goodIn_of _ (by decide +kernel)) ggL_history_L_whole
set_option maxRecDepth 20000 in
theorem ggL_history_X7_count : GoodIn wsL_history wsX7_count := goodIn_r _ [11, 12, 13, 14, 15, 16, 17, 18, 19, 20, 21, 22, 23, 24, 25, 26, 27, 28, 29, 30, 31, 32, 33, 34, 35, 36, 37, 38, 39, 40, 41, 42, 43, 44, 45, 46, 47, 48, 49, 50, 51, 52, 53, 54, 55, 56, 57, 58, 59, 60, 61, 62, 10, 63, 64, 65, 66, 67, 68, 69, 70, 71, 72, 73, 74, 75, 76, 77, 78, 79, 80, 81, 82, 83, 84, 85, 86, 87, 88, 89, 90, 91, 92, 93, 94, 95, 96, 97, 98, 99, 100, 101, 102, 103, 104, 105, 106, 107, 108, 109, 110, 111, 112, 113, 114, 115, 116, 117, 118, 119, 120, 121, 122, 123, 124, 125, 126, 127, 128, 129, 130, 131, 132, 133, 134, 135, 136, 137, 138, 139, 140, 141, 142, 143, 144, 145, 146, 147, 148, 149, 150, 151, 152, 153, 154, 155, 156, 157, 158, 159, 160, 161, 162, 163, 164, 165, 166, 167, 168, 169, 170, 171, 172, 173, 174, 175, 176, 177, 237, 238, 239, 240, 241, 242, 243, 244, 245, 246, 247, 248, 249, 250, 251, 252, 253, 254, 255, 256, 257, 258, 259, 260, 261, 262, 263, 264, 265, 266, 267, 268, 269, 270, 271, 272, 273, 274, 275, 276, 277, 278, 279, 280] (by decide +kernel) (by decide +kernel)
set_option maxRecDepth 20000 in
theorem gL_history_X7_count : GoodIn wsL_history (wsV RL 9 RX7 yX7_count wsX7_count) := goodIn_app (goodIn_of _ (by decide +kernel)) ggL_history_X7_count
set_option maxRecDepth 20000 in
theorem ggL_history_X7_undo : GoodIn wsL_history wsX7_undo := goodIn_r _ [208, 23, 24, 12, 209, 210, 211, 212, 213, 214, 215, 216, 217, 218, 219, 220, 221, 222, 223, 224, 225, 226, 227, 228, 237, 238, 239, 240, 241, 242, 243, 244, 245, 246, 276, 277, 278, 279, 280, 247, 248] (by decide +kernel) (by decide +kernel)
set_option maxRecDepth 20000 in
theorem gL_history_X7_undo : GoodIn wsL_history (wsV RL 75 RX7 yX7_undo wsX7_undo) := goodIn_app (goodIn_of _ (by decide +kernel)) ggL_history_X7_undo
set_option maxRecDepth 20000 in
theorem ggL_history_X7_redo : GoodIn wsL_history wsX7_redo := goodIn_r _ [232, 23, 25, 12, 233, 234, 235, 212, 236, 216, 215, 214, 217, 218, 219, 220, 221, 222, 223, 224, 225, 226, 227, 228, 237, 238, 239, 240, 241, 242, 243, 244, 245, 246, 276, 277, 278, 279, 280, 247, 248] (by decide +kernel) (by decide +kernel)
set_option maxRecDepth 20000 in
theorem gL_history_X7_redo : GoodIn wsL_history (wsV RL 79 RX7 yX7_redo wsX7_redo) := goodIn_app (goodIn_of _ (by decide +kernel)) ggL_history_X7_redo
set_option maxRecDepth 20000 in
theorem ggL_texts_X7_clearText : GoodIn wsL_texts wsX7_clearText := goodIn_r _ [5, 6, 7, 8, 9, 10, 11, 12, 13, 239, 240, 241, 242, 243, 244, 245, 246, 247, 248, 249, 250] (by decide +kernel) (by decide +kernel)
set_option maxRecDepth 20000 in
theorem gL_texts_X7_clearText : GoodIn wsL_texts (wsV RL 82 RX7 yX7_clearText wsX7_clearText) := goodIn_app (goodIn_of _ (by decide +kernel)) ggL_texts_X7_clearText
set_option maxRecDepth 20000 in
theorem ggL_texts_L_low : GoodIn wsL_texts wsL_low := goodIn_r _ [17, 18] (by decide +kernel) (by decide +kernel)
set_option maxRecDepth 20000 in
theorem gL_texts_L_low : GoodIn wsL_texts (va_wsS RL 35 yL_low wsL_low) := goodIn_app (goodIn_of _ (by decide +kernel)) ggL_texts_L_low
set_option maxRecDepth 20000 in
theorem ggL_texts_X7_type : GoodIn wsL_texts wsX7_type := goodIn_r _ [22, 6, 7, 23, 24, 25, 11, 26, 13, 27, 239, 240, 241, 242, 243, 244, 245, 246, 247, 248, 249, 250] (by decide +kernel) (by decide +kernel)
set_option maxRecDepth 20000 in
theorem gL_texts_X7_type : GoodIn wsL_texts (wsV RL 85 RX7 yX7_type wsX7_type) := goodIn_app (goodIn_of _ (by decide +kernel)) ggL_texts_X7_type
set_option maxRecDepth 20000 in
theorem ggL_texts_X7_readPoints : GoodIn wsL_texts wsX7_readPoints := goodIn_r _ [31, 6, 32, 33, 34, 35, 36, 37, 11, 38, 13, 27, 39, 40, 41, 42, 43, 44, 45, 46, 47, 48, 49, 50, 51, 52, 53, 54, 55, 56, 57, 58, 59, 60, 61, 62, 63, 64, 65, 239, 240, 241, 242, 243, 244, 245, 246, 247, 248, 251, 252, 253, 249, 250] (by decide +kernel) (by decide +kernel)
set_option maxRecDepth 20000 in
theorem gL_texts_X7_readPoints : GoodIn wsL_texts (wsV RL 89 RX7 yX7_readPoints wsX7_readPoints) := goodIn_app (goodIn_of _ (by decide +kernel)) ggL_texts_X7_readPoints
set_option maxRecDepth 20000 in
theorem ggL_texts_X7_count : GoodIn wsL_texts wsX7_count := goodIn_r _ [69, 70, 71, 72, 73, 74, 75, 76, 77, 78, 33, 34, 79, 80, 81, 82, 83, 84, 85, 86, 87, 88, 89, 90, 91, 92, 93, 94, 95, 96, 97, 98, 99, 100, 101, 102, 103, 104, 105, 106, 107, 108, 109, 110, 111, 112, 113, 114, 115, 116, 117, 118, 4, 119, 120, 121, 122, 123, 124, 125, 126, 127, 128, 129, 130, 131, 132, 133, 134, 135, 136, 137, 138, 139, 140, 141, 142, 143, 144, 145, 146, 147, 148, 149, 150, 151, 152, 153, 154, 155, 156, 157, 158, 159, 160, 161, 162, 163, 164, 165, 166, 167, 168, 169, 170, 171, 172, 173, 174, 175, 176, 177, 178, 179, 180, 181, 182, 183, 184, 185, 186, 187, 188, 189, 190, 191, 192, 193, 194, 195, 196, 197, 198, 199, 200, 201, 202, 203, 204, 205, 206, 207, 208, 209, 210, 211, 212, 213, 214, 215, 216, 217, 218, 219, 220, 221, 222, 223, 224, 225, 226, 227, 228, 229, 230, 231, 232, 233, 239, 240, 241, 242, 243, 244, 245, 246, 247, 248, 254, 255, 256, 257, 258, 259, 260, 261, 262, 263, 264, 265, 266, 267, 268, 269, 270, 271, 272, 273, 274, 275, 276, 277, 278, 279, 251, 252, 253, 280, 281, 282, 283, 284] (by decide +kernel) (by decide +kernel)
set_option maxRecDepth 20000 in
theorem gL_texts_X7_count : GoodIn wsL_texts (wsV RL 9 RX7 yX7_count wsX7_count) := goodIn_app (goodIn_of _ (by decide +kernel)) ggL_texts_X7_count
set_option maxRecDepth 20000 in
theorem ggL_texts_X7_clearPoints : GoodIn wsL_texts wsX7_clearPoints := goodIn_r _ [237, 33, 34, 238, 40, 41, 42, 43, 44, 239, 240, 241, 242, 243, 244, 245, 246, 247, 248, 251, 252, 253] (by decide +kernel) (by decide +kernel)
set_option maxRecDepth 20000 in
theorem gL_texts_X7_clearPoints : GoodIn wsL_texts (wsV RL 92 RX7 yX7_clearPoints wsX7_clearPoints) := goodIn_app (goodIn_of _ (by decide +kernel)) ggL_texts_X7_clearPoints
