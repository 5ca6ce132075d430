/-! words of each call of the law among the law's, by program -/
theorem goodIn_m {big : List Cond} (hg : ∀ w ∈ big, (w.onTables && w.keeps) = true ∨ ∃ ty, w = .arrayClass ty) (ws : List Cond) (ps : List Nat) (hp : ws = ps.filterMap (fun i => big[i]?)) : GoodIn big ws := by
  intro w h
  have hm : w ∈ big := by
    rw [hp] at h
    obtain ⟨i, -, hi⟩ := List.mem_filterMap.mp h
    exact List.mem_of_getElem? hi
  exact ⟨hm, hg w hm⟩
theorem gdX7 : GoodIn wsL_law wsX70 := fun w h => ⟨inlX7 w h, okLaw w (inlX7 w h)⟩
theorem gdX5 : GoodIn wsL_law wsX50 := fun w h => ⟨inlX5 w h, okLaw w (inlX5 w h)⟩
theorem gdX4 : GoodIn wsL_law wsX40 := fun w h => ⟨inlX4 w h, okLaw w (inlX4 w h)⟩
theorem gdX2 : GoodIn wsL_law wsX20 := fun w h => ⟨inlX2 w h, okLaw w (inlX2 w h)⟩
theorem gdX0 : GoodIn wsL_law wsX00 := fun w h => ⟨inlX0 w h, okLaw w (inlX0 w h)⟩
theorem gdX1 : GoodIn wsL_law wsX10 := fun w h => ⟨inlX1 w h, okLaw w (inlX1 w h)⟩
theorem gdX6 : GoodIn wsL_law wsX60 := fun w h => ⟨inlX6 w h, okLaw w (inlX6 w h)⟩
theorem gdX3 : GoodIn wsL_law wsX30 := fun w h => ⟨inlX3 w h, okLaw w (inlX3 w h)⟩
set_option maxRecDepth 20000 in
theorem ggL_law_X7_init : GoodIn wsL_law wsX7_init := goodIn_m okLaw _ [5, 6, 7, 8, 9, 10, 11, 12, 13, 14, 15, 16, 17, 18, 19, 20, 21, 22, 23, 24, 25, 26, 27, 28, 29, 30, 31, 32, 33, 34, 35, 36, 37, 38, 39, 40, 41, 42, 43, 44, 45, 46, 47, 48, 49, 50, 51, 52, 53, 54, 55, 56, 57, 58, 59, 60, 61, 62, 63, 64, 65, 66, 67, 68, 69, 70, 71, 72, 73, 74, 75, 76, 77, 78, 79, 80, 81, 82, 83, 84, 85, 86, 87, 88, 550, 551, 552, 540, 541, 542, 543, 544, 545, 546, 547, 548, 549, 553, 554, 555, 556, 557, 558, 559, 560, 561, 562, 563, 564, 565, 566, 567, 568, 569, 570, 571, 572, 573, 574, 575, 576, 577, 578, 579, 580, 581, 582, 583, 584, 585] (by decide +kernel)
set_option maxRecDepth 20000 in
theorem gL_law_X7_init : GoodIn wsL_law (wsX7_init) := ggL_law_X7_init
set_option maxRecDepth 20000 in
theorem ggL_law_L_cell : GoodIn wsL_law wsL_cell := goodIn_m okLaw _ [92, 93] (by decide +kernel)
set_option maxRecDepth 20000 in
theorem gL_law_L_cell : GoodIn wsL_law (va_wsS RL 114 yL_cell wsL_cell) := goodIn_app (goodIn_of _ (by decide +kernel)) ggL_law_L_cell
set_option maxRecDepth 20000 in
theorem ggL_law_X7_count : GoodIn wsL_law wsX7_count := goodIn_m okLaw _ [97, 20, 98, 30, 99, 34, 100, 38, 101, 102, 12, 103, 26, 104, 105, 39, 106, 107, 108, 19, 109, 110, 111, 112, 113, 114, 115, 116, 117, 118, 54, 119, 120, 121, 122, 123, 124, 125, 126, 127, 128, 129, 130, 131, 132, 133, 134, 135, 136, 137, 138, 139, 2, 140, 141, 142, 143, 144, 145, 146, 147, 148, 149, 29, 150, 151, 152, 67, 68, 153, 154, 155, 156, 157, 158, 159, 63, 160, 161, 162, 163, 164, 165, 166, 167, 168, 169, 170, 171, 172, 173, 174, 175, 176, 177, 178, 179, 180, 181, 182, 183, 184, 185, 69, 64, 65, 66, 186, 187, 188, 189, 190, 191, 192, 33, 193, 194, 195, 73, 196, 81, 82, 83, 79, 76, 77, 78, 80, 75, 197, 198, 199, 200, 201, 74, 202, 203, 204, 205, 206, 207, 208, 209, 210, 211, 212, 213, 214, 215, 216, 37, 217, 218, 219, 88, 220, 221, 222, 223, 224, 225, 226, 227, 228, 229, 230, 87, 231, 540, 541, 542, 543, 544, 545, 546, 547, 548, 549, 555, 556, 562, 563, 564, 565, 566, 567, 568, 569, 570, 571, 572, 573, 574, 575, 576, 577, 578, 579, 580, 581, 582, 583, 584, 585, 550, 551, 552, 557, 558, 559, 560, 561] (by decide +kernel)
set_option maxRecDepth 20000 in
theorem gL_law_X7_count : GoodIn wsL_law (wsV RL 9 RX7 yX7_count wsX7_count) := goodIn_app (goodIn_of _ (by decide +kernel)) ggL_law_X7_count
set_option maxRecDepth 20000 in
theorem ggL_law_L_low : GoodIn wsL_law wsL_low := goodIn_m okLaw _ [234, 235] (by decide +kernel)
set_option maxRecDepth 20000 in
theorem gL_law_L_low : GoodIn wsL_law (va_wsS RL 35 yL_low wsL_low) := goodIn_app (goodIn_of _ (by decide +kernel)) ggL_law_L_low
theorem gcL_whole_0 : GoodIn wsL_law [.code yL_whole cL_whole 5 (some .long)] := fun w h => by
  rw [List.mem_singleton] at h
  subst h
  have hm : _ ∈ wsL_law := List.mem_append_left _ (List.mem_append_left _ (List.mem_append_left _ (List.mem_append_left _ (List.mem_append_left _ (List.mem_append_left _ (List.mem_append_left _ (List.mem_append_left _ (List.mem_append_left _ (List.mem_append_right _ (List.mem_append_right _ (List.mem_append_right _ (List.mem_append_right _ (List.mem_append_right _ (List.mem_append_right _ (List.mem_append_right _ (List.mem_append_right _ (List.mem_append_right _ (List.mem_append_left _ (List.mem_of_getElem? (l := wsL_law_r10) (i := 22) rfl)))))))))))))))))))
  exact ⟨hm, okLaw _ hm⟩
set_option maxRecDepth 20000 in
theorem gcL_whole_1 : GoodIn wsL_law wsL_whole_r1 := goodIn_m okLaw _ [239, 240, 94, 95, 96, 2, 97, 20, 98, 30, 99, 34, 100, 38, 101, 102, 12, 103, 26, 104, 105, 39, 106, 107] (by decide +kernel)
set_option maxRecDepth 20000 in
theorem gcL_whole_2 : GoodIn wsL_law wsL_whole_r2 := goodIn_m okLaw _ [108, 19, 109, 110, 111, 112, 113, 114, 115, 116, 117, 118, 54, 119, 120, 121, 122, 123, 124, 125, 126, 127, 128, 129] (by decide +kernel)
set_option maxRecDepth 20000 in
theorem gcL_whole_3 : GoodIn wsL_law wsL_whole_r3 := goodIn_m okLaw _ [130, 131, 132, 133, 134, 135, 136, 137, 138, 139, 140, 141, 142, 143, 144, 145, 146, 147, 148, 149, 29, 150, 151, 152] (by decide +kernel)
set_option maxRecDepth 20000 in
theorem gcL_whole_4 : GoodIn wsL_law wsL_whole_r4 := goodIn_m okLaw _ [67, 68, 153, 154, 155, 156, 157, 158, 159, 63, 160, 161, 162, 163, 164, 165, 166, 167, 168, 169, 170, 171, 172, 173] (by decide +kernel)
set_option maxRecDepth 20000 in
theorem gcL_whole_5 : GoodIn wsL_law wsL_whole_r5 := goodIn_m okLaw _ [174, 175, 176, 177, 178, 179, 180, 181, 182, 183, 184, 185, 69, 64, 65, 66, 186, 187, 188, 189, 190, 191, 192, 33] (by decide +kernel)
set_option maxRecDepth 20000 in
theorem gcL_whole_6 : GoodIn wsL_law wsL_whole_r6 := goodIn_m okLaw _ [193, 194, 195, 73, 196, 81, 82, 83, 79, 76, 77, 78, 80, 75, 197, 198, 199, 200, 201, 74, 202, 203, 204, 205] (by decide +kernel)
set_option maxRecDepth 20000 in
theorem gcL_whole_7 : GoodIn wsL_law wsL_whole_r7 := goodIn_m okLaw _ [206, 207, 208, 209, 210, 211, 212, 213, 214, 215, 216, 37, 217, 218, 219, 88, 220, 221, 222, 223, 224, 225, 226, 227] (by decide +kernel)
set_option maxRecDepth 20000 in
theorem gcL_whole_8 : GoodIn wsL_law wsL_whole_r8 := goodIn_m okLaw _ [228, 229, 230, 87, 231, 241, 242, 243, 244, 245, 246, 247, 248, 249, 250, 251, 252, 253, 254, 255, 256, 257, 258, 259] (by decide +kernel)
set_option maxRecDepth 20000 in
theorem gcL_whole_9 : GoodIn wsL_law wsL_whole_r9 := goodIn_m okLaw _ [260, 261, 262, 263, 264, 265, 266, 267] (by decide +kernel)
theorem ggL_law_L_whole : GoodIn wsL_law wsL_whole := goodIn_app gcL_whole_0 (goodIn_app (goodIn_app (goodIn_app (goodIn_app (goodIn_app (goodIn_app (goodIn_app (goodIn_app gcL_whole_1 (goodIn_app gcL_whole_2 (goodIn_app gcL_whole_3 (goodIn_app gcL_whole_4 (goodIn_app gcL_whole_5 (goodIn_app gcL_whole_6 (goodIn_app gcL_whole_7 (goodIn_app gcL_whole_8 gcL_whole_9)))))))) gdX7) gdX2) gdX1) gdX6) gdX3) gdX5) gdX0)
set_option maxRecDepth 20000 in
theorem gL_law_L_whole : GoodIn wsL_law (va_wsS RL 59 yL_whole wsL_whole) := goodIn_app (goodIn_of _ (by decide +kernel)) ggL_law_L_whole
set_option maxRecDepth 20000 in
theorem ggL_law_X7_put : GoodIn wsL_law wsX7_put := goodIn_m okLaw _ [271, 12, 103, 272, 273, 2, 274, 263, 264, 265, 275, 276, 277, 11, 278, 279, 44, 45, 280, 281, 282, 283, 540, 541, 542, 543, 544, 545, 546, 547, 548, 549, 550, 551, 552] (by decide +kernel)
set_option maxRecDepth 20000 in
theorem gL_law_X7_put : GoodIn wsL_law (wsV RL 95 RX7 yX7_put wsX7_put) := goodIn_app (goodIn_of _ (by decide +kernel)) ggL_law_X7_put
set_option maxRecDepth 20000 in
theorem ggL_law_X7_draw : GoodIn wsL_law wsX7_draw := goodIn_m okLaw _ [287, 12, 103, 20, 26, 98, 288, 289, 2, 290, 263, 264, 265, 291, 292, 293, 19, 294, 110, 295, 296, 297, 298, 54, 299, 300, 301, 302, 303, 304, 305, 306, 307, 308, 11, 309, 279, 310, 311, 312, 25, 313, 314, 315, 316, 154, 155, 156, 317, 58, 318, 319, 59, 320, 540, 541, 542, 543, 544, 545, 546, 547, 548, 549, 550, 551, 552, 555, 556, 557, 558, 559, 560, 561] (by decide +kernel)
set_option maxRecDepth 20000 in
theorem gL_law_X7_draw : GoodIn wsL_law (wsV RL 98 RX7 yX7_draw wsX7_draw) := goodIn_app (goodIn_of _ (by decide +kernel)) ggL_law_X7_draw
set_option maxRecDepth 20000 in
theorem ggL_law_X7_stroke : GoodIn wsL_law wsX7_stroke := goodIn_m okLaw _ [244, 20, 30, 245, 34, 246, 247, 248, 249, 250, 19, 251, 110, 252, 116, 117, 118, 54, 253, 120, 121, 122, 254, 203, 204, 205, 119, 164, 165, 166, 167, 168, 154, 155, 156, 255, 211, 212, 213, 173, 174, 175, 176, 177, 158, 159, 256, 161, 162, 163, 257, 170, 171, 172, 258, 128, 129, 130, 131, 132, 133, 134, 135, 136, 137, 138, 139, 2, 140, 141, 142, 143, 144, 145, 146, 39, 147, 148, 149, 29, 150, 151, 152, 67, 68, 153, 157, 63, 160, 169, 178, 179, 180, 181, 182, 183, 184, 185, 69, 64, 65, 66, 186, 187, 188, 189, 190, 191, 192, 33, 193, 194, 195, 73, 196, 81, 82, 83, 79, 76, 77, 78, 80, 75, 197, 198, 199, 200, 201, 74, 202, 206, 207, 208, 209, 210, 540, 541, 542, 543, 544, 545, 546, 547, 548, 549, 562, 563, 564, 565, 566, 567, 568, 569, 570, 571, 572, 573, 574, 575, 576, 577, 578, 579, 580, 581, 555, 556] (by decide +kernel)
set_option maxRecDepth 20000 in
theorem gL_law_X7_stroke : GoodIn wsL_law (wsV RL 17 RX7 yX7_stroke wsX7_stroke) := goodIn_app (goodIn_of _ (by decide +kernel)) ggL_law_X7_stroke
set_option maxRecDepth 20000 in
theorem ggL_law_X7_clearPoints : GoodIn wsL_law wsX7_clearPoints := goodIn_m okLaw _ [324, 12, 103, 306, 307, 308, 11, 309, 279, 540, 541, 542, 543, 544, 545, 546, 547, 548, 549, 550, 551, 552] (by decide +kernel)
set_option maxRecDepth 20000 in
theorem gL_law_X7_clearPoints : GoodIn wsL_law (wsV RL 92 RX7 yX7_clearPoints wsX7_clearPoints) := goodIn_app (goodIn_of _ (by decide +kernel)) ggL_law_X7_clearPoints
set_option maxRecDepth 20000 in
theorem ggL_law_X7_point : GoodIn wsL_law wsX7_point := goodIn_m okLaw _ [262, 20, 248, 249, 250, 19, 251, 110, 253, 120, 121, 122, 54, 263, 264, 2, 265, 266, 132, 133, 134, 267, 136, 137, 138, 540, 541, 542, 543, 544, 545, 546, 547, 548, 549, 555, 556] (by decide +kernel)
set_option maxRecDepth 20000 in
theorem gL_law_X7_point : GoodIn wsL_law (wsV RL 23 RX7 yX7_point wsX7_point) := goodIn_app (goodIn_of _ (by decide +kernel)) ggL_law_X7_point
theorem gcL_rubs_0 : GoodIn wsL_law [.code yL_rubs cL_rubs 15 (some .boolean)] := fun w h => by
  rw [List.mem_singleton] at h
  subst h
  have hm : _ ∈ wsL_law := List.mem_append_left _ (List.mem_append_left _ (List.mem_append_left _ (List.mem_append_left _ (List.mem_append_left _ (List.mem_append_left _ (List.mem_append_left _ (List.mem_append_left _ (List.mem_append_left _ (List.mem_append_right _ (List.mem_append_right _ (List.mem_append_right _ (List.mem_append_right _ (List.mem_append_right _ (List.mem_append_right _ (List.mem_append_right _ (List.mem_append_right _ (List.mem_append_right _ (List.mem_append_right _ (List.mem_append_right _ (List.mem_append_right _ (List.mem_append_right _ (List.mem_append_left _ (List.mem_of_getElem? (l := wsL_law_r14) (i := 15) rfl)))))))))))))))))))))))
  exact ⟨hm, okLaw _ hm⟩
set_option maxRecDepth 20000 in
theorem gcL_rubs_1 : GoodIn wsL_law wsL_rubs_r1 := goodIn_m okLaw _ [328, 240, 94, 95, 96, 2, 97, 20, 98, 30, 99, 34, 100, 38, 101, 102, 12, 103, 26, 104, 105, 39, 106, 107] (by decide +kernel)
set_option maxRecDepth 20000 in
theorem gcL_rubs_2 : GoodIn wsL_law wsL_rubs_r2 := goodIn_m okLaw _ [108, 19, 109, 110, 111, 112, 113, 114, 115, 116, 117, 118, 54, 119, 120, 121, 122, 123, 124, 125, 126, 127, 128, 129] (by decide +kernel)
set_option maxRecDepth 20000 in
theorem gcL_rubs_3 : GoodIn wsL_law wsL_rubs_r3 := goodIn_m okLaw _ [130, 131, 132, 133, 134, 135, 136, 137, 138, 139, 140, 141, 142, 143, 144, 145, 146, 147, 148, 149, 29, 150, 151, 152] (by decide +kernel)
set_option maxRecDepth 20000 in
theorem gcL_rubs_4 : GoodIn wsL_law wsL_rubs_r4 := goodIn_m okLaw _ [67, 68, 153, 154, 155, 156, 157, 158, 159, 63, 160, 161, 162, 163, 164, 165, 166, 167, 168, 169, 170, 171, 172, 173] (by decide +kernel)
set_option maxRecDepth 20000 in
theorem gcL_rubs_5 : GoodIn wsL_law wsL_rubs_r5 := goodIn_m okLaw _ [174, 175, 176, 177, 178, 179, 180, 181, 182, 183, 184, 185, 69, 64, 65, 66, 186, 187, 188, 189, 190, 191, 192, 33] (by decide +kernel)
set_option maxRecDepth 20000 in
theorem gcL_rubs_6 : GoodIn wsL_law wsL_rubs_r6 := goodIn_m okLaw _ [193, 194, 195, 73, 196, 81, 82, 83, 79, 76, 77, 78, 80, 75, 197, 198, 199, 200, 201, 74, 202, 203, 204, 205] (by decide +kernel)
set_option maxRecDepth 20000 in
theorem gcL_rubs_7 : GoodIn wsL_law wsL_rubs_r7 := goodIn_m okLaw _ [206, 207, 208, 209, 210, 211, 212, 213, 214, 215, 216, 37, 217, 218, 219, 88, 220, 221, 222, 223, 224, 225, 226, 227] (by decide +kernel)
set_option maxRecDepth 20000 in
theorem gcL_rubs_8 : GoodIn wsL_law wsL_rubs_r8 := goodIn_m okLaw _ [228, 229, 230, 87, 231, 241, 242, 243, 244, 245, 246, 247, 248, 249, 250, 251, 252, 253, 254, 255, 256, 257, 258, 259] (by decide +kernel)
set_option maxRecDepth 20000 in
theorem gcL_rubs_9 : GoodIn wsL_law wsL_rubs_r9 := goodIn_m okLaw _ [260, 261, 262, 263, 264, 265, 266, 267, 329, 330, 91, 331, 236, 237, 238, 239, 332, 333, 334, 335, 21, 22, 272, 273] (by decide +kernel)
set_option maxRecDepth 20000 in
theorem gcL_rubs_10 : GoodIn wsL_law wsL_rubs_r10 := goodIn_m okLaw _ [274, 336, 337, 338, 339, 306, 307, 308, 11, 309, 279, 340, 341, 342, 343, 344, 291, 292, 293, 294, 295, 296, 297, 298] (by decide +kernel)
set_option maxRecDepth 20000 in
theorem gcL_rubs_11 : GoodIn wsL_law wsL_rubs_r11 := goodIn_m okLaw _ [299, 300, 301, 302, 303, 304, 305, 275, 276, 277, 278, 44, 45, 280, 281, 282, 283, 345, 346, 347, 348, 310, 311, 312] (by decide +kernel)
set_option maxRecDepth 20000 in
theorem gcL_rubs_12 : GoodIn wsL_law wsL_rubs_r12 := goodIn_m okLaw _ [25, 313, 314, 315, 316, 317, 58, 318, 319, 59, 320] (by decide +kernel)
theorem ggL_law_L_rubs : GoodIn wsL_law wsL_rubs := goodIn_app gcL_rubs_0 (goodIn_app (goodIn_app (goodIn_app (goodIn_app (goodIn_app (goodIn_app (goodIn_app (goodIn_app gcL_rubs_1 (goodIn_app gcL_rubs_2 (goodIn_app gcL_rubs_3 (goodIn_app gcL_rubs_4 (goodIn_app gcL_rubs_5 (goodIn_app gcL_rubs_6 (goodIn_app gcL_rubs_7 (goodIn_app gcL_rubs_8 (goodIn_app gcL_rubs_9 (goodIn_app gcL_rubs_10 (goodIn_app gcL_rubs_11 gcL_rubs_12))))))))))) gdX7) gdX2) gdX1) gdX6) gdX3) gdX5) gdX0)
set_option maxRecDepth 20000 in
theorem gL_law_L_rubs : GoodIn wsL_law (va_wsS RL 117 yL_rubs wsL_rubs) := goodIn_app (goodIn_of _ (by decide +kernel)) ggL_law_L_rubs
theorem gcL_shapes_0 : GoodIn wsL_law [.code yL_shapes cL_shapes 19 (some .boolean)] := fun w h => by
  rw [List.mem_singleton] at h
  subst h
  have hm : _ ∈ wsL_law := List.mem_append_left _ (List.mem_append_left _ (List.mem_append_left _ (List.mem_append_left _ (List.mem_append_left _ (List.mem_append_left _ (List.mem_append_left _ (List.mem_append_left _ (List.mem_append_left _ (List.mem_append_right _ (List.mem_append_right _ (List.mem_append_right _ (List.mem_append_right _ (List.mem_append_right _ (List.mem_append_right _ (List.mem_append_right _ (List.mem_append_right _ (List.mem_append_right _ (List.mem_append_right _ (List.mem_append_right _ (List.mem_append_right _ (List.mem_append_right _ (List.mem_append_right _ (List.mem_append_left _ (List.mem_of_getElem? (l := wsL_law_r15) (i := 15) rfl))))))))))))))))))))))))
  exact ⟨hm, okLaw _ hm⟩
set_option maxRecDepth 20000 in
theorem gcL_shapes_1 : GoodIn wsL_law wsL_shapes_r1 := goodIn_m okLaw _ [241, 242, 243, 2, 244, 20, 30, 245, 34, 246, 247, 248, 249, 250, 19, 251, 110, 252, 116, 117, 118, 54, 253, 120] (by decide +kernel)
set_option maxRecDepth 20000 in
theorem gcL_shapes_2 : GoodIn wsL_law wsL_shapes_r2 := goodIn_m okLaw _ [121, 122, 254, 203, 204, 205, 119, 164, 165, 166, 167, 168, 154, 155, 156, 255, 211, 212, 213, 173, 174, 175, 176, 177] (by decide +kernel)
set_option maxRecDepth 20000 in
theorem gcL_shapes_3 : GoodIn wsL_law wsL_shapes_r3 := goodIn_m okLaw _ [158, 159, 256, 161, 162, 163, 257, 170, 171, 172, 258, 128, 129, 130, 131, 132, 133, 134, 135, 136, 137, 138, 139, 140] (by decide +kernel)
set_option maxRecDepth 20000 in
theorem gcL_shapes_4 : GoodIn wsL_law wsL_shapes_r4 := goodIn_m okLaw _ [141, 142, 143, 144, 145, 146, 39, 147, 148, 149, 29, 150, 151, 152, 67, 68, 153, 157, 63, 160, 169, 178, 179, 180] (by decide +kernel)
set_option maxRecDepth 20000 in
theorem gcL_shapes_5 : GoodIn wsL_law wsL_shapes_r5 := goodIn_m okLaw _ [181, 182, 183, 184, 185, 69, 64, 65, 66, 186, 187, 188, 189, 190, 191, 192, 33, 193, 194, 195, 73, 196, 81, 82] (by decide +kernel)
set_option maxRecDepth 20000 in
theorem gcL_shapes_6 : GoodIn wsL_law wsL_shapes_r6 := goodIn_m okLaw _ [83, 79, 76, 77, 78, 80, 75, 197, 198, 199, 200, 201, 74, 202, 206, 207, 208, 209, 210, 259, 260, 261, 262, 263] (by decide +kernel)
set_option maxRecDepth 20000 in
theorem gcL_shapes_7 : GoodIn wsL_law wsL_shapes_r7 := goodIn_m okLaw _ [264, 265, 266, 267, 94, 95, 96, 97, 98, 99, 100, 38, 101, 102, 12, 103, 26, 104, 105, 106, 107, 108, 109, 111] (by decide +kernel)
set_option maxRecDepth 20000 in
theorem gcL_shapes_8 : GoodIn wsL_law wsL_shapes_r8 := goodIn_m okLaw _ [112, 113, 114, 115, 123, 124, 125, 126, 127, 214, 215, 216, 37, 217, 218, 219, 88, 220, 221, 222, 223, 224, 225, 226] (by decide +kernel)
set_option maxRecDepth 20000 in
theorem gcL_shapes_9 : GoodIn wsL_law wsL_shapes_r9 := goodIn_m okLaw _ [227, 228, 229, 230, 87, 231, 236, 237, 91, 238, 239, 240, 232, 233, 234, 235, 352, 353, 354, 355, 22, 356, 357, 358] (by decide +kernel)
set_option maxRecDepth 20000 in
theorem gcL_shapes_10 : GoodIn wsL_law wsL_shapes_r10 := goodIn_m okLaw _ [11, 359, 279, 360, 361, 362, 363, 276, 277, 278, 44, 45, 280, 281, 282, 283, 364, 365, 366, 367, 368, 369, 370, 371] (by decide +kernel)
set_option maxRecDepth 20000 in
theorem gcL_shapes_11 : GoodIn wsL_law wsL_shapes_r11 := goodIn_m okLaw _ [372, 373, 374, 375, 376, 377, 378, 379, 299, 300, 305, 380, 296, 297, 298, 301, 302, 303, 304, 310, 311, 312, 25, 313] (by decide +kernel)
set_option maxRecDepth 20000 in
theorem gcL_shapes_12 : GoodIn wsL_law wsL_shapes_r12 := goodIn_m okLaw _ [314, 315, 316, 317, 58, 318, 319, 59, 320, 381, 382, 383, 384, 385, 386, 387, 388, 329, 330, 331] (by decide +kernel)
theorem ggL_law_L_shapes : GoodIn wsL_law wsL_shapes := goodIn_app gcL_shapes_0 (goodIn_app (goodIn_app (goodIn_app (goodIn_app (goodIn_app (goodIn_app (goodIn_app (goodIn_app gcL_shapes_1 (goodIn_app gcL_shapes_2 (goodIn_app gcL_shapes_3 (goodIn_app gcL_shapes_4 (goodIn_app gcL_shapes_5 (goodIn_app gcL_shapes_6 (goodIn_app gcL_shapes_7 (goodIn_app gcL_shapes_8 (goodIn_app gcL_shapes_9 (goodIn_app gcL_shapes_10 (goodIn_app gcL_shapes_11 gcL_shapes_12))))))))))) gdX7) gdX1) gdX6) gdX2) gdX3) gdX5) gdX0)
set_option maxRecDepth 20000 in
theorem gL_law_L_shapes : GoodIn wsL_law (va_wsS RL 121 yL_shapes wsL_shapes) := goodIn_app (goodIn_of _ (by decide +kernel)) ggL_law_L_shapes
theorem gcL_joins_0 : GoodIn wsL_law [.code yL_joins cL_joins 11 (some .boolean)] := fun w h => by
  rw [List.mem_singleton] at h
  subst h
  have hm : _ ∈ wsL_law := List.mem_append_left _ (List.mem_append_left _ (List.mem_append_left _ (List.mem_append_left _ (List.mem_append_left _ (List.mem_append_left _ (List.mem_append_left _ (List.mem_append_left _ (List.mem_append_left _ (List.mem_append_right _ (List.mem_append_right _ (List.mem_append_right _ (List.mem_append_right _ (List.mem_append_right _ (List.mem_append_right _ (List.mem_append_right _ (List.mem_append_right _ (List.mem_append_right _ (List.mem_append_right _ (List.mem_append_right _ (List.mem_append_right _ (List.mem_append_right _ (List.mem_append_right _ (List.mem_append_right _ (List.mem_append_right _ (List.mem_append_left _ (List.mem_of_getElem? (l := wsL_law_r17) (i := 7) rfl))))))))))))))))))))))))))
  exact ⟨hm, okLaw _ hm⟩
set_option maxRecDepth 20000 in
theorem gcL_joins_1 : GoodIn wsL_law wsL_joins_r1 := goodIn_m okLaw _ [392, 393, 394, 2, 395, 20, 22, 103, 26, 248, 249, 250, 19, 251, 110, 356, 357, 358, 11, 359, 279, 360, 120, 121] (by decide +kernel)
set_option maxRecDepth 20000 in
theorem gcL_joins_2 : GoodIn wsL_law wsL_joins_r2 := goodIn_m okLaw _ [122, 54, 361, 132, 133, 134, 362, 136, 137, 138, 363, 276, 277, 278, 44, 45, 280, 281, 282, 283, 266, 267, 396, 253] (by decide +kernel)
set_option maxRecDepth 20000 in
theorem gcL_joins_3 : GoodIn wsL_law wsL_joins_r3 := goodIn_m okLaw _ [275, 252, 116, 117, 118, 380, 296, 297, 298, 299, 300, 301, 302, 303, 304, 305, 397, 398, 399, 400, 401, 310, 311, 312] (by decide +kernel)
set_option maxRecDepth 20000 in
theorem gcL_joins_4 : GoodIn wsL_law wsL_joins_r4 := goodIn_m okLaw _ [25, 313, 314, 315, 316, 154, 155, 156, 317, 58, 318, 319, 59, 320, 241, 242, 243, 244, 30, 245, 34, 246, 247, 254] (by decide +kernel)
set_option maxRecDepth 20000 in
theorem gcL_joins_5 : GoodIn wsL_law wsL_joins_r5 := goodIn_m okLaw _ [203, 204, 205, 119, 164, 165, 166, 167, 168, 255, 211, 212, 213, 173, 174, 175, 176, 177, 158, 159, 256, 161, 162, 163] (by decide +kernel)
set_option maxRecDepth 20000 in
theorem gcL_joins_6 : GoodIn wsL_law wsL_joins_r6 := goodIn_m okLaw _ [257, 170, 171, 172, 258, 128, 129, 130, 131, 135, 139, 140, 141, 142, 143, 144, 145, 146, 39, 147, 148, 149, 29, 150] (by decide +kernel)
set_option maxRecDepth 20000 in
theorem gcL_joins_7 : GoodIn wsL_law wsL_joins_r7 := goodIn_m okLaw _ [151, 152, 67, 68, 153, 157, 63, 160, 169, 178, 179, 180, 181, 182, 183, 184, 185, 69, 64, 65, 66, 186, 187, 188] (by decide +kernel)
set_option maxRecDepth 20000 in
theorem gcL_joins_8 : GoodIn wsL_law wsL_joins_r8 := goodIn_m okLaw _ [189, 190, 191, 192, 33, 193, 194, 195, 73, 196, 81, 82, 83, 79, 76, 77, 78, 80, 75, 197, 198, 199, 200, 201] (by decide +kernel)
set_option maxRecDepth 20000 in
theorem gcL_joins_9 : GoodIn wsL_law wsL_joins_r9 := goodIn_m okLaw _ [74, 202, 206, 207, 208, 209, 210, 259, 260, 261, 262, 263, 264, 265, 94, 95, 96, 97, 98, 99, 100, 38, 101, 102] (by decide +kernel)
set_option maxRecDepth 20000 in
theorem gcL_joins_10 : GoodIn wsL_law wsL_joins_r10 := goodIn_m okLaw _ [12, 104, 105, 106, 107, 108, 109, 111, 112, 113, 114, 115, 123, 124, 125, 126, 127, 214, 215, 216, 37, 217, 218, 219] (by decide +kernel)
set_option maxRecDepth 20000 in
theorem gcL_joins_11 : GoodIn wsL_law wsL_joins_r11 := goodIn_m okLaw _ [88, 220, 221, 222, 223, 224, 225, 226, 227, 228, 229, 230, 87, 231] (by decide +kernel)
theorem ggL_law_L_joins : GoodIn wsL_law wsL_joins := goodIn_app gcL_joins_0 (goodIn_app (goodIn_app (goodIn_app (goodIn_app (goodIn_app (goodIn_app (goodIn_app (goodIn_app gcL_joins_1 (goodIn_app gcL_joins_2 (goodIn_app gcL_joins_3 (goodIn_app gcL_joins_4 (goodIn_app gcL_joins_5 (goodIn_app gcL_joins_6 (goodIn_app gcL_joins_7 (goodIn_app gcL_joins_8 (goodIn_app gcL_joins_9 (goodIn_app gcL_joins_10 gcL_joins_11)))))))))) gdX7) gdX5) gdX2) gdX0) gdX1) gdX6) gdX3)
set_option maxRecDepth 20000 in
theorem gL_law_L_joins : GoodIn wsL_law (va_wsS RL 124 yL_joins wsL_joins) := goodIn_app (goodIn_of _ (by decide +kernel)) ggL_law_L_joins
set_option maxRecDepth 20000 in
theorem ggL_law_X7_paint : GoodIn wsL_law wsX7_paint := goodIn_m okLaw _ [405, 20, 26, 248, 249, 250, 19, 251, 110, 288, 289, 2, 290, 263, 264, 265, 252, 116, 117, 118, 54, 406, 407, 408, 409, 310, 311, 312, 25, 313, 314, 315, 316, 154, 155, 156, 317, 58, 318, 319, 59, 320, 302, 303, 304, 540, 541, 542, 543, 544, 545, 546, 547, 548, 549, 555, 556, 557, 558, 559, 560, 561] (by decide +kernel)
set_option maxRecDepth 20000 in
theorem gL_law_X7_paint : GoodIn wsL_law (wsV RL 104 RX7 yX7_paint wsX7_paint) := goodIn_app (goodIn_of _ (by decide +kernel)) ggL_law_X7_paint
set_option maxRecDepth 20000 in
theorem ggL_law_X7_shift : GoodIn wsL_law wsX7_shift := goodIn_m okLaw _ [413, 20, 22, 248, 249, 250, 19, 251, 110, 263, 264, 2, 265, 254, 203, 204, 205, 119, 120, 121, 122, 54, 164, 165, 166, 167, 168, 154, 155, 156, 272, 273, 274, 255, 211, 212, 213, 173, 174, 175, 176, 177, 158, 159, 256, 161, 162, 163, 257, 170, 171, 172, 306, 307, 308, 11, 309, 279, 253, 266, 132, 133, 134, 267, 136, 137, 138, 275, 276, 277, 278, 44, 45, 280, 281, 282, 283, 372, 373, 374, 375, 26, 103, 376, 377, 378, 379, 299, 300, 305, 131, 135, 252, 116, 117, 118, 380, 296, 297, 298, 301, 302, 303, 304, 310, 311, 312, 25, 313, 314, 315, 316, 317, 58, 318, 319, 59, 320, 540, 541, 542, 543, 544, 545, 546, 547, 548, 549, 555, 556, 550, 551, 552, 557, 558, 559, 560, 561] (by decide +kernel)
set_option maxRecDepth 20000 in
theorem gL_law_X7_shift : GoodIn wsL_law (wsV RL 101 RX7 yX7_shift wsX7_shift) := goodIn_app (goodIn_of _ (by decide +kernel)) ggL_law_X7_shift
set_option maxRecDepth 20000 in
theorem ggL_law_X7_remove : GoodIn wsL_law wsX7_remove := goodIn_m okLaw _ [417, 20, 26, 98, 248, 249, 250, 19, 251, 110, 397, 398, 399, 400, 54, 301, 302, 303, 304, 401, 310, 311, 312, 25, 313, 314, 315, 316, 154, 155, 156, 317, 58, 318, 319, 59, 320, 540, 541, 542, 543, 544, 545, 546, 547, 548, 549, 555, 556, 557, 558, 559, 560, 561] (by decide +kernel)
set_option maxRecDepth 20000 in
theorem gL_law_X7_remove : GoodIn wsL_law (wsV RL 107 RX7 yX7_remove wsX7_remove) := goodIn_app (goodIn_of _ (by decide +kernel)) ggL_law_X7_remove
set_option maxRecDepth 20000 in
theorem ggL_law_X7_setGap : GoodIn wsL_law wsX7_setGap := goodIn_m okLaw _ [421, 39, 263, 264, 2, 265, 540, 541, 542, 543, 544, 545, 546, 547, 548, 549] (by decide +kernel)
set_option maxRecDepth 20000 in
theorem gL_law_X7_setGap : GoodIn wsL_law (wsV RL 110 RX7 yX7_setGap wsX7_setGap) := goodIn_app (goodIn_of _ (by decide +kernel)) ggL_law_X7_setGap
theorem gcL_texts_0 : GoodIn wsL_law [.code yL_texts cL_texts 6 (some .boolean)] := fun w h => by
  rw [List.mem_singleton] at h
  subst h
  have hm : _ ∈ wsL_law := List.mem_append_left _ (List.mem_append_left _ (List.mem_append_left _ (List.mem_append_left _ (List.mem_append_left _ (List.mem_append_left _ (List.mem_append_left _ (List.mem_append_left _ (List.mem_append_left _ (List.mem_append_right _ (List.mem_append_right _ (List.mem_append_right _ (List.mem_append_right _ (List.mem_append_right _ (List.mem_append_right _ (List.mem_append_right _ (List.mem_append_right _ (List.mem_append_right _ (List.mem_append_right _ (List.mem_append_right _ (List.mem_append_right _ (List.mem_append_right _ (List.mem_append_right _ (List.mem_append_right _ (List.mem_append_right _ (List.mem_append_right _ (List.mem_append_left _ (List.mem_of_getElem? (l := wsL_law_r18) (i := 16) rfl)))))))))))))))))))))))))))
  exact ⟨hm, okLaw _ hm⟩
set_option maxRecDepth 20000 in
theorem gcL_texts_1 : GoodIn wsL_law wsL_texts_r1 := goodIn_m okLaw _ [425, 426, 427, 2, 428, 16, 429, 430, 431, 432, 15, 433, 434, 232, 233, 91, 234, 235, 435, 436, 437, 438, 439, 440] (by decide +kernel)
set_option maxRecDepth 20000 in
theorem gcL_texts_2 : GoodIn wsL_law wsL_texts_r2 := goodIn_m okLaw _ [441, 442, 50, 443, 444, 445, 446, 22, 12, 103, 447, 448, 449, 450, 451, 307, 308, 11, 309, 279, 452, 453, 454, 455] (by decide +kernel)
set_option maxRecDepth 20000 in
theorem gcL_texts_3 : GoodIn wsL_law wsL_texts_r3 := goodIn_m okLaw _ [276, 277, 278, 44, 45, 280, 281, 282, 283, 456, 457, 458, 459, 460, 302, 303, 304, 94, 95, 96, 97, 20, 98, 30] (by decide +kernel)
set_option maxRecDepth 20000 in
theorem gcL_texts_4 : GoodIn wsL_law wsL_texts_r4 := goodIn_m okLaw _ [99, 34, 100, 38, 101, 102, 26, 104, 105, 39, 106, 107, 108, 19, 109, 110, 111, 112, 113, 114, 115, 116, 117, 118] (by decide +kernel)
set_option maxRecDepth 20000 in
theorem gcL_texts_5 : GoodIn wsL_law wsL_texts_r5 := goodIn_m okLaw _ [54, 119, 120, 121, 122, 123, 124, 125, 126, 127, 128, 129, 130, 131, 132, 133, 134, 135, 136, 137, 138, 139, 140, 141] (by decide +kernel)
set_option maxRecDepth 20000 in
theorem gcL_texts_6 : GoodIn wsL_law wsL_texts_r6 := goodIn_m okLaw _ [142, 143, 144, 145, 146, 147, 148, 149, 29, 150, 151, 152, 67, 68, 153, 154, 155, 156, 157, 158, 159, 63, 160, 161] (by decide +kernel)
set_option maxRecDepth 20000 in
theorem gcL_texts_7 : GoodIn wsL_law wsL_texts_r7 := goodIn_m okLaw _ [162, 163, 164, 165, 166, 167, 168, 169, 170, 171, 172, 173, 174, 175, 176, 177, 178, 179, 180, 181, 182, 183, 184, 185] (by decide +kernel)
set_option maxRecDepth 20000 in
theorem gcL_texts_8 : GoodIn wsL_law wsL_texts_r8 := goodIn_m okLaw _ [69, 64, 65, 66, 186, 187, 188, 189, 190, 191, 192, 33, 193, 194, 195, 73, 196, 81, 82, 83, 79, 76, 77, 78] (by decide +kernel)
set_option maxRecDepth 20000 in
theorem gcL_texts_9 : GoodIn wsL_law wsL_texts_r9 := goodIn_m okLaw _ [80, 75, 197, 198, 199, 200, 201, 74, 202, 203, 204, 205, 206, 207, 208, 209, 210, 211, 212, 213, 214, 215, 216, 37] (by decide +kernel)
set_option maxRecDepth 20000 in
theorem gcL_texts_10 : GoodIn wsL_law wsL_texts_r10 := goodIn_m okLaw _ [217, 218, 219, 88, 220, 221, 222, 223, 224, 225, 226, 227, 228, 229, 230, 87, 231, 321, 322, 323, 324, 306] (by decide +kernel)
theorem ggL_law_L_texts : GoodIn wsL_law wsL_texts := goodIn_app gcL_texts_0 (goodIn_app (goodIn_app (goodIn_app (goodIn_app (goodIn_app (goodIn_app (goodIn_app (goodIn_app (goodIn_app gcL_texts_1 (goodIn_app gcL_texts_2 (goodIn_app gcL_texts_3 (goodIn_app gcL_texts_4 (goodIn_app gcL_texts_5 (goodIn_app gcL_texts_6 (goodIn_app gcL_texts_7 (goodIn_app gcL_texts_8 (goodIn_app gcL_texts_9 gcL_texts_10))))))))) gdX7) gdX4) gdX5) gdX2) gdX1) gdX6) gdX3) gdX0)
set_option maxRecDepth 20000 in
theorem gL_law_L_texts : GoodIn wsL_law (va_wsS RL 127 yL_texts wsL_texts) := goodIn_app (goodIn_of _ (by decide +kernel)) ggL_law_L_texts
theorem gcL_history_0 : GoodIn wsL_law [.code yL_history cL_history 6 (some .boolean)] := fun w h => by
  rw [List.mem_singleton] at h
  subst h
  have hm : _ ∈ wsL_law := List.mem_append_left _ (List.mem_append_left _ (List.mem_append_left _ (List.mem_append_left _ (List.mem_append_left _ (List.mem_append_left _ (List.mem_append_left _ (List.mem_append_left _ (List.mem_append_left _ (List.mem_append_right _ (List.mem_append_right _ (List.mem_append_right _ (List.mem_append_right _ (List.mem_append_right _ (List.mem_append_right _ (List.mem_append_right _ (List.mem_append_right _ (List.mem_append_right _ (List.mem_append_right _ (List.mem_append_right _ (List.mem_append_right _ (List.mem_append_right _ (List.mem_append_right _ (List.mem_append_right _ (List.mem_append_right _ (List.mem_append_right _ (List.mem_append_right _ (List.mem_append_right _ (List.mem_append_left _ (List.mem_of_getElem? (l := wsL_law_r20) (i := 7) rfl)))))))))))))))))))))))))))))
  exact ⟨hm, okLaw _ hm⟩
set_option maxRecDepth 20000 in
theorem gcL_history_1 : GoodIn wsL_law wsL_history_r1 := goodIn_m okLaw _ [236, 237, 91, 238, 239, 240, 94, 95, 96, 2, 97, 20, 98, 30, 99, 34, 100, 38, 101, 102, 12, 103, 26, 104] (by decide +kernel)
set_option maxRecDepth 20000 in
theorem gcL_history_2 : GoodIn wsL_law wsL_history_r2 := goodIn_m okLaw _ [105, 39, 106, 107, 108, 19, 109, 110, 111, 112, 113, 114, 115, 116, 117, 118, 54, 119, 120, 121, 122, 123, 124, 125] (by decide +kernel)
set_option maxRecDepth 20000 in
theorem gcL_history_3 : GoodIn wsL_law wsL_history_r3 := goodIn_m okLaw _ [126, 127, 128, 129, 130, 131, 132, 133, 134, 135, 136, 137, 138, 139, 140, 141, 142, 143, 144, 145, 146, 147, 148, 149] (by decide +kernel)
set_option maxRecDepth 20000 in
theorem gcL_history_4 : GoodIn wsL_law wsL_history_r4 := goodIn_m okLaw _ [29, 150, 151, 152, 67, 68, 153, 154, 155, 156, 157, 158, 159, 63, 160, 161, 162, 163, 164, 165, 166, 167, 168, 169] (by decide +kernel)
set_option maxRecDepth 20000 in
theorem gcL_history_5 : GoodIn wsL_law wsL_history_r5 := goodIn_m okLaw _ [170, 171, 172, 173, 174, 175, 176, 177, 178, 179, 180, 181, 182, 183, 184, 185, 69, 64, 65, 66, 186, 187, 188, 189] (by decide +kernel)
set_option maxRecDepth 20000 in
theorem gcL_history_6 : GoodIn wsL_law wsL_history_r6 := goodIn_m okLaw _ [190, 191, 192, 33, 193, 194, 195, 73, 196, 81, 82, 83, 79, 76, 77, 78, 80, 75, 197, 198, 199, 200, 201, 74] (by decide +kernel)
set_option maxRecDepth 20000 in
theorem gcL_history_7 : GoodIn wsL_law wsL_history_r7 := goodIn_m okLaw _ [202, 203, 204, 205, 206, 207, 208, 209, 210, 211, 212, 213, 214, 215, 216, 37, 217, 218, 219, 88, 220, 221, 222, 223] (by decide +kernel)
set_option maxRecDepth 20000 in
theorem gcL_history_8 : GoodIn wsL_law wsL_history_r8 := goodIn_m okLaw _ [224, 225, 226, 227, 228, 229, 230, 87, 231, 241, 242, 243, 244, 245, 246, 247, 248, 249, 250, 251, 252, 253, 254, 255] (by decide +kernel)
set_option maxRecDepth 20000 in
theorem gcL_history_9 : GoodIn wsL_law wsL_history_r9 := goodIn_m okLaw _ [256, 257, 258, 259, 260, 261, 262, 263, 264, 265, 266, 267, 464, 465, 466, 467, 468, 469, 470, 25, 471, 315, 314, 317] (by decide +kernel)
set_option maxRecDepth 20000 in
theorem gcL_history_10 : GoodIn wsL_law wsL_history_r10 := goodIn_m okLaw _ [472, 473, 474, 475, 58, 318, 59, 319, 320, 302, 303, 304, 476, 477, 478, 479, 480, 481, 482, 483] (by decide +kernel)
theorem ggL_law_L_history : GoodIn wsL_law wsL_history := goodIn_app gcL_history_0 (goodIn_app (goodIn_app (goodIn_app (goodIn_app (goodIn_app (goodIn_app (goodIn_app (goodIn_app gcL_history_1 (goodIn_app gcL_history_2 (goodIn_app gcL_history_3 (goodIn_app gcL_history_4 (goodIn_app gcL_history_5 (goodIn_app gcL_history_6 (goodIn_app gcL_history_7 (goodIn_app gcL_history_8 (goodIn_app gcL_history_9 gcL_history_10))))))))) gdX7) gdX2) gdX1) gdX6) gdX3) gdX5) gdX0)
set_option maxRecDepth 20000 in
theorem gL_law_L_history : GoodIn wsL_law (va_wsS RL 131 yL_history wsL_history) := goodIn_app (goodIn_of _ (by decide +kernel)) ggL_law_L_history
theorem gcL_strokes_0 : GoodIn wsL_law [.code yL_strokes cL_strokes 16 (some .boolean)] := fun w h => by
  rw [List.mem_singleton] at h
  subst h
  have hm : _ ∈ wsL_law := List.mem_append_left _ (List.mem_append_left _ (List.mem_append_left _ (List.mem_append_left _ (List.mem_append_left _ (List.mem_append_left _ (List.mem_append_left _ (List.mem_append_left _ (List.mem_append_left _ (List.mem_append_right _ (List.mem_append_right _ (List.mem_append_right _ (List.mem_append_right _ (List.mem_append_right _ (List.mem_append_right _ (List.mem_append_right _ (List.mem_append_right _ (List.mem_append_right _ (List.mem_append_right _ (List.mem_append_right _ (List.mem_append_right _ (List.mem_append_right _ (List.mem_append_right _ (List.mem_append_right _ (List.mem_append_right _ (List.mem_append_right _ (List.mem_append_right _ (List.mem_append_right _ (List.mem_append_right _ (List.mem_append_left _ (List.mem_of_getElem? (l := wsL_law_r21) (i := 6) rfl))))))))))))))))))))))))))))))
  exact ⟨hm, okLaw _ hm⟩
set_option maxRecDepth 20000 in
theorem gcL_strokes_1 : GoodIn wsL_law wsL_strokes_r1 := goodIn_m okLaw _ [94, 95, 96, 2, 97, 20, 98, 30, 99, 34, 100, 38, 101, 102, 12, 103, 26, 104, 105, 39, 106, 107, 108, 19] (by decide +kernel)
set_option maxRecDepth 20000 in
theorem gcL_strokes_2 : GoodIn wsL_law wsL_strokes_r2 := goodIn_m okLaw _ [109, 110, 111, 112, 113, 114, 115, 116, 117, 118, 54, 119, 120, 121, 122, 123, 124, 125, 126, 127, 128, 129, 130, 131] (by decide +kernel)
set_option maxRecDepth 20000 in
theorem gcL_strokes_3 : GoodIn wsL_law wsL_strokes_r3 := goodIn_m okLaw _ [132, 133, 134, 135, 136, 137, 138, 139, 140, 141, 142, 143, 144, 145, 146, 147, 148, 149, 29, 150, 151, 152, 67, 68] (by decide +kernel)
set_option maxRecDepth 20000 in
theorem gcL_strokes_4 : GoodIn wsL_law wsL_strokes_r4 := goodIn_m okLaw _ [153, 154, 155, 156, 157, 158, 159, 63, 160, 161, 162, 163, 164, 165, 166, 167, 168, 169, 170, 171, 172, 173, 174, 175] (by decide +kernel)
set_option maxRecDepth 20000 in
theorem gcL_strokes_5 : GoodIn wsL_law wsL_strokes_r5 := goodIn_m okLaw _ [176, 177, 178, 179, 180, 181, 182, 183, 184, 185, 69, 64, 65, 66, 186, 187, 188, 189, 190, 191, 192, 33, 193, 194] (by decide +kernel)
set_option maxRecDepth 20000 in
theorem gcL_strokes_6 : GoodIn wsL_law wsL_strokes_r6 := goodIn_m okLaw _ [195, 73, 196, 81, 82, 83, 79, 76, 77, 78, 80, 75, 197, 198, 199, 200, 201, 74, 202, 203, 204, 205, 206, 207] (by decide +kernel)
set_option maxRecDepth 20000 in
theorem gcL_strokes_7 : GoodIn wsL_law wsL_strokes_r7 := goodIn_m okLaw _ [208, 209, 210, 211, 212, 213, 214, 215, 216, 37, 217, 218, 219, 88, 220, 221, 222, 223, 224, 225, 226, 227, 228, 229] (by decide +kernel)
set_option maxRecDepth 20000 in
theorem gcL_strokes_8 : GoodIn wsL_law wsL_strokes_r8 := goodIn_m okLaw _ [230, 87, 231, 241, 242, 243, 244, 245, 246, 247, 248, 249, 250, 251, 252, 253, 254, 255, 256, 257, 258, 259, 260, 261] (by decide +kernel)
set_option maxRecDepth 20000 in
theorem gcL_strokes_9 : GoodIn wsL_law wsL_strokes_r9 := goodIn_m okLaw _ [262, 263, 264, 265, 266, 267, 329, 330, 91, 331] (by decide +kernel)
theorem ggL_law_L_strokes : GoodIn wsL_law wsL_strokes := goodIn_app gcL_strokes_0 (goodIn_app (goodIn_app (goodIn_app (goodIn_app (goodIn_app (goodIn_app (goodIn_app (goodIn_app gcL_strokes_1 (goodIn_app gcL_strokes_2 (goodIn_app gcL_strokes_3 (goodIn_app gcL_strokes_4 (goodIn_app gcL_strokes_5 (goodIn_app gcL_strokes_6 (goodIn_app gcL_strokes_7 (goodIn_app gcL_strokes_8 gcL_strokes_9)))))))) gdX7) gdX2) gdX1) gdX6) gdX3) gdX5) gdX0)
set_option maxRecDepth 20000 in
theorem gL_law_L_strokes : GoodIn wsL_law (va_wsS RL 135 yL_strokes wsL_strokes) := goodIn_app (goodIn_of _ (by decide +kernel)) ggL_law_L_strokes
theorem gcL_colors_0 : GoodIn wsL_law [.code yL_colors cL_colors 15 (some .boolean)] := fun w h => by
  rw [List.mem_singleton] at h
  subst h
  have hm : _ ∈ wsL_law := List.mem_append_left _ (List.mem_append_left _ (List.mem_append_left _ (List.mem_append_left _ (List.mem_append_left _ (List.mem_append_left _ (List.mem_append_left _ (List.mem_append_left _ (List.mem_append_left _ (List.mem_append_right _ (List.mem_append_right _ (List.mem_append_right _ (List.mem_append_right _ (List.mem_append_right _ (List.mem_append_right _ (List.mem_append_right _ (List.mem_append_right _ (List.mem_append_right _ (List.mem_append_right _ (List.mem_append_right _ (List.mem_append_right _ (List.mem_append_right _ (List.mem_append_right _ (List.mem_append_right _ (List.mem_append_right _ (List.mem_append_right _ (List.mem_append_right _ (List.mem_append_right _ (List.mem_append_right _ (List.mem_append_left _ (List.mem_of_getElem? (l := wsL_law_r21) (i := 9) rfl))))))))))))))))))))))))))))))
  exact ⟨hm, okLaw _ hm⟩
set_option maxRecDepth 20000 in
theorem gcL_colors_1 : GoodIn wsL_law wsL_colors_r1 := goodIn_m okLaw _ [490, 491, 492, 2, 493, 20, 38, 101, 288, 289, 290, 263, 264, 265, 494, 495, 496, 19, 497, 110, 111, 112, 113, 114] (by decide +kernel)
set_option maxRecDepth 20000 in
theorem gcL_colors_2 : GoodIn wsL_law wsL_colors_r2 := goodIn_m okLaw _ [115, 116, 117, 118, 54, 106, 107, 108, 109, 119, 120, 121, 122, 123, 124, 125, 126, 127, 128, 129, 130, 131, 132, 133] (by decide +kernel)
set_option maxRecDepth 20000 in
theorem gcL_colors_3 : GoodIn wsL_law wsL_colors_r3 := goodIn_m okLaw _ [134, 135, 136, 137, 138, 139, 140, 141, 142, 214, 215, 216, 37, 217, 218, 219, 88, 220, 221, 222, 223, 224, 225, 226] (by decide +kernel)
set_option maxRecDepth 20000 in
theorem gcL_colors_4 : GoodIn wsL_law wsL_colors_r4 := goodIn_m okLaw _ [227, 228, 229, 230, 87, 231, 158, 155, 159, 94, 95, 96, 97, 98, 30, 99, 34, 100, 102, 12, 103, 26, 104, 105] (by decide +kernel)
set_option maxRecDepth 20000 in
theorem gcL_colors_5 : GoodIn wsL_law wsL_colors_r5 := goodIn_m okLaw _ [39, 143, 144, 145, 146, 147, 148, 149, 29, 150, 151, 152, 67, 68, 153, 154, 156, 157, 63, 160, 161, 162, 163, 164] (by decide +kernel)
set_option maxRecDepth 20000 in
theorem gcL_colors_6 : GoodIn wsL_law wsL_colors_r6 := goodIn_m okLaw _ [165, 166, 167, 168, 169, 170, 171, 172, 173, 174, 175, 176, 177, 178, 179, 180, 181, 182, 183, 184, 185, 69, 64, 65] (by decide +kernel)
set_option maxRecDepth 20000 in
theorem gcL_colors_7 : GoodIn wsL_law wsL_colors_r7 := goodIn_m okLaw _ [66, 186, 187, 188, 189, 190, 191, 192, 33, 193, 194, 195, 73, 196, 81, 82, 83, 79, 76, 77, 78, 80, 75, 197] (by decide +kernel)
set_option maxRecDepth 20000 in
theorem gcL_colors_8 : GoodIn wsL_law wsL_colors_r8 := goodIn_m okLaw _ [198, 199, 200, 201, 74, 202, 203, 204, 205, 206, 207, 208, 209, 210, 211, 212, 213, 232, 233, 91, 234, 235, 241, 242] (by decide +kernel)
set_option maxRecDepth 20000 in
theorem gcL_colors_9 : GoodIn wsL_law wsL_colors_r9 := goodIn_m okLaw _ [243, 244, 245, 246, 247, 248, 249, 250, 251, 252, 253, 254, 255, 256, 257, 258, 259, 260, 261, 262, 266, 267, 498, 499] (by decide +kernel)
set_option maxRecDepth 20000 in
theorem gcL_colors_10 : GoodIn wsL_law wsL_colors_r10 := goodIn_m okLaw _ [500, 501, 272, 273, 274, 502, 503, 504, 505, 506, 340, 507, 508, 509, 510, 329, 330, 331] (by decide +kernel)
theorem ggL_law_L_colors : GoodIn wsL_law wsL_colors := goodIn_app gcL_colors_0 (goodIn_app (goodIn_app (goodIn_app (goodIn_app (goodIn_app (goodIn_app (goodIn_app (goodIn_app gcL_colors_1 (goodIn_app gcL_colors_2 (goodIn_app gcL_colors_3 (goodIn_app gcL_colors_4 (goodIn_app gcL_colors_5 (goodIn_app gcL_colors_6 (goodIn_app gcL_colors_7 (goodIn_app gcL_colors_8 (goodIn_app gcL_colors_9 gcL_colors_10))))))))) gdX7) gdX3) gdX2) gdX1) gdX6) gdX5) gdX0)
set_option maxRecDepth 20000 in
theorem gL_law_L_colors : GoodIn wsL_law (va_wsS RL 139 yL_colors wsL_colors) := goodIn_app (goodIn_of _ (by decide +kernel)) ggL_law_L_colors
theorem gcL_order_0 : GoodIn wsL_law [.code yL_order cL_order 12 (some .boolean)] := fun w h => by
  rw [List.mem_singleton] at h
  subst h
  have hm : _ ∈ wsL_law := List.mem_append_left _ (List.mem_append_left _ (List.mem_append_left _ (List.mem_append_left _ (List.mem_append_left _ (List.mem_append_left _ (List.mem_append_left _ (List.mem_append_left _ (List.mem_append_left _ (List.mem_append_right _ (List.mem_append_right _ (List.mem_append_right _ (List.mem_append_right _ (List.mem_append_right _ (List.mem_append_right _ (List.mem_append_right _ (List.mem_append_right _ (List.mem_append_right _ (List.mem_append_right _ (List.mem_append_right _ (List.mem_append_right _ (List.mem_append_right _ (List.mem_append_right _ (List.mem_append_right _ (List.mem_append_right _ (List.mem_append_right _ (List.mem_append_right _ (List.mem_append_right _ (List.mem_append_right _ (List.mem_append_right _ (List.mem_append_left _ (List.mem_of_getElem? (l := wsL_law_r22) (i := 9) rfl)))))))))))))))))))))))))))))))
  exact ⟨hm, okLaw _ hm⟩
set_option maxRecDepth 20000 in
theorem gcL_order_1 : GoodIn wsL_law wsL_order_r1 := goodIn_m okLaw _ [94, 95, 96, 2, 97, 20, 98, 30, 99, 34, 100, 38, 101, 102, 12, 103, 26, 104, 105, 39, 106, 107, 108, 19] (by decide +kernel)
set_option maxRecDepth 20000 in
theorem gcL_order_2 : GoodIn wsL_law wsL_order_r2 := goodIn_m okLaw _ [109, 110, 111, 112, 113, 114, 115, 116, 117, 118, 54, 119, 120, 121, 122, 123, 124, 125, 126, 127, 128, 129, 130, 131] (by decide +kernel)
set_option maxRecDepth 20000 in
theorem gcL_order_3 : GoodIn wsL_law wsL_order_r3 := goodIn_m okLaw _ [132, 133, 134, 135, 136, 137, 138, 139, 140, 141, 142, 143, 144, 145, 146, 147, 148, 149, 29, 150, 151, 152, 67, 68] (by decide +kernel)
set_option maxRecDepth 20000 in
theorem gcL_order_4 : GoodIn wsL_law wsL_order_r4 := goodIn_m okLaw _ [153, 154, 155, 156, 157, 158, 159, 63, 160, 161, 162, 163, 164, 165, 166, 167, 168, 169, 170, 171, 172, 173, 174, 175] (by decide +kernel)
set_option maxRecDepth 20000 in
theorem gcL_order_5 : GoodIn wsL_law wsL_order_r5 := goodIn_m okLaw _ [176, 177, 178, 179, 180, 181, 182, 183, 184, 185, 69, 64, 65, 66, 186, 187, 188, 189, 190, 191, 192, 33, 193, 194] (by decide +kernel)
set_option maxRecDepth 20000 in
theorem gcL_order_6 : GoodIn wsL_law wsL_order_r6 := goodIn_m okLaw _ [195, 73, 196, 81, 82, 83, 79, 76, 77, 78, 80, 75, 197, 198, 199, 200, 201, 74, 202, 203, 204, 205, 206, 207] (by decide +kernel)
set_option maxRecDepth 20000 in
theorem gcL_order_7 : GoodIn wsL_law wsL_order_r7 := goodIn_m okLaw _ [208, 209, 210, 211, 212, 213, 214, 215, 216, 37, 217, 218, 219, 88, 220, 221, 222, 223, 224, 225, 226, 227, 228, 229] (by decide +kernel)
set_option maxRecDepth 20000 in
theorem gcL_order_8 : GoodIn wsL_law wsL_order_r8 := goodIn_m okLaw _ [230, 87, 231, 514, 515, 516, 517, 518, 241, 242, 243, 244, 245, 246, 247, 248, 249, 250, 251, 252, 253, 254, 255, 256] (by decide +kernel)
set_option maxRecDepth 20000 in
theorem gcL_order_9 : GoodIn wsL_law wsL_order_r9 := goodIn_m okLaw _ [257, 258, 519, 520, 521, 522, 523, 524, 525, 526, 527, 263, 264, 265, 528, 529, 530, 531, 532, 533, 534, 535, 536] (by decide +kernel)
theorem ggL_law_L_order : GoodIn wsL_law wsL_order := goodIn_app gcL_order_0 (goodIn_app (goodIn_app (goodIn_app (goodIn_app (goodIn_app (goodIn_app (goodIn_app (goodIn_app gcL_order_1 (goodIn_app gcL_order_2 (goodIn_app gcL_order_3 (goodIn_app gcL_order_4 (goodIn_app gcL_order_5 (goodIn_app gcL_order_6 (goodIn_app gcL_order_7 (goodIn_app gcL_order_8 gcL_order_9)))))))) gdX7) gdX2) gdX1) gdX6) gdX3) gdX5) gdX0)
set_option maxRecDepth 20000 in
theorem gL_law_L_order : GoodIn wsL_law (va_wsS RL 142 yL_order wsL_order) := goodIn_app (goodIn_of _ (by decide +kernel)) ggL_law_L_order
theorem gcL_errors_0 : GoodIn wsL_law [.code yL_errors cL_errors 3 (some .boolean)] := fun w h => by
  rw [List.mem_singleton] at h
  subst h
  have hm : _ ∈ wsL_law := List.mem_append_left _ (List.mem_append_left _ (List.mem_append_left _ (List.mem_append_left _ (List.mem_append_left _ (List.mem_append_left _ (List.mem_append_left _ (List.mem_append_left _ (List.mem_append_left _ (List.mem_append_right _ (List.mem_append_right _ (List.mem_append_right _ (List.mem_append_right _ (List.mem_append_right _ (List.mem_append_right _ (List.mem_append_right _ (List.mem_append_right _ (List.mem_append_right _ (List.mem_append_right _ (List.mem_append_right _ (List.mem_append_right _ (List.mem_append_right _ (List.mem_append_right _ (List.mem_append_right _ (List.mem_append_right _ (List.mem_append_right _ (List.mem_append_right _ (List.mem_append_right _ (List.mem_append_right _ (List.mem_append_right _ (List.mem_append_right _ (List.mem_of_getElem? (l := wsL_law_r23) (i := 11) rfl)))))))))))))))))))))))))))))))
  exact ⟨hm, okLaw _ hm⟩
set_option maxRecDepth 20000 in
theorem gcL_errors_1 : GoodIn wsL_law wsL_errors_r1 := goodIn_m okLaw _ [94, 95, 96, 2, 97, 20, 98, 30, 99, 34, 100, 38, 101, 102, 12, 103, 26, 104, 105, 39, 106, 107, 108, 19] (by decide +kernel)
set_option maxRecDepth 20000 in
theorem gcL_errors_2 : GoodIn wsL_law wsL_errors_r2 := goodIn_m okLaw _ [109, 110, 111, 112, 113, 114, 115, 116, 117, 118, 54, 119, 120, 121, 122, 123, 124, 125, 126, 127, 128, 129, 130, 131] (by decide +kernel)
set_option maxRecDepth 20000 in
theorem gcL_errors_3 : GoodIn wsL_law wsL_errors_r3 := goodIn_m okLaw _ [132, 133, 134, 135, 136, 137, 138, 139, 140, 141, 142, 143, 144, 145, 146, 147, 148, 149, 29, 150, 151, 152, 67, 68] (by decide +kernel)
set_option maxRecDepth 20000 in
theorem gcL_errors_4 : GoodIn wsL_law wsL_errors_r4 := goodIn_m okLaw _ [153, 154, 155, 156, 157, 158, 159, 63, 160, 161, 162, 163, 164, 165, 166, 167, 168, 169, 170, 171, 172, 173, 174, 175] (by decide +kernel)
set_option maxRecDepth 20000 in
theorem gcL_errors_5 : GoodIn wsL_law wsL_errors_r5 := goodIn_m okLaw _ [176, 177, 178, 179, 180, 181, 182, 183, 184, 185, 69, 64, 65, 66, 186, 187, 188, 189, 190, 191, 192, 33, 193, 194] (by decide +kernel)
set_option maxRecDepth 20000 in
theorem gcL_errors_6 : GoodIn wsL_law wsL_errors_r6 := goodIn_m okLaw _ [195, 73, 196, 81, 82, 83, 79, 76, 77, 78, 80, 75, 197, 198, 199, 200, 201, 74, 202, 203, 204, 205, 206, 207] (by decide +kernel)
set_option maxRecDepth 20000 in
theorem gcL_errors_7 : GoodIn wsL_law wsL_errors_r7 := goodIn_m okLaw _ [208, 209, 210, 211, 212, 213, 214, 215, 216, 37, 217, 218, 219, 88, 220, 221, 222, 223, 224, 225, 226, 227, 228, 229] (by decide +kernel)
set_option maxRecDepth 20000 in
theorem gcL_errors_8 : GoodIn wsL_law wsL_errors_r8 := goodIn_m okLaw _ [230, 87, 231, 268, 269, 270, 271, 272, 273, 274, 263, 264, 265, 275, 276, 277, 11, 278, 279, 44, 45, 280, 281, 282] (by decide +kernel)
set_option maxRecDepth 20000 in
theorem gcL_errors_9 : GoodIn wsL_law wsL_errors_r9 := goodIn_m okLaw _ [283, 284, 285, 286, 287, 288, 289, 290, 291, 292, 293, 294, 295, 296, 297, 298, 299, 300, 301, 302, 303, 304, 305, 306] (by decide +kernel)
set_option maxRecDepth 20000 in
theorem gcL_errors_10 : GoodIn wsL_law wsL_errors_r10 := goodIn_m okLaw _ [307, 308, 309, 310, 311, 312, 25, 313, 314, 315, 316, 317, 58, 318, 319, 59, 320, 332, 333, 334, 335, 21, 22, 336] (by decide +kernel)
set_option maxRecDepth 20000 in
theorem gcL_errors_11 : GoodIn wsL_law wsL_errors_r11 := goodIn_m okLaw _ [337, 338, 339, 253, 266, 267, 340, 252, 341, 342, 343, 344, 345, 346, 347, 348, 352, 353, 354, 355, 248, 249, 250, 251] (by decide +kernel)
set_option maxRecDepth 20000 in
theorem gcL_errors_12 : GoodIn wsL_law wsL_errors_r12 := goodIn_m okLaw _ [356, 357, 358, 359, 360, 361, 362, 363, 364, 365, 366, 367, 368, 369, 370, 371, 372, 373, 374, 375, 376, 377, 378, 379] (by decide +kernel)
set_option maxRecDepth 20000 in
theorem gcL_errors_13 : GoodIn wsL_law wsL_errors_r13 := goodIn_m okLaw _ [380, 381, 382, 383, 384, 385, 386, 387, 388, 392, 393, 394, 395, 396, 397, 398, 399, 400, 401, 410, 411, 412, 413, 254] (by decide +kernel)
set_option maxRecDepth 20000 in
theorem gcL_errors_14 : GoodIn wsL_law wsL_errors_r14 := goodIn_m okLaw _ [255, 256, 257, 402, 403, 404, 405, 406, 407, 408, 409, 414, 415, 416, 417, 418, 419, 420, 421] (by decide +kernel)
theorem ggL_law_L_errors : GoodIn wsL_law wsL_errors := goodIn_app gcL_errors_0 (goodIn_app (goodIn_app (goodIn_app (goodIn_app (goodIn_app (goodIn_app (goodIn_app (goodIn_app gcL_errors_1 (goodIn_app gcL_errors_2 (goodIn_app gcL_errors_3 (goodIn_app gcL_errors_4 (goodIn_app gcL_errors_5 (goodIn_app gcL_errors_6 (goodIn_app gcL_errors_7 (goodIn_app gcL_errors_8 (goodIn_app gcL_errors_9 (goodIn_app gcL_errors_10 (goodIn_app gcL_errors_11 (goodIn_app gcL_errors_12 (goodIn_app gcL_errors_13 gcL_errors_14))))))))))))) gdX7) gdX2) gdX1) gdX6) gdX3) gdX5) gdX0)
set_option maxRecDepth 20000 in
theorem gL_law_L_errors : GoodIn wsL_law (va_wsS RL 145 yL_errors wsL_errors) := goodIn_app (goodIn_of _ (by decide +kernel)) ggL_law_L_errors
