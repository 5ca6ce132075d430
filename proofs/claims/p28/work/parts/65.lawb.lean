/-! the law's words among the tables', by program -/
set_option maxRecDepth 20000 in
theorem gLr7 : GoodIn lw_tbl wsL_law_r7 := goodIn_p wsL_law_r7 [403, 407, 303, 336, 340, 324] (by decide +kernel) (by decide +kernel)
theorem inLr7 : ∀ w ∈ wsL_law_r7, w ∈ lw_tbl := fun w h => (gLr7 w h).1
theorem okLr7 : ∀ w ∈ wsL_law_r7, (w.onTables && w.keeps) = true ∨ ∃ ty, w = .arrayClass ty := fun w h => (gLr7 w h).2
set_option maxRecDepth 20000 in
theorem gLr8 : GoodIn lw_tbl wsL_law_r8 := goodIn_p wsL_law_r8 [344, 333, 413, 419, 423] (by decide +kernel) (by decide +kernel)
theorem inLr8 : ∀ w ∈ wsL_law_r8, w ∈ lw_tbl := fun w h => (gLr8 w h).1
theorem okLr8 : ∀ w ∈ wsL_law_r8, (w.onTables && w.keeps) = true ∨ ∃ ty, w = .arrayClass ty := fun w h => (gLr8 w h).2
set_option maxRecDepth 20000 in
theorem gLr9 : GoodIn lw_tbl wsL_law_r9 := goodIn_p wsL_law_r9 [427, 431, 316, 436, 329] (by decide +kernel) (by decide +kernel)
theorem inLr9 : ∀ w ∈ wsL_law_r9, w ∈ lw_tbl := fun w h => (gLr9 w h).1
theorem okLr9 : ∀ w ∈ wsL_law_r9, (w.onTables && w.keeps) = true ∨ ∃ ty, w = .arrayClass ty := fun w h => (gLr9 w h).2
set_option maxRecDepth 20000 in
theorem gLr10 : GoodIn lw_tbl wsL_law_r10 := goodIn_p wsL_law_r10 [468, 475, 479, 487, 491] (by decide +kernel) (by decide +kernel)
theorem inLr10 : ∀ w ∈ wsL_law_r10, w ∈ lw_tbl := fun w h => (gLr10 w h).1
theorem okLr10 : ∀ w ∈ wsL_law_r10, (w.onTables && w.keeps) = true ∨ ∃ ty, w = .arrayClass ty := fun w h => (gLr10 w h).2
set_option maxRecDepth 20000 in
theorem gLr11 : GoodIn lw_tbl wsL_law_r11 := goodIn_p wsL_law_r11 [389, 312, 442] (by decide +kernel) (by decide +kernel)
theorem inLr11 : ∀ w ∈ wsL_law_r11, w ∈ lw_tbl := fun w h => (gLr11 w h).1
theorem okLr11 : ∀ w ∈ wsL_law_r11, (w.onTables && w.keeps) = true ∨ ∃ ty, w = .arrayClass ty := fun w h => (gLr11 w h).2
set_option maxRecDepth 20000 in
theorem gLr12 : GoodIn lw_tbl wsL_law_r12 := goodIn_p wsL_law_r12 [262, 256, 259, 266, 270, 282] (by decide +kernel) (by decide +kernel)
theorem inLr12 : ∀ w ∈ wsL_law_r12, w ∈ lw_tbl := fun w h => (gLr12 w h).1
theorem okLr12 : ∀ w ∈ wsL_law_r12, (w.onTables && w.keeps) = true ∨ ∃ ty, w = .arrayClass ty := fun w h => (gLr12 w h).2
