/-! the law's words among the tables', by program -/
set_option maxRecDepth 20000 in
theorem gLr13 : GoodIn lw_tbl wsL_law_r13 := goodIn_p wsL_law_r13 [285, 289, 293, 278] (by decide +kernel) (by decide +kernel)
theorem inLr13 : ∀ w ∈ wsL_law_r13, w ∈ lw_tbl := fun w h => (gLr13 w h).1
theorem okLr13 : ∀ w ∈ wsL_law_r13, (w.onTables && w.keeps) = true ∨ ∃ ty, w = .arrayClass ty := fun w h => (gLr13 w h).2
set_option maxRecDepth 20000 in
theorem gLr14 : GoodIn lw_tbl wsL_law_r14 := goodIn_p wsL_law_r14 [300, 274, 542, 499, 547] (by decide +kernel) (by decide +kernel)
theorem inLr14 : ∀ w ∈ wsL_law_r14, w ∈ lw_tbl := fun w h => (gLr14 w h).1
theorem okLr14 : ∀ w ∈ wsL_law_r14, (w.onTables && w.keeps) = true ∨ ∃ ty, w = .arrayClass ty := fun w h => (gLr14 w h).2
set_option maxRecDepth 20000 in
theorem gLr15 : GoodIn lw_tbl wsL_law_r15 := goodIn_p wsL_law_r15 [551, 555, 559, 562, 566, 570] (by decide +kernel) (by decide +kernel)
theorem inLr15 : ∀ w ∈ wsL_law_r15, w ∈ lw_tbl := fun w h => (gLr15 w h).1
theorem okLr15 : ∀ w ∈ wsL_law_r15, (w.onTables && w.keeps) = true ∨ ∃ ty, w = .arrayClass ty := fun w h => (gLr15 w h).2
set_option maxRecDepth 20000 in
theorem gLr16 : GoodIn lw_tbl wsL_law_r16 := goodIn_p wsL_law_r16 [578, 582, 357, 361] (by decide +kernel) (by decide +kernel)
theorem inLr16 : ∀ w ∈ wsL_law_r16, w ∈ lw_tbl := fun w h => (gLr16 w h).1
theorem okLr16 : ∀ w ∈ wsL_law_r16, (w.onTables && w.keeps) = true ∨ ∃ ty, w = .arrayClass ty := fun w h => (gLr16 w h).2
set_option maxRecDepth 20000 in
theorem gLr17 : GoodIn lw_tbl wsL_law_r17 := goodIn_p wsL_law_r17 [586, 590, 594, 598, 384, 372] (by decide +kernel) (by decide +kernel)
theorem inLr17 : ∀ w ∈ wsL_law_r17, w ∈ lw_tbl := fun w h => (gLr17 w h).1
theorem okLr17 : ∀ w ∈ wsL_law_r17, (w.onTables && w.keeps) = true ∨ ∃ ty, w = .arrayClass ty := fun w h => (gLr17 w h).2
set_option maxRecDepth 20000 in
theorem gLr18 : GoodIn lw_tbl wsL_law_r18 := goodIn_p wsL_law_r18 [376, 308, 380, 446, 625, 629] (by decide +kernel) (by decide +kernel)
theorem inLr18 : ∀ w ∈ wsL_law_r18, w ∈ lw_tbl := fun w h => (gLr18 w h).1
theorem okLr18 : ∀ w ∈ wsL_law_r18, (w.onTables && w.keeps) = true ∨ ∃ ty, w = .arrayClass ty := fun w h => (gLr18 w h).2
