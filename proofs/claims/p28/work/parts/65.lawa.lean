/-! the law's words among the tables', by program -/
set_option maxRecDepth 20000 in
theorem gLr1 : GoodIn lw_tbl wsL_law_r1 := goodIn_p wsL_law_r1 [27, 30] (by decide +kernel) (by decide +kernel)
theorem inLr1 : ∀ w ∈ wsL_law_r1, w ∈ lw_tbl := fun w h => (gLr1 w h).1
theorem okLr1 : ∀ w ∈ wsL_law_r1, (w.onTables && w.keeps) = true ∨ ∃ ty, w = .arrayClass ty := fun w h => (gLr1 w h).2
set_option maxRecDepth 20000 in
theorem gLr2 : GoodIn lw_tbl wsL_law_r2 := goodIn_p wsL_law_r2 [35, 56] (by decide +kernel) (by decide +kernel)
theorem inLr2 : ∀ w ∈ wsL_law_r2, w ∈ lw_tbl := fun w h => (gLr2 w h).1
theorem okLr2 : ∀ w ∈ wsL_law_r2, (w.onTables && w.keeps) = true ∨ ∃ ty, w = .arrayClass ty := fun w h => (gLr2 w h).2
set_option maxRecDepth 20000 in
theorem gLr3 : GoodIn lw_tbl wsL_law_r3 := goodIn_p wsL_law_r3 [71, 90, 114, 151] (by decide +kernel) (by decide +kernel)
theorem inLr3 : ∀ w ∈ wsL_law_r3, w ∈ lw_tbl := fun w h => (gLr3 w h).1
theorem okLr3 : ∀ w ∈ wsL_law_r3, (w.onTables && w.keeps) = true ∨ ∃ ty, w = .arrayClass ty := fun w h => (gLr3 w h).2
set_option maxRecDepth 20000 in
theorem gLr4 : GoodIn lw_tbl wsL_law_r4 := goodIn_p wsL_law_r4 [205, 483] (by decide +kernel) (by decide +kernel)
theorem inLr4 : ∀ w ∈ wsL_law_r4, w ∈ lw_tbl := fun w h => (gLr4 w h).1
theorem okLr4 : ∀ w ∈ wsL_law_r4, (w.onTables && w.keeps) = true ∨ ∃ ty, w = .arrayClass ty := fun w h => (gLr4 w h).2
set_option maxRecDepth 20000 in
theorem gLr5 : GoodIn lw_tbl wsL_law_r5 := goodIn_p wsL_law_r5 [450, 454, 458, 367] (by decide +kernel) (by decide +kernel)
theorem inLr5 : ∀ w ∈ wsL_law_r5, w ∈ lw_tbl := fun w h => (gLr5 w h).1
theorem okLr5 : ∀ w ∈ wsL_law_r5, (w.onTables && w.keeps) = true ∨ ∃ ty, w = .arrayClass ty := fun w h => (gLr5 w h).2
set_option maxRecDepth 20000 in
theorem gLr6 : GoodIn lw_tbl wsL_law_r6 := goodIn_p wsL_law_r6 [320, 463, 393, 349, 353, 396, 399] (by decide +kernel) (by decide +kernel)
theorem inLr6 : ∀ w ∈ wsL_law_r6, w ∈ lw_tbl := fun w h => (gLr6 w h).1
theorem okLr6 : ∀ w ∈ wsL_law_r6, (w.onTables && w.keeps) = true ∨ ∃ ty, w = .arrayClass ty := fun w h => (gLr6 w h).2
