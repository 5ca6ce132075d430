/-! the law's words among the tables', by program -/
theorem gLr19 : GoodIn lw_tbl wsL_law_r19 := goodIn_p wsL_law_r19 [633, 637, 641, 645, 649, 653] (by decide +kernel) (by decide +kernel)
theorem inLr19 : ∀ w ∈ wsL_law_r19, w ∈ lw_tbl := fun w h => (gLr19 w h).1
theorem okLr19 : ∀ w ∈ wsL_law_r19, (w.onTables && w.keeps) = true ∨ ∃ ty, w = .arrayClass ty := fun w h => (gLr19 w h).2
theorem gLr20 : GoodIn lw_tbl wsL_law_r20 := goodIn_p wsL_law_r20 [658, 602, 606, 610, 614, 618] (by decide +kernel) (by decide +kernel)
theorem inLr20 : ∀ w ∈ wsL_law_r20, w ∈ lw_tbl := fun w h => (gLr20 w h).1
theorem okLr20 : ∀ w ∈ wsL_law_r20, (w.onTables && w.keeps) = true ∨ ∃ ty, w = .arrayClass ty := fun w h => (gLr20 w h).2
set_option maxRecDepth 20000 in
theorem gLr21_0 : GoodIn lw_tbl [Cond.methodLink RX7 191 yX0_stepOn, Cond.instanceMethod yX0_stepOn, Cond.selects RX0 yX0_stepOn yX0_stepOn, Cond.code yX0_stepOn cX0_stepOn 2 none, Cond.methodLink RL 135 yL_strokes, Cond.static yL_strokes] := goodIn_p _ [622] (by decide +kernel) (by decide +kernel)
theorem gbig_strokes : GoodIn lw_tbl [Cond.code yL_strokes cL_strokes 16 (some .boolean)] := fun w h => by
  rw [List.mem_singleton] at h
  subst h
  exact ⟨List.mem_append_right _ (List.mem_append_right _ (List.mem_append_right _ (List.mem_of_getElem? (l := tables_1_3) (i := 4) rfl))), Or.inl rfl⟩
set_option maxRecDepth 20000 in
theorem gLr21_2 : GoodIn lw_tbl [Cond.methodLink RL 139 yL_colors, Cond.static yL_colors] := goodIn_p _ [] (by decide +kernel) (by decide +kernel)
theorem gbig_colors : GoodIn lw_tbl [Cond.code yL_colors cL_colors 15 (some .boolean)] := fun w h => by
  rw [List.mem_singleton] at h
  subst h
  exact ⟨List.mem_append_right _ (List.mem_append_right _ (List.mem_append_right _ (List.mem_of_getElem? (l := tables_1_3) (i := 10) rfl))), Or.inl rfl⟩
set_option maxRecDepth 20000 in
theorem gLr21_4 : GoodIn lw_tbl [Cond.methodLink RL 32 yX7_color, Cond.instanceMethod yX7_color, Cond.selects RX7 yX7_color yX7_color, Cond.code yX7_color cX7_color 3 (some .int), Cond.methodLink RX7 246 yX2_strokesOf, Cond.instanceMethod yX2_strokesOf, Cond.selects RX2 yX2_strokesOf yX2_strokesOf, Cond.code yX2_strokesOf cX2_strokesOf 4 (some .int), Cond.methodLink RL 38 yX7_cell, Cond.instanceMethod yX7_cell, Cond.selects RX7 yX7_cell yX7_cell, Cond.code yX7_cell cX7_cell 7 (some .int), Cond.methodLink RX7 243 yX7_cellOf, Cond.methodLink RL 41 yX7_nearest] := goodIn_p _ [506, 510, 514] (by decide +kernel) (by decide +kernel)
theorem gLr21 : GoodIn lw_tbl wsL_law_r21 := goodIn_app gLr21_0 (goodIn_app gbig_strokes (goodIn_app gLr21_2 (goodIn_app gbig_colors (gLr21_4))))
theorem inLr21 : ∀ w ∈ wsL_law_r21, w ∈ lw_tbl := fun w h => (gLr21 w h).1
theorem okLr21 : ∀ w ∈ wsL_law_r21, (w.onTables && w.keeps) = true ∨ ∃ ty, w = .arrayClass ty := fun w h => (gLr21 w h).2
set_option maxRecDepth 20000 in
theorem gLr22_0 : GoodIn lw_tbl [Cond.instanceMethod yX7_nearest, Cond.selects RX7 yX7_nearest yX7_nearest, Cond.code yX7_nearest cX7_nearest 8 (some .int), Cond.methodLink RL 44 yL_nearest, Cond.static yL_nearest, Cond.code yL_nearest cL_nearest 8 (some .boolean), Cond.constant RL 47 (3000000), Cond.methodLink RL 142 yL_order, Cond.static yL_order] := goodIn_p _ [519, 523] (by decide +kernel) (by decide +kernel)
theorem gbig_order : GoodIn lw_tbl [Cond.code yL_order cL_order 12 (some .boolean)] := fun w h => by
  rw [List.mem_singleton] at h
  subst h
  exact ⟨List.mem_append_right _ (List.mem_append_right _ (List.mem_append_right _ (List.mem_of_getElem? (l := tables_1_3) (i := 35) rfl))), Or.inl rfl⟩
set_option maxRecDepth 20000 in
theorem gLr22_2 : GoodIn lw_tbl [Cond.methodLink RL 48 yX7_read, Cond.instanceMethod yX7_read, Cond.selects RX7 yX7_read yX7_read, Cond.code yX7_read cX7_read 2 (some .int), Cond.fieldLink RX7 209 "InkPad$Words" "order" "[I", Cond.methodLink RL 51 yX7_word, Cond.instanceMethod yX7_word, Cond.selects RX7 yX7_word yX7_word, Cond.code yX7_word cX7_word 3 (some .int), Cond.fieldLink RX7 231 "InkPad$Words" "lines" "[I", Cond.fieldLink RX7 233 "InkPad$Words" "sizes" "[I", Cond.fieldLink RX7 234 "InkPad$Words" "lefts" "[I", Cond.fieldLink RX7 237 "InkPad$Words" "rights" "[I", Cond.fieldLink RX7 240 "InkPad$Words" "firsts" "[I"] := goodIn_p _ [531, 535] (by decide +kernel) (by decide +kernel)
theorem gLr22 : GoodIn lw_tbl wsL_law_r22 := goodIn_app gLr22_0 (goodIn_app gbig_order (gLr22_2))
theorem inLr22 : ∀ w ∈ wsL_law_r22, w ∈ lw_tbl := fun w h => (gLr22 w h).1
theorem okLr22 : ∀ w ∈ wsL_law_r22, (w.onTables && w.keeps) = true ∨ ∃ ty, w = .arrayClass ty := fun w h => (gLr22 w h).2
theorem gLr23 : GoodIn lw_tbl wsL_law_r23 := goodIn_p wsL_law_r23 [539, 662] (by decide +kernel) (by decide +kernel)
theorem inLr23 : ∀ w ∈ wsL_law_r23, w ∈ lw_tbl := fun w h => (gLr23 w h).1
theorem okLr23 : ∀ w ∈ wsL_law_r23, (w.onTables && w.keeps) = true ∨ ∃ ty, w = .arrayClass ty := fun w h => (gLr23 w h).2
