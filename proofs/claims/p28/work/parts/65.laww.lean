/-! the law's words among the tables', by program -/
section LAWW
set_option maxRecDepth 20000 in
theorem gLr1 : GoodIn lw_tbl wsL_law_r1 := goodIn_p wsL_law_r1 [27, 30] (by decide +kernel) (by decide +kernel)
theorem inLr1 : ∀ w ∈ wsL_law_r1, w ∈ lw_tbl := fun w h => (gLr1 w h).1
theorem okLr1 : ∀ w ∈ wsL_law_r1, (w.onTables && w.keeps) = true ∨ ∃ ty, w = .arrayClass ty := fun w h => (gLr1 w h).2
set_option maxRecDepth 20000 in
theorem gLr2 : GoodIn lw_tbl wsL_law_r2 := goodIn_p wsL_law_r2 [35, 56] (by decide +kernel) (by decide +kernel)
theorem inLr2 : ∀ w ∈ wsL_law_r2, w ∈ lw_tbl := fun w h => (gLr2 w h).1
theorem okLr2 : ∀ w ∈ wsL_law_r2, (w.onTables && w.keeps) = true ∨ ∃ ty, w = .arrayClass ty := fun w h => (gLr2 w h).2
set_option maxRecDepth 20000 in
theorem gLr3 : GoodIn lw_tbl wsL_law_r3 := goodIn_p wsL_law_r3 [71, 90, 114, 151] (by decide +kernel) (by decide +kernel)
theorem inLr3 : ∀ w ∈ wsL_law_r3, w ∈ lw_tbl := fun w h => (gLr3 w h).1
theorem okLr3 : ∀ w ∈ wsL_law_r3, (w.onTables && w.keeps) = true ∨ ∃ ty, w = .arrayClass ty := fun w h => (gLr3 w h).2
set_option maxRecDepth 20000 in
theorem gLr4 : GoodIn lw_tbl wsL_law_r4 := goodIn_p wsL_law_r4 [205, 483] (by decide +kernel) (by decide +kernel)
theorem inLr4 : ∀ w ∈ wsL_law_r4, w ∈ lw_tbl := fun w h => (gLr4 w h).1
theorem okLr4 : ∀ w ∈ wsL_law_r4, (w.onTables && w.keeps) = true ∨ ∃ ty, w = .arrayClass ty := fun w h => (gLr4 w h).2
set_option maxRecDepth 20000 in
theorem gLr5 : GoodIn lw_tbl wsL_law_r5 := goodIn_p wsL_law_r5 [450, 454, 458, 367] (by decide +kernel) (by decide +kernel)
theorem inLr5 : ∀ w ∈ wsL_law_r5, w ∈ lw_tbl := fun w h => (gLr5 w h).1
theorem okLr5 : ∀ w ∈ wsL_law_r5, (w.onTables && w.keeps) = true ∨ ∃ ty, w = .arrayClass ty := fun w h => (gLr5 w h).2
set_option maxRecDepth 20000 in
theorem gLr6 : GoodIn lw_tbl wsL_law_r6 := goodIn_p wsL_law_r6 [320, 463, 393, 349, 353, 396, 399] (by decide +kernel) (by decide +kernel)
theorem inLr6 : ∀ w ∈ wsL_law_r6, w ∈ lw_tbl := fun w h => (gLr6 w h).1
theorem okLr6 : ∀ w ∈ wsL_law_r6, (w.onTables && w.keeps) = true ∨ ∃ ty, w = .arrayClass ty := fun w h => (gLr6 w h).2
set_option maxRecDepth 20000 in
theorem gLr7 : GoodIn lw_tbl wsL_law_r7 := goodIn_p wsL_law_r7 [403, 407, 303, 336, 340, 324] (by decide +kernel) (by decide +kernel)
theorem inLr7 : ∀ w ∈ wsL_law_r7, w ∈ lw_tbl := fun w h => (gLr7 w h).1
theorem okLr7 : ∀ w ∈ wsL_law_r7, (w.onTables && w.keeps) = true ∨ ∃ ty, w = .arrayClass ty := fun w h => (gLr7 w h).2
set_option maxRecDepth 20000 in
theorem gLr8 : GoodIn lw_tbl wsL_law_r8 := goodIn_p wsL_law_r8 [344, 333, 413, 419, 423] (by decide +kernel) (by decide +kernel)
theorem inLr8 : ∀ w ∈ wsL_law_r8, w ∈ lw_tbl := fun w h => (gLr8 w h).1
theorem okLr8 : ∀ w ∈ wsL_law_r8, (w.onTables && w.keeps) = true ∨ ∃ ty, w = .arrayClass ty := fun w h => (gLr8 w h).2
set_option maxRecDepth 20000 in
theorem gLr9 : GoodIn lw_tbl wsL_law_r9 := goodIn_p wsL_law_r9 [427, 431, 316, 436, 329] (by decide +kernel) (by decide +kernel)
theorem inLr9 : ∀ w ∈ wsL_law_r9, w ∈ lw_tbl := fun w h => (gLr9 w h).1
theorem okLr9 : ∀ w ∈ wsL_law_r9, (w.onTables && w.keeps) = true ∨ ∃ ty, w = .arrayClass ty := fun w h => (gLr9 w h).2
set_option maxRecDepth 20000 in
theorem gLr10 : GoodIn lw_tbl wsL_law_r10 := goodIn_p wsL_law_r10 [468, 475, 479, 487, 491] (by decide +kernel) (by decide +kernel)
theorem inLr10 : ∀ w ∈ wsL_law_r10, w ∈ lw_tbl := fun w h => (gLr10 w h).1
theorem okLr10 : ∀ w ∈ wsL_law_r10, (w.onTables && w.keeps) = true ∨ ∃ ty, w = .arrayClass ty := fun w h => (gLr10 w h).2
set_option maxRecDepth 20000 in
theorem gLr11 : GoodIn lw_tbl wsL_law_r11 := goodIn_p wsL_law_r11 [389, 312, 442] (by decide +kernel) (by decide +kernel)
theorem inLr11 : ∀ w ∈ wsL_law_r11, w ∈ lw_tbl := fun w h => (gLr11 w h).1
theorem okLr11 : ∀ w ∈ wsL_law_r11, (w.onTables && w.keeps) = true ∨ ∃ ty, w = .arrayClass ty := fun w h => (gLr11 w h).2
set_option maxRecDepth 20000 in
theorem gLr12 : GoodIn lw_tbl wsL_law_r12 := goodIn_p wsL_law_r12 [262, 256, 259, 266, 270, 282] (by decide +kernel) (by decide +kernel)
theorem inLr12 : ∀ w ∈ wsL_law_r12, w ∈ lw_tbl := fun w h => (gLr12 w h).1
theorem okLr12 : ∀ w ∈ wsL_law_r12, (w.onTables && w.keeps) = true ∨ ∃ ty, w = .arrayClass ty := fun w h => (gLr12 w h).2
set_option maxRecDepth 20000 in
theorem gLr13 : GoodIn lw_tbl wsL_law_r13 := goodIn_p wsL_law_r13 [285, 289, 293, 278] (by decide +kernel) (by decide +kernel)
theorem inLr13 : ∀ w ∈ wsL_law_r13, w ∈ lw_tbl := fun w h => (gLr13 w h).1
theorem okLr13 : ∀ w ∈ wsL_law_r13, (w.onTables && w.keeps) = true ∨ ∃ ty, w = .arrayClass ty := fun w h => (gLr13 w h).2
set_option maxRecDepth 20000 in
theorem gLr14 : GoodIn lw_tbl wsL_law_r14 := goodIn_p wsL_law_r14 [300, 274, 542, 499, 547] (by decide +kernel) (by decide +kernel)
theorem inLr14 : ∀ w ∈ wsL_law_r14, w ∈ lw_tbl := fun w h => (gLr14 w h).1
theorem okLr14 : ∀ w ∈ wsL_law_r14, (w.onTables && w.keeps) = true ∨ ∃ ty, w = .arrayClass ty := fun w h => (gLr14 w h).2
set_option maxRecDepth 20000 in
theorem gLr15 : GoodIn lw_tbl wsL_law_r15 := goodIn_p wsL_law_r15 [551, 555, 559, 562, 566, 570] (by decide +kernel) (by decide +kernel)
theorem inLr15 : ∀ w ∈ wsL_law_r15, w ∈ lw_tbl := fun w h => (gLr15 w h).1
theorem okLr15 : ∀ w ∈ wsL_law_r15, (w.onTables && w.keeps) = true ∨ ∃ ty, w = .arrayClass ty := fun w h => (gLr15 w h).2
set_option maxRecDepth 20000 in
theorem gLr16 : GoodIn lw_tbl wsL_law_r16 := goodIn_p wsL_law_r16 [578, 582, 357, 361] (by decide +kernel) (by decide +kernel)
theorem inLr16 : ∀ w ∈ wsL_law_r16, w ∈ lw_tbl := fun w h => (gLr16 w h).1
theorem okLr16 : ∀ w ∈ wsL_law_r16, (w.onTables && w.keeps) = true ∨ ∃ ty, w = .arrayClass ty := fun w h => (gLr16 w h).2
set_option maxRecDepth 20000 in
theorem gLr17 : GoodIn lw_tbl wsL_law_r17 := goodIn_p wsL_law_r17 [586, 590, 594, 598, 384, 372] (by decide +kernel) (by decide +kernel)
theorem inLr17 : ∀ w ∈ wsL_law_r17, w ∈ lw_tbl := fun w h => (gLr17 w h).1
theorem okLr17 : ∀ w ∈ wsL_law_r17, (w.onTables && w.keeps) = true ∨ ∃ ty, w = .arrayClass ty := fun w h => (gLr17 w h).2
set_option maxRecDepth 20000 in
theorem gLr18 : GoodIn lw_tbl wsL_law_r18 := goodIn_p wsL_law_r18 [376, 308, 380, 446, 625, 629] (by decide +kernel) (by decide +kernel)
theorem inLr18 : ∀ w ∈ wsL_law_r18, w ∈ lw_tbl := fun w h => (gLr18 w h).1
theorem okLr18 : ∀ w ∈ wsL_law_r18, (w.onTables && w.keeps) = true ∨ ∃ ty, w = .arrayClass ty := fun w h => (gLr18 w h).2
set_option maxRecDepth 20000 in
theorem gLr19 : GoodIn lw_tbl wsL_law_r19 := goodIn_p wsL_law_r19 [633, 637, 641, 645, 649, 653] (by decide +kernel) (by decide +kernel)
theorem inLr19 : ∀ w ∈ wsL_law_r19, w ∈ lw_tbl := fun w h => (gLr19 w h).1
theorem okLr19 : ∀ w ∈ wsL_law_r19, (w.onTables && w.keeps) = true ∨ ∃ ty, w = .arrayClass ty := fun w h => (gLr19 w h).2
set_option maxRecDepth 20000 in
theorem gLr20 : GoodIn lw_tbl wsL_law_r20 := goodIn_p wsL_law_r20 [658, 602, 606, 610, 614, 618] (by decide +kernel) (by decide +kernel)
theorem inLr20 : ∀ w ∈ wsL_law_r20, w ∈ lw_tbl := fun w h => (gLr20 w h).1
theorem okLr20 : ∀ w ∈ wsL_law_r20, (w.onTables && w.keeps) = true ∨ ∃ ty, w = .arrayClass ty := fun w h => (gLr20 w h).2
set_option maxRecDepth 20000 in
theorem gLr21 : GoodIn lw_tbl wsL_law_r21 := goodIn_p wsL_law_r21 [622, 496, 502, 506, 510, 514] (by decide +kernel) (by decide +kernel)
theorem inLr21 : ∀ w ∈ wsL_law_r21, w ∈ lw_tbl := fun w h => (gLr21 w h).1
theorem okLr21 : ∀ w ∈ wsL_law_r21, (w.onTables && w.keeps) = true ∨ ∃ ty, w = .arrayClass ty := fun w h => (gLr21 w h).2
set_option maxRecDepth 20000 in
theorem gLr22 : GoodIn lw_tbl wsL_law_r22 := goodIn_p wsL_law_r22 [519, 523, 527, 531, 535] (by decide +kernel) (by decide +kernel)
theorem inLr22 : ∀ w ∈ wsL_law_r22, w ∈ lw_tbl := fun w h => (gLr22 w h).1
theorem okLr22 : ∀ w ∈ wsL_law_r22, (w.onTables && w.keeps) = true ∨ ∃ ty, w = .arrayClass ty := fun w h => (gLr22 w h).2
set_option maxRecDepth 20000 in
theorem gLr23 : GoodIn lw_tbl wsL_law_r23 := goodIn_p wsL_law_r23 [539, 662] (by decide +kernel) (by decide +kernel)
theorem inLr23 : ∀ w ∈ wsL_law_r23, w ∈ lw_tbl := fun w h => (gLr23 w h).1
theorem okLr23 : ∀ w ∈ wsL_law_r23, (w.onTables && w.keeps) = true ∨ ∃ ty, w = .arrayClass ty := fun w h => (gLr23 w h).2
theorem inX7 : ∀ w ∈ wsX70, w ∈ lw_tbl := by decide +kernel
theorem inX5 : ∀ w ∈ wsX50, w ∈ lw_tbl := by decide +kernel
theorem inX4 : ∀ w ∈ wsX40, w ∈ lw_tbl := by decide +kernel
theorem inX2 : ∀ w ∈ wsX20, w ∈ lw_tbl := by decide +kernel
theorem inX0 : ∀ w ∈ wsX00, w ∈ lw_tbl := by decide +kernel
theorem inX1 : ∀ w ∈ wsX10, w ∈ lw_tbl := by decide +kernel
theorem inX6 : ∀ w ∈ wsX60, w ∈ lw_tbl := by decide +kernel
theorem inX3 : ∀ w ∈ wsX30, w ∈ lw_tbl := by decide +kernel
theorem wsL_law_in : ∀ w ∈ wsL_law, w ∈ lw_tbl := (List.forall_mem_append.mpr ⟨(List.forall_mem_append.mpr ⟨(List.forall_mem_append.mpr ⟨(List.forall_mem_append.mpr ⟨(List.forall_mem_append.mpr ⟨(List.forall_mem_append.mpr ⟨(List.forall_mem_append.mpr ⟨(List.forall_mem_append.mpr ⟨(List.forall_mem_append.mpr ⟨(List.forall_mem_append.mpr ⟨inLr1, (List.forall_mem_append.mpr ⟨inLr2, (List.forall_mem_append.mpr ⟨inLr3, (List.forall_mem_append.mpr ⟨inLr4, (List.forall_mem_append.mpr ⟨inLr5, (List.forall_mem_append.mpr ⟨inLr6, (List.forall_mem_append.mpr ⟨inLr7, (List.forall_mem_append.mpr ⟨inLr8, (List.forall_mem_append.mpr ⟨inLr9, (List.forall_mem_append.mpr ⟨inLr10, (List.forall_mem_append.mpr ⟨inLr11, (List.forall_mem_append.mpr ⟨inLr12, (List.forall_mem_append.mpr ⟨inLr13, (List.forall_mem_append.mpr ⟨inLr14, (List.forall_mem_append.mpr ⟨inLr15, (List.forall_mem_append.mpr ⟨inLr16, (List.forall_mem_append.mpr ⟨inLr17, (List.forall_mem_append.mpr ⟨inLr18, (List.forall_mem_append.mpr ⟨inLr19, (List.forall_mem_append.mpr ⟨inLr20, (List.forall_mem_append.mpr ⟨inLr21, (List.forall_mem_append.mpr ⟨inLr22, inLr23⟩)⟩)⟩)⟩)⟩)⟩)⟩)⟩)⟩)⟩)⟩)⟩)⟩)⟩)⟩)⟩)⟩)⟩)⟩)⟩)⟩)⟩), inX7⟩), inX5⟩), inX4⟩), inX2⟩), inX0⟩), inX1⟩), inX6⟩), inX3⟩), (fun w h => absurd h List.not_mem_nil)⟩)
theorem inlX7 : ∀ w ∈ wsX70, w ∈ wsL_law := fun _ h => List.mem_append_left _ (List.mem_append_left _ (List.mem_append_left _ (List.mem_append_left _ (List.mem_append_left _ (List.mem_append_left _ (List.mem_append_left _ (List.mem_append_left _ (List.mem_append_right _ h))))))))
theorem inlX5 : ∀ w ∈ wsX50, w ∈ wsL_law := fun _ h => List.mem_append_left _ (List.mem_append_left _ (List.mem_append_left _ (List.mem_append_left _ (List.mem_append_left _ (List.mem_append_left _ (List.mem_append_left _ (List.mem_append_right _ h)))))))
theorem inlX4 : ∀ w ∈ wsX40, w ∈ wsL_law := fun _ h => List.mem_append_left _ (List.mem_append_left _ (List.mem_append_left _ (List.mem_append_left _ (List.mem_append_left _ (List.mem_append_left _ (List.mem_append_right _ h))))))
theorem inlX2 : ∀ w ∈ wsX20, w ∈ wsL_law := fun _ h => List.mem_append_left _ (List.mem_append_left _ (List.mem_append_left _ (List.mem_append_left _ (List.mem_append_left _ (List.mem_append_right _ h)))))
theorem inlX0 : ∀ w ∈ wsX00, w ∈ wsL_law := fun _ h => List.mem_append_left _ (List.mem_append_left _ (List.mem_append_left _ (List.mem_append_left _ (List.mem_append_right _ h))))
theorem inlX1 : ∀ w ∈ wsX10, w ∈ wsL_law := fun _ h => List.mem_append_left _ (List.mem_append_left _ (List.mem_append_left _ (List.mem_append_right _ h)))
theorem inlX6 : ∀ w ∈ wsX60, w ∈ wsL_law := fun _ h => List.mem_append_left _ (List.mem_append_left _ (List.mem_append_right _ h))
theorem inlX3 : ∀ w ∈ wsX30, w ∈ wsL_law := fun _ h => List.mem_append_left _ (List.mem_append_right _ h)
theorem nw_in : ∀ w ∈ nwAll, w ∈ lw_tbl := by decide +kernel
theorem okX7 : ∀ w ∈ wsX70, (w.onTables && w.keeps) = true ∨ ∃ ty, w = .arrayClass ty := fun w h => good_of_word (List.all_eq_true.mp (show wsX70.all goodWord = true by decide +kernel) w h)
theorem okX5 : ∀ w ∈ wsX50, (w.onTables && w.keeps) = true ∨ ∃ ty, w = .arrayClass ty := fun w h => good_of_word (List.all_eq_true.mp (show wsX50.all goodWord = true by decide +kernel) w h)
theorem okX4 : ∀ w ∈ wsX40, (w.onTables && w.keeps) = true ∨ ∃ ty, w = .arrayClass ty := fun w h => good_of_word (List.all_eq_true.mp (show wsX40.all goodWord = true by decide +kernel) w h)
theorem okX2 : ∀ w ∈ wsX20, (w.onTables && w.keeps) = true ∨ ∃ ty, w = .arrayClass ty := fun w h => good_of_word (List.all_eq_true.mp (show wsX20.all goodWord = true by decide +kernel) w h)
theorem okX0 : ∀ w ∈ wsX00, (w.onTables && w.keeps) = true ∨ ∃ ty, w = .arrayClass ty := fun w h => good_of_word (List.all_eq_true.mp (show wsX00.all goodWord = true by decide +kernel) w h)
theorem okX1 : ∀ w ∈ wsX10, (w.onTables && w.keeps) = true ∨ ∃ ty, w = .arrayClass ty := fun w h => good_of_word (List.all_eq_true.mp (show wsX10.all goodWord = true by decide +kernel) w h)
theorem okX6 : ∀ w ∈ wsX60, (w.onTables && w.keeps) = true ∨ ∃ ty, w = .arrayClass ty := fun w h => good_of_word (List.all_eq_true.mp (show wsX60.all goodWord = true by decide +kernel) w h)
theorem okX3 : ∀ w ∈ wsX30, (w.onTables && w.keeps) = true ∨ ∃ ty, w = .arrayClass ty := fun w h => good_of_word (List.all_eq_true.mp (show wsX30.all goodWord = true by decide +kernel) w h)
theorem okLaw : ∀ w ∈ wsL_law, (w.onTables && w.keeps) = true ∨ ∃ ty, w = .arrayClass ty := (List.forall_mem_append.mpr ⟨(List.forall_mem_append.mpr ⟨(List.forall_mem_append.mpr ⟨(List.forall_mem_append.mpr ⟨(List.forall_mem_append.mpr ⟨(List.forall_mem_append.mpr ⟨(List.forall_mem_append.mpr ⟨(List.forall_mem_append.mpr ⟨(List.forall_mem_append.mpr ⟨(List.forall_mem_append.mpr ⟨okLr1, (List.forall_mem_append.mpr ⟨okLr2, (List.forall_mem_append.mpr ⟨okLr3, (List.forall_mem_append.mpr ⟨okLr4, (List.forall_mem_append.mpr ⟨okLr5, (List.forall_mem_append.mpr ⟨okLr6, (List.forall_mem_append.mpr ⟨okLr7, (List.forall_mem_append.mpr ⟨okLr8, (List.forall_mem_append.mpr ⟨okLr9, (List.forall_mem_append.mpr ⟨okLr10, (List.forall_mem_append.mpr ⟨okLr11, (List.forall_mem_append.mpr ⟨okLr12, (List.forall_mem_append.mpr ⟨okLr13, (List.forall_mem_append.mpr ⟨okLr14, (List.forall_mem_append.mpr ⟨okLr15, (List.forall_mem_append.mpr ⟨okLr16, (List.forall_mem_append.mpr ⟨okLr17, (List.forall_mem_append.mpr ⟨okLr18, (List.forall_mem_append.mpr ⟨okLr19, (List.forall_mem_append.mpr ⟨okLr20, (List.forall_mem_append.mpr ⟨okLr21, (List.forall_mem_append.mpr ⟨okLr22, okLr23⟩)⟩)⟩)⟩)⟩)⟩)⟩)⟩)⟩)⟩)⟩)⟩)⟩)⟩)⟩)⟩)⟩)⟩)⟩)⟩)⟩)⟩), okX7⟩), okX5⟩), okX4⟩), okX2⟩), okX0⟩), okX1⟩), okX6⟩), okX3⟩), (fun w h => absurd h List.not_mem_nil)⟩)
end LAWW
