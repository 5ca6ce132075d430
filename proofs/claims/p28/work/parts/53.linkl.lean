/-! links of the law's methods, by program -/
section LINKL
theorem kmL_cell : KM yL_cell RL 2 := by unfold KM; decide +kernel
theorem kcL_cell_7 : Cond.constant RL 7 (6790003) ∈ wsL_cell := by decide +kernel
theorem kmL_low : KM yL_low RL 2 := by unfold KM; decide +kernel
theorem kcL_low_8 : Cond.constant RL 8 (2147483647) ∈ wsL_low := by decide +kernel
theorem kmL_far : KM yL_far RL 2 := by unfold KM; decide +kernel
theorem kmL_whole : KM yL_whole RL 1 := by unfold KM; decide +kernel
theorem kcL_whole_15 : Cond.constantLong RL 15 (31) ∈ wsL_whole := by decide +kernel
theorem kcL_whole_21 : Cond.constantLong RL 21 (1009) ∈ wsL_whole := by decide +kernel
theorem kmL_strokes : KM yL_strokes RL 1 := by unfold KM; decide +kernel
theorem kmL_colors : KM yL_colors RL 3 := by unfold KM; decide +kernel
theorem kmL_nearest : KM yL_nearest RL 3 := by unfold KM; decide +kernel
theorem kcL_nearest_47 : Cond.constant RL 47 (3000000) ∈ wsL_nearest := by decide +kernel
theorem kmL_order : KM yL_order RL 2 := by unfold KM; decide +kernel
theorem kmL_rubs : KM yL_rubs RL 4 := by unfold KM; decide +kernel
theorem kcL_rubs_57 : Cond.constantLong RL 57 (7) ∈ wsL_rubs := by decide +kernel
theorem kcL_rubs_21 : Cond.constantLong RL 21 (1009) ∈ wsL_rubs := by decide +kernel
theorem kmL_shapes : KM yL_shapes RL 4 := by unfold KM; decide +kernel
theorem kmL_joins : KM yL_joins RL 3 := by unfold KM; decide +kernel
theorem kmL_history : KM yL_history RL 2 := by unfold KM; decide +kernel
theorem kmL_texts : KM yL_texts RL 2 := by unfold KM; decide +kernel
theorem kmL_errors : KM yL_errors RL 1 := by unfold KM; decide +kernel
end LINKL
