/-! links of each method, by program: its fields' words, its calls' words -/
section LINKS
theorem fpX0 : FP 5 TX0 tyX0 := ⟨tyX0_ok, nmX0⟩
theorem pdX0_0 : parseFieldDescriptor (TX0 0).2.2.1 = some .int := by decide +kernel
theorem pdX0_1 : parseFieldDescriptor (TX0 1).2.2.1 = some .int := by decide +kernel
theorem pdX0_2 : parseFieldDescriptor (TX0 2).2.2.1 = some .int := by decide +kernel
theorem fpX1 : FP 8 TX1 tyX1 := ⟨tyX1_ok, nmX1⟩
theorem pdX1_0 : parseFieldDescriptor (TX1 0).2.2.1 = some .int := by decide +kernel
theorem fpX2 : FP 2 TX2 tyX2 := ⟨tyX2_ok, nmX2⟩
theorem pdX2_0 : parseFieldDescriptor (TX2 0).2.2.1 = some .int := by decide +kernel
theorem fpX3 : FP 4 TX3 tyX3 := ⟨tyX3_ok, nmX3⟩
theorem pdX3_0 : parseFieldDescriptor (TX3 0).2.2.1 = some .int := by decide +kernel
theorem pdX3_1 : parseFieldDescriptor (TX3 1).2.2.1 = some .int := by decide +kernel
theorem fpX4 : FP 2 TX4 tyX4 := ⟨tyX4_ok, nmX4⟩
theorem pdX4_0 : parseFieldDescriptor (TX4 0).2.2.1 = some .int := by decide +kernel
theorem fpX5 : FP 3 TX5 tyX5 := ⟨tyX5_ok, nmX5⟩
theorem pdX5_0 : parseFieldDescriptor (TX5 0).2.2.1 = some .int := by decide +kernel
theorem fpX6 : FP 12 TX6 tyX6 := ⟨tyX6_ok, nmX6⟩
theorem pdX6_0 : parseFieldDescriptor (TX6 0).2.2.1 = some .int := by decide +kernel
theorem fpX7 : FP 10 TX7 tyX7 := ⟨tyX7_ok, nmX7⟩
theorem pdX7_9 : parseFieldDescriptor (TX7 9).2.2.1 = some .int := by decide +kernel
theorem kmX7_init : KM yX7_init RX7 0 := by unfold KM; decide +kernel
theorem inX7_init_X5 : ∀ w ∈ u_ws RX5 TX5 3, w ∈ wsX7_init := fun _ h => List.mem_cons_of_mem _ (List.mem_append_left _ (List.mem_append_left _ (List.mem_append_left _ (List.mem_append_left _ (List.mem_append_left _ (List.mem_append_left _ (List.mem_append_left _ (List.mem_append_right _ h))))))))
theorem inX7_init_X7 : ∀ w ∈ u_ws RX7 TX7 10, w ∈ wsX7_init := fun _ h => List.mem_cons_of_mem _ (List.mem_append_left _ (List.mem_append_left _ (List.mem_append_left _ (List.mem_append_left _ (List.mem_append_left _ (List.mem_append_left _ (List.mem_append_right _ h)))))))
theorem inX7_init_X4 : ∀ w ∈ u_ws RX4 TX4 2, w ∈ wsX7_init := fun _ h => List.mem_cons_of_mem _ (List.mem_append_left _ (List.mem_append_left _ (List.mem_append_left _ (List.mem_append_left _ (List.mem_append_left _ (List.mem_append_right _ h))))))
theorem inX7_init_X2 : ∀ w ∈ u_ws RX2 TX2 2, w ∈ wsX7_init := fun _ h => List.mem_cons_of_mem _ (List.mem_append_left _ (List.mem_append_left _ (List.mem_append_left _ (List.mem_append_left _ (List.mem_append_right _ h)))))
theorem inX7_init_X0 : ∀ w ∈ u_ws RX0 TX0 5, w ∈ wsX7_init := fun _ h => List.mem_cons_of_mem _ (List.mem_append_left _ (List.mem_append_left _ (List.mem_append_left _ (List.mem_append_right _ h))))
theorem inX7_init_X1 : ∀ w ∈ u_ws RX1 TX1 8, w ∈ wsX7_init := fun _ h => List.mem_cons_of_mem _ (List.mem_append_left _ (List.mem_append_left _ (List.mem_append_right _ h)))
theorem inX7_init_X6 : ∀ w ∈ u_ws RX6 TX6 12, w ∈ wsX7_init := fun _ h => List.mem_cons_of_mem _ (List.mem_append_left _ (List.mem_append_right _ h))
theorem inX7_init_X3 : ∀ w ∈ u_ws RX3 TX3 4, w ∈ wsX7_init := fun _ h => List.mem_cons_of_mem _ (List.mem_append_right _ h)
theorem flX7_init_12 : FL wsX7_init RX7 12 7 0 RX7 TX7 10 := ⟨inX7_init_X7, by decide +kernel, by decide, rfl⟩
theorem flX7_init_19 : FL wsX7_init RX7 19 7 1 RX7 TX7 10 := ⟨inX7_init_X7, by decide +kernel, by decide, rfl⟩
theorem flX7_init_26 : FL wsX7_init RX7 26 7 2 RX7 TX7 10 := ⟨inX7_init_X7, by decide +kernel, by decide, rfl⟩
theorem flX7_init_30 : FL wsX7_init RX7 30 7 3 RX7 TX7 10 := ⟨inX7_init_X7, by decide +kernel, by decide, rfl⟩
theorem flX7_init_33 : FL wsX7_init RX7 33 7 4 RX7 TX7 10 := ⟨inX7_init_X7, by decide +kernel, by decide, rfl⟩
theorem flX7_init_39 : FL wsX7_init RX7 39 7 5 RX7 TX7 10 := ⟨inX7_init_X7, by decide +kernel, by decide, rfl⟩
theorem flX7_init_46 : FL wsX7_init RX7 46 7 6 RX7 TX7 10 := ⟨inX7_init_X7, by decide +kernel, by decide, rfl⟩
theorem flX7_init_53 : FL wsX7_init RX7 53 7 7 RX7 TX7 10 := ⟨inX7_init_X7, by decide +kernel, by decide, rfl⟩
theorem flX7_init_60 : FL wsX7_init RX7 60 7 8 RX7 TX7 10 := ⟨inX7_init_X7, by decide +kernel, by decide, rfl⟩
theorem flX7_init_64 : FL wsX7_init RX7 64 7 9 RX7 TX7 10 := ⟨inX7_init_X7, by decide +kernel, by decide, rfl⟩
theorem kmX7_put : KM yX7_put RX7 2 := by unfold KM; decide +kernel
theorem inX7_put_X7 : ∀ w ∈ u_ws RX7 TX7 10, w ∈ wsX7_put := fun _ h => List.mem_cons_of_mem _ (List.mem_append_left _ (List.mem_append_right _ h))
theorem inX7_put_X5 : ∀ w ∈ u_ws RX5 TX5 3, w ∈ wsX7_put := fun _ h => List.mem_cons_of_mem _ (List.mem_append_right _ h)
theorem flX7_put_12 : FL wsX7_put RX7 12 7 0 RX7 TX7 10 := ⟨inX7_put_X7, by decide +kernel, by decide, rfl⟩
theorem flX7_put_72 : FL wsX7_put RX7 72 5 0 RX5 TX5 3 := ⟨inX7_put_X5, by decide +kernel, by decide, rfl⟩
theorem kmX7_clearPoints : KM yX7_clearPoints RX7 0 := by unfold KM; decide +kernel
theorem inX7_clearPoints_X7 : ∀ w ∈ u_ws RX7 TX7 10, w ∈ wsX7_clearPoints := fun _ h => List.mem_cons_of_mem _ (List.mem_append_left _ (List.mem_append_right _ h))
theorem inX7_clearPoints_X5 : ∀ w ∈ u_ws RX5 TX5 3, w ∈ wsX7_clearPoints := fun _ h => List.mem_cons_of_mem _ (List.mem_append_right _ h)
theorem flX7_clearPoints_12 : FL wsX7_clearPoints RX7 12 7 0 RX7 TX7 10 := ⟨inX7_clearPoints_X7, by decide +kernel, by decide, rfl⟩
theorem flX7_clearPoints_72 : FL wsX7_clearPoints RX7 72 5 0 RX5 TX5 3 := ⟨inX7_clearPoints_X5, by decide +kernel, by decide, rfl⟩
theorem kmX7_type : KM yX7_type RX7 1 := by unfold KM; decide +kernel
theorem inX7_type_X7 : ∀ w ∈ u_ws RX7 TX7 10, w ∈ wsX7_type := fun _ h => List.mem_cons_of_mem _ (List.mem_append_left _ (List.mem_append_right _ h))
theorem inX7_type_X4 : ∀ w ∈ u_ws RX4 TX4 2, w ∈ wsX7_type := fun _ h => List.mem_cons_of_mem _ (List.mem_append_right _ h)
theorem flX7_type_19 : FL wsX7_type RX7 19 7 1 RX7 TX7 10 := ⟨inX7_type_X7, by decide +kernel, by decide, rfl⟩
theorem flX7_type_82 : FL wsX7_type RX7 82 4 0 RX4 TX4 2 := ⟨inX7_type_X4, by decide +kernel, by decide, rfl⟩
theorem kmX7_clearText : KM yX7_clearText RX7 0 := by unfold KM; decide +kernel
theorem inX7_clearText_X7 : ∀ w ∈ u_ws RX7 TX7 10, w ∈ wsX7_clearText := fun _ h => List.mem_cons_of_mem _ (List.mem_append_left _ (List.mem_append_right _ h))
theorem inX7_clearText_X4 : ∀ w ∈ u_ws RX4 TX4 2, w ∈ wsX7_clearText := fun _ h => List.mem_cons_of_mem _ (List.mem_append_right _ h)
theorem flX7_clearText_19 : FL wsX7_clearText RX7 19 7 1 RX7 TX7 10 := ⟨inX7_clearText_X7, by decide +kernel, by decide, rfl⟩
theorem flX7_clearText_82 : FL wsX7_clearText RX7 82 4 0 RX4 TX4 2 := ⟨inX7_clearText_X4, by decide +kernel, by decide, rfl⟩
theorem kmX7_readPoints : KM yX7_readPoints RX7 0 := by unfold KM; decide +kernel
theorem inX7_readPoints_X7 : ∀ w ∈ u_ws RX7 TX7 10, w ∈ wsX7_readPoints := fun _ h => List.mem_cons_of_mem _ (List.mem_append_left _ (List.mem_append_left _ (List.mem_append_right _ h)))
theorem inX7_readPoints_X5 : ∀ w ∈ u_ws RX5 TX5 3, w ∈ wsX7_readPoints := fun _ h => List.mem_cons_of_mem _ (List.mem_append_left _ (List.mem_append_right _ h))
theorem inX7_readPoints_X4 : ∀ w ∈ u_ws RX4 TX4 2, w ∈ wsX7_readPoints := fun _ h => List.mem_cons_of_mem _ (List.mem_append_right _ h)
theorem flX7_readPoints_19 : FL wsX7_readPoints RX7 19 7 1 RX7 TX7 10 := ⟨inX7_readPoints_X7, by decide +kernel, by decide, rfl⟩
theorem flX7_readPoints_33 : FL wsX7_readPoints RX7 33 7 4 RX7 TX7 10 := ⟨inX7_readPoints_X7, by decide +kernel, by decide, rfl⟩
theorem flX7_readPoints_12 : FL wsX7_readPoints RX7 12 7 0 RX7 TX7 10 := ⟨inX7_readPoints_X7, by decide +kernel, by decide, rfl⟩
theorem flX7_readPoints_72 : FL wsX7_readPoints RX7 72 5 0 RX5 TX5 3 := ⟨inX7_readPoints_X5, by decide +kernel, by decide, rfl⟩
theorem kmX7_draw : KM yX7_draw RX7 1 := by unfold KM; decide +kernel
theorem inX7_draw_X7 : ∀ w ∈ u_ws RX7 TX7 10, w ∈ wsX7_draw := fun _ h => List.mem_cons_of_mem _ (List.mem_append_left _ (List.mem_append_left _ (List.mem_append_left _ (List.mem_append_right _ h))))
theorem inX7_draw_X5 : ∀ w ∈ u_ws RX5 TX5 3, w ∈ wsX7_draw := fun _ h => List.mem_cons_of_mem _ (List.mem_append_left _ (List.mem_append_left _ (List.mem_append_right _ h)))
theorem inX7_draw_X2 : ∀ w ∈ u_ws RX2 TX2 2, w ∈ wsX7_draw := fun _ h => List.mem_cons_of_mem _ (List.mem_append_left _ (List.mem_append_right _ h))
theorem inX7_draw_X0 : ∀ w ∈ u_ws RX0 TX0 5, w ∈ wsX7_draw := fun _ h => List.mem_cons_of_mem _ (List.mem_append_right _ h)
theorem flX7_draw_12 : FL wsX7_draw RX7 12 7 0 RX7 TX7 10 := ⟨inX7_draw_X7, by decide +kernel, by decide, rfl⟩
theorem flX7_draw_72 : FL wsX7_draw RX7 72 5 0 RX5 TX5 3 := ⟨inX7_draw_X5, by decide +kernel, by decide, rfl⟩
theorem flX7_draw_26 : FL wsX7_draw RX7 26 7 2 RX7 TX7 10 := ⟨inX7_draw_X7, by decide +kernel, by decide, rfl⟩
theorem flX7_draw_39 : FL wsX7_draw RX7 39 7 5 RX7 TX7 10 := ⟨inX7_draw_X7, by decide +kernel, by decide, rfl⟩
theorem flX7_draw_107 : FL wsX7_draw RX7 107 2 0 RX2 TX2 2 := ⟨inX7_draw_X2, by decide +kernel, by decide, rfl⟩
theorem kmX7_rub : KM yX7_rub RX7 3 := by unfold KM; decide +kernel
theorem inX7_rub_X7 : ∀ w ∈ u_ws RX7 TX7 10, w ∈ wsX7_rub := fun _ h => List.mem_cons_of_mem _ (List.mem_append_left _ (List.mem_append_left _ (List.mem_append_left _ (List.mem_append_right _ h))))
theorem inX7_rub_X2 : ∀ w ∈ u_ws RX2 TX2 2, w ∈ wsX7_rub := fun _ h => List.mem_cons_of_mem _ (List.mem_append_left _ (List.mem_append_left _ (List.mem_append_right _ h)))
theorem inX7_rub_X5 : ∀ w ∈ u_ws RX5 TX5 3, w ∈ wsX7_rub := fun _ h => List.mem_cons_of_mem _ (List.mem_append_left _ (List.mem_append_right _ h))
theorem inX7_rub_X0 : ∀ w ∈ u_ws RX0 TX0 5, w ∈ wsX7_rub := fun _ h => List.mem_cons_of_mem _ (List.mem_append_right _ h)
theorem flX7_rub_30 : FL wsX7_rub RX7 30 7 3 RX7 TX7 10 := ⟨inX7_rub_X7, by decide +kernel, by decide, rfl⟩
theorem flX7_rub_26 : FL wsX7_rub RX7 26 7 2 RX7 TX7 10 := ⟨inX7_rub_X7, by decide +kernel, by decide, rfl⟩
theorem flX7_rub_107 : FL wsX7_rub RX7 107 2 0 RX2 TX2 2 := ⟨inX7_rub_X2, by decide +kernel, by decide, rfl⟩
theorem flX7_rub_33 : FL wsX7_rub RX7 33 7 4 RX7 TX7 10 := ⟨inX7_rub_X7, by decide +kernel, by decide, rfl⟩
theorem flX7_rub_39 : FL wsX7_rub RX7 39 7 5 RX7 TX7 10 := ⟨inX7_rub_X7, by decide +kernel, by decide, rfl⟩
theorem kmX7_smooth : KM yX7_smooth RX7 2 := by unfold KM; decide +kernel
theorem inX7_smooth_X7 : ∀ w ∈ u_ws RX7 TX7 10, w ∈ wsX7_smooth := fun _ h => List.mem_cons_of_mem _ (List.mem_append_left _ (List.mem_append_left _ (List.mem_append_left _ (List.mem_append_right _ h))))
theorem inX7_smooth_X2 : ∀ w ∈ u_ws RX2 TX2 2, w ∈ wsX7_smooth := fun _ h => List.mem_cons_of_mem _ (List.mem_append_left _ (List.mem_append_left _ (List.mem_append_right _ h)))
theorem inX7_smooth_X5 : ∀ w ∈ u_ws RX5 TX5 3, w ∈ wsX7_smooth := fun _ h => List.mem_cons_of_mem _ (List.mem_append_left _ (List.mem_append_right _ h))
theorem inX7_smooth_X0 : ∀ w ∈ u_ws RX0 TX0 5, w ∈ wsX7_smooth := fun _ h => List.mem_cons_of_mem _ (List.mem_append_right _ h)
theorem flX7_smooth_26 : FL wsX7_smooth RX7 26 7 2 RX7 TX7 10 := ⟨inX7_smooth_X7, by decide +kernel, by decide, rfl⟩
theorem flX7_smooth_33 : FL wsX7_smooth RX7 33 7 4 RX7 TX7 10 := ⟨inX7_smooth_X7, by decide +kernel, by decide, rfl⟩
theorem kmX7_thin : KM yX7_thin RX7 2 := by unfold KM; decide +kernel
theorem inX7_thin_X7 : ∀ w ∈ u_ws RX7 TX7 10, w ∈ wsX7_thin := fun _ h => List.mem_cons_of_mem _ (List.mem_append_left _ (List.mem_append_left _ (List.mem_append_left _ (List.mem_append_right _ h))))
theorem inX7_thin_X2 : ∀ w ∈ u_ws RX2 TX2 2, w ∈ wsX7_thin := fun _ h => List.mem_cons_of_mem _ (List.mem_append_left _ (List.mem_append_left _ (List.mem_append_right _ h)))
theorem inX7_thin_X5 : ∀ w ∈ u_ws RX5 TX5 3, w ∈ wsX7_thin := fun _ h => List.mem_cons_of_mem _ (List.mem_append_left _ (List.mem_append_right _ h))
theorem inX7_thin_X0 : ∀ w ∈ u_ws RX0 TX0 5, w ∈ wsX7_thin := fun _ h => List.mem_cons_of_mem _ (List.mem_append_right _ h)
theorem flX7_thin_26 : FL wsX7_thin RX7 26 7 2 RX7 TX7 10 := ⟨inX7_thin_X7, by decide +kernel, by decide, rfl⟩
theorem flX7_thin_33 : FL wsX7_thin RX7 33 7 4 RX7 TX7 10 := ⟨inX7_thin_X7, by decide +kernel, by decide, rfl⟩
theorem kmX7_join : KM yX7_join RX7 2 := by unfold KM; decide +kernel
theorem inX7_join_X7 : ∀ w ∈ u_ws RX7 TX7 10, w ∈ wsX7_join := fun _ h => List.mem_cons_of_mem _ (List.mem_append_left _ (List.mem_append_left _ (List.mem_append_left _ (List.mem_append_right _ h))))
theorem inX7_join_X5 : ∀ w ∈ u_ws RX5 TX5 3, w ∈ wsX7_join := fun _ h => List.mem_cons_of_mem _ (List.mem_append_left _ (List.mem_append_left _ (List.mem_append_right _ h)))
theorem inX7_join_X2 : ∀ w ∈ u_ws RX2 TX2 2, w ∈ wsX7_join := fun _ h => List.mem_cons_of_mem _ (List.mem_append_left _ (List.mem_append_right _ h))
theorem inX7_join_X0 : ∀ w ∈ u_ws RX0 TX0 5, w ∈ wsX7_join := fun _ h => List.mem_cons_of_mem _ (List.mem_append_right _ h)
theorem flX7_join_26 : FL wsX7_join RX7 26 7 2 RX7 TX7 10 := ⟨inX7_join_X7, by decide +kernel, by decide, rfl⟩
theorem flX7_join_33 : FL wsX7_join RX7 33 7 4 RX7 TX7 10 := ⟨inX7_join_X7, by decide +kernel, by decide, rfl⟩
theorem flX7_join_72 : FL wsX7_join RX7 72 5 0 RX5 TX5 3 := ⟨inX7_join_X5, by decide +kernel, by decide, rfl⟩
theorem flX7_join_39 : FL wsX7_join RX7 39 7 5 RX7 TX7 10 := ⟨inX7_join_X7, by decide +kernel, by decide, rfl⟩
theorem kmX7_shift : KM yX7_shift RX7 3 := by unfold KM; decide +kernel
theorem inX7_shift_X7 : ∀ w ∈ u_ws RX7 TX7 10, w ∈ wsX7_shift := fun _ h => List.mem_cons_of_mem _ (List.mem_append_left _ (List.mem_append_left _ (List.mem_append_left _ (List.mem_append_right _ h))))
theorem inX7_shift_X2 : ∀ w ∈ u_ws RX2 TX2 2, w ∈ wsX7_shift := fun _ h => List.mem_cons_of_mem _ (List.mem_append_left _ (List.mem_append_left _ (List.mem_append_right _ h)))
theorem inX7_shift_X5 : ∀ w ∈ u_ws RX5 TX5 3, w ∈ wsX7_shift := fun _ h => List.mem_cons_of_mem _ (List.mem_append_left _ (List.mem_append_right _ h))
theorem inX7_shift_X0 : ∀ w ∈ u_ws RX0 TX0 5, w ∈ wsX7_shift := fun _ h => List.mem_cons_of_mem _ (List.mem_append_right _ h)
theorem flX7_shift_26 : FL wsX7_shift RX7 26 7 2 RX7 TX7 10 := ⟨inX7_shift_X7, by decide +kernel, by decide, rfl⟩
theorem flX7_shift_33 : FL wsX7_shift RX7 33 7 4 RX7 TX7 10 := ⟨inX7_shift_X7, by decide +kernel, by decide, rfl⟩
theorem kmX7_paint : KM yX7_paint RX7 2 := by unfold KM; decide +kernel
theorem inX7_paint_X7 : ∀ w ∈ u_ws RX7 TX7 10, w ∈ wsX7_paint := fun _ h => List.mem_cons_of_mem _ (List.mem_append_left _ (List.mem_append_left _ (List.mem_append_right _ h)))
theorem inX7_paint_X2 : ∀ w ∈ u_ws RX2 TX2 2, w ∈ wsX7_paint := fun _ h => List.mem_cons_of_mem _ (List.mem_append_left _ (List.mem_append_right _ h))
theorem inX7_paint_X0 : ∀ w ∈ u_ws RX0 TX0 5, w ∈ wsX7_paint := fun _ h => List.mem_cons_of_mem _ (List.mem_append_right _ h)
theorem flX7_paint_26 : FL wsX7_paint RX7 26 7 2 RX7 TX7 10 := ⟨inX7_paint_X7, by decide +kernel, by decide, rfl⟩
theorem flX7_paint_39 : FL wsX7_paint RX7 39 7 5 RX7 TX7 10 := ⟨inX7_paint_X7, by decide +kernel, by decide, rfl⟩
theorem kmX7_remove : KM yX7_remove RX7 1 := by unfold KM; decide +kernel
theorem inX7_remove_X7 : ∀ w ∈ u_ws RX7 TX7 10, w ∈ wsX7_remove := fun _ h => List.mem_cons_of_mem _ (List.mem_append_left _ (List.mem_append_left _ (List.mem_append_right _ h)))
theorem inX7_remove_X2 : ∀ w ∈ u_ws RX2 TX2 2, w ∈ wsX7_remove := fun _ h => List.mem_cons_of_mem _ (List.mem_append_left _ (List.mem_append_right _ h))
theorem inX7_remove_X0 : ∀ w ∈ u_ws RX0 TX0 5, w ∈ wsX7_remove := fun _ h => List.mem_cons_of_mem _ (List.mem_append_right _ h)
theorem flX7_remove_26 : FL wsX7_remove RX7 26 7 2 RX7 TX7 10 := ⟨inX7_remove_X7, by decide +kernel, by decide, rfl⟩
theorem flX7_remove_39 : FL wsX7_remove RX7 39 7 5 RX7 TX7 10 := ⟨inX7_remove_X7, by decide +kernel, by decide, rfl⟩
theorem flX7_remove_107 : FL wsX7_remove RX7 107 2 0 RX2 TX2 2 := ⟨inX7_remove_X2, by decide +kernel, by decide, rfl⟩
theorem kmX7_undo : KM yX7_undo RX7 0 := by unfold KM; decide +kernel
theorem inX7_undo_X7 : ∀ w ∈ u_ws RX7 TX7 10, w ∈ wsX7_undo := fun _ h => List.mem_cons_of_mem _ (List.mem_append_left _ (List.mem_append_left _ (List.mem_append_right _ h)))
theorem inX7_undo_X0 : ∀ w ∈ u_ws RX0 TX0 5, w ∈ wsX7_undo := fun _ h => List.mem_cons_of_mem _ (List.mem_append_left _ (List.mem_append_right _ h))
theorem inX7_undo_X2 : ∀ w ∈ u_ws RX2 TX2 2, w ∈ wsX7_undo := fun _ h => List.mem_cons_of_mem _ (List.mem_append_right _ h)
theorem flX7_undo_39 : FL wsX7_undo RX7 39 7 5 RX7 TX7 10 := ⟨inX7_undo_X7, by decide +kernel, by decide, rfl⟩
theorem flX7_undo_182 : FL wsX7_undo RX7 182 0 0 RX0 TX0 5 := ⟨inX7_undo_X0, by decide +kernel, by decide, rfl⟩
theorem flX7_undo_26 : FL wsX7_undo RX7 26 7 2 RX7 TX7 10 := ⟨inX7_undo_X7, by decide +kernel, by decide, rfl⟩
theorem kmX7_redo : KM yX7_redo RX7 0 := by unfold KM; decide +kernel
theorem inX7_redo_X7 : ∀ w ∈ u_ws RX7 TX7 10, w ∈ wsX7_redo := fun _ h => List.mem_cons_of_mem _ (List.mem_append_left _ (List.mem_append_left _ (List.mem_append_right _ h)))
theorem inX7_redo_X0 : ∀ w ∈ u_ws RX0 TX0 5, w ∈ wsX7_redo := fun _ h => List.mem_cons_of_mem _ (List.mem_append_left _ (List.mem_append_right _ h))
theorem inX7_redo_X2 : ∀ w ∈ u_ws RX2 TX2 2, w ∈ wsX7_redo := fun _ h => List.mem_cons_of_mem _ (List.mem_append_right _ h)
theorem flX7_redo_39 : FL wsX7_redo RX7 39 7 5 RX7 TX7 10 := ⟨inX7_redo_X7, by decide +kernel, by decide, rfl⟩
theorem flX7_redo_188 : FL wsX7_redo RX7 188 0 1 RX0 TX0 5 := ⟨inX7_redo_X0, by decide +kernel, by decide, rfl⟩
theorem flX7_redo_26 : FL wsX7_redo RX7 26 7 2 RX7 TX7 10 := ⟨inX7_redo_X7, by decide +kernel, by decide, rfl⟩
theorem kmX7_stroke : KM yX7_stroke RX7 2 := by unfold KM; decide +kernel
theorem inX7_stroke_X7 : ∀ w ∈ u_ws RX7 TX7 10, w ∈ wsX7_stroke := fun _ h => List.mem_cons_of_mem _ (List.mem_append_left _ (List.mem_append_left _ (List.mem_append_left _ (List.mem_append_right _ h))))
theorem inX7_stroke_X1 : ∀ w ∈ u_ws RX1 TX1 8, w ∈ wsX7_stroke := fun _ h => List.mem_cons_of_mem _ (List.mem_append_left _ (List.mem_append_left _ (List.mem_append_right _ h)))
theorem inX7_stroke_X6 : ∀ w ∈ u_ws RX6 TX6 12, w ∈ wsX7_stroke := fun _ h => List.mem_cons_of_mem _ (List.mem_append_left _ (List.mem_append_right _ h))
theorem inX7_stroke_X2 : ∀ w ∈ u_ws RX2 TX2 2, w ∈ wsX7_stroke := fun _ h => List.mem_cons_of_mem _ (List.mem_append_right _ h)
theorem flX7_stroke_26 : FL wsX7_stroke RX7 26 7 2 RX7 TX7 10 := ⟨inX7_stroke_X7, by decide +kernel, by decide, rfl⟩
theorem flX7_stroke_46 : FL wsX7_stroke RX7 46 7 6 RX7 TX7 10 := ⟨inX7_stroke_X7, by decide +kernel, by decide, rfl⟩
theorem flX7_stroke_199 : FL wsX7_stroke RX7 199 1 1 RX1 TX1 8 := ⟨inX7_stroke_X1, by decide +kernel, by decide, rfl⟩
theorem flX7_stroke_53 : FL wsX7_stroke RX7 53 7 7 RX7 TX7 10 := ⟨inX7_stroke_X7, by decide +kernel, by decide, rfl⟩
theorem flX7_stroke_203 : FL wsX7_stroke RX7 203 6 3 RX6 TX6 12 := ⟨inX7_stroke_X6, by decide +kernel, by decide, rfl⟩
theorem flX7_stroke_206 : FL wsX7_stroke RX7 206 6 2 RX6 TX6 12 := ⟨inX7_stroke_X6, by decide +kernel, by decide, rfl⟩
theorem kmX7_point : KM yX7_point RX7 3 := by unfold KM; decide +kernel
theorem inX7_point_X7 : ∀ w ∈ u_ws RX7 TX7 10, w ∈ wsX7_point := fun _ h => List.mem_cons_of_mem _ (List.mem_append_left _ (List.mem_append_right _ h))
theorem inX7_point_X2 : ∀ w ∈ u_ws RX2 TX2 2, w ∈ wsX7_point := fun _ h => List.mem_cons_of_mem _ (List.mem_append_right _ h)
theorem flX7_point_26 : FL wsX7_point RX7 26 7 2 RX7 TX7 10 := ⟨inX7_point_X7, by decide +kernel, by decide, rfl⟩
theorem kmX7_read : KM yX7_read RX7 1 := by unfold KM; decide +kernel
theorem inX7_read_X7 : ∀ w ∈ u_ws RX7 TX7 10, w ∈ wsX7_read := fun _ h => List.mem_cons_of_mem _ (List.mem_append_left _ (List.mem_append_left _ (List.mem_append_left _ (List.mem_append_right _ h))))
theorem inX7_read_X2 : ∀ w ∈ u_ws RX2 TX2 2, w ∈ wsX7_read := fun _ h => List.mem_cons_of_mem _ (List.mem_append_left _ (List.mem_append_left _ (List.mem_append_right _ h)))
theorem inX7_read_X6 : ∀ w ∈ u_ws RX6 TX6 12, w ∈ wsX7_read := fun _ h => List.mem_cons_of_mem _ (List.mem_append_left _ (List.mem_append_right _ h))
theorem inX7_read_X1 : ∀ w ∈ u_ws RX1 TX1 8, w ∈ wsX7_read := fun _ h => List.mem_cons_of_mem _ (List.mem_append_right _ h)
theorem flX7_read_26 : FL wsX7_read RX7 26 7 2 RX7 TX7 10 := ⟨inX7_read_X7, by decide +kernel, by decide, rfl⟩
theorem flX7_read_107 : FL wsX7_read RX7 107 2 0 RX2 TX2 2 := ⟨inX7_read_X2, by decide +kernel, by decide, rfl⟩
theorem flX7_read_53 : FL wsX7_read RX7 53 7 7 RX7 TX7 10 := ⟨inX7_read_X7, by decide +kernel, by decide, rfl⟩
theorem flX7_read_209 : FL wsX7_read RX7 209 6 1 RX6 TX6 12 := ⟨inX7_read_X6, by decide +kernel, by decide, rfl⟩
theorem kmX7_line : KM yX7_line RX7 2 := by unfold KM; decide +kernel
theorem inX7_line_X7 : ∀ w ∈ u_ws RX7 TX7 10, w ∈ wsX7_line := fun _ h => List.mem_cons_of_mem _ (List.mem_append_left _ (List.mem_append_left _ (List.mem_append_left _ (List.mem_append_right _ h))))
theorem inX7_line_X1 : ∀ w ∈ u_ws RX1 TX1 8, w ∈ wsX7_line := fun _ h => List.mem_cons_of_mem _ (List.mem_append_left _ (List.mem_append_left _ (List.mem_append_right _ h)))
theorem inX7_line_X6 : ∀ w ∈ u_ws RX6 TX6 12, w ∈ wsX7_line := fun _ h => List.mem_cons_of_mem _ (List.mem_append_left _ (List.mem_append_right _ h))
theorem inX7_line_X2 : ∀ w ∈ u_ws RX2 TX2 2, w ∈ wsX7_line := fun _ h => List.mem_cons_of_mem _ (List.mem_append_right _ h)
theorem flX7_line_46 : FL wsX7_line RX7 46 7 6 RX7 TX7 10 := ⟨inX7_line_X7, by decide +kernel, by decide, rfl⟩
theorem flX7_line_212 : FL wsX7_line RX7 212 1 0 RX1 TX1 8 := ⟨inX7_line_X1, by decide +kernel, by decide, rfl⟩
theorem flX7_line_215 : FL wsX7_line RX7 215 1 2 RX1 TX1 8 := ⟨inX7_line_X1, by decide +kernel, by decide, rfl⟩
theorem flX7_line_218 : FL wsX7_line RX7 218 1 3 RX1 TX1 8 := ⟨inX7_line_X1, by decide +kernel, by decide, rfl⟩
theorem flX7_line_221 : FL wsX7_line RX7 221 1 4 RX1 TX1 8 := ⟨inX7_line_X1, by decide +kernel, by decide, rfl⟩
theorem flX7_line_53 : FL wsX7_line RX7 53 7 7 RX7 TX7 10 := ⟨inX7_line_X7, by decide +kernel, by decide, rfl⟩
theorem flX7_line_224 : FL wsX7_line RX7 224 6 9 RX6 TX6 12 := ⟨inX7_line_X6, by decide +kernel, by decide, rfl⟩
theorem flX7_line_227 : FL wsX7_line RX7 227 6 10 RX6 TX6 12 := ⟨inX7_line_X6, by decide +kernel, by decide, rfl⟩
theorem kmX7_word : KM yX7_word RX7 2 := by unfold KM; decide +kernel
theorem inX7_word_X7 : ∀ w ∈ u_ws RX7 TX7 10, w ∈ wsX7_word := fun _ h => List.mem_cons_of_mem _ (List.mem_append_left _ (List.mem_append_left _ (List.mem_append_left _ (List.mem_append_right _ h))))
theorem inX7_word_X6 : ∀ w ∈ u_ws RX6 TX6 12, w ∈ wsX7_word := fun _ h => List.mem_cons_of_mem _ (List.mem_append_left _ (List.mem_append_left _ (List.mem_append_right _ h)))
theorem inX7_word_X1 : ∀ w ∈ u_ws RX1 TX1 8, w ∈ wsX7_word := fun _ h => List.mem_cons_of_mem _ (List.mem_append_left _ (List.mem_append_right _ h))
theorem inX7_word_X2 : ∀ w ∈ u_ws RX2 TX2 2, w ∈ wsX7_word := fun _ h => List.mem_cons_of_mem _ (List.mem_append_right _ h)
theorem flX7_word_53 : FL wsX7_word RX7 53 7 7 RX7 TX7 10 := ⟨inX7_word_X7, by decide +kernel, by decide, rfl⟩
theorem flX7_word_230 : FL wsX7_word RX7 230 6 0 RX6 TX6 12 := ⟨inX7_word_X6, by decide +kernel, by decide, rfl⟩
theorem flX7_word_231 : FL wsX7_word RX7 231 6 4 RX6 TX6 12 := ⟨inX7_word_X6, by decide +kernel, by decide, rfl⟩
theorem flX7_word_233 : FL wsX7_word RX7 233 6 5 RX6 TX6 12 := ⟨inX7_word_X6, by decide +kernel, by decide, rfl⟩
theorem flX7_word_234 : FL wsX7_word RX7 234 6 6 RX6 TX6 12 := ⟨inX7_word_X6, by decide +kernel, by decide, rfl⟩
theorem flX7_word_237 : FL wsX7_word RX7 237 6 7 RX6 TX6 12 := ⟨inX7_word_X6, by decide +kernel, by decide, rfl⟩
theorem flX7_word_240 : FL wsX7_word RX7 240 6 8 RX6 TX6 12 := ⟨inX7_word_X6, by decide +kernel, by decide, rfl⟩
theorem kmX7_setGap : KM yX7_setGap RX7 1 := by unfold KM; decide +kernel
theorem inX7_setGap_X7 : ∀ w ∈ u_ws RX7 TX7 10, w ∈ wsX7_setGap := fun _ h => List.mem_cons_of_mem _ (List.mem_append_right _ h)
theorem flX7_setGap_64 : FL wsX7_setGap RX7 64 7 9 RX7 TX7 10 := ⟨inX7_setGap_X7, by decide +kernel, by decide, rfl⟩
theorem kmX7_nearest : KM yX7_nearest RX7 2 := by unfold KM; decide +kernel
theorem inX7_nearest_X7 : ∀ w ∈ u_ws RX7 TX7 10, w ∈ wsX7_nearest := fun _ h => List.mem_cons_of_mem _ (List.mem_append_left _ (List.mem_append_right _ h))
theorem inX7_nearest_X2 : ∀ w ∈ u_ws RX2 TX2 2, w ∈ wsX7_nearest := fun _ h => List.mem_cons_of_mem _ (List.mem_append_right _ h)
theorem flX7_nearest_26 : FL wsX7_nearest RX7 26 7 2 RX7 TX7 10 := ⟨inX7_nearest_X7, by decide +kernel, by decide, rfl⟩
theorem flX7_nearest_107 : FL wsX7_nearest RX7 107 2 0 RX2 TX2 2 := ⟨inX7_nearest_X2, by decide +kernel, by decide, rfl⟩
theorem kmX7_cell : KM yX7_cell RX7 2 := by unfold KM; decide +kernel
theorem inX7_cell_X7 : ∀ w ∈ u_ws RX7 TX7 10, w ∈ wsX7_cell := fun _ h => List.mem_cons_of_mem _ (List.mem_append_left _ (List.mem_append_right _ h))
theorem inX7_cell_X2 : ∀ w ∈ u_ws RX2 TX2 2, w ∈ wsX7_cell := fun _ h => List.mem_cons_of_mem _ (List.mem_append_right _ h)
theorem flX7_cell_26 : FL wsX7_cell RX7 26 7 2 RX7 TX7 10 := ⟨inX7_cell_X7, by decide +kernel, by decide, rfl⟩
theorem flX7_cell_107 : FL wsX7_cell RX7 107 2 0 RX2 TX2 2 := ⟨inX7_cell_X2, by decide +kernel, by decide, rfl⟩
theorem kmX7_color : KM yX7_color RX7 2 := by unfold KM; decide +kernel
theorem inX7_color_X7 : ∀ w ∈ u_ws RX7 TX7 10, w ∈ wsX7_color := fun _ h => List.mem_cons_of_mem _ (List.mem_append_left _ (List.mem_append_left _ (List.mem_append_right _ h)))
theorem inX7_color_X3 : ∀ w ∈ u_ws RX3 TX3 4, w ∈ wsX7_color := fun _ h => List.mem_cons_of_mem _ (List.mem_append_left _ (List.mem_append_right _ h))
theorem inX7_color_X2 : ∀ w ∈ u_ws RX2 TX2 2, w ∈ wsX7_color := fun _ h => List.mem_cons_of_mem _ (List.mem_append_right _ h)
theorem flX7_color_26 : FL wsX7_color RX7 26 7 2 RX7 TX7 10 := ⟨inX7_color_X7, by decide +kernel, by decide, rfl⟩
theorem flX7_color_60 : FL wsX7_color RX7 60 7 8 RX7 TX7 10 := ⟨inX7_color_X7, by decide +kernel, by decide, rfl⟩
theorem flX7_color_256 : FL wsX7_color RX7 256 3 0 RX3 TX3 4 := ⟨inX7_color_X3, by decide +kernel, by decide, rfl⟩
theorem kmX7_count : KM yX7_count RX7 1 := by unfold KM; decide +kernel
theorem inX7_count_X7 : ∀ w ∈ u_ws RX7 TX7 10, w ∈ wsX7_count := fun _ h => List.mem_cons_of_mem _ (List.mem_append_left _ (List.mem_append_left _ (List.mem_append_left _ (List.mem_append_left _ (List.mem_append_left _ (List.mem_append_left _ (List.mem_append_right _ h)))))))
theorem inX7_count_X2 : ∀ w ∈ u_ws RX2 TX2 2, w ∈ wsX7_count := fun _ h => List.mem_cons_of_mem _ (List.mem_append_left _ (List.mem_append_left _ (List.mem_append_left _ (List.mem_append_left _ (List.mem_append_left _ (List.mem_append_right _ h))))))
theorem inX7_count_X1 : ∀ w ∈ u_ws RX1 TX1 8, w ∈ wsX7_count := fun _ h => List.mem_cons_of_mem _ (List.mem_append_left _ (List.mem_append_left _ (List.mem_append_left _ (List.mem_append_left _ (List.mem_append_right _ h)))))
theorem inX7_count_X6 : ∀ w ∈ u_ws RX6 TX6 12, w ∈ wsX7_count := fun _ h => List.mem_cons_of_mem _ (List.mem_append_left _ (List.mem_append_left _ (List.mem_append_left _ (List.mem_append_right _ h))))
theorem inX7_count_X3 : ∀ w ∈ u_ws RX3 TX3 4, w ∈ wsX7_count := fun _ h => List.mem_cons_of_mem _ (List.mem_append_left _ (List.mem_append_left _ (List.mem_append_right _ h)))
theorem inX7_count_X5 : ∀ w ∈ u_ws RX5 TX5 3, w ∈ wsX7_count := fun _ h => List.mem_cons_of_mem _ (List.mem_append_left _ (List.mem_append_right _ h))
theorem inX7_count_X0 : ∀ w ∈ u_ws RX0 TX0 5, w ∈ wsX7_count := fun _ h => List.mem_cons_of_mem _ (List.mem_append_right _ h)
theorem flX7_count_26 : FL wsX7_count RX7 26 7 2 RX7 TX7 10 := ⟨inX7_count_X7, by decide +kernel, by decide, rfl⟩
theorem flX7_count_107 : FL wsX7_count RX7 107 2 0 RX2 TX2 2 := ⟨inX7_count_X2, by decide +kernel, by decide, rfl⟩
theorem flX7_count_46 : FL wsX7_count RX7 46 7 6 RX7 TX7 10 := ⟨inX7_count_X7, by decide +kernel, by decide, rfl⟩
theorem flX7_count_212 : FL wsX7_count RX7 212 1 0 RX1 TX1 8 := ⟨inX7_count_X1, by decide +kernel, by decide, rfl⟩
theorem flX7_count_53 : FL wsX7_count RX7 53 7 7 RX7 TX7 10 := ⟨inX7_count_X7, by decide +kernel, by decide, rfl⟩
theorem flX7_count_230 : FL wsX7_count RX7 230 6 0 RX6 TX6 12 := ⟨inX7_count_X6, by decide +kernel, by decide, rfl⟩
theorem flX7_count_60 : FL wsX7_count RX7 60 7 8 RX7 TX7 10 := ⟨inX7_count_X7, by decide +kernel, by decide, rfl⟩
theorem flX7_count_256 : FL wsX7_count RX7 256 3 0 RX3 TX3 4 := ⟨inX7_count_X3, by decide +kernel, by decide, rfl⟩
theorem flX7_count_259 : FL wsX7_count RX7 259 3 1 RX3 TX3 4 := ⟨inX7_count_X3, by decide +kernel, by decide, rfl⟩
theorem flX7_count_12 : FL wsX7_count RX7 12 7 0 RX7 TX7 10 := ⟨inX7_count_X7, by decide +kernel, by decide, rfl⟩
theorem flX7_count_72 : FL wsX7_count RX7 72 5 0 RX5 TX5 3 := ⟨inX7_count_X5, by decide +kernel, by decide, rfl⟩
theorem flX7_count_39 : FL wsX7_count RX7 39 7 5 RX7 TX7 10 := ⟨inX7_count_X7, by decide +kernel, by decide, rfl⟩
theorem flX7_count_182 : FL wsX7_count RX7 182 0 0 RX0 TX0 5 := ⟨inX7_count_X0, by decide +kernel, by decide, rfl⟩
theorem flX7_count_188 : FL wsX7_count RX7 188 0 1 RX0 TX0 5 := ⟨inX7_count_X0, by decide +kernel, by decide, rfl⟩
theorem flX7_count_64 : FL wsX7_count RX7 64 7 9 RX7 TX7 10 := ⟨inX7_count_X7, by decide +kernel, by decide, rfl⟩
theorem kmX7_endPart : KM yX7_endPart RX7 1 := by unfold KM; decide +kernel
theorem inX7_endPart_X7 : ∀ w ∈ u_ws RX7 TX7 10, w ∈ wsX7_endPart := fun _ h => List.mem_cons_of_mem _ (List.mem_append_left _ (List.mem_append_left _ (List.mem_append_right _ h)))
theorem inX7_endPart_X5 : ∀ w ∈ u_ws RX5 TX5 3, w ∈ wsX7_endPart := fun _ h => List.mem_cons_of_mem _ (List.mem_append_left _ (List.mem_append_right _ h))
theorem inX7_endPart_X2 : ∀ w ∈ u_ws RX2 TX2 2, w ∈ wsX7_endPart := fun _ h => List.mem_cons_of_mem _ (List.mem_append_right _ h)
theorem flX7_endPart_33 : FL wsX7_endPart RX7 33 7 4 RX7 TX7 10 := ⟨inX7_endPart_X7, by decide +kernel, by decide, rfl⟩
theorem flX7_endPart_72 : FL wsX7_endPart RX7 72 5 0 RX5 TX5 3 := ⟨inX7_endPart_X5, by decide +kernel, by decide, rfl⟩
theorem flX7_endPart_30 : FL wsX7_endPart RX7 30 7 3 RX7 TX7 10 := ⟨inX7_endPart_X7, by decide +kernel, by decide, rfl⟩
theorem kmX7_replace : KM yX7_replace RX7 1 := by unfold KM; decide +kernel
theorem inX7_replace_X7 : ∀ w ∈ u_ws RX7 TX7 10, w ∈ wsX7_replace := fun _ h => List.mem_cons_of_mem _ (List.mem_append_left _ (List.mem_append_left _ (List.mem_append_left _ (List.mem_append_right _ h))))
theorem inX7_replace_X5 : ∀ w ∈ u_ws RX5 TX5 3, w ∈ wsX7_replace := fun _ h => List.mem_cons_of_mem _ (List.mem_append_left _ (List.mem_append_left _ (List.mem_append_right _ h)))
theorem inX7_replace_X2 : ∀ w ∈ u_ws RX2 TX2 2, w ∈ wsX7_replace := fun _ h => List.mem_cons_of_mem _ (List.mem_append_left _ (List.mem_append_right _ h))
theorem inX7_replace_X0 : ∀ w ∈ u_ws RX0 TX0 5, w ∈ wsX7_replace := fun _ h => List.mem_cons_of_mem _ (List.mem_append_right _ h)
theorem flX7_replace_26 : FL wsX7_replace RX7 26 7 2 RX7 TX7 10 := ⟨inX7_replace_X7, by decide +kernel, by decide, rfl⟩
theorem flX7_replace_33 : FL wsX7_replace RX7 33 7 4 RX7 TX7 10 := ⟨inX7_replace_X7, by decide +kernel, by decide, rfl⟩
theorem flX7_replace_39 : FL wsX7_replace RX7 39 7 5 RX7 TX7 10 := ⟨inX7_replace_X7, by decide +kernel, by decide, rfl⟩
theorem flX7_replace_72 : FL wsX7_replace RX7 72 5 0 RX5 TX5 3 := ⟨inX7_replace_X5, by decide +kernel, by decide, rfl⟩
theorem kmX7_layOut : KM yX7_layOut RX7 0 := by unfold KM; decide +kernel
theorem inX7_layOut_X7 : ∀ w ∈ u_ws RX7 TX7 10, w ∈ wsX7_layOut := fun _ h => List.mem_cons_of_mem _ (List.mem_append_left _ (List.mem_append_left _ (List.mem_append_left _ (List.mem_append_right _ h))))
theorem inX7_layOut_X1 : ∀ w ∈ u_ws RX1 TX1 8, w ∈ wsX7_layOut := fun _ h => List.mem_cons_of_mem _ (List.mem_append_left _ (List.mem_append_left _ (List.mem_append_right _ h)))
theorem inX7_layOut_X2 : ∀ w ∈ u_ws RX2 TX2 2, w ∈ wsX7_layOut := fun _ h => List.mem_cons_of_mem _ (List.mem_append_left _ (List.mem_append_right _ h))
theorem inX7_layOut_X6 : ∀ w ∈ u_ws RX6 TX6 12, w ∈ wsX7_layOut := fun _ h => List.mem_cons_of_mem _ (List.mem_append_right _ h)
theorem flX7_layOut_46 : FL wsX7_layOut RX7 46 7 6 RX7 TX7 10 := ⟨inX7_layOut_X7, by decide +kernel, by decide, rfl⟩
theorem flX7_layOut_26 : FL wsX7_layOut RX7 26 7 2 RX7 TX7 10 := ⟨inX7_layOut_X7, by decide +kernel, by decide, rfl⟩
theorem flX7_layOut_53 : FL wsX7_layOut RX7 53 7 7 RX7 TX7 10 := ⟨inX7_layOut_X7, by decide +kernel, by decide, rfl⟩
theorem flX7_layOut_64 : FL wsX7_layOut RX7 64 7 9 RX7 TX7 10 := ⟨inX7_layOut_X7, by decide +kernel, by decide, rfl⟩
theorem kmX7_isWithin : KM yX7_isWithin RX7 3 := by unfold KM; decide +kernel
theorem kmX7_isCoordinate : KM yX7_isCoordinate RX7 1 := by unfold KM; decide +kernel
theorem kmX7_isColor : KM yX7_isColor RX7 1 := by unfold KM; decide +kernel
theorem kmX7_square : KM yX7_square RX7 2 := by unfold KM; decide +kernel
theorem kmX7_cellOf : KM yX7_cellOf RX7 2 := by unfold KM; decide +kernel
theorem kmX7_root : KM yX7_root RX7 1 := by unfold KM; decide +kernel
theorem kmX0_init : KM yX0_init RX0 0 := by unfold KM; decide +kernel
theorem inX0_init_X0 : ∀ w ∈ u_ws RX0 TX0 5, w ∈ wsX0_init := fun _ h => List.mem_cons_of_mem _ (List.mem_append_right _ h)
theorem flX0_init_11 : FL wsX0_init RX0 11 0 3 RX0 TX0 5 := ⟨inX0_init_X0, by decide +kernel, by decide, rfl⟩
theorem flX0_init_15 : FL wsX0_init RX0 15 0 4 RX0 TX0 5 := ⟨inX0_init_X0, by decide +kernel, by decide, rfl⟩
theorem kmX0_record : KM yX0_record RX0 1 := by unfold KM; decide +kernel
theorem inX0_record_X0 : ∀ w ∈ u_ws RX0 TX0 5, w ∈ wsX0_record := fun _ h => List.mem_cons_of_mem _ (List.mem_append_left _ (List.mem_append_right _ h))
theorem inX0_record_X2 : ∀ w ∈ u_ws RX2 TX2 2, w ∈ wsX0_record := fun _ h => List.mem_cons_of_mem _ (List.mem_append_right _ h)
theorem flX0_record_18 : FL wsX0_record RX0 18 0 2 RX0 TX0 5 := ⟨inX0_record_X0, by decide +kernel, by decide, rfl⟩
theorem flX0_record_22 : FL wsX0_record RX0 22 0 0 RX0 TX0 5 := ⟨inX0_record_X0, by decide +kernel, by decide, rfl⟩
theorem mmX0_record_25 : MM_min wsX0_record RX0 25 := by unfold MM_min; decide +kernel
theorem flX0_record_31 : FL wsX0_record RX0 31 0 1 RX0 TX0 5 := ⟨inX0_record_X0, by decide +kernel, by decide, rfl⟩
theorem flX0_record_11 : FL wsX0_record RX0 11 0 3 RX0 TX0 5 := ⟨inX0_record_X0, by decide +kernel, by decide, rfl⟩
theorem flX0_record_34 : FL wsX0_record RX0 34 2 0 RX2 TX2 2 := ⟨inX0_record_X2, by decide +kernel, by decide, rfl⟩
theorem flX0_record_39 : FL wsX0_record RX0 39 2 1 RX2 TX2 2 := ⟨inX0_record_X2, by decide +kernel, by decide, rfl⟩
theorem flX0_record_15 : FL wsX0_record RX0 15 0 4 RX0 TX0 5 := ⟨inX0_record_X0, by decide +kernel, by decide, rfl⟩
theorem mcX0_record_42 : MC wsX0_record RX0 42 := by unfold MC; decide +kernel
theorem kmX0_stepBack : KM yX0_stepBack RX0 1 := by unfold KM; decide +kernel
theorem inX0_stepBack_X0 : ∀ w ∈ u_ws RX0 TX0 5, w ∈ wsX0_stepBack := fun _ h => List.mem_cons_of_mem _ (List.mem_append_left _ (List.mem_append_right _ h))
theorem inX0_stepBack_X2 : ∀ w ∈ u_ws RX2 TX2 2, w ∈ wsX0_stepBack := fun _ h => List.mem_cons_of_mem _ (List.mem_append_right _ h)
theorem flX0_stepBack_22 : FL wsX0_stepBack RX0 22 0 0 RX0 TX0 5 := ⟨inX0_stepBack_X0, by decide +kernel, by decide, rfl⟩
theorem flX0_stepBack_18 : FL wsX0_stepBack RX0 18 0 2 RX0 TX0 5 := ⟨inX0_stepBack_X0, by decide +kernel, by decide, rfl⟩
theorem flX0_stepBack_31 : FL wsX0_stepBack RX0 31 0 1 RX0 TX0 5 := ⟨inX0_stepBack_X0, by decide +kernel, by decide, rfl⟩
theorem kmX0_stepOn : KM yX0_stepOn RX0 1 := by unfold KM; decide +kernel
theorem inX0_stepOn_X0 : ∀ w ∈ u_ws RX0 TX0 5, w ∈ wsX0_stepOn := fun _ h => List.mem_cons_of_mem _ (List.mem_append_left _ (List.mem_append_right _ h))
theorem inX0_stepOn_X2 : ∀ w ∈ u_ws RX2 TX2 2, w ∈ wsX0_stepOn := fun _ h => List.mem_cons_of_mem _ (List.mem_append_right _ h)
theorem flX0_stepOn_31 : FL wsX0_stepOn RX0 31 0 1 RX0 TX0 5 := ⟨inX0_stepOn_X0, by decide +kernel, by decide, rfl⟩
theorem flX0_stepOn_18 : FL wsX0_stepOn RX0 18 0 2 RX0 TX0 5 := ⟨inX0_stepOn_X0, by decide +kernel, by decide, rfl⟩
theorem flX0_stepOn_22 : FL wsX0_stepOn RX0 22 0 0 RX0 TX0 5 := ⟨inX0_stepOn_X0, by decide +kernel, by decide, rfl⟩
theorem kmX0_show : KM yX0_show RX0 1 := by unfold KM; decide +kernel
theorem inX0_show_X0 : ∀ w ∈ u_ws RX0 TX0 5, w ∈ wsX0_show := fun _ h => List.mem_cons_of_mem _ (List.mem_append_left _ (List.mem_append_right _ h))
theorem inX0_show_X2 : ∀ w ∈ u_ws RX2 TX2 2, w ∈ wsX0_show := fun _ h => List.mem_cons_of_mem _ (List.mem_append_right _ h)
theorem flX0_show_11 : FL wsX0_show RX0 11 0 3 RX0 TX0 5 := ⟨inX0_show_X0, by decide +kernel, by decide, rfl⟩
theorem flX0_show_18 : FL wsX0_show RX0 18 0 2 RX0 TX0 5 := ⟨inX0_show_X0, by decide +kernel, by decide, rfl⟩
theorem flX0_show_34 : FL wsX0_show RX0 34 2 0 RX2 TX2 2 := ⟨inX0_show_X2, by decide +kernel, by decide, rfl⟩
theorem flX0_show_15 : FL wsX0_show RX0 15 0 4 RX0 TX0 5 := ⟨inX0_show_X0, by decide +kernel, by decide, rfl⟩
theorem flX0_show_39 : FL wsX0_show RX0 39 2 1 RX2 TX2 2 := ⟨inX0_show_X2, by decide +kernel, by decide, rfl⟩
theorem mcX0_show_42 : MC wsX0_show RX0 42 := by unfold MC; decide +kernel
theorem kmX1_init : KM yX1_init RX1 0 := by unfold KM; decide +kernel
theorem inX1_init_X1 : ∀ w ∈ u_ws RX1 TX1 8, w ∈ wsX1_init := fun _ h => List.mem_cons_of_mem _ (List.mem_append_right _ h)
theorem flX1_init_9 : FL wsX1_init RX1 9 1 1 RX1 TX1 8 := ⟨inX1_init_X1, by decide +kernel, by decide, rfl⟩
theorem flX1_init_15 : FL wsX1_init RX1 15 1 2 RX1 TX1 8 := ⟨inX1_init_X1, by decide +kernel, by decide, rfl⟩
theorem flX1_init_18 : FL wsX1_init RX1 18 1 3 RX1 TX1 8 := ⟨inX1_init_X1, by decide +kernel, by decide, rfl⟩
theorem flX1_init_21 : FL wsX1_init RX1 21 1 4 RX1 TX1 8 := ⟨inX1_init_X1, by decide +kernel, by decide, rfl⟩
theorem flX1_init_24 : FL wsX1_init RX1 24 1 5 RX1 TX1 8 := ⟨inX1_init_X1, by decide +kernel, by decide, rfl⟩
theorem flX1_init_27 : FL wsX1_init RX1 27 1 6 RX1 TX1 8 := ⟨inX1_init_X1, by decide +kernel, by decide, rfl⟩
theorem flX1_init_30 : FL wsX1_init RX1 30 1 7 RX1 TX1 8 := ⟨inX1_init_X1, by decide +kernel, by decide, rfl⟩
theorem kmX1_group : KM yX1_group RX1 1 := by unfold KM; decide +kernel
theorem inX1_group_X1 : ∀ w ∈ u_ws RX1 TX1 8, w ∈ wsX1_group := fun _ h => List.mem_cons_of_mem _ (List.mem_append_left _ (List.mem_append_right _ h))
theorem inX1_group_X2 : ∀ w ∈ u_ws RX2 TX2 2, w ∈ wsX1_group := fun _ h => List.mem_cons_of_mem _ (List.mem_append_right _ h)
theorem flX1_group_33 : FL wsX1_group RX1 33 1 0 RX1 TX1 8 := ⟨inX1_group_X1, by decide +kernel, by decide, rfl⟩
theorem flX1_group_37 : FL wsX1_group RX1 37 2 0 RX2 TX2 2 := ⟨inX1_group_X2, by decide +kernel, by decide, rfl⟩
theorem flX1_group_24 : FL wsX1_group RX1 24 1 5 RX1 TX1 8 := ⟨inX1_group_X1, by decide +kernel, by decide, rfl⟩
theorem flX1_group_27 : FL wsX1_group RX1 27 1 6 RX1 TX1 8 := ⟨inX1_group_X1, by decide +kernel, by decide, rfl⟩
theorem mmX1_group_53 : MM_min wsX1_group RX1 53 := by unfold MM_min; decide +kernel
theorem mmX1_group_58 : MM_max wsX1_group RX1 58 := by unfold MM_max; decide +kernel
theorem flX1_group_9 : FL wsX1_group RX1 9 1 1 RX1 TX1 8 := ⟨inX1_group_X1, by decide +kernel, by decide, rfl⟩
theorem kmX1_bestFor : KM yX1_bestFor RX1 2 := by unfold KM; decide +kernel
theorem inX1_bestFor_X1 : ∀ w ∈ u_ws RX1 TX1 8, w ∈ wsX1_bestFor := fun _ h => List.mem_cons_of_mem _ (List.mem_append_right _ h)
theorem flX1_bestFor_33 : FL wsX1_bestFor RX1 33 1 0 RX1 TX1 8 := ⟨inX1_bestFor_X1, by decide +kernel, by decide, rfl⟩
theorem flX1_bestFor_24 : FL wsX1_bestFor RX1 24 1 5 RX1 TX1 8 := ⟨inX1_bestFor_X1, by decide +kernel, by decide, rfl⟩
theorem flX1_bestFor_27 : FL wsX1_bestFor RX1 27 1 6 RX1 TX1 8 := ⟨inX1_bestFor_X1, by decide +kernel, by decide, rfl⟩
theorem mmX1_bestFor_53 : MM_min wsX1_bestFor RX1 53 := by unfold MM_min; decide +kernel
theorem mmX1_bestFor_58 : MM_max wsX1_bestFor RX1 58 := by unfold MM_max; decide +kernel
theorem kmX1_rank : KM yX1_rank RX1 1 := by unfold KM; decide +kernel
theorem inX1_rank_X1 : ∀ w ∈ u_ws RX1 TX1 8, w ∈ wsX1_rank := fun _ h => List.mem_cons_of_mem _ (List.mem_append_right _ h)
theorem flX1_rank_33 : FL wsX1_rank RX1 33 1 0 RX1 TX1 8 := ⟨inX1_rank_X1, by decide +kernel, by decide, rfl⟩
theorem flX1_rank_30 : FL wsX1_rank RX1 30 1 7 RX1 TX1 8 := ⟨inX1_rank_X1, by decide +kernel, by decide, rfl⟩
theorem flX1_rank_15 : FL wsX1_rank RX1 15 1 2 RX1 TX1 8 := ⟨inX1_rank_X1, by decide +kernel, by decide, rfl⟩
theorem flX1_rank_24 : FL wsX1_rank RX1 24 1 5 RX1 TX1 8 := ⟨inX1_rank_X1, by decide +kernel, by decide, rfl⟩
theorem flX1_rank_18 : FL wsX1_rank RX1 18 1 3 RX1 TX1 8 := ⟨inX1_rank_X1, by decide +kernel, by decide, rfl⟩
theorem flX1_rank_27 : FL wsX1_rank RX1 27 1 6 RX1 TX1 8 := ⟨inX1_rank_X1, by decide +kernel, by decide, rfl⟩
theorem flX1_rank_21 : FL wsX1_rank RX1 21 1 4 RX1 TX1 8 := ⟨inX1_rank_X1, by decide +kernel, by decide, rfl⟩
theorem flX1_rank_9 : FL wsX1_rank RX1 9 1 1 RX1 TX1 8 := ⟨inX1_rank_X1, by decide +kernel, by decide, rfl⟩
theorem kmX1_isBefore : KM yX1_isBefore RX1 2 := by unfold KM; decide +kernel
theorem inX1_isBefore_X1 : ∀ w ∈ u_ws RX1 TX1 8, w ∈ wsX1_isBefore := fun _ h => List.mem_cons_of_mem _ (List.mem_append_right _ h)
theorem flX1_isBefore_24 : FL wsX1_isBefore RX1 24 1 5 RX1 TX1 8 := ⟨inX1_isBefore_X1, by decide +kernel, by decide, rfl⟩
theorem flX1_isBefore_27 : FL wsX1_isBefore RX1 27 1 6 RX1 TX1 8 := ⟨inX1_isBefore_X1, by decide +kernel, by decide, rfl⟩
theorem kmX2_init : KM yX2_init RX2 0 := by unfold KM; decide +kernel
theorem inX2_init_X2 : ∀ w ∈ u_ws RX2 TX2 2, w ∈ wsX2_init := fun _ h => List.mem_cons_of_mem _ (List.mem_append_right _ h)
theorem flX2_init_9 : FL wsX2_init RX2 9 2 1 RX2 TX2 2 := ⟨inX2_init_X2, by decide +kernel, by decide, rfl⟩
theorem kmX2_empty : KM yX2_empty RX2 0 := by unfold KM; decide +kernel
theorem inX2_empty_X2 : ∀ w ∈ u_ws RX2 TX2 2, w ∈ wsX2_empty := fun _ h => List.mem_cons_of_mem _ (List.mem_append_right _ h)
theorem flX2_empty_15 : FL wsX2_empty RX2 15 2 0 RX2 TX2 2 := ⟨inX2_empty_X2, by decide +kernel, by decide, rfl⟩
theorem kmX2_copy : KM yX2_copy RX2 1 := by unfold KM; decide +kernel
theorem inX2_copy_X2 : ∀ w ∈ u_ws RX2 TX2 2, w ∈ wsX2_copy := fun _ h => List.mem_cons_of_mem _ (List.mem_append_right _ h)
theorem flX2_copy_15 : FL wsX2_copy RX2 15 2 0 RX2 TX2 2 := ⟨inX2_copy_X2, by decide +kernel, by decide, rfl⟩
theorem flX2_copy_9 : FL wsX2_copy RX2 9 2 1 RX2 TX2 2 := ⟨inX2_copy_X2, by decide +kernel, by decide, rfl⟩
theorem mcX2_copy_19 : MC wsX2_copy RX2 19 := by unfold MC; decide +kernel
theorem kmX2_has : KM yX2_has RX2 1 := by unfold KM; decide +kernel
theorem inX2_has_X2 : ∀ w ∈ u_ws RX2 TX2 2, w ∈ wsX2_has := fun _ h => List.mem_cons_of_mem _ (List.mem_append_right _ h)
theorem flX2_has_15 : FL wsX2_has RX2 15 2 0 RX2 TX2 2 := ⟨inX2_has_X2, by decide +kernel, by decide, rfl⟩
theorem kmX2_colorOf : KM yX2_colorOf RX2 1 := by unfold KM; decide +kernel
theorem inX2_colorOf_X2 : ∀ w ∈ u_ws RX2 TX2 2, w ∈ wsX2_colorOf := fun _ h => List.mem_cons_of_mem _ (List.mem_append_right _ h)
theorem flX2_colorOf_9 : FL wsX2_colorOf RX2 9 2 1 RX2 TX2 2 := ⟨inX2_colorOf_X2, by decide +kernel, by decide, rfl⟩
theorem kmX2_size : KM yX2_size RX2 1 := by unfold KM; decide +kernel
theorem inX2_size_X2 : ∀ w ∈ u_ws RX2 TX2 2, w ∈ wsX2_size := fun _ h => List.mem_cons_of_mem _ (List.mem_append_right _ h)
theorem flX2_size_9 : FL wsX2_size RX2 9 2 1 RX2 TX2 2 := ⟨inX2_size_X2, by decide +kernel, by decide, rfl⟩
theorem kmX2_x : KM yX2_x RX2 2 := by unfold KM; decide +kernel
theorem inX2_x_X2 : ∀ w ∈ u_ws RX2 TX2 2, w ∈ wsX2_x := fun _ h => List.mem_cons_of_mem _ (List.mem_append_right _ h)
theorem flX2_x_9 : FL wsX2_x RX2 9 2 1 RX2 TX2 2 := ⟨inX2_x_X2, by decide +kernel, by decide, rfl⟩
theorem kmX2_y : KM yX2_y RX2 2 := by unfold KM; decide +kernel
theorem inX2_y_X2 : ∀ w ∈ u_ws RX2 TX2 2, w ∈ wsX2_y := fun _ h => List.mem_cons_of_mem _ (List.mem_append_right _ h)
theorem flX2_y_9 : FL wsX2_y RX2 9 2 1 RX2 TX2 2 := ⟨inX2_y_X2, by decide +kernel, by decide, rfl⟩
theorem kmX2_setColor : KM yX2_setColor RX2 2 := by unfold KM; decide +kernel
theorem inX2_setColor_X2 : ∀ w ∈ u_ws RX2 TX2 2, w ∈ wsX2_setColor := fun _ h => List.mem_cons_of_mem _ (List.mem_append_right _ h)
theorem flX2_setColor_9 : FL wsX2_setColor RX2 9 2 1 RX2 TX2 2 := ⟨inX2_setColor_X2, by decide +kernel, by decide, rfl⟩
theorem kmX2_set : KM yX2_set RX2 3 := by unfold KM; decide +kernel
theorem inX2_set_X2 : ∀ w ∈ u_ws RX2 TX2 2, w ∈ wsX2_set := fun _ h => List.mem_cons_of_mem _ (List.mem_append_left _ (List.mem_append_right _ h))
theorem inX2_set_X5 : ∀ w ∈ u_ws RX5 TX5 3, w ∈ wsX2_set := fun _ h => List.mem_cons_of_mem _ (List.mem_append_right _ h)
theorem flX2_set_9 : FL wsX2_set RX2 9 2 1 RX2 TX2 2 := ⟨inX2_set_X2, by decide +kernel, by decide, rfl⟩
theorem flX2_set_25 : FL wsX2_set RX2 25 5 0 RX5 TX5 3 := ⟨inX2_set_X5, by decide +kernel, by decide, rfl⟩
theorem flX2_set_30 : FL wsX2_set RX2 30 5 1 RX5 TX5 3 := ⟨inX2_set_X5, by decide +kernel, by decide, rfl⟩
theorem mcX2_set_19 : MC wsX2_set RX2 19 := by unfold MC; decide +kernel
theorem flX2_set_33 : FL wsX2_set RX2 33 5 2 RX5 TX5 3 := ⟨inX2_set_X5, by decide +kernel, by decide, rfl⟩
theorem kmX2_append : KM yX2_append RX2 2 := by unfold KM; decide +kernel
theorem inX2_append_X2 : ∀ w ∈ u_ws RX2 TX2 2, w ∈ wsX2_append := fun _ h => List.mem_cons_of_mem _ (List.mem_append_left _ (List.mem_append_right _ h))
theorem inX2_append_X5 : ∀ w ∈ u_ws RX5 TX5 3, w ∈ wsX2_append := fun _ h => List.mem_cons_of_mem _ (List.mem_append_right _ h)
theorem flX2_append_15 : FL wsX2_append RX2 15 2 0 RX2 TX2 2 := ⟨inX2_append_X2, by decide +kernel, by decide, rfl⟩
theorem kmX2_drop : KM yX2_drop RX2 1 := by unfold KM; decide +kernel
theorem inX2_drop_X2 : ∀ w ∈ u_ws RX2 TX2 2, w ∈ wsX2_drop := fun _ h => List.mem_cons_of_mem _ (List.mem_append_right _ h)
theorem flX2_drop_15 : FL wsX2_drop RX2 15 2 0 RX2 TX2 2 := ⟨inX2_drop_X2, by decide +kernel, by decide, rfl⟩
theorem flX2_drop_9 : FL wsX2_drop RX2 9 2 1 RX2 TX2 2 := ⟨inX2_drop_X2, by decide +kernel, by decide, rfl⟩
theorem mcX2_drop_19 : MC wsX2_drop RX2 19 := by unfold MC; decide +kernel
theorem kmX2_isSame : KM yX2_isSame RX2 2 := by unfold KM; decide +kernel
theorem inX2_isSame_X5 : ∀ w ∈ u_ws RX5 TX5 3, w ∈ wsX2_isSame := fun _ h => List.mem_cons_of_mem _ (List.mem_append_left _ (List.mem_append_right _ h))
theorem inX2_isSame_X2 : ∀ w ∈ u_ws RX2 TX2 2, w ∈ wsX2_isSame := fun _ h => List.mem_cons_of_mem _ (List.mem_append_right _ h)
theorem flX2_isSame_25 : FL wsX2_isSame RX2 25 5 0 RX5 TX5 3 := ⟨inX2_isSame_X5, by decide +kernel, by decide, rfl⟩
theorem flX2_isSame_30 : FL wsX2_isSame RX2 30 5 1 RX5 TX5 3 := ⟨inX2_isSame_X5, by decide +kernel, by decide, rfl⟩
theorem flX2_isSame_33 : FL wsX2_isSame RX2 33 5 2 RX5 TX5 3 := ⟨inX2_isSame_X5, by decide +kernel, by decide, rfl⟩
theorem kmX2_left : KM yX2_left RX2 1 := by unfold KM; decide +kernel
theorem inX2_left_X2 : ∀ w ∈ u_ws RX2 TX2 2, w ∈ wsX2_left := fun _ h => List.mem_cons_of_mem _ (List.mem_append_right _ h)
theorem kmX2_right : KM yX2_right RX2 1 := by unfold KM; decide +kernel
theorem inX2_right_X2 : ∀ w ∈ u_ws RX2 TX2 2, w ∈ wsX2_right := fun _ h => List.mem_cons_of_mem _ (List.mem_append_right _ h)
theorem kmX2_top : KM yX2_top RX2 1 := by unfold KM; decide +kernel
theorem inX2_top_X2 : ∀ w ∈ u_ws RX2 TX2 2, w ∈ wsX2_top := fun _ h => List.mem_cons_of_mem _ (List.mem_append_right _ h)
theorem kmX2_bottom : KM yX2_bottom RX2 1 := by unfold KM; decide +kernel
theorem inX2_bottom_X2 : ∀ w ∈ u_ws RX2 TX2 2, w ∈ wsX2_bottom := fun _ h => List.mem_cons_of_mem _ (List.mem_append_right _ h)
theorem kmX2_leastFrom : KM yX2_leastFrom RX2 2 := by unfold KM; decide +kernel
theorem inX2_leastFrom_X2 : ∀ w ∈ u_ws RX2 TX2 2, w ∈ wsX2_leastFrom := fun _ h => List.mem_cons_of_mem _ (List.mem_append_right _ h)
theorem flX2_leastFrom_9 : FL wsX2_leastFrom RX2 9 2 1 RX2 TX2 2 := ⟨inX2_leastFrom_X2, by decide +kernel, by decide, rfl⟩
theorem mmX2_leastFrom_60 : MM_min wsX2_leastFrom RX2 60 := by unfold MM_min; decide +kernel
theorem kmX2_greatestFrom : KM yX2_greatestFrom RX2 2 := by unfold KM; decide +kernel
theorem inX2_greatestFrom_X2 : ∀ w ∈ u_ws RX2 TX2 2, w ∈ wsX2_greatestFrom := fun _ h => List.mem_cons_of_mem _ (List.mem_append_right _ h)
theorem flX2_greatestFrom_9 : FL wsX2_greatestFrom RX2 9 2 1 RX2 TX2 2 := ⟨inX2_greatestFrom_X2, by decide +kernel, by decide, rfl⟩
theorem mmX2_greatestFrom_65 : MM_max wsX2_greatestFrom RX2 65 := by unfold MM_max; decide +kernel
theorem kmX2_length : KM yX2_length RX2 1 := by unfold KM; decide +kernel
theorem inX2_length_X2 : ∀ w ∈ u_ws RX2 TX2 2, w ∈ wsX2_length := fun _ h => List.mem_cons_of_mem _ (List.mem_append_right _ h)
theorem mnX2_length_68 : Cond.methodLinkNest RX2 68 yX7_square RX7 ∈ nwAll ∧ Cond.static yX7_square ∈ wsX2_length ∧ Cond.initialized yX7_square.cls ∈ wsX2_length := by decide +kernel
theorem mnX2_length_71 : Cond.methodLinkNest RX2 71 yX7_root RX7 ∈ nwAll ∧ Cond.static yX7_root ∈ wsX2_length ∧ Cond.initialized yX7_root.cls ∈ wsX2_length := by decide +kernel
theorem kmX2_isOf : KM yX2_isOf RX2 2 := by unfold KM; decide +kernel
theorem inX2_isOf_X2 : ∀ w ∈ u_ws RX2 TX2 2, w ∈ wsX2_isOf := fun _ h => List.mem_cons_of_mem _ (List.mem_append_right _ h)
theorem kmX2_strokesOf : KM yX2_strokesOf RX2 1 := by unfold KM; decide +kernel
theorem inX2_strokesOf_X2 : ∀ w ∈ u_ws RX2 TX2 2, w ∈ wsX2_strokesOf := fun _ h => List.mem_cons_of_mem _ (List.mem_append_right _ h)
theorem flX2_strokesOf_15 : FL wsX2_strokesOf RX2 15 2 0 RX2 TX2 2 := ⟨inX2_strokesOf_X2, by decide +kernel, by decide, rfl⟩
theorem kmX2_pointsOf : KM yX2_pointsOf RX2 1 := by unfold KM; decide +kernel
theorem inX2_pointsOf_X2 : ∀ w ∈ u_ws RX2 TX2 2, w ∈ wsX2_pointsOf := fun _ h => List.mem_cons_of_mem _ (List.mem_append_right _ h)
theorem flX2_pointsOf_15 : FL wsX2_pointsOf RX2 15 2 0 RX2 TX2 2 := ⟨inX2_pointsOf_X2, by decide +kernel, by decide, rfl⟩
theorem kmX2_lengthsOf : KM yX2_lengthsOf RX2 1 := by unfold KM; decide +kernel
theorem inX2_lengthsOf_X2 : ∀ w ∈ u_ws RX2 TX2 2, w ∈ wsX2_lengthsOf := fun _ h => List.mem_cons_of_mem _ (List.mem_append_right _ h)
theorem flX2_lengthsOf_15 : FL wsX2_lengthsOf RX2 15 2 0 RX2 TX2 2 := ⟨inX2_lengthsOf_X2, by decide +kernel, by decide, rfl⟩
theorem kmX3_init : KM yX3_init RX3 0 := by unfold KM; decide +kernel
theorem inX3_init_X3 : ∀ w ∈ u_ws RX3 TX3 4, w ∈ wsX3_init := fun _ h => List.mem_cons_of_mem _ (List.mem_append_right _ h)
theorem flX3_init_9 : FL wsX3_init RX3 9 3 2 RX3 TX3 4 := ⟨inX3_init_X3, by decide +kernel, by decide, rfl⟩
theorem flX3_init_13 : FL wsX3_init RX3 13 3 3 RX3 TX3 4 := ⟨inX3_init_X3, by decide +kernel, by decide, rfl⟩
theorem kmX3_take : KM yX3_take RX3 2 := by unfold KM; decide +kernel
theorem inX3_take_X3 : ∀ w ∈ u_ws RX3 TX3 4, w ∈ wsX3_take := fun _ h => List.mem_cons_of_mem _ (List.mem_append_left _ (List.mem_append_right _ h))
theorem inX3_take_X2 : ∀ w ∈ u_ws RX2 TX2 2, w ∈ wsX3_take := fun _ h => List.mem_cons_of_mem _ (List.mem_append_right _ h)
theorem flX3_take_16 : FL wsX3_take RX3 16 3 0 RX3 TX3 4 := ⟨inX3_take_X3, by decide +kernel, by decide, rfl⟩
theorem flX3_take_20 : FL wsX3_take RX3 20 3 1 RX3 TX3 4 := ⟨inX3_take_X3, by decide +kernel, by decide, rfl⟩
theorem flX3_take_13 : FL wsX3_take RX3 13 3 3 RX3 TX3 4 := ⟨inX3_take_X3, by decide +kernel, by decide, rfl⟩
theorem flX3_take_23 : FL wsX3_take RX3 23 2 0 RX2 TX2 2 := ⟨inX3_take_X2, by decide +kernel, by decide, rfl⟩
theorem mnX3_take_43 : Cond.methodLinkNest RX3 43 yX7_cellOf RX7 ∈ nwAll ∧ Cond.static yX7_cellOf ∈ wsX3_take ∧ Cond.initialized yX7_cellOf.cls ∈ wsX3_take := by decide +kernel
theorem kmX3_add : KM yX3_add RX3 1 := by unfold KM; decide +kernel
theorem inX3_add_X3 : ∀ w ∈ u_ws RX3 TX3 4, w ∈ wsX3_add := fun _ h => List.mem_cons_of_mem _ (List.mem_append_right _ h)
theorem flX3_add_13 : FL wsX3_add RX3 13 3 3 RX3 TX3 4 := ⟨inX3_add_X3, by decide +kernel, by decide, rfl⟩
theorem flX3_add_9 : FL wsX3_add RX3 9 3 2 RX3 TX3 4 := ⟨inX3_add_X3, by decide +kernel, by decide, rfl⟩
theorem flX3_add_16 : FL wsX3_add RX3 16 3 0 RX3 TX3 4 := ⟨inX3_add_X3, by decide +kernel, by decide, rfl⟩
theorem flX3_add_20 : FL wsX3_add RX3 20 3 1 RX3 TX3 4 := ⟨inX3_add_X3, by decide +kernel, by decide, rfl⟩
theorem mmX3_add_52 : MM_max wsX3_add RX3 52 := by unfold MM_max; decide +kernel
theorem kmX4_init : KM yX4_init RX4 0 := by unfold KM; decide +kernel
theorem inX4_init_X4 : ∀ w ∈ u_ws RX4 TX4 2, w ∈ wsX4_init := fun _ h => List.mem_cons_of_mem _ (List.mem_append_right _ h)
theorem flX4_init_9 : FL wsX4_init RX4 9 4 1 RX4 TX4 2 := ⟨inX4_init_X4, by decide +kernel, by decide, rfl⟩
theorem kmX4_empty : KM yX4_empty RX4 0 := by unfold KM; decide +kernel
theorem inX4_empty_X4 : ∀ w ∈ u_ws RX4 TX4 2, w ∈ wsX4_empty := fun _ h => List.mem_cons_of_mem _ (List.mem_append_right _ h)
theorem flX4_empty_15 : FL wsX4_empty RX4 15 4 0 RX4 TX4 2 := ⟨inX4_empty_X4, by decide +kernel, by decide, rfl⟩
theorem kmX4_append : KM yX4_append RX4 1 := by unfold KM; decide +kernel
theorem inX4_append_X4 : ∀ w ∈ u_ws RX4 TX4 2, w ∈ wsX4_append := fun _ h => List.mem_cons_of_mem _ (List.mem_append_right _ h)
theorem flX4_append_15 : FL wsX4_append RX4 15 4 0 RX4 TX4 2 := ⟨inX4_append_X4, by decide +kernel, by decide, rfl⟩
theorem flX4_append_9 : FL wsX4_append RX4 9 4 1 RX4 TX4 2 := ⟨inX4_append_X4, by decide +kernel, by decide, rfl⟩
theorem kmX4_parse : KM yX4_parse RX4 1 := by unfold KM; decide +kernel
theorem inX4_parse_X4 : ∀ w ∈ u_ws RX4 TX4 2, w ∈ wsX4_parse := fun _ h => List.mem_cons_of_mem _ (List.mem_append_left _ (List.mem_append_right _ h))
theorem inX4_parse_X5 : ∀ w ∈ u_ws RX5 TX5 3, w ∈ wsX4_parse := fun _ h => List.mem_cons_of_mem _ (List.mem_append_right _ h)
theorem flX4_parse_15 : FL wsX4_parse RX4 15 4 0 RX4 TX4 2 := ⟨inX4_parse_X4, by decide +kernel, by decide, rfl⟩
theorem flX4_parse_9 : FL wsX4_parse RX4 9 4 1 RX4 TX4 2 := ⟨inX4_parse_X4, by decide +kernel, by decide, rfl⟩
theorem kmX4_isDigit : KM yX4_isDigit RX4 1 := by unfold KM; decide +kernel
theorem kmX5_init : KM yX5_init RX5 0 := by unfold KM; decide +kernel
theorem inX5_init_X5 : ∀ w ∈ u_ws RX5 TX5 3, w ∈ wsX5_init := fun _ h => List.mem_cons_of_mem _ (List.mem_append_right _ h)
theorem flX5_init_9 : FL wsX5_init RX5 9 5 1 RX5 TX5 3 := ⟨inX5_init_X5, by decide +kernel, by decide, rfl⟩
theorem flX5_init_15 : FL wsX5_init RX5 15 5 2 RX5 TX5 3 := ⟨inX5_init_X5, by decide +kernel, by decide, rfl⟩
theorem kmX5_empty : KM yX5_empty RX5 0 := by unfold KM; decide +kernel
theorem inX5_empty_X5 : ∀ w ∈ u_ws RX5 TX5 3, w ∈ wsX5_empty := fun _ h => List.mem_cons_of_mem _ (List.mem_append_right _ h)
theorem flX5_empty_18 : FL wsX5_empty RX5 18 5 0 RX5 TX5 3 := ⟨inX5_empty_X5, by decide +kernel, by decide, rfl⟩
theorem kmX5_isLast : KM yX5_isLast RX5 2 := by unfold KM; decide +kernel
theorem inX5_isLast_X5 : ∀ w ∈ u_ws RX5 TX5 3, w ∈ wsX5_isLast := fun _ h => List.mem_cons_of_mem _ (List.mem_append_right _ h)
theorem flX5_isLast_18 : FL wsX5_isLast RX5 18 5 0 RX5 TX5 3 := ⟨inX5_isLast_X5, by decide +kernel, by decide, rfl⟩
theorem flX5_isLast_9 : FL wsX5_isLast RX5 9 5 1 RX5 TX5 3 := ⟨inX5_isLast_X5, by decide +kernel, by decide, rfl⟩
theorem flX5_isLast_15 : FL wsX5_isLast RX5 15 5 2 RX5 TX5 3 := ⟨inX5_isLast_X5, by decide +kernel, by decide, rfl⟩
theorem kmX5_append : KM yX5_append RX5 2 := by unfold KM; decide +kernel
theorem inX5_append_X5 : ∀ w ∈ u_ws RX5 TX5 3, w ∈ wsX5_append := fun _ h => List.mem_cons_of_mem _ (List.mem_append_right _ h)
theorem flX5_append_18 : FL wsX5_append RX5 18 5 0 RX5 TX5 3 := ⟨inX5_append_X5, by decide +kernel, by decide, rfl⟩
theorem flX5_append_9 : FL wsX5_append RX5 9 5 1 RX5 TX5 3 := ⟨inX5_append_X5, by decide +kernel, by decide, rfl⟩
theorem flX5_append_15 : FL wsX5_append RX5 15 5 2 RX5 TX5 3 := ⟨inX5_append_X5, by decide +kernel, by decide, rfl⟩
theorem kmX5_copy : KM yX5_copy RX5 1 := by unfold KM; decide +kernel
theorem inX5_copy_X5 : ∀ w ∈ u_ws RX5 TX5 3, w ∈ wsX5_copy := fun _ h => List.mem_cons_of_mem _ (List.mem_append_right _ h)
theorem flX5_copy_18 : FL wsX5_copy RX5 18 5 0 RX5 TX5 3 := ⟨inX5_copy_X5, by decide +kernel, by decide, rfl⟩
theorem flX5_copy_9 : FL wsX5_copy RX5 9 5 1 RX5 TX5 3 := ⟨inX5_copy_X5, by decide +kernel, by decide, rfl⟩
theorem mcX5_copy_26 : MC wsX5_copy RX5 26 := by unfold MC; decide +kernel
theorem flX5_copy_15 : FL wsX5_copy RX5 15 5 2 RX5 TX5 3 := ⟨inX5_copy_X5, by decide +kernel, by decide, rfl⟩
theorem kmX5_take : KM yX5_take RX5 2 := by unfold KM; decide +kernel
theorem inX5_take_X5 : ∀ w ∈ u_ws RX5 TX5 3, w ∈ wsX5_take := fun _ h => List.mem_cons_of_mem _ (List.mem_append_left _ (List.mem_append_right _ h))
theorem inX5_take_X2 : ∀ w ∈ u_ws RX2 TX2 2, w ∈ wsX5_take := fun _ h => List.mem_cons_of_mem _ (List.mem_append_right _ h)
theorem flX5_take_18 : FL wsX5_take RX5 18 5 0 RX5 TX5 3 := ⟨inX5_take_X5, by decide +kernel, by decide, rfl⟩
theorem kmX5_smoothOnce : KM yX5_smoothOnce RX5 0 := by unfold KM; decide +kernel
theorem inX5_smoothOnce_X5 : ∀ w ∈ u_ws RX5 TX5 3, w ∈ wsX5_smoothOnce := fun _ h => List.mem_cons_of_mem _ (List.mem_append_right _ h)
theorem flX5_smoothOnce_9 : FL wsX5_smoothOnce RX5 9 5 1 RX5 TX5 3 := ⟨inX5_smoothOnce_X5, by decide +kernel, by decide, rfl⟩
theorem flX5_smoothOnce_15 : FL wsX5_smoothOnce RX5 15 5 2 RX5 TX5 3 := ⟨inX5_smoothOnce_X5, by decide +kernel, by decide, rfl⟩
theorem flX5_smoothOnce_18 : FL wsX5_smoothOnce RX5 18 5 0 RX5 TX5 3 := ⟨inX5_smoothOnce_X5, by decide +kernel, by decide, rfl⟩
theorem kmX5_dropRepeats : KM yX5_dropRepeats RX5 0 := by unfold KM; decide +kernel
theorem inX5_dropRepeats_X5 : ∀ w ∈ u_ws RX5 TX5 3, w ∈ wsX5_dropRepeats := fun _ h => List.mem_cons_of_mem _ (List.mem_append_right _ h)
theorem flX5_dropRepeats_18 : FL wsX5_dropRepeats RX5 18 5 0 RX5 TX5 3 := ⟨inX5_dropRepeats_X5, by decide +kernel, by decide, rfl⟩
theorem flX5_dropRepeats_9 : FL wsX5_dropRepeats RX5 9 5 1 RX5 TX5 3 := ⟨inX5_dropRepeats_X5, by decide +kernel, by decide, rfl⟩
theorem flX5_dropRepeats_15 : FL wsX5_dropRepeats RX5 15 5 2 RX5 TX5 3 := ⟨inX5_dropRepeats_X5, by decide +kernel, by decide, rfl⟩
theorem kmX5_dropNear : KM yX5_dropNear RX5 1 := by unfold KM; decide +kernel
theorem inX5_dropNear_X5 : ∀ w ∈ u_ws RX5 TX5 3, w ∈ wsX5_dropNear := fun _ h => List.mem_cons_of_mem _ (List.mem_append_right _ h)
theorem flX5_dropNear_18 : FL wsX5_dropNear RX5 18 5 0 RX5 TX5 3 := ⟨inX5_dropNear_X5, by decide +kernel, by decide, rfl⟩
theorem flX5_dropNear_9 : FL wsX5_dropNear RX5 9 5 1 RX5 TX5 3 := ⟨inX5_dropNear_X5, by decide +kernel, by decide, rfl⟩
theorem flX5_dropNear_15 : FL wsX5_dropNear RX5 15 5 2 RX5 TX5 3 := ⟨inX5_dropNear_X5, by decide +kernel, by decide, rfl⟩
theorem mnX5_dropNear_48 : Cond.methodLinkNest RX5 48 yX7_square RX7 ∈ nwAll ∧ Cond.static yX7_square ∈ wsX5_dropNear ∧ Cond.initialized yX7_square.cls ∈ wsX5_dropNear := by decide +kernel
theorem kmX6_init : KM yX6_init RX6 0 := by unfold KM; decide +kernel
theorem inX6_init_X6 : ∀ w ∈ u_ws RX6 TX6 12, w ∈ wsX6_init := fun _ h => List.mem_cons_of_mem _ (List.mem_append_right _ h)
theorem flX6_init_9 : FL wsX6_init RX6 9 6 1 RX6 TX6 12 := ⟨inX6_init_X6, by decide +kernel, by decide, rfl⟩
theorem flX6_init_15 : FL wsX6_init RX6 15 6 2 RX6 TX6 12 := ⟨inX6_init_X6, by decide +kernel, by decide, rfl⟩
theorem flX6_init_18 : FL wsX6_init RX6 18 6 3 RX6 TX6 12 := ⟨inX6_init_X6, by decide +kernel, by decide, rfl⟩
theorem flX6_init_21 : FL wsX6_init RX6 21 6 4 RX6 TX6 12 := ⟨inX6_init_X6, by decide +kernel, by decide, rfl⟩
theorem flX6_init_24 : FL wsX6_init RX6 24 6 5 RX6 TX6 12 := ⟨inX6_init_X6, by decide +kernel, by decide, rfl⟩
theorem flX6_init_27 : FL wsX6_init RX6 27 6 6 RX6 TX6 12 := ⟨inX6_init_X6, by decide +kernel, by decide, rfl⟩
theorem flX6_init_30 : FL wsX6_init RX6 30 6 7 RX6 TX6 12 := ⟨inX6_init_X6, by decide +kernel, by decide, rfl⟩
theorem flX6_init_33 : FL wsX6_init RX6 33 6 8 RX6 TX6 12 := ⟨inX6_init_X6, by decide +kernel, by decide, rfl⟩
theorem flX6_init_36 : FL wsX6_init RX6 36 6 9 RX6 TX6 12 := ⟨inX6_init_X6, by decide +kernel, by decide, rfl⟩
theorem flX6_init_39 : FL wsX6_init RX6 39 6 10 RX6 TX6 12 := ⟨inX6_init_X6, by decide +kernel, by decide, rfl⟩
theorem flX6_init_42 : FL wsX6_init RX6 42 6 11 RX6 TX6 12 := ⟨inX6_init_X6, by decide +kernel, by decide, rfl⟩
theorem kmX6_group : KM yX6_group RX6 3 := by unfold KM; decide +kernel
theorem inX6_group_X6 : ∀ w ∈ u_ws RX6 TX6 12, w ∈ wsX6_group := fun _ h => List.mem_cons_of_mem _ (List.mem_append_left _ (List.mem_append_left _ (List.mem_append_right _ h)))
theorem inX6_group_X2 : ∀ w ∈ u_ws RX2 TX2 2, w ∈ wsX6_group := fun _ h => List.mem_cons_of_mem _ (List.mem_append_left _ (List.mem_append_right _ h))
theorem inX6_group_X1 : ∀ w ∈ u_ws RX1 TX1 8, w ∈ wsX6_group := fun _ h => List.mem_cons_of_mem _ (List.mem_append_right _ h)
theorem flX6_group_49 : FL wsX6_group RX6 49 6 0 RX6 TX6 12 := ⟨inX6_group_X6, by decide +kernel, by decide, rfl⟩
theorem flX6_group_53 : FL wsX6_group RX6 53 2 0 RX2 TX2 2 := ⟨inX6_group_X2, by decide +kernel, by decide, rfl⟩
theorem flX6_group_9 : FL wsX6_group RX6 9 6 1 RX6 TX6 12 := ⟨inX6_group_X6, by decide +kernel, by decide, rfl⟩
theorem flX6_group_58 : FL wsX6_group RX6 58 1 1 RX1 TX1 8 := ⟨inX6_group_X1, by decide +kernel, by decide, rfl⟩
theorem flX6_group_36 : FL wsX6_group RX6 36 6 9 RX6 TX6 12 := ⟨inX6_group_X6, by decide +kernel, by decide, rfl⟩
theorem flX6_group_39 : FL wsX6_group RX6 39 6 10 RX6 TX6 12 := ⟨inX6_group_X6, by decide +kernel, by decide, rfl⟩
theorem flX6_group_42 : FL wsX6_group RX6 42 6 11 RX6 TX6 12 := ⟨inX6_group_X6, by decide +kernel, by decide, rfl⟩
theorem flX6_group_30 : FL wsX6_group RX6 30 6 7 RX6 TX6 12 := ⟨inX6_group_X6, by decide +kernel, by decide, rfl⟩
theorem flX6_group_21 : FL wsX6_group RX6 21 6 4 RX6 TX6 12 := ⟨inX6_group_X6, by decide +kernel, by decide, rfl⟩
theorem flX6_group_24 : FL wsX6_group RX6 24 6 5 RX6 TX6 12 := ⟨inX6_group_X6, by decide +kernel, by decide, rfl⟩
theorem flX6_group_27 : FL wsX6_group RX6 27 6 6 RX6 TX6 12 := ⟨inX6_group_X6, by decide +kernel, by decide, rfl⟩
theorem flX6_group_33 : FL wsX6_group RX6 33 6 8 RX6 TX6 12 := ⟨inX6_group_X6, by decide +kernel, by decide, rfl⟩
theorem flX6_group_18 : FL wsX6_group RX6 18 6 3 RX6 TX6 12 := ⟨inX6_group_X6, by decide +kernel, by decide, rfl⟩
theorem mmX6_group_67 : MM_max wsX6_group RX6 67 := by unfold MM_max; decide +kernel
theorem kmX6_setOrder : KM yX6_setOrder RX6 2 := by unfold KM; decide +kernel
theorem inX6_setOrder_X2 : ∀ w ∈ u_ws RX2 TX2 2, w ∈ wsX6_setOrder := fun _ h => List.mem_cons_of_mem _ (List.mem_append_left _ (List.mem_append_left _ (List.mem_append_right _ h)))
theorem inX6_setOrder_X6 : ∀ w ∈ u_ws RX6 TX6 12, w ∈ wsX6_setOrder := fun _ h => List.mem_cons_of_mem _ (List.mem_append_left _ (List.mem_append_right _ h))
theorem inX6_setOrder_X1 : ∀ w ∈ u_ws RX1 TX1 8, w ∈ wsX6_setOrder := fun _ h => List.mem_cons_of_mem _ (List.mem_append_right _ h)
theorem flX6_setOrder_53 : FL wsX6_setOrder RX6 53 2 0 RX2 TX2 2 := ⟨inX6_setOrder_X2, by decide +kernel, by decide, rfl⟩
theorem flX6_setOrder_42 : FL wsX6_setOrder RX6 42 6 11 RX6 TX6 12 := ⟨inX6_setOrder_X6, by decide +kernel, by decide, rfl⟩
theorem flX6_setOrder_15 : FL wsX6_setOrder RX6 15 6 2 RX6 TX6 12 := ⟨inX6_setOrder_X6, by decide +kernel, by decide, rfl⟩
theorem flX6_setOrder_9 : FL wsX6_setOrder RX6 9 6 1 RX6 TX6 12 := ⟨inX6_setOrder_X6, by decide +kernel, by decide, rfl⟩
theorem kmX6_isBefore : KM yX6_isBefore RX6 3 := by unfold KM; decide +kernel
theorem inX6_isBefore_X1 : ∀ w ∈ u_ws RX1 TX1 8, w ∈ wsX6_isBefore := fun _ h => List.mem_cons_of_mem _ (List.mem_append_left _ (List.mem_append_right _ h))
theorem inX6_isBefore_X6 : ∀ w ∈ u_ws RX6 TX6 12, w ∈ wsX6_isBefore := fun _ h => List.mem_cons_of_mem _ (List.mem_append_right _ h)
theorem flX6_isBefore_58 : FL wsX6_isBefore RX6 58 1 1 RX1 TX1 8 := ⟨inX6_isBefore_X1, by decide +kernel, by decide, rfl⟩
theorem flX6_isBefore_42 : FL wsX6_isBefore RX6 42 6 11 RX6 TX6 12 := ⟨inX6_isBefore_X6, by decide +kernel, by decide, rfl⟩
end LINKS
