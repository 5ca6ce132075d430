/-! the constructors -/
section CTOR

set_option maxRecDepth 100000 in
set_option maxHeartbeats 4000000 in
theorem c_X0_init (l : Launch) (D : va_G) (kI kC : ClassId) (h0 : Nat) : Con l yX0_init wsX0_init { frames := 1, cells := 2, slots := 5607, locals := 12 } D kI kC [.ref h0] [(h0, .inr (0, [.int (iI 0), .int (iI 0), .int (iI 0), .null, .null]))] (σ := Nat × Nat) (qV (fun u => True)) (fun u => hiW kI h0 u.1 u.2 0 0 0 (fun _ => 0) (fun _ => 0)) := by
  refine Con.ofI (cc := cX0_init) (maxL := 1) (ret := none) (by decide +kernel) rfl rfl (List.forall_mem_cons.mpr ⟨rfl, fun _ h => absurd h List.not_mem_nil⟩) (Nat.le_of_ble_eq_true rfl) ?_
  intro pV eV sV mV bV tV cV AV XC hrV hnm
  have XC : Cx pV _ sV mV _ tV cV cX0_init 1 RX0 wsX0_init AV D kI kC := XC
  change VV _ _ _ _ _ _ _ _ _ _ _ _ _ _ _ _ _ [some (.ref h0)] _ _
  refine V_aload_n XC 0 rfl dX0_init_0 rfl ?_
  refine V_obj XC (by decide +kernel) (Nat.le_of_ble_eq_true rfl) (Nat.le_of_ble_eq_true rfl) dX0_init_1 ?_
  refine V_aload_n XC 0 rfl dX0_init_4 rfl ?_
  refine V_bipush XC dX0_init_5 (by decide) ?_
  refine V_newI XC 7 rfl (by decide) (by decide +kernel) (Nat.le_of_ble_eq_true rfl) (Nat.le_of_ble_eq_true rfl) dX0_init_7 (fun q7 => ?_)
  dsimp only [List.cons_append, List.nil_append]
  refine V_putF (ty := .array .int) XC hnm 3 flX0_init_11 fpX0 (by decide +kernel) rfl rfl rfl rfl 0 rfl (Nat.le_of_ble_eq_true rfl) dX0_init_9 ?_
  dsimp only [List.set]
  refine V_aload_n XC 0 rfl dX0_init_12 rfl ?_
  refine V_sipush XC dX0_init_13 (by decide) ?_
  refine V_newI XC 5600 rfl (by decide) (by decide +kernel) (Nat.le_of_ble_eq_true rfl) (Nat.le_of_ble_eq_true rfl) dX0_init_16 (fun q16 => ?_)
  dsimp only [List.cons_append, List.nil_append]
  refine V_putF (ty := .array .int) XC hnm 4 flX0_init_15 fpX0 (by decide +kernel) rfl rfl rfl rfl 0 rfl (Nat.le_of_ble_eq_true rfl) dX0_init_18 ?_
  dsimp only [List.set]
  refine V_vret XC (q7, q16) hrV rfl dX0_init_21 ?_
  trivial

set_option maxRecDepth 100000 in
set_option maxHeartbeats 4000000 in
theorem c_X2_init (l : Launch) (D : va_G) (kI kC : ClassId) (h0 : Nat) : Con l yX2_init wsX2_init { frames := 1, cells := 1, slots := 800, locals := 12 } D kI kC [.ref h0] [(h0, .inr (2, [.int (iI 0), .null]))] (σ := Nat) (qV (fun u => True)) (fun u => shW kI h0 u 0 (fun _ => 0)) := by
  refine Con.ofI (cc := cX2_init) (maxL := 1) (ret := none) (by decide +kernel) rfl rfl (List.forall_mem_cons.mpr ⟨rfl, fun _ h => absurd h List.not_mem_nil⟩) (Nat.le_of_ble_eq_true rfl) ?_
  intro pV eV sV mV bV tV cV AV XC hrV hnm
  have XC : Cx pV _ sV mV _ tV cV cX2_init 1 RX2 wsX2_init AV D kI kC := XC
  change VV _ _ _ _ _ _ _ _ _ _ _ _ _ _ _ _ _ [some (.ref h0)] _ _
  refine V_aload_n XC 0 rfl dX2_init_0 rfl ?_
  refine V_obj XC (by decide +kernel) (Nat.le_of_ble_eq_true rfl) (Nat.le_of_ble_eq_true rfl) dX2_init_1 ?_
  refine V_aload_n XC 0 rfl dX2_init_4 rfl ?_
  refine V_sipush XC dX2_init_5 (by decide) ?_
  refine V_newI XC 800 rfl (by decide) (by decide +kernel) (Nat.le_of_ble_eq_true rfl) (Nat.le_of_ble_eq_true rfl) dX2_init_8 (fun q8 => ?_)
  dsimp only [List.cons_append, List.nil_append]
  refine V_putF (ty := .array .int) XC hnm 1 flX2_init_9 fpX2 (by decide +kernel) rfl rfl rfl rfl 0 rfl (Nat.le_of_ble_eq_true rfl) dX2_init_10 ?_
  dsimp only [List.set]
  refine V_vret XC (q8) hrV rfl dX2_init_13 ?_
  trivial

set_option maxRecDepth 100000 in
set_option maxHeartbeats 4000000 in
theorem c_X3_init (l : Launch) (D : va_G) (kI kC : ClassId) (h0 : Nat) : Con l yX3_init wsX3_init { frames := 1, cells := 2, slots := 1024, locals := 12 } D kI kC [.ref h0] [(h0, .inr (3, [.int (iI 0), .int (iI 0), .null, .null]))] (σ := Nat × Nat) (qV (fun u => True)) (fun u => taW kI h0 u.1 u.2 0 0 (fun _ => 0) (fun _ => 0)) := by
  refine Con.ofI (cc := cX3_init) (maxL := 1) (ret := none) (by decide +kernel) rfl rfl (List.forall_mem_cons.mpr ⟨rfl, fun _ h => absurd h List.not_mem_nil⟩) (Nat.le_of_ble_eq_true rfl) ?_
  intro pV eV sV mV bV tV cV AV XC hrV hnm
  have XC : Cx pV _ sV mV _ tV cV cX3_init 1 RX3 wsX3_init AV D kI kC := XC
  change VV _ _ _ _ _ _ _ _ _ _ _ _ _ _ _ _ _ [some (.ref h0)] _ _
  refine V_aload_n XC 0 rfl dX3_init_0 rfl ?_
  refine V_obj XC (by decide +kernel) (Nat.le_of_ble_eq_true rfl) (Nat.le_of_ble_eq_true rfl) dX3_init_1 ?_
  refine V_aload_n XC 0 rfl dX3_init_4 rfl ?_
  refine V_sipush XC dX3_init_5 (by decide) ?_
  refine V_newI XC 512 rfl (by decide) (by decide +kernel) (Nat.le_of_ble_eq_true rfl) (Nat.le_of_ble_eq_true rfl) dX3_init_8 (fun q8 => ?_)
  dsimp only [List.cons_append, List.nil_append]
  refine V_putF (ty := .array .int) XC hnm 2 flX3_init_9 fpX3 (by decide +kernel) rfl rfl rfl rfl 0 rfl (Nat.le_of_ble_eq_true rfl) dX3_init_10 ?_
  dsimp only [List.set]
  refine V_aload_n XC 0 rfl dX3_init_13 rfl ?_
  refine V_sipush XC dX3_init_14 (by decide) ?_
  refine V_newI XC 512 rfl (by decide) (by decide +kernel) (Nat.le_of_ble_eq_true rfl) (Nat.le_of_ble_eq_true rfl) dX3_init_17 (fun q17 => ?_)
  dsimp only [List.cons_append, List.nil_append]
  refine V_putF (ty := .array .int) XC hnm 3 flX3_init_13 fpX3 (by decide +kernel) rfl rfl rfl rfl 0 rfl (Nat.le_of_ble_eq_true rfl) dX3_init_19 ?_
  dsimp only [List.set]
  refine V_vret XC (q8, q17) hrV rfl dX3_init_22 ?_
  trivial

set_option maxRecDepth 100000 in
set_option maxHeartbeats 4000000 in
theorem c_X4_init (l : Launch) (D : va_G) (kI kC : ClassId) (h0 : Nat) : Con l yX4_init wsX4_init { frames := 1, cells := 1, slots := 100, locals := 12 } D kI kC [.ref h0] [(h0, .inr (4, [.int (iI 0), .null]))] (σ := Nat) (qV (fun u => True)) (fun u => txW kC h0 u 0 (fun _ => 0)) := by
  refine Con.ofI (cc := cX4_init) (maxL := 1) (ret := none) (by decide +kernel) rfl rfl (List.forall_mem_cons.mpr ⟨rfl, fun _ h => absurd h List.not_mem_nil⟩) (Nat.le_of_ble_eq_true rfl) ?_
  intro pV eV sV mV bV tV cV AV XC hrV hnm
  have XC : Cx pV _ sV mV _ tV cV cX4_init 1 RX4 wsX4_init AV D kI kC := XC
  change VV _ _ _ _ _ _ _ _ _ _ _ _ _ _ _ _ _ [some (.ref h0)] _ _
  refine V_aload_n XC 0 rfl dX4_init_0 rfl ?_
  refine V_obj XC (by decide +kernel) (Nat.le_of_ble_eq_true rfl) (Nat.le_of_ble_eq_true rfl) dX4_init_1 ?_
  refine V_aload_n XC 0 rfl dX4_init_4 rfl ?_
  refine V_bipush XC dX4_init_5 (by decide) ?_
  refine V_newC XC 100 rfl (by decide) (by decide +kernel) (Nat.le_of_ble_eq_true rfl) (Nat.le_of_ble_eq_true rfl) dX4_init_7 (fun q7 => ?_)
  dsimp only [List.cons_append, List.nil_append]
  refine V_putF (ty := .array .char) XC hnm 1 flX4_init_9 fpX4 (by decide +kernel) rfl rfl rfl rfl 0 rfl (Nat.le_of_ble_eq_true rfl) dX4_init_9 ?_
  dsimp only [List.set]
  refine V_vret XC (q7) hrV rfl dX4_init_12 ?_
  trivial

set_option maxRecDepth 100000 in
set_option maxHeartbeats 4000000 in
theorem c_X5_init (l : Launch) (D : va_G) (kI kC : ClassId) (h0 : Nat) : Con l yX5_init wsX5_init { frames := 1, cells := 2, slots := 48, locals := 12 } D kI kC [.ref h0] [(h0, .inr (5, [.int (iI 0), .null, .null]))] (σ := Nat × Nat) (qV (fun u => True)) (fun u => trW kI h0 u.1 u.2 0 (fun _ => 0) (fun _ => 0)) := by
  refine Con.ofI (cc := cX5_init) (maxL := 1) (ret := none) (by decide +kernel) rfl rfl (List.forall_mem_cons.mpr ⟨rfl, fun _ h => absurd h List.not_mem_nil⟩) (Nat.le_of_ble_eq_true rfl) ?_
  intro pV eV sV mV bV tV cV AV XC hrV hnm
  have XC : Cx pV _ sV mV _ tV cV cX5_init 1 RX5 wsX5_init AV D kI kC := XC
  change VV _ _ _ _ _ _ _ _ _ _ _ _ _ _ _ _ _ [some (.ref h0)] _ _
  refine V_aload_n XC 0 rfl dX5_init_0 rfl ?_
  refine V_obj XC (by decide +kernel) (Nat.le_of_ble_eq_true rfl) (Nat.le_of_ble_eq_true rfl) dX5_init_1 ?_
  refine V_aload_n XC 0 rfl dX5_init_4 rfl ?_
  refine V_bipush XC dX5_init_5 (by decide) ?_
  refine V_newI XC 24 rfl (by decide) (by decide +kernel) (Nat.le_of_ble_eq_true rfl) (Nat.le_of_ble_eq_true rfl) dX5_init_7 (fun q7 => ?_)
  dsimp only [List.cons_append, List.nil_append]
  refine V_putF (ty := .array .int) XC hnm 1 flX5_init_9 fpX5 (by decide +kernel) rfl rfl rfl rfl 0 rfl (Nat.le_of_ble_eq_true rfl) dX5_init_9 ?_
  dsimp only [List.set]
  refine V_aload_n XC 0 rfl dX5_init_12 rfl ?_
  refine V_bipush XC dX5_init_13 (by decide) ?_
  refine V_newI XC 24 rfl (by decide) (by decide +kernel) (Nat.le_of_ble_eq_true rfl) (Nat.le_of_ble_eq_true rfl) dX5_init_15 (fun q15 => ?_)
  dsimp only [List.cons_append, List.nil_append]
  refine V_putF (ty := .array .int) XC hnm 2 flX5_init_15 fpX5 (by decide +kernel) rfl rfl rfl rfl 0 rfl (Nat.le_of_ble_eq_true rfl) dX5_init_17 ?_
  dsimp only [List.set]
  refine V_vret XC (q7, q15) hrV rfl dX5_init_20 ?_
  trivial

set_option maxRecDepth 100000 in
set_option maxHeartbeats 4000000 in
theorem c_X1_init (l : Launch) (D : va_G) (kI kC : ClassId) (h0 : Nat) : Con l yX1_init wsX1_init { frames := 1, cells := 7, slots := 112, locals := 12 } D kI kC [.ref h0] [(h0, .inr (1, [.int (iI 0), .null, .null, .null, .null, .null, .null, .null]))] (σ := Nat → Nat) (qV (fun u => u 0 = h0)) (fun u => liW kI u 0 (fun _ => 0) (fun _ => 0) (fun _ => 0) (fun _ => 0) (fun _ => 0) (fun _ => 0) (fun _ => 0)) := by
  refine Con.ofI (cc := cX1_init) (maxL := 1) (ret := none) (by decide +kernel) rfl rfl (List.forall_mem_cons.mpr ⟨rfl, fun _ h => absurd h List.not_mem_nil⟩) (Nat.le_of_ble_eq_true rfl) ?_
  intro pV eV sV mV bV tV cV AV XC hrV hnm
  have XC : Cx pV _ sV mV _ tV cV cX1_init 1 RX1 wsX1_init AV D kI kC := XC
  change VV _ _ _ _ _ _ _ _ _ _ _ _ _ _ _ _ _ [some (.ref h0)] _ _
  refine V_aload_n XC 0 rfl dX1_init_0 rfl ?_
  refine V_obj XC (by decide +kernel) (Nat.le_of_ble_eq_true rfl) (Nat.le_of_ble_eq_true rfl) dX1_init_1 ?_
  refine V_aload_n XC 0 rfl dX1_init_4 rfl ?_
  refine V_bipush XC dX1_init_5 (by decide) ?_
  refine V_newI XC 16 rfl (by decide) (by decide +kernel) (Nat.le_of_ble_eq_true rfl) (Nat.le_of_ble_eq_true rfl) dX1_init_7 (fun q7 => ?_)
  dsimp only [List.cons_append, List.nil_append]
  refine V_putF (ty := .array .int) XC hnm 1 flX1_init_9 fpX1 (by decide +kernel) rfl rfl rfl rfl 0 rfl (Nat.le_of_ble_eq_true rfl) dX1_init_9 ?_
  dsimp only [List.set]
  refine V_aload_n XC 0 rfl dX1_init_12 rfl ?_
  refine V_bipush XC dX1_init_13 (by decide) ?_
  refine V_newI XC 16 rfl (by decide) (by decide +kernel) (Nat.le_of_ble_eq_true rfl) (Nat.le_of_ble_eq_true rfl) dX1_init_15 (fun q15 => ?_)
  dsimp only [List.cons_append, List.nil_append]
  refine V_putF (ty := .array .int) XC hnm 2 flX1_init_15 fpX1 (by decide +kernel) rfl rfl rfl rfl 0 rfl (Nat.le_of_ble_eq_true rfl) dX1_init_17 ?_
  dsimp only [List.set]
  refine V_aload_n XC 0 rfl dX1_init_20 rfl ?_
  refine V_bipush XC dX1_init_21 (by decide) ?_
  refine V_newI XC 16 rfl (by decide) (by decide +kernel) (Nat.le_of_ble_eq_true rfl) (Nat.le_of_ble_eq_true rfl) dX1_init_23 (fun q23 => ?_)
  dsimp only [List.cons_append, List.nil_append]
  refine V_putF (ty := .array .int) XC hnm 3 flX1_init_18 fpX1 (by decide +kernel) rfl rfl rfl rfl 0 rfl (Nat.le_of_ble_eq_true rfl) dX1_init_25 ?_
  dsimp only [List.set]
  refine V_aload_n XC 0 rfl dX1_init_28 rfl ?_
  refine V_bipush XC dX1_init_29 (by decide) ?_
  refine V_newI XC 16 rfl (by decide) (by decide +kernel) (Nat.le_of_ble_eq_true rfl) (Nat.le_of_ble_eq_true rfl) dX1_init_31 (fun q31 => ?_)
  dsimp only [List.cons_append, List.nil_append]
  refine V_putF (ty := .array .int) XC hnm 4 flX1_init_21 fpX1 (by decide +kernel) rfl rfl rfl rfl 0 rfl (Nat.le_of_ble_eq_true rfl) dX1_init_33 ?_
  dsimp only [List.set]
  refine V_aload_n XC 0 rfl dX1_init_36 rfl ?_
  refine V_bipush XC dX1_init_37 (by decide) ?_
  refine V_newI XC 16 rfl (by decide) (by decide +kernel) (Nat.le_of_ble_eq_true rfl) (Nat.le_of_ble_eq_true rfl) dX1_init_39 (fun q39 => ?_)
  dsimp only [List.cons_append, List.nil_append]
  refine V_putF (ty := .array .int) XC hnm 5 flX1_init_24 fpX1 (by decide +kernel) rfl rfl rfl rfl 0 rfl (Nat.le_of_ble_eq_true rfl) dX1_init_41 ?_
  dsimp only [List.set]
  refine V_aload_n XC 0 rfl dX1_init_44 rfl ?_
  refine V_bipush XC dX1_init_45 (by decide) ?_
  refine V_newI XC 16 rfl (by decide) (by decide +kernel) (Nat.le_of_ble_eq_true rfl) (Nat.le_of_ble_eq_true rfl) dX1_init_47 (fun q47 => ?_)
  dsimp only [List.cons_append, List.nil_append]
  refine V_putF (ty := .array .int) XC hnm 6 flX1_init_27 fpX1 (by decide +kernel) rfl rfl rfl rfl 0 rfl (Nat.le_of_ble_eq_true rfl) dX1_init_49 ?_
  dsimp only [List.set]
  refine V_aload_n XC 0 rfl dX1_init_52 rfl ?_
  refine V_bipush XC dX1_init_53 (by decide) ?_
  refine V_newI XC 16 rfl (by decide) (by decide +kernel) (Nat.le_of_ble_eq_true rfl) (Nat.le_of_ble_eq_true rfl) dX1_init_55 (fun q55 => ?_)
  dsimp only [List.cons_append, List.nil_append]
  refine V_putF (ty := .array .int) XC hnm 7 flX1_init_30 fpX1 (by decide +kernel) rfl rfl rfl rfl 0 rfl (Nat.le_of_ble_eq_true rfl) dX1_init_57 ?_
  dsimp only [List.set]
  refine V_vret XC (fun k => [h0, q7, q15, q23, q31, q39, q47, q55].getD k 0) hrV rfl dX1_init_60 ?_
  rfl

set_option maxRecDepth 100000 in
set_option maxHeartbeats 4000000 in
theorem c_X6_init (l : Launch) (D : va_G) (kI kC : ClassId) (h0 : Nat) : Con l yX6_init wsX6_init { frames := 1, cells := 11, slots := 176, locals := 12 } D kI kC [.ref h0] [(h0, .inr (6, [.int (iI 0), .null, .null, .null, .null, .null, .null, .null, .null, .null, .null, .null]))] (σ := Nat → Nat) (qV (fun u => u 0 = h0)) (fun u => woW kI u 0 (fun _ => 0) (fun _ => 0) (fun _ => 0) (fun _ => 0) (fun _ => 0) (fun _ => 0) (fun _ => 0) (fun _ => 0) (fun _ => 0) (fun _ => 0) (fun _ => 0)) := by
  refine Con.ofI (cc := cX6_init) (maxL := 1) (ret := none) (by decide +kernel) rfl rfl (List.forall_mem_cons.mpr ⟨rfl, fun _ h => absurd h List.not_mem_nil⟩) (Nat.le_of_ble_eq_true rfl) ?_
  intro pV eV sV mV bV tV cV AV XC hrV hnm
  have XC : Cx pV _ sV mV _ tV cV cX6_init 1 RX6 wsX6_init AV D kI kC := XC
  change VV _ _ _ _ _ _ _ _ _ _ _ _ _ _ _ _ _ [some (.ref h0)] _ _
  refine V_aload_n XC 0 rfl dX6_init_0 rfl ?_
  refine V_obj XC (by decide +kernel) (Nat.le_of_ble_eq_true rfl) (Nat.le_of_ble_eq_true rfl) dX6_init_1 ?_
  refine V_aload_n XC 0 rfl dX6_init_4 rfl ?_
  refine V_bipush XC dX6_init_5 (by decide) ?_
  refine V_newI XC 16 rfl (by decide) (by decide +kernel) (Nat.le_of_ble_eq_true rfl) (Nat.le_of_ble_eq_true rfl) dX6_init_7 (fun q7 => ?_)
  dsimp only [List.cons_append, List.nil_append]
  refine V_putF (ty := .array .int) XC hnm 1 flX6_init_9 fpX6 (by decide +kernel) rfl rfl rfl rfl 0 rfl (Nat.le_of_ble_eq_true rfl) dX6_init_9 ?_
  dsimp only [List.set]
  refine V_aload_n XC 0 rfl dX6_init_12 rfl ?_
  refine V_bipush XC dX6_init_13 (by decide) ?_
  refine V_newI XC 16 rfl (by decide) (by decide +kernel) (Nat.le_of_ble_eq_true rfl) (Nat.le_of_ble_eq_true rfl) dX6_init_15 (fun q15 => ?_)
  dsimp only [List.cons_append, List.nil_append]
  refine V_putF (ty := .array .int) XC hnm 2 flX6_init_15 fpX6 (by decide +kernel) rfl rfl rfl rfl 0 rfl (Nat.le_of_ble_eq_true rfl) dX6_init_17 ?_
  dsimp only [List.set]
  refine V_aload_n XC 0 rfl dX6_init_20 rfl ?_
  refine V_bipush XC dX6_init_21 (by decide) ?_
  refine V_newI XC 16 rfl (by decide) (by decide +kernel) (Nat.le_of_ble_eq_true rfl) (Nat.le_of_ble_eq_true rfl) dX6_init_23 (fun q23 => ?_)
  dsimp only [List.cons_append, List.nil_append]
  refine V_putF (ty := .array .int) XC hnm 3 flX6_init_18 fpX6 (by decide +kernel) rfl rfl rfl rfl 0 rfl (Nat.le_of_ble_eq_true rfl) dX6_init_25 ?_
  dsimp only [List.set]
  refine V_aload_n XC 0 rfl dX6_init_28 rfl ?_
  refine V_bipush XC dX6_init_29 (by decide) ?_
  refine V_newI XC 16 rfl (by decide) (by decide +kernel) (Nat.le_of_ble_eq_true rfl) (Nat.le_of_ble_eq_true rfl) dX6_init_31 (fun q31 => ?_)
  dsimp only [List.cons_append, List.nil_append]
  refine V_putF (ty := .array .int) XC hnm 4 flX6_init_21 fpX6 (by decide +kernel) rfl rfl rfl rfl 0 rfl (Nat.le_of_ble_eq_true rfl) dX6_init_33 ?_
  dsimp only [List.set]
  refine V_aload_n XC 0 rfl dX6_init_36 rfl ?_
  refine V_bipush XC dX6_init_37 (by decide) ?_
  refine V_newI XC 16 rfl (by decide) (by decide +kernel) (Nat.le_of_ble_eq_true rfl) (Nat.le_of_ble_eq_true rfl) dX6_init_39 (fun q39 => ?_)
  dsimp only [List.cons_append, List.nil_append]
  refine V_putF (ty := .array .int) XC hnm 5 flX6_init_24 fpX6 (by decide +kernel) rfl rfl rfl rfl 0 rfl (Nat.le_of_ble_eq_true rfl) dX6_init_41 ?_
  dsimp only [List.set]
  refine V_aload_n XC 0 rfl dX6_init_44 rfl ?_
  refine V_bipush XC dX6_init_45 (by decide) ?_
  refine V_newI XC 16 rfl (by decide) (by decide +kernel) (Nat.le_of_ble_eq_true rfl) (Nat.le_of_ble_eq_true rfl) dX6_init_47 (fun q47 => ?_)
  dsimp only [List.cons_append, List.nil_append]
  refine V_putF (ty := .array .int) XC hnm 6 flX6_init_27 fpX6 (by decide +kernel) rfl rfl rfl rfl 0 rfl (Nat.le_of_ble_eq_true rfl) dX6_init_49 ?_
  dsimp only [List.set]
  refine V_aload_n XC 0 rfl dX6_init_52 rfl ?_
  refine V_bipush XC dX6_init_53 (by decide) ?_
  refine V_newI XC 16 rfl (by decide) (by decide +kernel) (Nat.le_of_ble_eq_true rfl) (Nat.le_of_ble_eq_true rfl) dX6_init_55 (fun q55 => ?_)
  dsimp only [List.cons_append, List.nil_append]
  refine V_putF (ty := .array .int) XC hnm 7 flX6_init_30 fpX6 (by decide +kernel) rfl rfl rfl rfl 0 rfl (Nat.le_of_ble_eq_true rfl) dX6_init_57 ?_
  dsimp only [List.set]
  refine V_aload_n XC 0 rfl dX6_init_60 rfl ?_
  refine V_bipush XC dX6_init_61 (by decide) ?_
  refine V_newI XC 16 rfl (by decide) (by decide +kernel) (Nat.le_of_ble_eq_true rfl) (Nat.le_of_ble_eq_true rfl) dX6_init_63 (fun q63 => ?_)
  dsimp only [List.cons_append, List.nil_append]
  refine V_putF (ty := .array .int) XC hnm 8 flX6_init_33 fpX6 (by decide +kernel) rfl rfl rfl rfl 0 rfl (Nat.le_of_ble_eq_true rfl) dX6_init_65 ?_
  dsimp only [List.set]
  refine V_aload_n XC 0 rfl dX6_init_68 rfl ?_
  refine V_bipush XC dX6_init_69 (by decide) ?_
  refine V_newI XC 16 rfl (by decide) (by decide +kernel) (Nat.le_of_ble_eq_true rfl) (Nat.le_of_ble_eq_true rfl) dX6_init_71 (fun q71 => ?_)
  dsimp only [List.cons_append, List.nil_append]
  refine V_putF (ty := .array .int) XC hnm 9 flX6_init_36 fpX6 (by decide +kernel) rfl rfl rfl rfl 0 rfl (Nat.le_of_ble_eq_true rfl) dX6_init_73 ?_
  dsimp only [List.set]
  refine V_aload_n XC 0 rfl dX6_init_76 rfl ?_
  refine V_bipush XC dX6_init_77 (by decide) ?_
  refine V_newI XC 16 rfl (by decide) (by decide +kernel) (Nat.le_of_ble_eq_true rfl) (Nat.le_of_ble_eq_true rfl) dX6_init_79 (fun q79 => ?_)
  dsimp only [List.cons_append, List.nil_append]
  refine V_putF (ty := .array .int) XC hnm 10 flX6_init_39 fpX6 (by decide +kernel) rfl rfl rfl rfl 0 rfl (Nat.le_of_ble_eq_true rfl) dX6_init_81 ?_
  dsimp only [List.set]
  refine V_aload_n XC 0 rfl dX6_init_84 rfl ?_
  refine V_bipush XC dX6_init_85 (by decide) ?_
  refine V_newI XC 16 rfl (by decide) (by decide +kernel) (Nat.le_of_ble_eq_true rfl) (Nat.le_of_ble_eq_true rfl) dX6_init_87 (fun q87 => ?_)
  dsimp only [List.cons_append, List.nil_append]
  refine V_putF (ty := .array .int) XC hnm 11 flX6_init_42 fpX6 (by decide +kernel) rfl rfl rfl rfl 0 rfl (Nat.le_of_ble_eq_true rfl) dX6_init_89 ?_
  dsimp only [List.set]
  refine V_vret XC (fun k => [h0, q7, q15, q23, q31, q39, q47, q55, q63, q71, q79, q87].getD k 0) hrV rfl dX6_init_92 ?_
  rfl

set_option maxRecDepth 100000 in
set_option maxHeartbeats 4000000 in
theorem c_X7_init (l : Launch) (D : va_G) (kI kC : ClassId) (h0 : Nat) : Con l yX7_init wsX7_init { frames := 2, cells := 38, slots := 8756, locals := 32 } D kI kC [.ref h0] [(h0, .inr (7, [.null, .null, .null, .null, .null, .null, .null, .null, .null, .int (iI 0)]))] (σ := (Nat → Nat) × (Nat → Nat) × (Nat → Nat)) (qV (fun u => u.1 0 = h0)) (fun u => padO u.1 u.2.1 u.2.2 20 :: (trW kI (u.1 1) (u.1 2) (u.1 3) 0 (fun _ => 0) (fun _ => 0) ++ (txW kC (u.1 4) (u.1 5) 0 (fun _ => 0) ++ (shW kI (u.1 6) (u.1 7) 0 (fun _ => 0) ++ (shW kI (u.1 8) (u.1 9) 0 (fun _ => 0) ++ (trW kI (u.1 10) (u.1 11) (u.1 12) 0 (fun _ => 0) (fun _ => 0) ++ (hiW kI (u.1 13) (u.1 14) (u.1 15) 0 0 0 (fun _ => 0) (fun _ => 0) ++ (liW kI u.2.1 0 (fun _ => 0) (fun _ => 0) (fun _ => 0) (fun _ => 0) (fun _ => 0) (fun _ => 0) (fun _ => 0) ++ (woW kI u.2.2 0 (fun _ => 0) (fun _ => 0) (fun _ => 0) (fun _ => 0) (fun _ => 0) (fun _ => 0) (fun _ => 0) (fun _ => 0) (fun _ => 0) (fun _ => 0) (fun _ => 0) ++ taW kI (u.1 36) (u.1 37) (u.1 38) 0 0 (fun _ => 0) (fun _ => 0)))))))))) := by
  refine Con.ofI (cc := cX7_init) (maxL := 1) (ret := none) (by decide +kernel) rfl rfl (List.forall_mem_cons.mpr ⟨rfl, fun _ h => absurd h List.not_mem_nil⟩) (Nat.le_of_ble_eq_true rfl) ?_
  intro pV eV sV mV bV tV cV AV XC hrV hnm
  have XC : Cx pV _ sV mV _ tV cV cX7_init 1 RX7 wsX7_init AV D kI kC := XC
  change VV _ _ _ _ _ _ _ _ _ _ _ _ _ _ _ _ _ [some (.ref h0)] _ _
  refine V_aload_n XC 0 rfl dX7_init_0 rfl ?_
  refine V_obj XC (by decide +kernel) (Nat.le_of_ble_eq_true rfl) (Nat.le_of_ble_eq_true rfl) dX7_init_1 ?_
  refine V_aload_n XC 0 rfl dX7_init_4 rfl ?_
  refine V_new (ci := 5) (fs := [.int (iI 0), .null, .null]) (C := RX5) (T := TX5) (N := 3) XC inX7_init_X5 fpX5 (by decide +kernel) rfl (fun j hj => by rcases (show j = 0 ∨ j = 1 ∨ j = 2 by omega) with rfl | rfl | rfl <;> rfl) (Nat.le_of_ble_eq_true rfl) (Nat.le_of_ble_eq_true rfl) dX7_init_5 (fun q5 => ?_)
  refine V_dup XC dX7_init_8 rfl ?_
  refine V_makeN (w0 := _) (host := RX7) XC (c_X5_init l D kI kC _) gX7_init_X5_init_n11 (by decide +kernel) (by decide +kernel) rfl rfl kmX5_init ⟨⟨(Nat.le_of_ble_eq_true rfl), (Nat.le_of_ble_eq_true rfl)⟩, (Nat.le_of_ble_eq_true rfl), (Nat.le_of_ble_eq_true rfl)⟩ (Nat.le_of_ble_eq_true rfl) rfl dX7_init_9 (fun u9 hu9 => ?_)
  try (obtain rfl := hu9)
  dsimp only [List.cons_append, List.nil_append, trW, shW, txW, hiW, liW, woW, taW]
  refine V_putF (ty := .object "InkPad$Trail") XC hnm 0 flX7_init_12 fpX7 (by decide +kernel) rfl rfl rfl rfl 0 rfl (Nat.le_of_ble_eq_true rfl) dX7_init_12 ?_
  dsimp only [List.set]
  refine V_aload_n XC 0 rfl dX7_init_15 rfl ?_
  refine V_new (ci := 4) (fs := [.int (iI 0), .null]) (C := RX4) (T := TX4) (N := 2) XC inX7_init_X4 fpX4 (by decide +kernel) rfl (fun j hj => by rcases (show j = 0 ∨ j = 1 by omega) with rfl | rfl <;> rfl) (Nat.le_of_ble_eq_true rfl) (Nat.le_of_ble_eq_true rfl) dX7_init_16 (fun q16 => ?_)
  refine V_dup XC dX7_init_19 rfl ?_
  refine V_makeN (w0 := _) (host := RX7) XC (c_X4_init l D kI kC _) gX7_init_X4_init_n18 (by decide +kernel) (by decide +kernel) rfl rfl kmX4_init ⟨⟨(Nat.le_of_ble_eq_true rfl), (Nat.le_of_ble_eq_true rfl)⟩, (Nat.le_of_ble_eq_true rfl), (Nat.le_of_ble_eq_true rfl)⟩ (Nat.le_of_ble_eq_true rfl) rfl dX7_init_20 (fun u20 hu20 => ?_)
  try (obtain rfl := hu20)
  dsimp only [List.cons_append, List.nil_append, trW, shW, txW, hiW, liW, woW, taW]
  refine V_putF (ty := .object "InkPad$Text") XC hnm 1 flX7_init_19 fpX7 (by decide +kernel) rfl rfl rfl rfl 0 rfl (Nat.le_of_ble_eq_true rfl) dX7_init_23 ?_
  dsimp only [List.set]
  refine V_aload_n XC 0 rfl dX7_init_26 rfl ?_
  refine V_new (ci := 2) (fs := [.int (iI 0), .null]) (C := RX2) (T := TX2) (N := 2) XC inX7_init_X2 fpX2 (by decide +kernel) rfl (fun j hj => by rcases (show j = 0 ∨ j = 1 by omega) with rfl | rfl <;> rfl) (Nat.le_of_ble_eq_true rfl) (Nat.le_of_ble_eq_true rfl) dX7_init_27 (fun q27 => ?_)
  refine V_dup XC dX7_init_30 rfl ?_
  refine V_makeN (w0 := _) (host := RX7) XC (c_X2_init l D kI kC _) gX7_init_X2_init_n25 (by decide +kernel) (by decide +kernel) rfl rfl kmX2_init ⟨⟨(Nat.le_of_ble_eq_true rfl), (Nat.le_of_ble_eq_true rfl)⟩, (Nat.le_of_ble_eq_true rfl), (Nat.le_of_ble_eq_true rfl)⟩ (Nat.le_of_ble_eq_true rfl) rfl dX7_init_31 (fun u31 hu31 => ?_)
  try (obtain rfl := hu31)
  dsimp only [List.cons_append, List.nil_append, trW, shW, txW, hiW, liW, woW, taW]
  refine V_putF (ty := .object "InkPad$Sheet") XC hnm 2 flX7_init_26 fpX7 (by decide +kernel) rfl rfl rfl rfl 0 rfl (Nat.le_of_ble_eq_true rfl) dX7_init_34 ?_
  dsimp only [List.set]
  refine V_aload_n XC 0 rfl dX7_init_37 rfl ?_
  refine V_new (ci := 2) (fs := [.int (iI 0), .null]) (C := RX2) (T := TX2) (N := 2) XC inX7_init_X2 fpX2 (by decide +kernel) rfl (fun j hj => by rcases (show j = 0 ∨ j = 1 by omega) with rfl | rfl <;> rfl) (Nat.le_of_ble_eq_true rfl) (Nat.le_of_ble_eq_true rfl) dX7_init_38 (fun q38 => ?_)
  refine V_dup XC dX7_init_41 rfl ?_
  refine V_makeN (w0 := _) (host := RX7) XC (c_X2_init l D kI kC _) gX7_init_X2_init_n25 (by decide +kernel) (by decide +kernel) rfl rfl kmX2_init ⟨⟨(Nat.le_of_ble_eq_true rfl), (Nat.le_of_ble_eq_true rfl)⟩, (Nat.le_of_ble_eq_true rfl), (Nat.le_of_ble_eq_true rfl)⟩ (Nat.le_of_ble_eq_true rfl) rfl dX7_init_42 (fun u42 hu42 => ?_)
  try (obtain rfl := hu42)
  dsimp only [List.cons_append, List.nil_append, trW, shW, txW, hiW, liW, woW, taW]
  refine V_putF (ty := .object "InkPad$Sheet") XC hnm 3 flX7_init_30 fpX7 (by decide +kernel) rfl rfl rfl rfl 0 rfl (Nat.le_of_ble_eq_true rfl) dX7_init_45 ?_
  dsimp only [List.set]
  refine V_aload_n XC 0 rfl dX7_init_48 rfl ?_
  refine V_new (ci := 5) (fs := [.int (iI 0), .null, .null]) (C := RX5) (T := TX5) (N := 3) XC inX7_init_X5 fpX5 (by decide +kernel) rfl (fun j hj => by rcases (show j = 0 ∨ j = 1 ∨ j = 2 by omega) with rfl | rfl | rfl <;> rfl) (Nat.le_of_ble_eq_true rfl) (Nat.le_of_ble_eq_true rfl) dX7_init_49 (fun q49 => ?_)
  refine V_dup XC dX7_init_52 rfl ?_
  refine V_makeN (w0 := _) (host := RX7) XC (c_X5_init l D kI kC _) gX7_init_X5_init_n11 (by decide +kernel) (by decide +kernel) rfl rfl kmX5_init ⟨⟨(Nat.le_of_ble_eq_true rfl), (Nat.le_of_ble_eq_true rfl)⟩, (Nat.le_of_ble_eq_true rfl), (Nat.le_of_ble_eq_true rfl)⟩ (Nat.le_of_ble_eq_true rfl) rfl dX7_init_53 (fun u53 hu53 => ?_)
  try (obtain rfl := hu53)
  dsimp only [List.cons_append, List.nil_append, trW, shW, txW, hiW, liW, woW, taW]
  refine V_putF (ty := .object "InkPad$Trail") XC hnm 4 flX7_init_33 fpX7 (by decide +kernel) rfl rfl rfl rfl 0 rfl (Nat.le_of_ble_eq_true rfl) dX7_init_56 ?_
  dsimp only [List.set]
  refine V_aload_n XC 0 rfl dX7_init_59 rfl ?_
  refine V_new (ci := 0) (fs := [.int (iI 0), .int (iI 0), .int (iI 0), .null, .null]) (C := RX0) (T := TX0) (N := 5) XC inX7_init_X0 fpX0 (by decide +kernel) rfl (fun j hj => by rcases (show j = 0 ∨ j = 1 ∨ j = 2 ∨ j = 3 ∨ j = 4 by omega) with rfl | rfl | rfl | rfl | rfl <;> rfl) (Nat.le_of_ble_eq_true rfl) (Nat.le_of_ble_eq_true rfl) dX7_init_60 (fun q60 => ?_)
  refine V_dup XC dX7_init_63 rfl ?_
  refine V_makeN (w0 := _) (host := RX7) XC (c_X0_init l D kI kC _) gX7_init_X0_init_n38 (by decide +kernel) (by decide +kernel) rfl rfl kmX0_init ⟨⟨(Nat.le_of_ble_eq_true rfl), (Nat.le_of_ble_eq_true rfl)⟩, (Nat.le_of_ble_eq_true rfl), (Nat.le_of_ble_eq_true rfl)⟩ (Nat.le_of_ble_eq_true rfl) rfl dX7_init_64 (fun u64 hu64 => ?_)
  try (obtain rfl := hu64)
  dsimp only [List.cons_append, List.nil_append, trW, shW, txW, hiW, liW, woW, taW]
  refine V_putF (ty := .object "InkPad$History") XC hnm 5 flX7_init_39 fpX7 (by decide +kernel) rfl rfl rfl rfl 0 rfl (Nat.le_of_ble_eq_true rfl) dX7_init_67 ?_
  dsimp only [List.set]
  refine V_aload_n XC 0 rfl dX7_init_70 rfl ?_
  refine V_new (ci := 1) (fs := [.int (iI 0), .null, .null, .null, .null, .null, .null, .null]) (C := RX1) (T := TX1) (N := 8) XC inX7_init_X1 fpX1 (by decide +kernel) rfl (fun j hj => by rcases (show j = 0 ∨ j = 1 ∨ j = 2 ∨ j = 3 ∨ j = 4 ∨ j = 5 ∨ j = 6 ∨ j = 7 by omega) with rfl | rfl | rfl | rfl | rfl | rfl | rfl | rfl <;> rfl) (Nat.le_of_ble_eq_true rfl) (Nat.le_of_ble_eq_true rfl) dX7_init_71 (fun q71 => ?_)
  refine V_dup XC dX7_init_74 rfl ?_
  refine V_makeN (w0 := _) (host := RX7) XC (c_X1_init l D kI kC _) gX7_init_X1_init_n45 (by decide +kernel) (by decide +kernel) rfl rfl kmX1_init ⟨⟨(Nat.le_of_ble_eq_true rfl), (Nat.le_of_ble_eq_true rfl)⟩, (Nat.le_of_ble_eq_true rfl), (Nat.le_of_ble_eq_true rfl)⟩ (Nat.le_of_ble_eq_true rfl) rfl dX7_init_75 (fun u75 hu75 => ?_)
  try (obtain rfl := hu75)
  dsimp only [List.cons_append, List.nil_append, trW, shW, txW, hiW, liW, woW, taW]
  refine V_putF (ty := .object "InkPad$Lines") XC hnm 6 flX7_init_46 fpX7 (by decide +kernel) rfl rfl rfl rfl 0 rfl (Nat.le_of_ble_eq_true rfl) dX7_init_78 ?_
  dsimp only [List.set]
  refine V_aload_n XC 0 rfl dX7_init_81 rfl ?_
  refine V_new (ci := 6) (fs := [.int (iI 0), .null, .null, .null, .null, .null, .null, .null, .null, .null, .null, .null]) (C := RX6) (T := TX6) (N := 12) XC inX7_init_X6 fpX6 (by decide +kernel) rfl (fun j hj => by rcases (show j = 0 ∨ j = 1 ∨ j = 2 ∨ j = 3 ∨ j = 4 ∨ j = 5 ∨ j = 6 ∨ j = 7 ∨ j = 8 ∨ j = 9 ∨ j = 10 ∨ j = 11 by omega) with rfl | rfl | rfl | rfl | rfl | rfl | rfl | rfl | rfl | rfl | rfl | rfl <;> rfl) (Nat.le_of_ble_eq_true rfl) (Nat.le_of_ble_eq_true rfl) dX7_init_82 (fun q82 => ?_)
  refine V_dup XC dX7_init_85 rfl ?_
  refine V_makeN (w0 := _) (host := RX7) XC (c_X6_init l D kI kC _) gX7_init_X6_init_n52 (by decide +kernel) (by decide +kernel) rfl rfl kmX6_init ⟨⟨(Nat.le_of_ble_eq_true rfl), (Nat.le_of_ble_eq_true rfl)⟩, (Nat.le_of_ble_eq_true rfl), (Nat.le_of_ble_eq_true rfl)⟩ (Nat.le_of_ble_eq_true rfl) rfl dX7_init_86 (fun u86 hu86 => ?_)
  try (obtain rfl := hu86)
  dsimp only [List.cons_append, List.nil_append, trW, shW, txW, hiW, liW, woW, taW]
  refine V_putF (ty := .object "InkPad$Words") XC hnm 7 flX7_init_53 fpX7 (by decide +kernel) rfl rfl rfl rfl 0 rfl (Nat.le_of_ble_eq_true rfl) dX7_init_89 ?_
  dsimp only [List.set]
  refine V_aload_n XC 0 rfl dX7_init_92 rfl ?_
  refine V_new (ci := 3) (fs := [.int (iI 0), .int (iI 0), .null, .null]) (C := RX3) (T := TX3) (N := 4) XC inX7_init_X3 fpX3 (by decide +kernel) rfl (fun j hj => by rcases (show j = 0 ∨ j = 1 ∨ j = 2 ∨ j = 3 by omega) with rfl | rfl | rfl | rfl <;> rfl) (Nat.le_of_ble_eq_true rfl) (Nat.le_of_ble_eq_true rfl) dX7_init_93 (fun q93 => ?_)
  refine V_dup XC dX7_init_96 rfl ?_
  refine V_makeN (w0 := _) (host := RX7) XC (c_X3_init l D kI kC _) gX7_init_X3_init_n59 (by decide +kernel) (by decide +kernel) rfl rfl kmX3_init ⟨⟨(Nat.le_of_ble_eq_true rfl), (Nat.le_of_ble_eq_true rfl)⟩, (Nat.le_of_ble_eq_true rfl), (Nat.le_of_ble_eq_true rfl)⟩ (Nat.le_of_ble_eq_true rfl) rfl dX7_init_97 (fun u97 hu97 => ?_)
  try (obtain rfl := hu97)
  dsimp only [List.cons_append, List.nil_append, trW, shW, txW, hiW, liW, woW, taW]
  refine V_putF (ty := .object "InkPad$Tally") XC hnm 8 flX7_init_60 fpX7 (by decide +kernel) rfl rfl rfl rfl 0 rfl (Nat.le_of_ble_eq_true rfl) dX7_init_100 ?_
  dsimp only [List.set]
  refine V_aload_n XC 0 rfl dX7_init_103 rfl ?_
  refine V_bipush XC dX7_init_104 (by decide) ?_
  refine V_putI XC 9 flX7_init_64 fpX7 pdX7_9 rfl 0 rfl (Nat.le_of_ble_eq_true rfl) dX7_init_106 ?_
  dsimp only [List.set]
  refine V_vret XC (fun k => [h0, q5, u9.1, u9.2, q16, u20, q27, u31, q38, u42, q49, u53.1, u53.2, q60, u64.1, u64.2, 0, 0, 0, 0, 0, 0, 0, 0, 0, 0, 0, 0, 0, 0, 0, 0, 0, 0, 0, 0, q93, u97.1, u97.2].getD k 0, u75, u86) hrV rfl dX7_init_109 ?_
  rfl

end CTOR
