/-! the class's Sheet -/
section SHEET

set_option maxRecDepth 100000 in
set_option maxHeartbeats 4000000 in
theorem c_X2_empty (l : Launch) (D : va_G) (kI kC : ClassId) (h0 h1 : Nat) (n : Int) (F : Nat → Int)  : Con l yX2_empty wsX2_empty { frames := 0, cells := 0, slots := 0, locals := 0 } D kI kC [.ref h0] (shW kI h0 h1 n F) (σ := Unit) (qV (fun u => True)) (fun u => shW kI h0 h1 0 F) := by
  refine Con.of (cc := cX2_empty) (maxL := 1) (ret := none) (by decide +kernel) rfl (List.forall_mem_cons.mpr ⟨rfl, fun _ h => absurd h List.not_mem_nil⟩) (Nat.le_of_ble_eq_true rfl) ?_
  intro pV eV sV mV bV tV cV AV XC hrV
  have XC : Cx pV _ sV mV _ tV cV cX2_empty 1 RX2 wsX2_empty AV D kI kC := XC
  change VV _ _ _ _ _ _ _ _ _ _ _ _ _ _ _ _ _ [some (.ref h0)] _ _
  dsimp only [shW]
  refine V_aload_n XC 0 rfl dX2_empty_0 rfl ?_
  refine V_iconst XC dX2_empty_1 ?_
  refine V_putI XC 0 flX2_empty_15 fpX2 pdX2_0 rfl 0 rfl (Nat.le_of_ble_eq_true rfl) dX2_empty_2 ?_
  dsimp only [List.set]
  refine V_vret XC (()) hrV rfl dX2_empty_5 ?_
  trivial

set_option maxRecDepth 100000 in
set_option maxHeartbeats 4000000 in
theorem c_X2_has (l : Launch) (D : va_G) (kI kC : ClassId) (h0 h1 : Nat) (n : Int) (F : Nat → Int) (z : Int) (hz : IR z) (hn : IR n) : ConR l yX2_has wsX2_has { frames := 0, cells := 0, slots := 0, locals := 0 } D kI kC [.ref h0, .int (iI z)] (shW kI h0 h1 n F) (fun r => r = bI (decide (0 ≤ z ∧ z < n))) := by
  refine Con.of (cc := cX2_has) (maxL := 2) (ret := (some .boolean)) (by decide +kernel) rfl (List.forall_mem_cons.mpr ⟨rfl, List.forall_mem_cons.mpr ⟨rfl, fun _ h => absurd h List.not_mem_nil⟩⟩) (Nat.le_of_ble_eq_true rfl) ?_
  intro pV eV sV mV bV tV cV AV XC hrV
  have XC : Cx pV _ sV mV _ tV cV cX2_has 2 RX2 wsX2_has AV D kI kC := XC
  change VV _ _ _ _ _ _ _ _ _ _ _ _ _ _ _ _ _ [some (.ref h0), some (.int (iI z))] _ _
  dsimp only [shW]
  refine V_iload_n XC 1 rfl dX2_has_0 rfl ?_
  refine V_if_lt XC 16 dX2_has_1 (by decide) (by first | assumption | (unfold IR; omega)) (fun h1 => ?_) (fun h1 => ?_)
  · skip
    refine V_iconst XC dX2_has_16 ?_
    refine V_zret (r := false) XC () hrV rfl dX2_has_17 ?_
    try dsimp only
    first | rfl | exact congrArg bI (decide_eq_true (by omega)).symm | exact congrArg bI (decide_eq_false (by omega)).symm
  refine V_iload_n XC 1 rfl dX2_has_4 rfl ?_
  refine V_aload_n XC 0 rfl dX2_has_5 rfl ?_
  refine V_get XC 0 flX2_has_15 0 rfl rfl dX2_has_6 ?_
  refine V_icmp_ge XC 16 dX2_has_9 (by decide) (by first | assumption | (unfold IR; omega)) (by first | assumption | (unfold IR; omega)) (fun h9 => ?_) (fun h9 => ?_)
  · skip
    refine V_iconst XC dX2_has_16 ?_
    refine V_zret (r := false) XC () hrV rfl dX2_has_17 ?_
    try dsimp only
    first | rfl | exact congrArg bI (decide_eq_true (by omega)).symm | exact congrArg bI (decide_eq_false (by omega)).symm
  refine V_iconst XC dX2_has_12 ?_
  refine V_goto XC 17 dX2_has_13 (by decide) ?_
  refine V_zret (r := true) XC () hrV rfl dX2_has_17 ?_
  try dsimp only
  first | rfl | exact congrArg bI (decide_eq_true (by omega)).symm | exact congrArg bI (decide_eq_false (by omega)).symm

set_option maxRecDepth 100000 in
set_option maxHeartbeats 4000000 in
theorem c_X2_colorOf (l : Launch) (D : va_G) (kI kC : ClassId) (h0 h1 : Nat) (n : Int) (F : Nat → Int) (k : Nat) (hk : k < 16) : ConR l yX2_colorOf wsX2_colorOf { frames := 0, cells := 0, slots := 0, locals := 0 } D kI kC [.ref h0, .int (iI (k : Int))] (shW kI h0 h1 n F) (fun r => r = F (50 * k)) := by
  refine Con.of (cc := cX2_colorOf) (maxL := 2) (ret := (some .int)) (by decide +kernel) rfl (List.forall_mem_cons.mpr ⟨rfl, List.forall_mem_cons.mpr ⟨rfl, fun _ h => absurd h List.not_mem_nil⟩⟩) (Nat.le_of_ble_eq_true rfl) ?_
  intro pV eV sV mV bV tV cV AV XC hrV
  have XC : Cx pV _ sV mV _ tV cV cX2_colorOf 2 RX2 wsX2_colorOf AV D kI kC := XC
  change VV _ _ _ _ _ _ _ _ _ _ _ _ _ _ _ _ _ [some (.ref h0), some (.int (iI (k : Int)))] _ _
  dsimp only [shW]
  refine V_aload_n XC 0 rfl dX2_colorOf_0 rfl ?_
  refine V_get XC 1 flX2_colorOf_9 0 rfl rfl dX2_colorOf_1 ?_
  refine V_iload_n XC 1 rfl dX2_colorOf_4 rfl ?_
  refine V_bipush XC dX2_colorOf_5 (by decide) ?_
  refine V_imul XC dX2_colorOf_7 ?_
  refine V_iconst XC dX2_colorOf_8 ?_
  refine V_iadd XC dX2_colorOf_9 ?_
  refine V_iald XC (50 * k) 1 rfl (by omega) (by omega) (by decide) dX2_colorOf_10 ?_
  refine V_iret XC () hrV rfl dX2_colorOf_11 ?_
  first | rfl | assumption | omega

set_option maxRecDepth 100000 in
set_option maxHeartbeats 4000000 in
theorem c_X2_size (l : Launch) (D : va_G) (kI kC : ClassId) (h0 h1 : Nat) (n : Int) (F : Nat → Int) (k : Nat) (hk : k < 16) : ConR l yX2_size wsX2_size { frames := 0, cells := 0, slots := 0, locals := 0 } D kI kC [.ref h0, .int (iI (k : Int))] (shW kI h0 h1 n F) (fun r => r = F (50 * k + 1)) := by
  refine Con.of (cc := cX2_size) (maxL := 2) (ret := (some .int)) (by decide +kernel) rfl (List.forall_mem_cons.mpr ⟨rfl, List.forall_mem_cons.mpr ⟨rfl, fun _ h => absurd h List.not_mem_nil⟩⟩) (Nat.le_of_ble_eq_true rfl) ?_
  intro pV eV sV mV bV tV cV AV XC hrV
  have XC : Cx pV _ sV mV _ tV cV cX2_size 2 RX2 wsX2_size AV D kI kC := XC
  change VV _ _ _ _ _ _ _ _ _ _ _ _ _ _ _ _ _ [some (.ref h0), some (.int (iI (k : Int)))] _ _
  dsimp only [shW]
  refine V_aload_n XC 0 rfl dX2_size_0 rfl ?_
  refine V_get XC 1 flX2_size_9 0 rfl rfl dX2_size_1 ?_
  refine V_iload_n XC 1 rfl dX2_size_4 rfl ?_
  refine V_bipush XC dX2_size_5 (by decide) ?_
  refine V_imul XC dX2_size_7 ?_
  refine V_iconst XC dX2_size_8 ?_
  refine V_iadd XC dX2_size_9 ?_
  refine V_iald XC (50 * k + 1) 1 rfl (by omega) (by omega) (by decide) dX2_size_10 ?_
  refine V_iret XC () hrV rfl dX2_size_11 ?_
  first | rfl | assumption | omega

set_option maxRecDepth 100000 in
set_option maxHeartbeats 4000000 in
theorem c_X2_x (l : Launch) (D : va_G) (kI kC : ClassId) (h0 h1 : Nat) (n : Int) (F : Nat → Int) (k i : Nat) (hk : k < 16) (hi : i < 24) : ConR l yX2_x wsX2_x { frames := 0, cells := 0, slots := 0, locals := 0 } D kI kC [.ref h0, .int (iI (k : Int)), .int (iI (i : Int))] (shW kI h0 h1 n F) (fun r => r = F (50 * k + 2 + i)) := by
  refine Con.of (cc := cX2_x) (maxL := 3) (ret := (some .int)) (by decide +kernel) rfl (List.forall_mem_cons.mpr ⟨rfl, List.forall_mem_cons.mpr ⟨rfl, List.forall_mem_cons.mpr ⟨rfl, fun _ h => absurd h List.not_mem_nil⟩⟩⟩) (Nat.le_of_ble_eq_true rfl) ?_
  intro pV eV sV mV bV tV cV AV XC hrV
  have XC : Cx pV _ sV mV _ tV cV cX2_x 3 RX2 wsX2_x AV D kI kC := XC
  change VV _ _ _ _ _ _ _ _ _ _ _ _ _ _ _ _ _ [some (.ref h0), some (.int (iI (k : Int))), some (.int (iI (i : Int)))] _ _
  dsimp only [shW]
  refine V_aload_n XC 0 rfl dX2_x_0 rfl ?_
  refine V_get XC 1 flX2_x_9 0 rfl rfl dX2_x_1 ?_
  refine V_iload_n XC 1 rfl dX2_x_4 rfl ?_
  refine V_bipush XC dX2_x_5 (by decide) ?_
  refine V_imul XC dX2_x_7 ?_
  refine V_iconst XC dX2_x_8 ?_
  refine V_iadd XC dX2_x_9 ?_
  refine V_iload_n XC 2 rfl dX2_x_10 rfl ?_
  refine V_iadd XC dX2_x_11 ?_
  refine V_iald XC (50 * k + 2 + i) 1 rfl (by omega) (by omega) (by decide) dX2_x_12 ?_
  refine V_iret XC () hrV rfl dX2_x_13 ?_
  first | rfl | assumption | omega

set_option maxRecDepth 100000 in
set_option maxHeartbeats 4000000 in
theorem c_X2_y (l : Launch) (D : va_G) (kI kC : ClassId) (h0 h1 : Nat) (n : Int) (F : Nat → Int) (k i : Nat) (hk : k < 16) (hi : i < 24) : ConR l yX2_y wsX2_y { frames := 0, cells := 0, slots := 0, locals := 0 } D kI kC [.ref h0, .int (iI (k : Int)), .int (iI (i : Int))] (shW kI h0 h1 n F) (fun r => r = F (50 * k + 26 + i)) := by
  refine Con.of (cc := cX2_y) (maxL := 3) (ret := (some .int)) (by decide +kernel) rfl (List.forall_mem_cons.mpr ⟨rfl, List.forall_mem_cons.mpr ⟨rfl, List.forall_mem_cons.mpr ⟨rfl, fun _ h => absurd h List.not_mem_nil⟩⟩⟩) (Nat.le_of_ble_eq_true rfl) ?_
  intro pV eV sV mV bV tV cV AV XC hrV
  have XC : Cx pV _ sV mV _ tV cV cX2_y 3 RX2 wsX2_y AV D kI kC := XC
  change VV _ _ _ _ _ _ _ _ _ _ _ _ _ _ _ _ _ [some (.ref h0), some (.int (iI (k : Int))), some (.int (iI (i : Int)))] _ _
  dsimp only [shW]
  refine V_aload_n XC 0 rfl dX2_y_0 rfl ?_
  refine V_get XC 1 flX2_y_9 0 rfl rfl dX2_y_1 ?_
  refine V_iload_n XC 1 rfl dX2_y_4 rfl ?_
  refine V_bipush XC dX2_y_5 (by decide) ?_
  refine V_imul XC dX2_y_7 ?_
  refine V_bipush XC dX2_y_8 (by decide) ?_
  refine V_iadd XC dX2_y_10 ?_
  refine V_iload_n XC 2 rfl dX2_y_11 rfl ?_
  refine V_iadd XC dX2_y_12 ?_
  refine V_iald XC (50 * k + 26 + i) 1 rfl (by omega) (by omega) (by decide) dX2_y_13 ?_
  refine V_iret XC () hrV rfl dX2_y_14 ?_
  first | rfl | assumption | omega

set_option maxRecDepth 100000 in
set_option maxHeartbeats 4000000 in
theorem c_X2_setColor (l : Launch) (D : va_G) (kI kC : ClassId) (h0 h1 : Nat) (n : Int) (F : Nat → Int) (k : Nat) (c : Int) (hk : k < 16) : Con l yX2_setColor wsX2_setColor { frames := 0, cells := 0, slots := 0, locals := 0 } D kI kC [.ref h0, .int (iI (k : Int)), .int (iI c)] (shW kI h0 h1 n F) (σ := Unit) (qV (fun u => True)) (fun u => shW kI h0 h1 n (upz F (50 * k) c)) := by
  refine Con.of (cc := cX2_setColor) (maxL := 3) (ret := none) (by decide +kernel) rfl (List.forall_mem_cons.mpr ⟨rfl, List.forall_mem_cons.mpr ⟨rfl, List.forall_mem_cons.mpr ⟨rfl, fun _ h => absurd h List.not_mem_nil⟩⟩⟩) (Nat.le_of_ble_eq_true rfl) ?_
  intro pV eV sV mV bV tV cV AV XC hrV
  have XC : Cx pV _ sV mV _ tV cV cX2_setColor 3 RX2 wsX2_setColor AV D kI kC := XC
  change VV _ _ _ _ _ _ _ _ _ _ _ _ _ _ _ _ _ [some (.ref h0), some (.int (iI (k : Int))), some (.int (iI c))] _ _
  dsimp only [shW]
  refine V_aload_n XC 0 rfl dX2_setColor_0 rfl ?_
  refine V_get XC 1 flX2_setColor_9 0 rfl rfl dX2_setColor_1 ?_
  refine V_iload_n XC 1 rfl dX2_setColor_4 rfl ?_
  refine V_bipush XC dX2_setColor_5 (by decide) ?_
  refine V_imul XC dX2_setColor_7 ?_
  refine V_iconst XC dX2_setColor_8 ?_
  refine V_iadd XC dX2_setColor_9 ?_
  refine V_iload_n XC 2 rfl dX2_setColor_10 rfl ?_
  refine V_iast XC (50 * k) 1 rfl (by omega) (by omega) (by decide) dX2_setColor_11 ?_
  dsimp only [List.set]
  refine V_vret XC (()) hrV rfl dX2_setColor_12 ?_
  trivial

set_option maxRecDepth 100000 in
set_option maxHeartbeats 4000000 in
theorem c_X2_set (l : Launch) (D : va_G) (kI kC : ClassId) (h0 h1 t0 t1 t2 : Nat) (n : Int) (F : Nat → Int) (m : Nat) (X Y : Nat → Int) (k : Nat) (c : Int) (hk : k < 16) : Con l yX2_set wsX2_set { frames := 1, cells := 0, slots := 0, locals := 40 } D kI kC [.ref h0, .int (iI (k : Int)), .int (iI c), .ref t0] (shW kI h0 h1 n F ++ trW kI t0 t1 t2 (m : Int) X Y) (σ := Unit) (qV (fun u => True)) (fun u => shW kI h0 h1 n (setF F k c m X Y) ++ trW kI t0 t1 t2 (m : Int) X Y) := by
  refine Con.of (cc := cX2_set) (maxL := 5) (ret := none) (by decide +kernel) rfl (List.forall_mem_cons.mpr ⟨rfl, List.forall_mem_cons.mpr ⟨rfl, List.forall_mem_cons.mpr ⟨rfl, List.forall_mem_cons.mpr ⟨rfl, fun _ h => absurd h List.not_mem_nil⟩⟩⟩⟩) (Nat.le_of_ble_eq_true rfl) ?_
  intro pV eV sV mV bV tV cV AV XC hrV
  have XC : Cx pV _ sV mV _ tV cV cX2_set 5 RX2 wsX2_set AV D kI kC := XC
  change VV _ _ _ _ _ _ _ _ _ _ _ _ _ _ _ _ _ [some (.ref h0), some (.int (iI (k : Int))), some (.int (iI c)), some (.ref t0), none] _ _
  dsimp only [shW, trW, List.cons_append, List.nil_append]
  refine V_iload_n XC 1 rfl dX2_set_0 rfl ?_
  refine V_bipush XC dX2_set_1 (by decide) ?_
  refine V_imul XC dX2_set_3 ?_
  refine V_istore XC dX2_set_4 (by decide) ?_
  dsimp only [List.set]
  refine V_aload_n XC 0 rfl dX2_set_6 rfl ?_
  refine V_get XC 1 flX2_set_9 0 rfl rfl dX2_set_7 ?_
  refine V_iload XC dX2_set_10 rfl ?_
  refine V_iconst XC dX2_set_12 ?_
  refine V_iadd XC dX2_set_13 ?_
  refine V_iload_n XC 2 rfl dX2_set_14 rfl ?_
  refine V_iast XC (50 * k) 1 rfl (by omega) (by omega) (by decide) dX2_set_15 ?_
  dsimp only [List.set]
  refine V_aload_n XC 0 rfl dX2_set_16 rfl ?_
  refine V_get XC 1 flX2_set_9 0 rfl rfl dX2_set_17 ?_
  refine V_iload XC dX2_set_20 rfl ?_
  refine V_iconst XC dX2_set_22 ?_
  refine V_iadd XC dX2_set_23 ?_
  refine V_aload_n XC 3 rfl dX2_set_24 rfl ?_
  refine V_get XC 0 flX2_set_25 2 rfl rfl dX2_set_25 ?_
  refine V_iast XC (50 * k + 1) 1 rfl (by omega) (by omega) (by decide) dX2_set_28 ?_
  dsimp only [List.set]
  refine V_aload_n XC 3 rfl dX2_set_29 rfl ?_
  refine V_get XC 1 flX2_set_30 2 rfl rfl dX2_set_30 ?_
  refine V_iconst XC dX2_set_33 ?_
  refine V_aload_n XC 0 rfl dX2_set_34 rfl ?_
  refine V_get XC 1 flX2_set_9 0 rfl rfl dX2_set_35 ?_
  refine V_iload XC dX2_set_38 rfl ?_
  refine V_iconst XC dX2_set_40 ?_
  refine V_iadd XC dX2_set_41 ?_
  refine V_bipush XC dX2_set_42 (by decide) ?_
  refine V_copy XC (0) (50 * k + 2) (24) mcX2_set_19 3 1 rfl rfl rfl (by omega) rfl (by omega) (by omega) (by decide) (by decide) (Nat.le_of_ble_eq_true rfl) (Nat.le_of_ble_eq_true rfl) dX2_set_44 ?_
  dsimp only [List.set]
  refine V_aload_n XC 3 rfl dX2_set_47 rfl ?_
  refine V_get XC 2 flX2_set_33 2 rfl rfl dX2_set_48 ?_
  refine V_iconst XC dX2_set_51 ?_
  refine V_aload_n XC 0 rfl dX2_set_52 rfl ?_
  refine V_get XC 1 flX2_set_9 0 rfl rfl dX2_set_53 ?_
  refine V_iload XC dX2_set_56 rfl ?_
  refine V_bipush XC dX2_set_58 (by decide) ?_
  refine V_iadd XC dX2_set_60 ?_
  refine V_bipush XC dX2_set_61 (by decide) ?_
  refine V_copy XC (0) (50 * k + 26) (24) mcX2_set_19 4 1 rfl rfl rfl (by omega) rfl (by omega) (by omega) (by decide) (by decide) (Nat.le_of_ble_eq_true rfl) (Nat.le_of_ble_eq_true rfl) dX2_set_63 ?_
  dsimp only [List.set]
  refine V_vret XC (()) hrV rfl dX2_set_66 ?_
  trivial

set_option maxRecDepth 100000 in
set_option maxHeartbeats 4000000 in
theorem c_X2_append (l : Launch) (D : va_G) (kI kC : ClassId) (h0 h1 t0 t1 t2 : Nat) (n : Nat) (F : Nat → Int) (m : Nat) (X Y : Nat → Int) (c : Int) (hn : n ≤ 16) : Con l yX2_append wsX2_append { frames := 2, cells := 0, slots := 0, locals := 64 } D kI kC [.ref h0, .int (iI c), .ref t0] (shW kI h0 h1 (n : Int) F ++ trW kI t0 t1 t2 (m : Int) X Y) (σ := Int × (Nat → Int)) (qI (fun r u => r = bI (decide (n < 16)) ∧ u = if n < 16 then ((n : Int) + 1, setF F n c m X Y) else ((n : Int), F))) (fun u => shW kI h0 h1 u.1 u.2 ++ trW kI t0 t1 t2 (m : Int) X Y) := by
  refine Con.of (cc := cX2_append) (maxL := 3) (ret := (some .boolean)) (by decide +kernel) rfl (List.forall_mem_cons.mpr ⟨rfl, List.forall_mem_cons.mpr ⟨rfl, List.forall_mem_cons.mpr ⟨rfl, fun _ h => absurd h List.not_mem_nil⟩⟩⟩) (Nat.le_of_ble_eq_true rfl) ?_
  intro pV eV sV mV bV tV cV AV XC hrV
  have XC : Cx pV _ sV mV _ tV cV cX2_append 3 RX2 wsX2_append AV D kI kC := XC
  change VV _ _ _ _ _ _ _ _ _ _ _ _ _ _ _ _ _ [some (.ref h0), some (.int (iI c)), some (.ref t0)] _ _
  dsimp only [shW, trW, List.cons_append, List.nil_append]
  refine V_aload_n XC 0 rfl dX2_append_0 rfl ?_
  refine V_get XC 0 flX2_append_15 0 rfl rfl dX2_append_1 ?_
  refine V_bipush XC dX2_append_4 (by decide) ?_
  refine V_icmp_lt XC 11 dX2_append_6 (by decide) (by first | assumption | (unfold IR; omega)) (by first | assumption | (unfold IR; omega)) (fun h6 => ?_) (fun h6 => ?_)
  · skip
    refine V_aload_n XC 0 rfl dX2_append_11 rfl ?_
    refine V_aload_n XC 0 rfl dX2_append_12 rfl ?_
    refine V_get XC 0 flX2_append_15 0 rfl rfl dX2_append_13 ?_
    refine V_iload_n XC 1 rfl dX2_append_16 rfl ?_
    refine V_aload_n XC 2 rfl dX2_append_17 rfl ?_
    refine V_callV (rest := _) (q0 := 0) XC (c_X2_set l D kI kC _ _ _ _ _ _ _ _ _ _ _ _ (by omega)) gX2_append_X2_set rfl kmX2_set ⟨⟨Nat.le_of_ble_eq_true rfl, Nat.le_of_ble_eq_true rfl⟩, Nat.le_of_ble_eq_true rfl, Nat.le_of_ble_eq_true rfl⟩ ⟨rfl, rfl⟩ rfl rfl (Nat.le_of_ble_eq_true rfl) [0, 1, 2, 3, 4] rfl rfl (fun _ => rfl) rfl rfl dX2_append_18 (kV_of (fun u18 hq18 => ?_))
    dsimp only [putW, List.set, Option.toList, List.cons_append, List.nil_append, padO, mdO, shW, trW, txW, hiW, liW, woW, taW]
    try dsimp only at hq18
    refine V_aload_n XC 0 rfl dX2_append_21 rfl ?_
    refine V_dup XC dX2_append_22 rfl ?_
    refine V_get XC 0 flX2_append_15 0 rfl rfl dX2_append_23 ?_
    refine V_iconst XC dX2_append_26 ?_
    refine V_iadd XC dX2_append_27 ?_
    refine V_putI XC 0 flX2_append_15 fpX2 pdX2_0 rfl 0 rfl (Nat.le_of_ble_eq_true rfl) dX2_append_28 ?_
    dsimp only [List.set]
    refine V_iconst XC dX2_append_31 ?_
    refine V_zret (r := true) XC (_, _) hrV rfl dX2_append_32 ?_
    try dsimp only
    first | exact ⟨congrArg bI (decide_eq_true (by omega)).symm, (if_pos (by omega)).symm⟩ | exact ⟨congrArg bI (decide_eq_false (by omega)).symm, (if_neg (by omega)).symm⟩
  refine V_iconst XC dX2_append_9 ?_
  refine V_zret (r := false) XC (_, _) hrV rfl dX2_append_10 ?_
  try dsimp only
  first | exact ⟨congrArg bI (decide_eq_true (by omega)).symm, (if_pos (by omega)).symm⟩ | exact ⟨congrArg bI (decide_eq_false (by omega)).symm, (if_neg (by omega)).symm⟩

set_option maxRecDepth 100000 in
set_option maxHeartbeats 4000000 in
theorem c_X2_isSame (l : Launch) (D : va_G) (kI kC : ClassId) (h0 h1 t0 t1 t2 : Nat) (n : Int) (F : Nat → Int) (m : Nat) (X Y : Nat → Int) (k : Nat) (hk : k < 16) (hs : OkK (skC F k)) (hm : m ≤ 24) (hX : ∀ i, i < m → IR (X i) ∧ IR (Y i)) : ConR l yX2_isSame wsX2_isSame { frames := 1, cells := 0, slots := 0, locals := 22 } D kI kC [.ref h0, .int (iI (k : Int)), .ref t0] (shW kI h0 h1 n F ++ trW kI t0 t1 t2 (m : Int) X Y) (fun r => r = bI (decide ((skC F k).2 = ptsOf m X Y))) := by
  refine Con.of (cc := cX2_isSame) (maxL := 4) (ret := (some .boolean)) (by decide +kernel) rfl (List.forall_mem_cons.mpr ⟨rfl, List.forall_mem_cons.mpr ⟨rfl, List.forall_mem_cons.mpr ⟨rfl, fun _ h => absurd h List.not_mem_nil⟩⟩⟩) (Nat.le_of_ble_eq_true rfl) ?_
  intro pV eV sV mV bV tV cV AV XC hrV
  have XC : Cx pV _ sV mV _ tV cV cX2_isSame 4 RX2 wsX2_isSame AV D kI kC := XC
  change VV _ _ _ _ _ _ _ _ _ _ _ _ _ _ _ _ _ [some (.ref h0), some (.int (iI (k : Int))), some (.ref t0), none] _ _
  dsimp only [shW, trW, List.cons_append, List.nil_append]
  have hf := skC_ok hs
  have hse : (skC F k).2 = ptsOf (F (50 * k + 1)).toNat (fun i => F (50 * k + 2 + i)) (fun i => F (50 * k + 26 + i)) := rfl
  refine V_aload_n XC 0 rfl dX2_isSame_0 rfl ?_
  refine V_iload_n XC 1 rfl dX2_isSame_1 rfl ?_
  refine V_callV (rest := _) (q0 := 0) XC (c_X2_size l D kI kC _ _ _ _ _ (by omega)) gX2_isSame_X2_size rfl kmX2_size ⟨⟨Nat.le_of_ble_eq_true rfl, Nat.le_of_ble_eq_true rfl⟩, Nat.le_of_ble_eq_true rfl, Nat.le_of_ble_eq_true rfl⟩ ⟨rfl, rfl⟩ rfl rfl (Nat.le_of_ble_eq_true rfl) [0, 1] rfl rfl (fun _ => rfl) rfl rfl dX2_isSame_2 (kR_of rfl (fun r2 hq2 => ?_))
  subst hq2
  refine V_aload_n XC 2 rfl dX2_isSame_5 rfl ?_
  refine V_get XC 0 flX2_isSame_25 2 rfl rfl dX2_isSame_6 ?_
  refine V_icmp_eq XC 14 dX2_isSame_9 (by decide) (by first | assumption | (unfold IR; omega)) (by first | assumption | (unfold IR; omega)) (fun h9 => ?_) (fun h9 => ?_)
  · skip
    refine V_iconst XC dX2_isSame_14 ?_
    refine V_istore_n XC 3 rfl dX2_isSame_15 (by decide) ?_
    dsimp only [List.set]
    refine V_loopR (σ := Nat) (fun u => m - u) (fun u => u ≤ m ∧ ∀ i, i < u → F (50 * k + 2 + i) = X i ∧ F (50 * k + 26 + i) = Y i) (fun u => [some (.ref h0), some (.int (iI (k : Int))), some (.ref t0), some (.int (iI (u : Int)))]) (0) ⟨Nat.zero_le _, fun i hi => absurd hi (Nat.not_lt_zero i)⟩ rfl (fun u hJ ih16 => ?_)
    obtain ⟨i, rfl⟩ : ∃ z, z = u := ⟨_, rfl⟩
    try dsimp only at hJ ih16 ⊢
    obtain ⟨hi, hall⟩ := hJ
    refine V_iload_n XC 3 rfl dX2_isSame_16 rfl ?_
    refine V_aload_n XC 2 rfl dX2_isSame_17 rfl ?_
    refine V_get XC 0 flX2_isSame_25 2 rfl rfl dX2_isSame_18 ?_
    refine V_icmp_ge XC 62 dX2_isSame_21 (by decide) (by first | assumption | (unfold IR; omega)) (by first | assumption | (unfold IR; omega)) (fun h21 => ?_) (fun h21 => ?_)
    · skip
      refine V_iconst XC dX2_isSame_62 ?_
      refine V_zret (r := true) XC () hrV rfl dX2_isSame_63 ?_
      try dsimp only
      refine congrArg bI (decide_eq_true ?_).symm
      rw [hse, show (F (50 * k + 1)).toNat = m by omega]
      exact ptsOf_congr (fun a ha => hall a (by omega))
    have hx := hX i (by omega)
    have hfi := hf.2.2.2.2 i (by omega)
    refine V_aload_n XC 0 rfl dX2_isSame_24 rfl ?_
    refine V_iload_n XC 1 rfl dX2_isSame_25 rfl ?_
    refine V_iload_n XC 3 rfl dX2_isSame_26 rfl ?_
    refine V_callV (rest := _) (q0 := 0) XC (c_X2_x l D kI kC _ _ _ _ _ _ (by omega) (by omega)) gX2_isSame_X2_x rfl kmX2_x ⟨⟨Nat.le_of_ble_eq_true rfl, Nat.le_of_ble_eq_true rfl⟩, Nat.le_of_ble_eq_true rfl, Nat.le_of_ble_eq_true rfl⟩ ⟨rfl, rfl⟩ rfl rfl (Nat.le_of_ble_eq_true rfl) [0, 1] rfl rfl (fun _ => rfl) rfl rfl dX2_isSame_27 (kR_of rfl (fun r27 hq27 => ?_))
    subst hq27
    refine V_aload_n XC 2 rfl dX2_isSame_30 rfl ?_
    refine V_get XC 1 flX2_isSame_30 2 rfl rfl dX2_isSame_31 ?_
    refine V_iload_n XC 3 rfl dX2_isSame_34 rfl ?_
    refine V_iald XC (_) 3 rfl rfl (by omega) (by decide) dX2_isSame_35 ?_
    refine V_icmp_ne XC 54 dX2_isSame_36 (by decide) ⟨by omega, by omega⟩ hx.1 (fun h36 => ?_) (fun h36 => ?_)
    · skip
      refine V_iconst XC dX2_isSame_54 ?_
      refine V_zret (r := false) XC () hrV rfl dX2_isSame_55 ?_
      try dsimp only
      refine congrArg bI (decide_eq_false (fun z => ?_)).symm
      rw [hse] at z
      have := (ptsOf_inj z).2 i (by omega)
      omega
    refine V_aload_n XC 0 rfl dX2_isSame_39 rfl ?_
    refine V_iload_n XC 1 rfl dX2_isSame_40 rfl ?_
    refine V_iload_n XC 3 rfl dX2_isSame_41 rfl ?_
    refine V_callV (rest := _) (q0 := 0) XC (c_X2_y l D kI kC _ _ _ _ _ _ (by omega) (by omega)) gX2_isSame_X2_y rfl kmX2_y ⟨⟨Nat.le_of_ble_eq_true rfl, Nat.le_of_ble_eq_true rfl⟩, Nat.le_of_ble_eq_true rfl, Nat.le_of_ble_eq_true rfl⟩ ⟨rfl, rfl⟩ rfl rfl (Nat.le_of_ble_eq_true rfl) [0, 1] rfl rfl (fun _ => rfl) rfl rfl dX2_isSame_42 (kR_of rfl (fun r42 hq42 => ?_))
    subst hq42
    refine V_aload_n XC 2 rfl dX2_isSame_45 rfl ?_
    refine V_get XC 2 flX2_isSame_33 2 rfl rfl dX2_isSame_46 ?_
    refine V_iload_n XC 3 rfl dX2_isSame_49 rfl ?_
    refine V_iald XC (_) 4 rfl rfl (by omega) (by decide) dX2_isSame_50 ?_
    refine V_icmp_eq XC 56 dX2_isSame_51 (by decide) ⟨by omega, by omega⟩ hx.2 (fun h51 => ?_) (fun h51 => ?_)
    · skip
      refine V_iinc XC dX2_isSame_56 rfl (by decide) ?_
      dsimp only [List.set]
      refine V_goto XC 16 dX2_isSame_59 (by decide) ?_
      exact ih16 (i + 1) ⟨by omega, fun a ha => by
          rcases Nat.lt_or_ge a i with q | q
          · exact hall a q
          · rw [show a = i by omega]; exact ⟨h36, h51⟩⟩ (by omega)
    refine V_iconst XC dX2_isSame_54 ?_
    refine V_zret (r := false) XC () hrV rfl dX2_isSame_55 ?_
    try dsimp only
    refine congrArg bI (decide_eq_false (fun z => ?_)).symm
    rw [hse] at z
    have := (ptsOf_inj z).2 i (by omega)
    omega
  refine V_iconst XC dX2_isSame_12 ?_
  refine V_zret (r := false) XC () hrV rfl dX2_isSame_13 ?_
  try dsimp only
  refine congrArg bI (decide_eq_false (fun z => ?_)).symm
  rw [hse] at z
  have := (ptsOf_inj z).1
  omega

set_option maxRecDepth 100000 in
set_option maxHeartbeats 4000000 in
theorem c_X2_drop (l : Launch) (D : va_G) (kI kC : ClassId) (h0 h1 : Nat) (n : Nat) (F : Nat → Int) (k : Nat) (hk : k < n) (hn : n ≤ 16) : Con l yX2_drop wsX2_drop { frames := 1, cells := 0, slots := 0, locals := 40 } D kI kC [.ref h0, .int (iI (k : Int))] (shW kI h0 h1 (n : Int) F) (σ := Unit) (qV (fun u => True)) (fun u => shW kI h0 h1 ((n - 1 : Nat) : Int) (dropF F k n)) := by
  refine Con.of (cc := cX2_drop) (maxL := 3) (ret := none) (by decide +kernel) rfl (List.forall_mem_cons.mpr ⟨rfl, List.forall_mem_cons.mpr ⟨rfl, fun _ h => absurd h List.not_mem_nil⟩⟩) (Nat.le_of_ble_eq_true rfl) ?_
  intro pV eV sV mV bV tV cV AV XC hrV
  have XC : Cx pV _ sV mV _ tV cV cX2_drop 3 RX2 wsX2_drop AV D kI kC := XC
  change VV _ _ _ _ _ _ _ _ _ _ _ _ _ _ _ _ _ [some (.ref h0), some (.int (iI (k : Int))), none] _ _
  dsimp only [shW]
  refine V_aload_n XC 0 rfl dX2_drop_0 rfl ?_
  refine V_iload_n XC 1 rfl dX2_drop_1 rfl ?_
  refine V_callV (rest := _) (q0 := 0) XC (c_X2_has l D kI kC _ _ _ _ _ (by first | assumption | (unfold IR; omega)) (by first | assumption | (unfold IR; omega))) gX2_drop_X2_has rfl kmX2_has ⟨⟨Nat.le_of_ble_eq_true rfl, Nat.le_of_ble_eq_true rfl⟩, Nat.le_of_ble_eq_true rfl, Nat.le_of_ble_eq_true rfl⟩ ⟨rfl, rfl⟩ rfl rfl (Nat.le_of_ble_eq_true rfl) [0, 1] rfl rfl (fun _ => rfl) rfl rfl dX2_drop_2 (kR_of rfl (fun r2 hq2 => ?_))
  subst hq2
  refine V_bif_eq XC 52 dX2_drop_5 (by decide) (fun h5 => ?_) (fun h5 => ?_)
  · skip
    exact absurd h5 (by simp only [decide_eq_false_iff_not]; omega)
  refine V_aload_n XC 0 rfl dX2_drop_8 rfl ?_
  refine V_get XC 0 flX2_drop_15 0 rfl rfl dX2_drop_9 ?_
  refine V_iload_n XC 1 rfl dX2_drop_12 rfl ?_
  refine V_isub XC dX2_drop_13 ?_
  refine V_iconst XC dX2_drop_14 ?_
  refine V_isub XC dX2_drop_15 ?_
  refine V_istore_n XC 2 rfl dX2_drop_16 (by decide) ?_
  dsimp only [List.set]
  refine V_aload_n XC 0 rfl dX2_drop_17 rfl ?_
  refine V_get XC 1 flX2_drop_9 0 rfl rfl dX2_drop_18 ?_
  refine V_iload_n XC 1 rfl dX2_drop_21 rfl ?_
  refine V_iconst XC dX2_drop_22 ?_
  refine V_iadd XC dX2_drop_23 ?_
  refine V_bipush XC dX2_drop_24 (by decide) ?_
  refine V_imul XC dX2_drop_26 ?_
  refine V_aload_n XC 0 rfl dX2_drop_27 rfl ?_
  refine V_get XC 1 flX2_drop_9 0 rfl rfl dX2_drop_28 ?_
  refine V_iload_n XC 1 rfl dX2_drop_31 rfl ?_
  refine V_bipush XC dX2_drop_32 (by decide) ?_
  refine V_imul XC dX2_drop_34 ?_
  refine V_iload_n XC 2 rfl dX2_drop_35 rfl ?_
  refine V_bipush XC dX2_drop_36 (by decide) ?_
  refine V_imul XC dX2_drop_38 ?_
  refine V_copy XC (50 * (k + 1)) (50 * k) (50 * (n - k - 1)) mcX2_drop_19 1 1 rfl rfl (by omega) (by omega) (by omega) (by omega) (by omega) (by decide) (by decide) (Nat.le_of_ble_eq_true rfl) (Nat.le_of_ble_eq_true rfl) dX2_drop_39 ?_
  dsimp only [List.set]
  refine V_aload_n XC 0 rfl dX2_drop_42 rfl ?_
  refine V_dup XC dX2_drop_43 rfl ?_
  refine V_get XC 0 flX2_drop_15 0 rfl rfl dX2_drop_44 ?_
  refine V_iconst XC dX2_drop_47 ?_
  refine V_isub XC dX2_drop_48 ?_
  refine V_putI XC 0 flX2_drop_15 fpX2 pdX2_0 rfl 0 rfl (Nat.le_of_ble_eq_true rfl) dX2_drop_49 ?_
  dsimp only [List.set]
  rw [show ((n : Int) - 1) = ((n - 1 : Nat) : Int) by omega]
  refine V_vret XC (()) hrV rfl dX2_drop_52 ?_
  trivial

set_option maxRecDepth 100000 in
set_option maxHeartbeats 4000000 in
theorem c_X2_leastFrom (l : Launch) (D : va_G) (kI kC : ClassId) (h0 h1 : Nat) (n : Int) (F : Nat → Int) (a m : Nat) (hm : 1 ≤ m) (ham : a + m ≤ 800) (hF : ∀ j, j < m → 0 ≤ F (a + j) ∧ F (a + j) ≤ 1000) : ConR l yX2_leastFrom wsX2_leastFrom { frames := 1, cells := 0, slots := 0, locals := 21 } D kI kC [.ref h0, .int (iI (a : Int)), .int (iI (m : Int))] (shW kI h0 h1 n F) (fun r => r = mnF (fun i => F (a + i)) (m - 1)) := by
  refine Con.of (cc := cX2_leastFrom) (maxL := 5) (ret := (some .int)) (by decide +kernel) rfl (List.forall_mem_cons.mpr ⟨rfl, List.forall_mem_cons.mpr ⟨rfl, List.forall_mem_cons.mpr ⟨rfl, fun _ h => absurd h List.not_mem_nil⟩⟩⟩) (Nat.le_of_ble_eq_true rfl) ?_
  intro pV eV sV mV bV tV cV AV XC hrV
  have XC : Cx pV _ sV mV _ tV cV cX2_leastFrom 5 RX2 wsX2_leastFrom AV D kI kC := XC
  change VV _ _ _ _ _ _ _ _ _ _ _ _ _ _ _ _ _ [some (.ref h0), some (.int (iI (a : Int))), some (.int (iI (m : Int))), none, none] _ _
  dsimp only [shW]
  refine V_aload_n XC 0 rfl dX2_leastFrom_0 rfl ?_
  refine V_get XC 1 flX2_leastFrom_9 0 rfl rfl dX2_leastFrom_1 ?_
  refine V_iload_n XC 1 rfl dX2_leastFrom_4 rfl ?_
  refine V_iald XC (_) 1 rfl rfl (by omega) (by decide) dX2_leastFrom_5 ?_
  refine V_istore_n XC 3 rfl dX2_leastFrom_6 (by decide) ?_
  dsimp only [List.set]
  refine V_iconst XC dX2_leastFrom_7 ?_
  refine V_istore XC dX2_leastFrom_8 (by decide) ?_
  dsimp only [List.set]
  refine V_loopR (σ := Nat × Int) (fun u => m - u.1) (fun u => u.1 + 1 ≤ m ∧ u.2 = mnF (fun i => F (a + i)) u.1) (fun u => [some (.ref h0), some (.int (iI (a : Int))), some (.int (iI (m : Int))), some (.int (iI u.2)), some (.int (iI ((u.1 : Int) + 1)))]) (0, F a) ⟨hm, rfl⟩ rfl (fun u hJ ih10 => ?_)
  obtain ⟨j, v⟩ := u
  try dsimp only at hJ ih10 ⊢
  obtain ⟨hj, hv⟩ := hJ
  have hvr : 0 ≤ v ∧ v ≤ 1000 := by rw [hv]; exact mnF_rng (fun i hi => hF i (by omega))
  refine V_iload XC dX2_leastFrom_10 rfl ?_
  refine V_iload_n XC 2 rfl dX2_leastFrom_12 rfl ?_
  refine V_icmp_ge XC 36 dX2_leastFrom_13 (by decide) (by first | assumption | (unfold IR; omega)) (by first | assumption | (unfold IR; omega)) (fun h13 => ?_) (fun h13 => ?_)
  · skip
    refine V_iload_n XC 3 rfl dX2_leastFrom_36 rfl ?_
    refine V_iret XC () hrV rfl dX2_leastFrom_37 ?_
    try dsimp only
    rw [hv, show j = m - 1 by omega]
  have hfj := hF (j + 1) (by omega)
  refine V_iload_n XC 3 rfl dX2_leastFrom_16 rfl ?_
  refine V_aload_n XC 0 rfl dX2_leastFrom_17 rfl ?_
  refine V_get XC 1 flX2_leastFrom_9 0 rfl rfl dX2_leastFrom_18 ?_
  refine V_iload_n XC 1 rfl dX2_leastFrom_21 rfl ?_
  refine V_iload XC dX2_leastFrom_22 rfl ?_
  refine V_iadd XC dX2_leastFrom_24 ?_
  refine V_iald XC (a + (j + 1)) 1 rfl (by omega) (by omega) (by decide) dX2_leastFrom_25 ?_
  refine V_mmin XC mmX2_leastFrom_60 (by first | assumption | (unfold IR; omega)) (by first | assumption | (unfold IR; omega)) (Nat.le_of_ble_eq_true rfl) (Nat.le_of_ble_eq_true rfl) (Nat.le_of_ble_eq_true rfl) (Nat.le_of_ble_eq_true rfl) dX2_leastFrom_26 ?_
  refine V_istore_n XC 3 rfl dX2_leastFrom_29 (by decide) ?_
  dsimp only [List.set]
  refine V_iinc XC dX2_leastFrom_30 rfl (by decide) ?_
  dsimp only [List.set]
  refine V_goto XC 10 dX2_leastFrom_33 (by decide) ?_
  exact ih10 (j + 1, _) ⟨by (try dsimp only); omega, by show _ = min _ _; rw [← hv]⟩ (by omega)

set_option maxRecDepth 100000 in
set_option maxHeartbeats 4000000 in
theorem c_X2_greatestFrom (l : Launch) (D : va_G) (kI kC : ClassId) (h0 h1 : Nat) (n : Int) (F : Nat → Int) (a m : Nat) (hm : 1 ≤ m) (ham : a + m ≤ 800) (hF : ∀ j, j < m → 0 ≤ F (a + j) ∧ F (a + j) ≤ 1000) : ConR l yX2_greatestFrom wsX2_greatestFrom { frames := 1, cells := 0, slots := 0, locals := 21 } D kI kC [.ref h0, .int (iI (a : Int)), .int (iI (m : Int))] (shW kI h0 h1 n F) (fun r => r = mxF (fun i => F (a + i)) (m - 1)) := by
  refine Con.of (cc := cX2_greatestFrom) (maxL := 5) (ret := (some .int)) (by decide +kernel) rfl (List.forall_mem_cons.mpr ⟨rfl, List.forall_mem_cons.mpr ⟨rfl, List.forall_mem_cons.mpr ⟨rfl, fun _ h => absurd h List.not_mem_nil⟩⟩⟩) (Nat.le_of_ble_eq_true rfl) ?_
  intro pV eV sV mV bV tV cV AV XC hrV
  have XC : Cx pV _ sV mV _ tV cV cX2_greatestFrom 5 RX2 wsX2_greatestFrom AV D kI kC := XC
  change VV _ _ _ _ _ _ _ _ _ _ _ _ _ _ _ _ _ [some (.ref h0), some (.int (iI (a : Int))), some (.int (iI (m : Int))), none, none] _ _
  dsimp only [shW]
  refine V_aload_n XC 0 rfl dX2_greatestFrom_0 rfl ?_
  refine V_get XC 1 flX2_greatestFrom_9 0 rfl rfl dX2_greatestFrom_1 ?_
  refine V_iload_n XC 1 rfl dX2_greatestFrom_4 rfl ?_
  refine V_iald XC (_) 1 rfl rfl (by omega) (by decide) dX2_greatestFrom_5 ?_
  refine V_istore_n XC 3 rfl dX2_greatestFrom_6 (by decide) ?_
  dsimp only [List.set]
  refine V_iconst XC dX2_greatestFrom_7 ?_
  refine V_istore XC dX2_greatestFrom_8 (by decide) ?_
  dsimp only [List.set]
  refine V_loopR (σ := Nat × Int) (fun u => m - u.1) (fun u => u.1 + 1 ≤ m ∧ u.2 = mxF (fun i => F (a + i)) u.1) (fun u => [some (.ref h0), some (.int (iI (a : Int))), some (.int (iI (m : Int))), some (.int (iI u.2)), some (.int (iI ((u.1 : Int) + 1)))]) (0, F a) ⟨hm, rfl⟩ rfl (fun u hJ ih10 => ?_)
  obtain ⟨j, v⟩ := u
  try dsimp only at hJ ih10 ⊢
  obtain ⟨hj, hv⟩ := hJ
  have hvr : 0 ≤ v ∧ v ≤ 1000 := by rw [hv]; exact mxF_rng (fun i hi => hF i (by omega))
  refine V_iload XC dX2_greatestFrom_10 rfl ?_
  refine V_iload_n XC 2 rfl dX2_greatestFrom_12 rfl ?_
  refine V_icmp_ge XC 36 dX2_greatestFrom_13 (by decide) (by first | assumption | (unfold IR; omega)) (by first | assumption | (unfold IR; omega)) (fun h13 => ?_) (fun h13 => ?_)
  · skip
    refine V_iload_n XC 3 rfl dX2_greatestFrom_36 rfl ?_
    refine V_iret XC () hrV rfl dX2_greatestFrom_37 ?_
    try dsimp only
    rw [hv, show j = m - 1 by omega]
  have hfj := hF (j + 1) (by omega)
  refine V_iload_n XC 3 rfl dX2_greatestFrom_16 rfl ?_
  refine V_aload_n XC 0 rfl dX2_greatestFrom_17 rfl ?_
  refine V_get XC 1 flX2_greatestFrom_9 0 rfl rfl dX2_greatestFrom_18 ?_
  refine V_iload_n XC 1 rfl dX2_greatestFrom_21 rfl ?_
  refine V_iload XC dX2_greatestFrom_22 rfl ?_
  refine V_iadd XC dX2_greatestFrom_24 ?_
  refine V_iald XC (a + (j + 1)) 1 rfl (by omega) (by omega) (by decide) dX2_greatestFrom_25 ?_
  refine V_mmax XC mmX2_greatestFrom_65 (by first | assumption | (unfold IR; omega)) (by first | assumption | (unfold IR; omega)) (Nat.le_of_ble_eq_true rfl) (Nat.le_of_ble_eq_true rfl) (Nat.le_of_ble_eq_true rfl) (Nat.le_of_ble_eq_true rfl) dX2_greatestFrom_26 ?_
  refine V_istore_n XC 3 rfl dX2_greatestFrom_29 (by decide) ?_
  dsimp only [List.set]
  refine V_iinc XC dX2_greatestFrom_30 rfl (by decide) ?_
  dsimp only [List.set]
  refine V_goto XC 10 dX2_greatestFrom_33 (by decide) ?_
  exact ih10 (j + 1, _) ⟨by (try dsimp only); omega, by show _ = max _ _; rw [← hv]⟩ (by omega)

set_option maxRecDepth 100000 in
set_option maxHeartbeats 4000000 in
theorem c_X2_left (l : Launch) (D : va_G) (kI kC : ClassId) (h0 h1 : Nat) (n : Int) (F : Nat → Int) (k : Nat) (hk : k < 16) (hs : OkK (skC F k)) : ConR l yX2_left wsX2_left { frames := 2, cells := 0, slots := 0, locals := 45 } D kI kC [.ref h0, .int (iI (k : Int))] (shW kI h0 h1 n F) (fun r => r = mnF (px (skC F k)) (szk (skC F k) - 1)) := by
  refine Con.of (cc := cX2_left) (maxL := 2) (ret := (some .int)) (by decide +kernel) rfl (List.forall_mem_cons.mpr ⟨rfl, List.forall_mem_cons.mpr ⟨rfl, fun _ h => absurd h List.not_mem_nil⟩⟩) (Nat.le_of_ble_eq_true rfl) ?_
  intro pV eV sV mV bV tV cV AV XC hrV
  have XC : Cx pV _ sV mV _ tV cV cX2_left 2 RX2 wsX2_left AV D kI kC := XC
  change VV _ _ _ _ _ _ _ _ _ _ _ _ _ _ _ _ _ [some (.ref h0), some (.int (iI (k : Int)))] _ _
  dsimp only [shW]
  have hf := skC_ok hs
  have hsz := skC_sz hs
  have hz := OkK_sz hs
  generalize hm : szk (skC F k) = mm at hsz hz ⊢
  refine V_aload_n XC 0 rfl dX2_left_0 rfl ?_
  refine V_iload_n XC 1 rfl dX2_left_1 rfl ?_
  refine V_bipush XC dX2_left_2 (by decide) ?_
  refine V_imul XC dX2_left_4 ?_
  refine V_iconst XC dX2_left_5 ?_
  refine V_iadd XC dX2_left_6 ?_
  refine V_aload_n XC 0 rfl dX2_left_7 rfl ?_
  refine V_iload_n XC 1 rfl dX2_left_8 rfl ?_
  refine V_callV (rest := _) (q0 := 0) XC (c_X2_size l D kI kC _ _ _ _ _ (by omega)) gX2_left_X2_size rfl kmX2_size ⟨⟨Nat.le_of_ble_eq_true rfl, Nat.le_of_ble_eq_true rfl⟩, Nat.le_of_ble_eq_true rfl, Nat.le_of_ble_eq_true rfl⟩ ⟨rfl, rfl⟩ rfl rfl (Nat.le_of_ble_eq_true rfl) [0, 1] rfl rfl (fun _ => rfl) rfl rfl dX2_left_9 (kR_of rfl (fun r9 hq9 => ?_))
  subst hq9
  rw [hsz, show ((k : Int) * 50 + 2) = ((50 * k + 2 : Nat) : Int) by omega]
  refine V_callV (rest := _) (q0 := 0) XC (c_X2_leastFrom l D kI kC _ _ _ _ (50 * k + 2) mm (by omega) (by omega) (fun i hi => by have := hf.2.2.2.2 i (by omega); omega)) gX2_left_X2_leastFrom rfl kmX2_leastFrom ⟨⟨Nat.le_of_ble_eq_true rfl, Nat.le_of_ble_eq_true rfl⟩, Nat.le_of_ble_eq_true rfl, Nat.le_of_ble_eq_true rfl⟩ ⟨rfl, rfl⟩ rfl rfl (Nat.le_of_ble_eq_true rfl) [0, 1] rfl rfl (fun _ => rfl) rfl rfl dX2_left_12 (kR_of rfl (fun r12 hq12 => ?_))
  subst hq12
  refine V_iret XC () hrV rfl dX2_left_15 ?_
  try dsimp only
  exact mnF_congr (fun i hi => (skC_xy (by rw [hm]; omega)).1)

set_option maxRecDepth 100000 in
set_option maxHeartbeats 4000000 in
theorem c_X2_right (l : Launch) (D : va_G) (kI kC : ClassId) (h0 h1 : Nat) (n : Int) (F : Nat → Int) (k : Nat) (hk : k < 16) (hs : OkK (skC F k)) : ConR l yX2_right wsX2_right { frames := 2, cells := 0, slots := 0, locals := 45 } D kI kC [.ref h0, .int (iI (k : Int))] (shW kI h0 h1 n F) (fun r => r = mxF (px (skC F k)) (szk (skC F k) - 1)) := by
  refine Con.of (cc := cX2_right) (maxL := 2) (ret := (some .int)) (by decide +kernel) rfl (List.forall_mem_cons.mpr ⟨rfl, List.forall_mem_cons.mpr ⟨rfl, fun _ h => absurd h List.not_mem_nil⟩⟩) (Nat.le_of_ble_eq_true rfl) ?_
  intro pV eV sV mV bV tV cV AV XC hrV
  have XC : Cx pV _ sV mV _ tV cV cX2_right 2 RX2 wsX2_right AV D kI kC := XC
  change VV _ _ _ _ _ _ _ _ _ _ _ _ _ _ _ _ _ [some (.ref h0), some (.int (iI (k : Int)))] _ _
  dsimp only [shW]
  have hf := skC_ok hs
  have hsz := skC_sz hs
  have hz := OkK_sz hs
  generalize hm : szk (skC F k) = mm at hsz hz ⊢
  refine V_aload_n XC 0 rfl dX2_right_0 rfl ?_
  refine V_iload_n XC 1 rfl dX2_right_1 rfl ?_
  refine V_bipush XC dX2_right_2 (by decide) ?_
  refine V_imul XC dX2_right_4 ?_
  refine V_iconst XC dX2_right_5 ?_
  refine V_iadd XC dX2_right_6 ?_
  refine V_aload_n XC 0 rfl dX2_right_7 rfl ?_
  refine V_iload_n XC 1 rfl dX2_right_8 rfl ?_
  refine V_callV (rest := _) (q0 := 0) XC (c_X2_size l D kI kC _ _ _ _ _ (by omega)) gX2_right_X2_size rfl kmX2_size ⟨⟨Nat.le_of_ble_eq_true rfl, Nat.le_of_ble_eq_true rfl⟩, Nat.le_of_ble_eq_true rfl, Nat.le_of_ble_eq_true rfl⟩ ⟨rfl, rfl⟩ rfl rfl (Nat.le_of_ble_eq_true rfl) [0, 1] rfl rfl (fun _ => rfl) rfl rfl dX2_right_9 (kR_of rfl (fun r9 hq9 => ?_))
  subst hq9
  rw [hsz, show ((k : Int) * 50 + 2) = ((50 * k + 2 : Nat) : Int) by omega]
  refine V_callV (rest := _) (q0 := 0) XC (c_X2_greatestFrom l D kI kC _ _ _ _ (50 * k + 2) mm (by omega) (by omega) (fun i hi => by have := hf.2.2.2.2 i (by omega); omega)) gX2_right_X2_greatestFrom rfl kmX2_greatestFrom ⟨⟨Nat.le_of_ble_eq_true rfl, Nat.le_of_ble_eq_true rfl⟩, Nat.le_of_ble_eq_true rfl, Nat.le_of_ble_eq_true rfl⟩ ⟨rfl, rfl⟩ rfl rfl (Nat.le_of_ble_eq_true rfl) [0, 1] rfl rfl (fun _ => rfl) rfl rfl dX2_right_12 (kR_of rfl (fun r12 hq12 => ?_))
  subst hq12
  refine V_iret XC () hrV rfl dX2_right_15 ?_
  try dsimp only
  exact mxF_congr (fun i hi => (skC_xy (by rw [hm]; omega)).1)

set_option maxRecDepth 100000 in
set_option maxHeartbeats 4000000 in
theorem c_X2_top (l : Launch) (D : va_G) (kI kC : ClassId) (h0 h1 : Nat) (n : Int) (F : Nat → Int) (k : Nat) (hk : k < 16) (hs : OkK (skC F k)) : ConR l yX2_top wsX2_top { frames := 2, cells := 0, slots := 0, locals := 45 } D kI kC [.ref h0, .int (iI (k : Int))] (shW kI h0 h1 n F) (fun r => r = mnF (py (skC F k)) (szk (skC F k) - 1)) := by
  refine Con.of (cc := cX2_top) (maxL := 2) (ret := (some .int)) (by decide +kernel) rfl (List.forall_mem_cons.mpr ⟨rfl, List.forall_mem_cons.mpr ⟨rfl, fun _ h => absurd h List.not_mem_nil⟩⟩) (Nat.le_of_ble_eq_true rfl) ?_
  intro pV eV sV mV bV tV cV AV XC hrV
  have XC : Cx pV _ sV mV _ tV cV cX2_top 2 RX2 wsX2_top AV D kI kC := XC
  change VV _ _ _ _ _ _ _ _ _ _ _ _ _ _ _ _ _ [some (.ref h0), some (.int (iI (k : Int)))] _ _
  dsimp only [shW]
  have hf := skC_ok hs
  have hsz := skC_sz hs
  have hz := OkK_sz hs
  generalize hm : szk (skC F k) = mm at hsz hz ⊢
  refine V_aload_n XC 0 rfl dX2_top_0 rfl ?_
  refine V_iload_n XC 1 rfl dX2_top_1 rfl ?_
  refine V_bipush XC dX2_top_2 (by decide) ?_
  refine V_imul XC dX2_top_4 ?_
  refine V_bipush XC dX2_top_5 (by decide) ?_
  refine V_iadd XC dX2_top_7 ?_
  refine V_aload_n XC 0 rfl dX2_top_8 rfl ?_
  refine V_iload_n XC 1 rfl dX2_top_9 rfl ?_
  refine V_callV (rest := _) (q0 := 0) XC (c_X2_size l D kI kC _ _ _ _ _ (by omega)) gX2_top_X2_size rfl kmX2_size ⟨⟨Nat.le_of_ble_eq_true rfl, Nat.le_of_ble_eq_true rfl⟩, Nat.le_of_ble_eq_true rfl, Nat.le_of_ble_eq_true rfl⟩ ⟨rfl, rfl⟩ rfl rfl (Nat.le_of_ble_eq_true rfl) [0, 1] rfl rfl (fun _ => rfl) rfl rfl dX2_top_10 (kR_of rfl (fun r10 hq10 => ?_))
  subst hq10
  rw [hsz, show ((k : Int) * 50 + 26) = ((50 * k + 26 : Nat) : Int) by omega]
  refine V_callV (rest := _) (q0 := 0) XC (c_X2_leastFrom l D kI kC _ _ _ _ (50 * k + 26) mm (by omega) (by omega) (fun i hi => by have := hf.2.2.2.2 i (by omega); omega)) gX2_top_X2_leastFrom rfl kmX2_leastFrom ⟨⟨Nat.le_of_ble_eq_true rfl, Nat.le_of_ble_eq_true rfl⟩, Nat.le_of_ble_eq_true rfl, Nat.le_of_ble_eq_true rfl⟩ ⟨rfl, rfl⟩ rfl rfl (Nat.le_of_ble_eq_true rfl) [0, 1] rfl rfl (fun _ => rfl) rfl rfl dX2_top_13 (kR_of rfl (fun r13 hq13 => ?_))
  subst hq13
  refine V_iret XC () hrV rfl dX2_top_16 ?_
  try dsimp only
  exact mnF_congr (fun i hi => (skC_xy (by rw [hm]; omega)).2)

set_option maxRecDepth 100000 in
set_option maxHeartbeats 4000000 in
theorem c_X2_bottom (l : Launch) (D : va_G) (kI kC : ClassId) (h0 h1 : Nat) (n : Int) (F : Nat → Int) (k : Nat) (hk : k < 16) (hs : OkK (skC F k)) : ConR l yX2_bottom wsX2_bottom { frames := 2, cells := 0, slots := 0, locals := 45 } D kI kC [.ref h0, .int (iI (k : Int))] (shW kI h0 h1 n F) (fun r => r = mxF (py (skC F k)) (szk (skC F k) - 1)) := by
  refine Con.of (cc := cX2_bottom) (maxL := 2) (ret := (some .int)) (by decide +kernel) rfl (List.forall_mem_cons.mpr ⟨rfl, List.forall_mem_cons.mpr ⟨rfl, fun _ h => absurd h List.not_mem_nil⟩⟩) (Nat.le_of_ble_eq_true rfl) ?_
  intro pV eV sV mV bV tV cV AV XC hrV
  have XC : Cx pV _ sV mV _ tV cV cX2_bottom 2 RX2 wsX2_bottom AV D kI kC := XC
  change VV _ _ _ _ _ _ _ _ _ _ _ _ _ _ _ _ _ [some (.ref h0), some (.int (iI (k : Int)))] _ _
  dsimp only [shW]
  have hf := skC_ok hs
  have hsz := skC_sz hs
  have hz := OkK_sz hs
  generalize hm : szk (skC F k) = mm at hsz hz ⊢
  refine V_aload_n XC 0 rfl dX2_bottom_0 rfl ?_
  refine V_iload_n XC 1 rfl dX2_bottom_1 rfl ?_
  refine V_bipush XC dX2_bottom_2 (by decide) ?_
  refine V_imul XC dX2_bottom_4 ?_
  refine V_bipush XC dX2_bottom_5 (by decide) ?_
  refine V_iadd XC dX2_bottom_7 ?_
  refine V_aload_n XC 0 rfl dX2_bottom_8 rfl ?_
  refine V_iload_n XC 1 rfl dX2_bottom_9 rfl ?_
  refine V_callV (rest := _) (q0 := 0) XC (c_X2_size l D kI kC _ _ _ _ _ (by omega)) gX2_bottom_X2_size rfl kmX2_size ⟨⟨Nat.le_of_ble_eq_true rfl, Nat.le_of_ble_eq_true rfl⟩, Nat.le_of_ble_eq_true rfl, Nat.le_of_ble_eq_true rfl⟩ ⟨rfl, rfl⟩ rfl rfl (Nat.le_of_ble_eq_true rfl) [0, 1] rfl rfl (fun _ => rfl) rfl rfl dX2_bottom_10 (kR_of rfl (fun r10 hq10 => ?_))
  subst hq10
  rw [hsz, show ((k : Int) * 50 + 26) = ((50 * k + 26 : Nat) : Int) by omega]
  refine V_callV (rest := _) (q0 := 0) XC (c_X2_greatestFrom l D kI kC _ _ _ _ (50 * k + 26) mm (by omega) (by omega) (fun i hi => by have := hf.2.2.2.2 i (by omega); omega)) gX2_bottom_X2_greatestFrom rfl kmX2_greatestFrom ⟨⟨Nat.le_of_ble_eq_true rfl, Nat.le_of_ble_eq_true rfl⟩, Nat.le_of_ble_eq_true rfl, Nat.le_of_ble_eq_true rfl⟩ ⟨rfl, rfl⟩ rfl rfl (Nat.le_of_ble_eq_true rfl) [0, 1] rfl rfl (fun _ => rfl) rfl rfl dX2_bottom_13 (kR_of rfl (fun r13 hq13 => ?_))
  subst hq13
  refine V_iret XC () hrV rfl dX2_bottom_16 ?_
  try dsimp only
  exact mxF_congr (fun i hi => (skC_xy (by rw [hm]; omega)).2)

set_option maxRecDepth 100000 in
set_option maxHeartbeats 4000000 in
theorem c_X2_length (l : Launch) (D : va_G) (kI kC : ClassId) (h0 h1 : Nat) (n : Int) (F : Nat → Int) (k : Nat) (hk : k < 16) (hs : OkK (skC F k)) : ConR l yX2_length wsX2_length { frames := 1, cells := 0, slots := 0, locals := 23 } D kI kC [.ref h0, .int (iI (k : Int))] (shW kI h0 h1 n F) (fun r => r = lenF (px (skC F k)) (py (skC F k)) (szk (skC F k))) := by
  refine Con.of (cc := cX2_length) (maxL := 6) (ret := (some .int)) (by decide +kernel) rfl (List.forall_mem_cons.mpr ⟨rfl, List.forall_mem_cons.mpr ⟨rfl, fun _ h => absurd h List.not_mem_nil⟩⟩) (Nat.le_of_ble_eq_true rfl) ?_
  intro pV eV sV mV bV tV cV AV XC hrV
  have XC : Cx pV _ sV mV _ tV cV cX2_length 6 RX2 wsX2_length AV D kI kC := XC
  change VV _ _ _ _ _ _ _ _ _ _ _ _ _ _ _ _ _ [some (.ref h0), some (.int (iI (k : Int))), none, none, none, none] _ _
  dsimp only [shW]
  have hf := skC_ok hs
  have hsz := skC_sz hs
  have hz := OkK_sz hs
  have hxy := fun i hi => skC_xy (F := F) (k := k) (i := i) hi
  unfold lenF
  generalize hm : szk (skC F k) = mm at hsz hz hxy ⊢
  refine V_iconst XC dX2_length_0 ?_
  refine V_istore_n XC 2 rfl dX2_length_1 (by decide) ?_
  dsimp only [List.set]
  refine V_iconst XC dX2_length_2 ?_
  refine V_istore_n XC 3 rfl dX2_length_3 (by decide) ?_
  dsimp only [List.set]
  refine V_loopR (σ := Nat) (fun u => mm - u) (fun u => u + 1 ≤ mm) (fun u => [some (.ref h0), some (.int (iI (k : Int))), some (.int (iI (itr (fun i a => a + rootZ (100 * ((px (skC F k) (i + 1) - px (skC F k) i) * (px (skC F k) (i + 1) - px (skC F k) i) + (py (skC F k) (i + 1) - py (skC F k) i) * (py (skC F k) (i + 1) - py (skC F k) i)))) 0 u))), some (.int (iI ((u : Int) + 1))), none, none]) (0) hz.1 rfl (fun u hJ ih4 => ?_)
  obtain ⟨j, rfl⟩ : ∃ z, z = u := ⟨_, rfl⟩
  try dsimp only at hJ ih4 ⊢
  obtain hj := hJ
  refine V_iload_n XC 3 rfl dX2_length_4 rfl ?_
  refine V_aload_n XC 0 rfl dX2_length_5 rfl ?_
  refine V_iload_n XC 1 rfl dX2_length_6 rfl ?_
  refine V_callV (rest := _) (q0 := 0) XC (c_X2_size l D kI kC _ _ _ _ _ (by omega)) gX2_length_X2_size rfl kmX2_size ⟨⟨Nat.le_of_ble_eq_true rfl, Nat.le_of_ble_eq_true rfl⟩, Nat.le_of_ble_eq_true rfl, Nat.le_of_ble_eq_true rfl⟩ ⟨rfl, rfl⟩ rfl rfl (Nat.le_of_ble_eq_true rfl) [0, 1] rfl rfl (fun _ => rfl) rfl rfl dX2_length_7 (kR_of rfl (fun r7 hq7 => ?_))
  subst hq7
  refine V_icmp_ge XC 69 dX2_length_10 (by decide) ⟨by omega, by omega⟩ ⟨by omega, by omega⟩ (fun h10 => ?_) (fun h10 => ?_)
  · skip
    refine V_iload_n XC 2 rfl dX2_length_69 rfl ?_
    refine V_iret XC () hrV rfl dX2_length_70 ?_
    try dsimp only
    rw [show j = mm - 1 by omega]
  have hf1 := hf.2.2.2.2 (j + 1) (by omega)
  have hf0 := hf.2.2.2.2 j (by omega)
  have hx1 := hxy (j + 1) (by omega)
  have hx0 := hxy j (by omega)
  refine V_aload_n XC 0 rfl dX2_length_13 rfl ?_
  refine V_iload_n XC 1 rfl dX2_length_14 rfl ?_
  refine V_iload_n XC 3 rfl dX2_length_15 rfl ?_
  refine V_callV (rest := _) (q0 := 0) XC (c_X2_x l D kI kC _ _ _ _ _ (j + 1) (by omega) (by omega)) gX2_length_X2_x rfl kmX2_x ⟨⟨Nat.le_of_ble_eq_true rfl, Nat.le_of_ble_eq_true rfl⟩, Nat.le_of_ble_eq_true rfl, Nat.le_of_ble_eq_true rfl⟩ ⟨rfl, rfl⟩ rfl rfl (Nat.le_of_ble_eq_true rfl) [0, 1] rfl rfl (fun _ => rfl) rfl rfl dX2_length_16 (kR_of rfl (fun r16 hq16 => ?_))
  subst hq16
  refine V_aload_n XC 0 rfl dX2_length_19 rfl ?_
  refine V_iload_n XC 1 rfl dX2_length_20 rfl ?_
  refine V_iload_n XC 3 rfl dX2_length_21 rfl ?_
  refine V_iconst XC dX2_length_22 ?_
  refine V_isub XC dX2_length_23 ?_
  rw [show ((j : Int) + 1 - 1) = (j : Int) by omega]
  refine V_callV (rest := _) (q0 := 0) XC (c_X2_x l D kI kC _ _ _ _ _ _ (by omega) (by omega)) gX2_length_X2_x rfl kmX2_x ⟨⟨Nat.le_of_ble_eq_true rfl, Nat.le_of_ble_eq_true rfl⟩, Nat.le_of_ble_eq_true rfl, Nat.le_of_ble_eq_true rfl⟩ ⟨rfl, rfl⟩ rfl rfl (Nat.le_of_ble_eq_true rfl) [0, 1] rfl rfl (fun _ => rfl) rfl rfl dX2_length_24 (kR_of rfl (fun r24 hq24 => ?_))
  subst hq24
  refine V_isub XC dX2_length_27 ?_
  refine V_istore XC dX2_length_28 (by decide) ?_
  dsimp only [List.set]
  refine V_aload_n XC 0 rfl dX2_length_30 rfl ?_
  refine V_iload_n XC 1 rfl dX2_length_31 rfl ?_
  refine V_iload_n XC 3 rfl dX2_length_32 rfl ?_
  refine V_callV (rest := _) (q0 := 0) XC (c_X2_y l D kI kC _ _ _ _ _ (j + 1) (by omega) (by omega)) gX2_length_X2_y rfl kmX2_y ⟨⟨Nat.le_of_ble_eq_true rfl, Nat.le_of_ble_eq_true rfl⟩, Nat.le_of_ble_eq_true rfl, Nat.le_of_ble_eq_true rfl⟩ ⟨rfl, rfl⟩ rfl rfl (Nat.le_of_ble_eq_true rfl) [0, 1] rfl rfl (fun _ => rfl) rfl rfl dX2_length_33 (kR_of rfl (fun r33 hq33 => ?_))
  subst hq33
  refine V_aload_n XC 0 rfl dX2_length_36 rfl ?_
  refine V_iload_n XC 1 rfl dX2_length_37 rfl ?_
  refine V_iload_n XC 3 rfl dX2_length_38 rfl ?_
  refine V_iconst XC dX2_length_39 ?_
  refine V_isub XC dX2_length_40 ?_
  rw [show ((j : Int) + 1 - 1) = (j : Int) by omega]
  refine V_callV (rest := _) (q0 := 0) XC (c_X2_y l D kI kC _ _ _ _ _ _ (by omega) (by omega)) gX2_length_X2_y rfl kmX2_y ⟨⟨Nat.le_of_ble_eq_true rfl, Nat.le_of_ble_eq_true rfl⟩, Nat.le_of_ble_eq_true rfl, Nat.le_of_ble_eq_true rfl⟩ ⟨rfl, rfl⟩ rfl rfl (Nat.le_of_ble_eq_true rfl) [0, 1] rfl rfl (fun _ => rfl) rfl rfl dX2_length_41 (kR_of rfl (fun r41 hq41 => ?_))
  subst hq41
  refine V_isub XC dX2_length_44 ?_
  refine V_istore XC dX2_length_45 (by decide) ?_
  dsimp only [List.set]
  refine V_iload_n XC 2 rfl dX2_length_47 rfl ?_
  refine V_bipush XC dX2_length_48 (by decide) ?_
  refine V_iload XC dX2_length_50 rfl ?_
  refine V_iload XC dX2_length_52 rfl ?_
  rw [hx1.1, hx0.1, hx1.2, hx0.2]
  rw [hx1.1, hx1.2] at hf1
  rw [hx0.1, hx0.2] at hf0
  refine V_callN (rest := _) XC (c_X7_square l D kI kC _ _) gX2_length_X7_square_n68 mnX2_length_68.1 mnX2_length_68.2 rfl kmX7_square ⟨⟨Nat.le_of_ble_eq_true rfl, Nat.le_of_ble_eq_true rfl⟩, Nat.le_of_ble_eq_true rfl, Nat.le_of_ble_eq_true rfl⟩ ⟨rfl, rfl⟩ rfl rfl (Nat.le_of_ble_eq_true rfl) [] rfl rfl (fun _ => rfl) dX2_length_54 (kR_of rfl (fun r54 hq54 => ?_))
  subst hq54
  refine V_imul XC dX2_length_57 ?_
  have q1 := sqb (x := px (skC F k) (j + 1) - px (skC F k) j) (B := 1000) (by omega) (by omega)
  have q2 := sqb (x := py (skC F k) (j + 1) - py (skC F k) j) (B := 1000) (by omega) (by omega)
  refine V_callN (rest := _) XC (c_X7_root l D kI kC _ (by omega)) gX2_length_X7_root_n71 mnX2_length_71.1 mnX2_length_71.2 rfl kmX7_root ⟨⟨Nat.le_of_ble_eq_true rfl, Nat.le_of_ble_eq_true rfl⟩, Nat.le_of_ble_eq_true rfl, Nat.le_of_ble_eq_true rfl⟩ ⟨rfl, rfl⟩ rfl rfl (Nat.le_of_ble_eq_true rfl) [] rfl rfl (fun _ => rfl) dX2_length_58 (kR_of rfl (fun r58 hq58 => ?_))
  subst hq58
  refine V_iadd XC dX2_length_61 ?_
  refine V_istore_n XC 2 rfl dX2_length_62 (by decide) ?_
  dsimp only [List.set]
  refine V_iinc XC dX2_length_63 rfl (by decide) ?_
  dsimp only [List.set]
  refine V_goto XC 4 dX2_length_66 (by decide) ?_
  refine V_kill 4 ?_
  dsimp only [List.set]
  refine V_kill 5 ?_
  dsimp only [List.set]
  exact ih4 (j + 1) (by omega) (by omega)

set_option maxRecDepth 100000 in
set_option maxHeartbeats 4000000 in
theorem c_X2_copy (l : Launch) (D : va_G) (kI kC : ClassId) (h0 h1 : Nat) (n : Int) (F : Nat → Int) (t0 t1 : Nat) (m : Int) (G : Nat → Int)  : Con l yX2_copy wsX2_copy { frames := 1, cells := 0, slots := 0, locals := 40 } D kI kC [.ref h0, .ref t0] (shW kI h0 h1 n F ++ shW kI t0 t1 m G) (σ := Unit) (qV (fun u => True)) (fun u => shW kI h0 h1 m (cpz G F 0 0 800) ++ shW kI t0 t1 m G) := by
  refine Con.of (cc := cX2_copy) (maxL := 2) (ret := none) (by decide +kernel) rfl (List.forall_mem_cons.mpr ⟨rfl, List.forall_mem_cons.mpr ⟨rfl, fun _ h => absurd h List.not_mem_nil⟩⟩) (Nat.le_of_ble_eq_true rfl) ?_
  intro pV eV sV mV bV tV cV AV XC hrV
  have XC : Cx pV _ sV mV _ tV cV cX2_copy 2 RX2 wsX2_copy AV D kI kC := XC
  change VV _ _ _ _ _ _ _ _ _ _ _ _ _ _ _ _ _ [some (.ref h0), some (.ref t0)] _ _
  dsimp only [shW, List.cons_append, List.nil_append]
  refine V_aload_n XC 0 rfl dX2_copy_0 rfl ?_
  refine V_aload_n XC 1 rfl dX2_copy_1 rfl ?_
  refine V_get XC 0 flX2_copy_15 2 rfl rfl dX2_copy_2 ?_
  refine V_putI XC 0 flX2_copy_15 fpX2 pdX2_0 rfl 0 rfl (Nat.le_of_ble_eq_true rfl) dX2_copy_5 ?_
  dsimp only [List.set]
  refine V_aload_n XC 1 rfl dX2_copy_8 rfl ?_
  refine V_get XC 1 flX2_copy_9 2 rfl rfl dX2_copy_9 ?_
  refine V_iconst XC dX2_copy_12 ?_
  refine V_aload_n XC 0 rfl dX2_copy_13 rfl ?_
  refine V_get XC 1 flX2_copy_9 0 rfl rfl dX2_copy_14 ?_
  refine V_iconst XC dX2_copy_17 ?_
  refine V_sipush XC dX2_copy_18 (by decide) ?_
  refine V_copy XC (0) (0) (800) mcX2_copy_19 3 1 rfl rfl rfl rfl rfl (by omega) (by omega) (by decide) (by decide) (Nat.le_of_ble_eq_true rfl) (Nat.le_of_ble_eq_true rfl) dX2_copy_21 ?_
  dsimp only [List.set]
  refine V_vret XC (()) hrV rfl dX2_copy_24 ?_
  trivial

def ofC (t : Stk) (c : Int) : Bool := decide (c = -1 ∨ t.1 = c)
def lenK (t : Stk) : Int := lenF (px t) (py t) (szk t)
def sumK (S : List Stk) (f : Stk → Int) : Int := itr (fun k a => a + f (gk S k)) 0 S.length

set_option maxRecDepth 100000 in
set_option maxHeartbeats 4000000 in
theorem c_X2_isOf (l : Launch) (D : va_G) (kI kC : ClassId) (h0 h1 : Nat) (n : Int) (F : Nat → Int) (k : Nat) (c : Int) (hk : k < 16) (hc : IR c) (hF : IR (F (50 * k))) : ConR l yX2_isOf wsX2_isOf { frames := 1, cells := 0, slots := 0, locals := 21 } D kI kC [.ref h0, .int (iI (k : Int)), .int (iI c)] (shW kI h0 h1 n F) (fun r => r = bI (ofC (skC F k) c)) := by
  refine Con.of (cc := cX2_isOf) (maxL := 3) (ret := (some .boolean)) (by decide +kernel) rfl (List.forall_mem_cons.mpr ⟨rfl, List.forall_mem_cons.mpr ⟨rfl, List.forall_mem_cons.mpr ⟨rfl, fun _ h => absurd h List.not_mem_nil⟩⟩⟩) (Nat.le_of_ble_eq_true rfl) ?_
  intro pV eV sV mV bV tV cV AV XC hrV
  have XC : Cx pV _ sV mV _ tV cV cX2_isOf 3 RX2 wsX2_isOf AV D kI kC := XC
  change VV _ _ _ _ _ _ _ _ _ _ _ _ _ _ _ _ _ [some (.ref h0), some (.int (iI (k : Int))), some (.int (iI c))] _ _
  dsimp only [shW]
  refine V_iload_n XC 2 rfl dX2_isOf_0 rfl ?_
  refine V_iconst XC dX2_isOf_1 ?_
  refine V_icmp_eq XC 14 dX2_isOf_2 (by decide) hc ⟨by decide, by decide⟩ (fun h2 => ?_) (fun h2 => ?_)
  · skip
    have hx : ofC (skC F k) c = true := decide_eq_true (Or.inl h2)
    refine V_iconst XC dX2_isOf_14 ?_
    refine V_goto XC 19 dX2_isOf_15 (by decide) ?_
    refine V_zret (r := true) XC () hrV rfl dX2_isOf_19 ?_
    try dsimp only
    rw [hx]
  refine V_aload_n XC 0 rfl dX2_isOf_5 rfl ?_
  refine V_iload_n XC 1 rfl dX2_isOf_6 rfl ?_
  refine V_callV (rest := _) (q0 := 0) XC (c_X2_colorOf l D kI kC _ _ _ _ _ (by omega)) gX2_isOf_X2_colorOf rfl kmX2_colorOf ⟨⟨Nat.le_of_ble_eq_true rfl, Nat.le_of_ble_eq_true rfl⟩, Nat.le_of_ble_eq_true rfl, Nat.le_of_ble_eq_true rfl⟩ ⟨rfl, rfl⟩ rfl rfl (Nat.le_of_ble_eq_true rfl) [0, 1] rfl rfl (fun _ => rfl) rfl rfl dX2_isOf_7 (kR_of rfl (fun r7 hq7 => ?_))
  subst hq7
  refine V_iload_n XC 2 rfl dX2_isOf_10 rfl ?_
  refine V_icmp_ne XC 18 dX2_isOf_11 (by decide) hF hc (fun h11 => ?_) (fun h11 => ?_)
  · skip
    have hx : ofC (skC F k) c = false := decide_eq_false (fun z => z.elim h2 h11)
    refine V_iconst XC dX2_isOf_18 ?_
    refine V_zret (r := false) XC () hrV rfl dX2_isOf_19 ?_
    try dsimp only
    rw [hx]
  have hx : ofC (skC F k) c = true := decide_eq_true (Or.inr h11)
  refine V_iconst XC dX2_isOf_14 ?_
  refine V_goto XC 19 dX2_isOf_15 (by decide) ?_
  refine V_zret (r := true) XC () hrV rfl dX2_isOf_19 ?_
  try dsimp only
  rw [hx]

set_option maxRecDepth 100000 in
set_option maxHeartbeats 4000000 in
theorem c_X2_strokesOf (l : Launch) (D : va_G) (kI kC : ClassId) (h0 h1 : Nat) (n : Nat) (F : Nat → Int) (hS : OkS (shC n F)) (hn : n ≤ 16) (c : Int) (hc : IR c) : ConR l yX2_strokesOf wsX2_strokesOf { frames := 2, cells := 0, slots := 0, locals := 43 } D kI kC [.ref h0, .int (iI c)] (shW kI h0 h1 (n : Int) F) (fun r => r = sumK (shC n F) (fun t => bI (ofC t c))) := by
  refine Con.of (cc := cX2_strokesOf) (maxL := 4) (ret := (some .int)) (by decide +kernel) rfl (List.forall_mem_cons.mpr ⟨rfl, List.forall_mem_cons.mpr ⟨rfl, fun _ h => absurd h List.not_mem_nil⟩⟩) (Nat.le_of_ble_eq_true rfl) ?_
  intro pV eV sV mV bV tV cV AV XC hrV
  have XC : Cx pV _ sV mV _ tV cV cX2_strokesOf 4 RX2 wsX2_strokesOf AV D kI kC := XC
  change VV _ _ _ _ _ _ _ _ _ _ _ _ _ _ _ _ _ [some (.ref h0), some (.int (iI c)), none, none] _ _
  dsimp only [shW]
  refine V_iconst XC dX2_strokesOf_0 ?_
  refine V_istore_n XC 2 rfl dX2_strokesOf_1 (by decide) ?_
  dsimp only [List.set]
  refine V_iconst XC dX2_strokesOf_2 ?_
  refine V_istore_n XC 3 rfl dX2_strokesOf_3 (by decide) ?_
  dsimp only [List.set]
  refine V_loopR (σ := Nat) (fun u => n - u) (fun u => u ≤ n) (fun u => [some (.ref h0), some (.int (iI c)), some (.int (iI (itr (fun k a => a + (fun t => bI (ofC t c)) (gk (shC n F) k)) 0 u))), some (.int (iI (u : Int)))]) (0) (Nat.zero_le _) rfl (fun u hJ ih4 => ?_)
  obtain ⟨j, rfl⟩ : ∃ z, z = u := ⟨_, rfl⟩
  try dsimp only at hJ ih4 ⊢
  obtain hj := hJ
  refine V_iload_n XC 3 rfl dX2_strokesOf_4 rfl ?_
  refine V_aload_n XC 0 rfl dX2_strokesOf_5 rfl ?_
  refine V_get XC 0 flX2_strokesOf_15 0 rfl rfl dX2_strokesOf_6 ?_
  refine V_icmp_ge XC 35 dX2_strokesOf_9 (by decide) ⟨by omega, by omega⟩ ⟨by omega, by omega⟩ (fun h9 => ?_) (fun h9 => ?_)
  · skip
    refine V_iload_n XC 2 rfl dX2_strokesOf_35 rfl ?_
    refine V_iret XC () hrV rfl dX2_strokesOf_36 ?_
    have e : j = n := by omega
    subst e
    unfold sumK
    rw [shC_len]
  have hok := shC_in hS (show j < n by omega)
  have hf := skC_ok hok
  refine V_iload_n XC 2 rfl dX2_strokesOf_12 rfl ?_
  refine V_aload_n XC 0 rfl dX2_strokesOf_13 rfl ?_
  refine V_iload_n XC 3 rfl dX2_strokesOf_14 rfl ?_
  refine V_iload_n XC 1 rfl dX2_strokesOf_15 rfl ?_
  refine V_callV (rest := _) (q0 := 0) XC (c_X2_isOf l D kI kC _ _ _ _ _ _ (by omega) hc ⟨by omega, by omega⟩) gX2_strokesOf_X2_isOf rfl kmX2_isOf ⟨⟨Nat.le_of_ble_eq_true rfl, Nat.le_of_ble_eq_true rfl⟩, Nat.le_of_ble_eq_true rfl, Nat.le_of_ble_eq_true rfl⟩ ⟨rfl, rfl⟩ rfl rfl (Nat.le_of_ble_eq_true rfl) [0, 1] rfl rfl (fun _ => rfl) rfl rfl dX2_strokesOf_16 (kR_of rfl (fun r16 hq16 => ?_))
  subst hq16
  refine V_bif_eq XC 26 dX2_strokesOf_19 (by decide) (fun h19 => ?_) (fun h19 => ?_)
  · skip
    refine V_iconst XC dX2_strokesOf_26 ?_
    refine V_iadd XC dX2_strokesOf_27 ?_
    refine V_istore_n XC 2 rfl dX2_strokesOf_28 (by decide) ?_
    dsimp only [List.set]
    refine V_iinc XC dX2_strokesOf_29 rfl (by decide) ?_
    dsimp only [List.set]
    refine V_goto XC 4 dX2_strokesOf_32 (by decide) ?_
    rw [show ∀ z : Int, z = (fun t => bI (ofC t c)) (skC F j) → itr (fun k a => a + (fun t => bI (ofC t c)) (gk (shC n F) k)) 0 j + z = itr (fun k a => a + (fun t => bI (ofC t c)) (gk (shC n F) k)) 0 (j + 1) from fun z hz => by rw [itr_s, shC_at (by omega), hz]]
    · exact ih4 (j + 1) (by omega) (by omega)
    · simp [h19, bI, skC_sz hok, lenK]
  refine V_iconst XC dX2_strokesOf_22 ?_
  refine V_goto XC 27 dX2_strokesOf_23 (by decide) ?_
  refine V_iadd XC dX2_strokesOf_27 ?_
  refine V_istore_n XC 2 rfl dX2_strokesOf_28 (by decide) ?_
  dsimp only [List.set]
  refine V_iinc XC dX2_strokesOf_29 rfl (by decide) ?_
  dsimp only [List.set]
  refine V_goto XC 4 dX2_strokesOf_32 (by decide) ?_
  rw [show ∀ z : Int, z = (fun t => bI (ofC t c)) (skC F j) → itr (fun k a => a + (fun t => bI (ofC t c)) (gk (shC n F) k)) 0 j + z = itr (fun k a => a + (fun t => bI (ofC t c)) (gk (shC n F) k)) 0 (j + 1) from fun z hz => by rw [itr_s, shC_at (by omega), hz]]
  · exact ih4 (j + 1) (by omega) (by omega)
  · simp [h19, bI, skC_sz hok, lenK]

set_option maxRecDepth 100000 in
set_option maxHeartbeats 4000000 in
theorem c_X2_pointsOf (l : Launch) (D : va_G) (kI kC : ClassId) (h0 h1 : Nat) (n : Nat) (F : Nat → Int) (hS : OkS (shC n F)) (hn : n ≤ 16) (c : Int) (hc : IR c) : ConR l yX2_pointsOf wsX2_pointsOf { frames := 2, cells := 0, slots := 0, locals := 43 } D kI kC [.ref h0, .int (iI c)] (shW kI h0 h1 (n : Int) F) (fun r => r = sumK (shC n F) (fun t => if ofC t c = true then (szk t : Int) else 0)) := by
  refine Con.of (cc := cX2_pointsOf) (maxL := 4) (ret := (some .int)) (by decide +kernel) rfl (List.forall_mem_cons.mpr ⟨rfl, List.forall_mem_cons.mpr ⟨rfl, fun _ h => absurd h List.not_mem_nil⟩⟩) (Nat.le_of_ble_eq_true rfl) ?_
  intro pV eV sV mV bV tV cV AV XC hrV
  have XC : Cx pV _ sV mV _ tV cV cX2_pointsOf 4 RX2 wsX2_pointsOf AV D kI kC := XC
  change VV _ _ _ _ _ _ _ _ _ _ _ _ _ _ _ _ _ [some (.ref h0), some (.int (iI c)), none, none] _ _
  dsimp only [shW]
  refine V_iconst XC dX2_pointsOf_0 ?_
  refine V_istore_n XC 2 rfl dX2_pointsOf_1 (by decide) ?_
  dsimp only [List.set]
  refine V_iconst XC dX2_pointsOf_2 ?_
  refine V_istore_n XC 3 rfl dX2_pointsOf_3 (by decide) ?_
  dsimp only [List.set]
  refine V_loopR (σ := Nat) (fun u => n - u) (fun u => u ≤ n) (fun u => [some (.ref h0), some (.int (iI c)), some (.int (iI (itr (fun k a => a + (fun t => if ofC t c = true then (szk t : Int) else 0) (gk (shC n F) k)) 0 u))), some (.int (iI (u : Int)))]) (0) (Nat.zero_le _) rfl (fun u hJ ih4 => ?_)
  obtain ⟨j, rfl⟩ : ∃ z, z = u := ⟨_, rfl⟩
  try dsimp only at hJ ih4 ⊢
  obtain hj := hJ
  refine V_iload_n XC 3 rfl dX2_pointsOf_4 rfl ?_
  refine V_aload_n XC 0 rfl dX2_pointsOf_5 rfl ?_
  refine V_get XC 0 flX2_pointsOf_15 0 rfl rfl dX2_pointsOf_6 ?_
  refine V_icmp_ge XC 39 dX2_pointsOf_9 (by decide) ⟨by omega, by omega⟩ ⟨by omega, by omega⟩ (fun h9 => ?_) (fun h9 => ?_)
  · skip
    refine V_iload_n XC 2 rfl dX2_pointsOf_39 rfl ?_
    refine V_iret XC () hrV rfl dX2_pointsOf_40 ?_
    have e : j = n := by omega
    subst e
    unfold sumK
    rw [shC_len]
  have hok := shC_in hS (show j < n by omega)
  have hf := skC_ok hok
  refine V_iload_n XC 2 rfl dX2_pointsOf_12 rfl ?_
  refine V_aload_n XC 0 rfl dX2_pointsOf_13 rfl ?_
  refine V_iload_n XC 3 rfl dX2_pointsOf_14 rfl ?_
  refine V_iload_n XC 1 rfl dX2_pointsOf_15 rfl ?_
  refine V_callV (rest := _) (q0 := 0) XC (c_X2_isOf l D kI kC _ _ _ _ _ _ (by omega) hc ⟨by omega, by omega⟩) gX2_pointsOf_X2_isOf rfl kmX2_isOf ⟨⟨Nat.le_of_ble_eq_true rfl, Nat.le_of_ble_eq_true rfl⟩, Nat.le_of_ble_eq_true rfl, Nat.le_of_ble_eq_true rfl⟩ ⟨rfl, rfl⟩ rfl rfl (Nat.le_of_ble_eq_true rfl) [0, 1] rfl rfl (fun _ => rfl) rfl rfl dX2_pointsOf_16 (kR_of rfl (fun r16 hq16 => ?_))
  subst hq16
  refine V_bif_eq XC 30 dX2_pointsOf_19 (by decide) (fun h19 => ?_) (fun h19 => ?_)
  · skip
    refine V_iconst XC dX2_pointsOf_30 ?_
    refine V_iadd XC dX2_pointsOf_31 ?_
    refine V_istore_n XC 2 rfl dX2_pointsOf_32 (by decide) ?_
    dsimp only [List.set]
    refine V_iinc XC dX2_pointsOf_33 rfl (by decide) ?_
    dsimp only [List.set]
    refine V_goto XC 4 dX2_pointsOf_36 (by decide) ?_
    rw [show ∀ z : Int, z = (fun t => if ofC t c = true then (szk t : Int) else 0) (skC F j) → itr (fun k a => a + (fun t => if ofC t c = true then (szk t : Int) else 0) (gk (shC n F) k)) 0 j + z = itr (fun k a => a + (fun t => if ofC t c = true then (szk t : Int) else 0) (gk (shC n F) k)) 0 (j + 1) from fun z hz => by rw [itr_s, shC_at (by omega), hz]]
    · exact ih4 (j + 1) (by omega) (by omega)
    · simp [h19, bI, skC_sz hok, lenK]
  refine V_aload_n XC 0 rfl dX2_pointsOf_22 rfl ?_
  refine V_iload_n XC 3 rfl dX2_pointsOf_23 rfl ?_
  refine V_callV (rest := _) (q0 := 0) XC (c_X2_size l D kI kC _ _ _ _ _ (by omega)) gX2_pointsOf_X2_size rfl kmX2_size ⟨⟨Nat.le_of_ble_eq_true rfl, Nat.le_of_ble_eq_true rfl⟩, Nat.le_of_ble_eq_true rfl, Nat.le_of_ble_eq_true rfl⟩ ⟨rfl, rfl⟩ rfl rfl (Nat.le_of_ble_eq_true rfl) [0, 1] rfl rfl (fun _ => rfl) rfl rfl dX2_pointsOf_24 (kR_of rfl (fun r24 hq24 => ?_))
  subst hq24
  refine V_goto XC 31 dX2_pointsOf_27 (by decide) ?_
  refine V_iadd XC dX2_pointsOf_31 ?_
  refine V_istore_n XC 2 rfl dX2_pointsOf_32 (by decide) ?_
  dsimp only [List.set]
  refine V_iinc XC dX2_pointsOf_33 rfl (by decide) ?_
  dsimp only [List.set]
  refine V_goto XC 4 dX2_pointsOf_36 (by decide) ?_
  rw [show ∀ z : Int, z = (fun t => if ofC t c = true then (szk t : Int) else 0) (skC F j) → itr (fun k a => a + (fun t => if ofC t c = true then (szk t : Int) else 0) (gk (shC n F) k)) 0 j + z = itr (fun k a => a + (fun t => if ofC t c = true then (szk t : Int) else 0) (gk (shC n F) k)) 0 (j + 1) from fun z hz => by rw [itr_s, shC_at (by omega), hz]]
  · exact ih4 (j + 1) (by omega) (by omega)
  · simp [h19, bI, skC_sz hok, lenK]

set_option maxRecDepth 100000 in
set_option maxHeartbeats 4000000 in
theorem c_X2_lengthsOf (l : Launch) (D : va_G) (kI kC : ClassId) (h0 h1 : Nat) (n : Nat) (F : Nat → Int) (hS : OkS (shC n F)) (hn : n ≤ 16) (c : Int) (hc : IR c) : ConR l yX2_lengthsOf wsX2_lengthsOf { frames := 2, cells := 0, slots := 0, locals := 48 } D kI kC [.ref h0, .int (iI c)] (shW kI h0 h1 (n : Int) F) (fun r => r = sumK (shC n F) (fun t => if ofC t c = true then lenK t else 0)) := by
  refine Con.of (cc := cX2_lengthsOf) (maxL := 4) (ret := (some .int)) (by decide +kernel) rfl (List.forall_mem_cons.mpr ⟨rfl, List.forall_mem_cons.mpr ⟨rfl, fun _ h => absurd h List.not_mem_nil⟩⟩) (Nat.le_of_ble_eq_true rfl) ?_
  intro pV eV sV mV bV tV cV AV XC hrV
  have XC : Cx pV _ sV mV _ tV cV cX2_lengthsOf 4 RX2 wsX2_lengthsOf AV D kI kC := XC
  change VV _ _ _ _ _ _ _ _ _ _ _ _ _ _ _ _ _ [some (.ref h0), some (.int (iI c)), none, none] _ _
  dsimp only [shW]
  refine V_iconst XC dX2_lengthsOf_0 ?_
  refine V_istore_n XC 2 rfl dX2_lengthsOf_1 (by decide) ?_
  dsimp only [List.set]
  refine V_iconst XC dX2_lengthsOf_2 ?_
  refine V_istore_n XC 3 rfl dX2_lengthsOf_3 (by decide) ?_
  dsimp only [List.set]
  refine V_loopR (σ := Nat) (fun u => n - u) (fun u => u ≤ n) (fun u => [some (.ref h0), some (.int (iI c)), some (.int (iI (itr (fun k a => a + (fun t => if ofC t c = true then lenK t else 0) (gk (shC n F) k)) 0 u))), some (.int (iI (u : Int)))]) (0) (Nat.zero_le _) rfl (fun u hJ ih4 => ?_)
  obtain ⟨j, rfl⟩ : ∃ z, z = u := ⟨_, rfl⟩
  try dsimp only at hJ ih4 ⊢
  obtain hj := hJ
  refine V_iload_n XC 3 rfl dX2_lengthsOf_4 rfl ?_
  refine V_aload_n XC 0 rfl dX2_lengthsOf_5 rfl ?_
  refine V_get XC 0 flX2_lengthsOf_15 0 rfl rfl dX2_lengthsOf_6 ?_
  refine V_icmp_ge XC 39 dX2_lengthsOf_9 (by decide) ⟨by omega, by omega⟩ ⟨by omega, by omega⟩ (fun h9 => ?_) (fun h9 => ?_)
  · skip
    refine V_iload_n XC 2 rfl dX2_lengthsOf_39 rfl ?_
    refine V_iret XC () hrV rfl dX2_lengthsOf_40 ?_
    have e : j = n := by omega
    subst e
    unfold sumK
    rw [shC_len]
  have hok := shC_in hS (show j < n by omega)
  have hf := skC_ok hok
  refine V_iload_n XC 2 rfl dX2_lengthsOf_12 rfl ?_
  refine V_aload_n XC 0 rfl dX2_lengthsOf_13 rfl ?_
  refine V_iload_n XC 3 rfl dX2_lengthsOf_14 rfl ?_
  refine V_iload_n XC 1 rfl dX2_lengthsOf_15 rfl ?_
  refine V_callV (rest := _) (q0 := 0) XC (c_X2_isOf l D kI kC _ _ _ _ _ _ (by omega) hc ⟨by omega, by omega⟩) gX2_lengthsOf_X2_isOf rfl kmX2_isOf ⟨⟨Nat.le_of_ble_eq_true rfl, Nat.le_of_ble_eq_true rfl⟩, Nat.le_of_ble_eq_true rfl, Nat.le_of_ble_eq_true rfl⟩ ⟨rfl, rfl⟩ rfl rfl (Nat.le_of_ble_eq_true rfl) [0, 1] rfl rfl (fun _ => rfl) rfl rfl dX2_lengthsOf_16 (kR_of rfl (fun r16 hq16 => ?_))
  subst hq16
  refine V_bif_eq XC 30 dX2_lengthsOf_19 (by decide) (fun h19 => ?_) (fun h19 => ?_)
  · skip
    refine V_iconst XC dX2_lengthsOf_30 ?_
    refine V_iadd XC dX2_lengthsOf_31 ?_
    refine V_istore_n XC 2 rfl dX2_lengthsOf_32 (by decide) ?_
    dsimp only [List.set]
    refine V_iinc XC dX2_lengthsOf_33 rfl (by decide) ?_
    dsimp only [List.set]
    refine V_goto XC 4 dX2_lengthsOf_36 (by decide) ?_
    rw [show ∀ z : Int, z = (fun t => if ofC t c = true then lenK t else 0) (skC F j) → itr (fun k a => a + (fun t => if ofC t c = true then lenK t else 0) (gk (shC n F) k)) 0 j + z = itr (fun k a => a + (fun t => if ofC t c = true then lenK t else 0) (gk (shC n F) k)) 0 (j + 1) from fun z hz => by rw [itr_s, shC_at (by omega), hz]]
    · exact ih4 (j + 1) (by omega) (by omega)
    · simp [h19, bI, skC_sz hok, lenK]
  refine V_aload_n XC 0 rfl dX2_lengthsOf_22 rfl ?_
  refine V_iload_n XC 3 rfl dX2_lengthsOf_23 rfl ?_
  refine V_callV (rest := _) (q0 := 0) XC (c_X2_length l D kI kC _ _ _ _ _ (by omega) hok) gX2_lengthsOf_X2_length rfl kmX2_length ⟨⟨Nat.le_of_ble_eq_true rfl, Nat.le_of_ble_eq_true rfl⟩, Nat.le_of_ble_eq_true rfl, Nat.le_of_ble_eq_true rfl⟩ ⟨rfl, rfl⟩ rfl rfl (Nat.le_of_ble_eq_true rfl) [0, 1] rfl rfl (fun _ => rfl) rfl rfl dX2_lengthsOf_24 (kR_of rfl (fun r24 hq24 => ?_))
  subst hq24
  refine V_goto XC 31 dX2_lengthsOf_27 (by decide) ?_
  refine V_iadd XC dX2_lengthsOf_31 ?_
  refine V_istore_n XC 2 rfl dX2_lengthsOf_32 (by decide) ?_
  dsimp only [List.set]
  refine V_iinc XC dX2_lengthsOf_33 rfl (by decide) ?_
  dsimp only [List.set]
  refine V_goto XC 4 dX2_lengthsOf_36 (by decide) ?_
  rw [show ∀ z : Int, z = (fun t => if ofC t c = true then lenK t else 0) (skC F j) → itr (fun k a => a + (fun t => if ofC t c = true then lenK t else 0) (gk (shC n F) k)) 0 j + z = itr (fun k a => a + (fun t => if ofC t c = true then lenK t else 0) (gk (shC n F) k)) 0 (j + 1) from fun z hz => by rw [itr_s, shC_at (by omega), hz]]
  · exact ih4 (j + 1) (by omega) (by omega)
  · simp [h19, bI, skC_sz hok, lenK]

end SHEET
