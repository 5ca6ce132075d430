/-! the pad's own functions of numbers -/
section STATIC

set_option maxRecDepth 100000 in
set_option maxHeartbeats 4000000 in
theorem c_X7_isWithin (l : Launch) (D : va_G) (kI kC : ClassId) (v a b : Int) (hv : IR v) (ha : IR a) (hb : IR b) : ConR l yX7_isWithin wsX7_isWithin { frames := 0, cells := 0, slots := 0, locals := 0 } D kI kC [.int (iI v), .int (iI a), .int (iI b)] [] (fun r => r = bI (decide (a ≤ v ∧ v ≤ b))) := by
  refine Con.of (cc := cX7_isWithin) (maxL := 3) (ret := (some .boolean)) (by decide +kernel) rfl (List.forall_mem_cons.mpr ⟨rfl, List.forall_mem_cons.mpr ⟨rfl, List.forall_mem_cons.mpr ⟨rfl, fun _ h => absurd h List.not_mem_nil⟩⟩⟩) (Nat.le_of_ble_eq_true rfl) ?_
  intro pV eV sV mV bV tV cV AV XC hrV
  have XC : Cx pV _ sV mV _ tV cV cX7_isWithin 3 RX7 wsX7_isWithin AV D kI kC := XC
  change VV _ _ _ _ _ _ _ _ _ _ _ _ _ _ _ _ _ [some (.int (iI v)), some (.int (iI a)), some (.int (iI b))] _ _
  refine V_iload_n XC 0 rfl dX7_isWithin_0 rfl ?_
  refine V_iload_n XC 1 rfl dX7_isWithin_1 rfl ?_
  refine V_icmp_lt XC 14 dX7_isWithin_2 (by decide) (by first | assumption | (unfold IR; omega)) (by first | assumption | (unfold IR; omega)) (fun h2 => ?_) (fun h2 => ?_)
  · skip
    refine V_iconst XC dX7_isWithin_14 ?_
    refine V_zret (r := false) XC () hrV rfl dX7_isWithin_15 ?_
    try dsimp only
    first | rfl | exact congrArg bI (decide_eq_true (by omega)).symm | exact congrArg bI (decide_eq_false (by omega)).symm
  refine V_iload_n XC 0 rfl dX7_isWithin_5 rfl ?_
  refine V_iload_n XC 2 rfl dX7_isWithin_6 rfl ?_
  refine V_icmp_gt XC 14 dX7_isWithin_7 (by decide) (by first | assumption | (unfold IR; omega)) (by first | assumption | (unfold IR; omega)) (fun h7 => ?_) (fun h7 => ?_)
  · skip
    refine V_iconst XC dX7_isWithin_14 ?_
    refine V_zret (r := false) XC () hrV rfl dX7_isWithin_15 ?_
    try dsimp only
    first | rfl | exact congrArg bI (decide_eq_true (by omega)).symm | exact congrArg bI (decide_eq_false (by omega)).symm
  refine V_iconst XC dX7_isWithin_10 ?_
  refine V_goto XC 15 dX7_isWithin_11 (by decide) ?_
  refine V_zret (r := true) XC () hrV rfl dX7_isWithin_15 ?_
  try dsimp only
  first | rfl | exact congrArg bI (decide_eq_true (by omega)).symm | exact congrArg bI (decide_eq_false (by omega)).symm

set_option maxRecDepth 100000 in
set_option maxHeartbeats 4000000 in
theorem c_X7_isCoordinate (l : Launch) (D : va_G) (kI kC : ClassId) (v : Int) (hv : IR v) : ConR l yX7_isCoordinate wsX7_isCoordinate { frames := 1, cells := 0, slots := 0, locals := 22 } D kI kC [.int (iI v)] [] (fun r => r = bI (decide (0 ≤ v ∧ v ≤ 1000))) := by
  refine Con.of (cc := cX7_isCoordinate) (maxL := 1) (ret := (some .boolean)) (by decide +kernel) rfl (List.forall_mem_cons.mpr ⟨rfl, fun _ h => absurd h List.not_mem_nil⟩) (Nat.le_of_ble_eq_true rfl) ?_
  intro pV eV sV mV bV tV cV AV XC hrV
  have XC : Cx pV _ sV mV _ tV cV cX7_isCoordinate 1 RX7 wsX7_isCoordinate AV D kI kC := XC
  change VV _ _ _ _ _ _ _ _ _ _ _ _ _ _ _ _ _ [some (.int (iI v))] _ _
  refine V_iload_n XC 0 rfl dX7_isCoordinate_0 rfl ?_
  refine V_iconst XC dX7_isCoordinate_1 ?_
  refine V_sipush XC dX7_isCoordinate_2 (by decide) ?_
  refine V_callS (rest := _) XC (c_X7_isWithin l D kI kC _ _ _ (by first | assumption | (unfold IR; omega)) (by first | assumption | (unfold IR; omega)) (by first | assumption | (unfold IR; omega))) gX7_isCoordinate_X7_isWithin rfl kmX7_isWithin ⟨⟨Nat.le_of_ble_eq_true rfl, Nat.le_of_ble_eq_true rfl⟩, Nat.le_of_ble_eq_true rfl, Nat.le_of_ble_eq_true rfl⟩ ⟨rfl, rfl⟩ rfl rfl (Nat.le_of_ble_eq_true rfl) [] rfl rfl (fun _ => rfl) dX7_isCoordinate_5 (kR_of rfl (fun r5 hq5 => ?_))
  subst hq5
  refine V_zret XC () hrV rfl dX7_isCoordinate_8 ?_
  try dsimp only

set_option maxRecDepth 100000 in
set_option maxHeartbeats 4000000 in
theorem c_X7_isColor (l : Launch) (D : va_G) (kI kC : ClassId) (v : Int) (hv : IR v) : ConR l yX7_isColor wsX7_isColor { frames := 1, cells := 0, slots := 0, locals := 22 } D kI kC [.int (iI v)] [] (fun r => r = bI (decide (0 ≤ v ∧ v ≤ 3))) := by
  refine Con.of (cc := cX7_isColor) (maxL := 1) (ret := (some .boolean)) (by decide +kernel) rfl (List.forall_mem_cons.mpr ⟨rfl, fun _ h => absurd h List.not_mem_nil⟩) (Nat.le_of_ble_eq_true rfl) ?_
  intro pV eV sV mV bV tV cV AV XC hrV
  have XC : Cx pV _ sV mV _ tV cV cX7_isColor 1 RX7 wsX7_isColor AV D kI kC := XC
  change VV _ _ _ _ _ _ _ _ _ _ _ _ _ _ _ _ _ [some (.int (iI v))] _ _
  refine V_iload_n XC 0 rfl dX7_isColor_0 rfl ?_
  refine V_iconst XC dX7_isColor_1 ?_
  refine V_iconst XC dX7_isColor_2 ?_
  refine V_callS (rest := _) XC (c_X7_isWithin l D kI kC _ _ _ (by first | assumption | (unfold IR; omega)) (by first | assumption | (unfold IR; omega)) (by first | assumption | (unfold IR; omega))) gX7_isColor_X7_isWithin rfl kmX7_isWithin ⟨⟨Nat.le_of_ble_eq_true rfl, Nat.le_of_ble_eq_true rfl⟩, Nat.le_of_ble_eq_true rfl, Nat.le_of_ble_eq_true rfl⟩ ⟨rfl, rfl⟩ rfl rfl (Nat.le_of_ble_eq_true rfl) [] rfl rfl (fun _ => rfl) dX7_isColor_3 (kR_of rfl (fun r3 hq3 => ?_))
  subst hq3
  refine V_zret XC () hrV rfl dX7_isColor_6 ?_
  try dsimp only

set_option maxRecDepth 100000 in
set_option maxHeartbeats 4000000 in
theorem c_X7_square (l : Launch) (D : va_G) (kI kC : ClassId) (x y : Int) : ConR l yX7_square wsX7_square { frames := 0, cells := 0, slots := 0, locals := 0 } D kI kC [.int (iI x), .int (iI y)] [] (fun r => r = x * x + y * y) := by
  refine Con.of (cc := cX7_square) (maxL := 2) (ret := (some .int)) (by decide +kernel) rfl (List.forall_mem_cons.mpr ⟨rfl, List.forall_mem_cons.mpr ⟨rfl, fun _ h => absurd h List.not_mem_nil⟩⟩) (Nat.le_of_ble_eq_true rfl) ?_
  intro pV eV sV mV bV tV cV AV XC hrV
  have XC : Cx pV _ sV mV _ tV cV cX7_square 2 RX7 wsX7_square AV D kI kC := XC
  change VV _ _ _ _ _ _ _ _ _ _ _ _ _ _ _ _ _ [some (.int (iI x)), some (.int (iI y))] _ _
  refine V_iload_n XC 0 rfl dX7_square_0 rfl ?_
  refine V_iload_n XC 0 rfl dX7_square_1 rfl ?_
  refine V_imul XC dX7_square_2 ?_
  refine V_iload_n XC 1 rfl dX7_square_3 rfl ?_
  refine V_iload_n XC 1 rfl dX7_square_4 rfl ?_
  refine V_imul XC dX7_square_5 ?_
  refine V_iadd XC dX7_square_6 ?_
  refine V_iret XC () hrV rfl dX7_square_7 ?_
  first | rfl | assumption | omega

set_option maxRecDepth 100000 in
set_option maxHeartbeats 4000000 in
theorem c_X7_cellOf (l : Launch) (D : va_G) (kI kC : ClassId) (x y : Int) (hx : 0 ≤ x ∧ x ≤ 1000) (hy : 0 ≤ y ∧ y ≤ 1000) : ConR l yX7_cellOf wsX7_cellOf { frames := 0, cells := 0, slots := 0, locals := 0 } D kI kC [.int (iI x), .int (iI y)] [] (fun r => r = y / 10 * 101 + x / 10) := by
  refine Con.of (cc := cX7_cellOf) (maxL := 2) (ret := (some .int)) (by decide +kernel) rfl (List.forall_mem_cons.mpr ⟨rfl, List.forall_mem_cons.mpr ⟨rfl, fun _ h => absurd h List.not_mem_nil⟩⟩) (Nat.le_of_ble_eq_true rfl) ?_
  intro pV eV sV mV bV tV cV AV XC hrV
  have XC : Cx pV _ sV mV _ tV cV cX7_cellOf 2 RX7 wsX7_cellOf AV D kI kC := XC
  change VV _ _ _ _ _ _ _ _ _ _ _ _ _ _ _ _ _ [some (.int (iI x)), some (.int (iI y))] _ _
  refine V_iload_n XC 1 rfl dX7_cellOf_0 rfl ?_
  refine V_bipush XC dX7_cellOf_1 (by decide) ?_
  refine V_idiv XC dX7_cellOf_3 (by omega) (by omega) (by decide) (by decide) ?_
  refine V_bipush XC dX7_cellOf_4 (by decide) ?_
  refine V_imul XC dX7_cellOf_6 ?_
  refine V_iload_n XC 0 rfl dX7_cellOf_7 rfl ?_
  refine V_bipush XC dX7_cellOf_8 (by decide) ?_
  refine V_idiv XC dX7_cellOf_10 (by omega) (by omega) (by decide) (by decide) ?_
  refine V_iadd XC dX7_cellOf_11 ?_
  refine V_iret XC () hrV rfl dX7_cellOf_12 ?_
  first | rfl | assumption | omega

set_option maxRecDepth 100000 in
set_option maxHeartbeats 4000000 in
theorem c_X7_root (l : Launch) (D : va_G) (kI kC : ClassId) (z : Int) (hz : 0 ≤ z ∧ z < 268435456) : ConR l yX7_root wsX7_root { frames := 0, cells := 0, slots := 0, locals := 0 } D kI kC [.int (iI z)] [] (fun r => r = rootZ z) := by
  refine Con.of (cc := cX7_root) (maxL := 4) (ret := (some .int)) (by decide +kernel) rfl (List.forall_mem_cons.mpr ⟨rfl, fun _ h => absurd h List.not_mem_nil⟩) (Nat.le_of_ble_eq_true rfl) ?_
  intro pV eV sV mV bV tV cV AV XC hrV
  have XC : Cx pV _ sV mV _ tV cV cX7_root 4 RX7 wsX7_root AV D kI kC := XC
  change VV _ _ _ _ _ _ _ _ _ _ _ _ _ _ _ _ _ [some (.int (iI z)), none, none, none] _ _
  refine V_iconst XC dX7_root_0 ?_
  refine V_istore_n XC 1 rfl dX7_root_1 (by decide) ?_
  dsimp only [List.set]
  refine V_sipush XC dX7_root_2 (by decide) ?_
  refine V_istore_n XC 2 rfl dX7_root_5 (by decide) ?_
  dsimp only [List.set]
  refine V_loopR (σ := Nat × Int) (fun u => u.1) (fun u => u.1 ≤ 14 ∧ 0 ≤ u.2 ∧ u.2 + 2 * pbit u.1 ≤ 16384 ∧ rootF z u.1 u.2 = rootZ z) (fun u => [some (.int (iI z)), some (.int (iI u.2)), some (.int (iI (pbit u.1))), none]) (14, 0) ⟨by decide, by decide, by decide, rfl⟩ rfl (fun u hJ ih6 => ?_)
  obtain ⟨j, f⟩ := u
  try dsimp only at hJ ih6 ⊢
  obtain ⟨hj, hf, hfb, hr0⟩ := hJ
  have hb : 0 ≤ pbit j := by
    cases j with
    | zero => decide
    | succ j => exact Int.le_of_lt (pbit_pos j)
  refine V_iload_n XC 2 rfl dX7_root_6 rfl ?_
  refine V_if_le XC 30 dX7_root_7 (by decide) (by first | assumption | (unfold IR; omega)) (fun h7 => ?_) (fun h7 => ?_)
  · skip
    obtain rfl : j = 0 := by
      cases j with
      | zero => rfl
      | succ j => exact absurd (pbit_pos j) (by omega)
    refine V_iload_n XC 1 rfl dX7_root_30 rfl ?_
    refine V_iret XC () hrV rfl dX7_root_31 ?_
    try dsimp only
    first | rfl | assumption | exact hr0.symm ▸ rfl
  obtain ⟨j, rfl⟩ : ∃ i, j = i + 1 := by
    cases j with
    | zero => exact absurd h7 (by decide)
    | succ j => exact ⟨j, rfl⟩
  have hhalf := pbit_half j
  have hsq := sqb (x := f + pbit (j + 1)) (B := 16384) (by omega) (by omega)
  unfold rootF at hr0
  refine V_iload_n XC 1 rfl dX7_root_10 rfl ?_
  refine V_iload_n XC 2 rfl dX7_root_11 rfl ?_
  refine V_iadd XC dX7_root_12 ?_
  refine V_istore_n XC 3 rfl dX7_root_13 (by decide) ?_
  dsimp only [List.set]
  refine V_iload_n XC 3 rfl dX7_root_14 rfl ?_
  refine V_iload_n XC 3 rfl dX7_root_15 rfl ?_
  refine V_imul XC dX7_root_16 ?_
  refine V_iload_n XC 0 rfl dX7_root_17 rfl ?_
  refine V_icmp_gt XC 23 dX7_root_18 (by decide) (by first | assumption | (unfold IR; omega)) (by first | assumption | (unfold IR; omega)) (fun h18 => ?_) (fun h18 => ?_)
  · skip
    rw [if_neg (by omega)] at hr0
    have hr1 := hr0
    refine V_iload_n XC 2 rfl dX7_root_23 rfl ?_
    refine V_iconst XC dX7_root_24 ?_
    refine V_ishr1 XC dX7_root_25 (by omega) (by omega) ?_
    rw [hhalf]
    refine V_istore_n XC 2 rfl dX7_root_26 (by decide) ?_
    dsimp only [List.set]
    refine V_goto XC 6 dX7_root_27 (by decide) ?_
    refine V_kill 3 ?_
    dsimp only [List.set]
    exact ih6 (j, _) ⟨by (try dsimp only); omega, by (try dsimp only); omega, by (try dsimp only); omega, hr1⟩ (Nat.lt_succ_self _)
  rw [if_pos (by omega)] at hr0
  have hr1 := hr0
  refine V_iload_n XC 3 rfl dX7_root_21 rfl ?_
  refine V_istore_n XC 1 rfl dX7_root_22 (by decide) ?_
  dsimp only [List.set]
  refine V_iload_n XC 2 rfl dX7_root_23 rfl ?_
  refine V_iconst XC dX7_root_24 ?_
  refine V_ishr1 XC dX7_root_25 (by omega) (by omega) ?_
  rw [hhalf]
  refine V_istore_n XC 2 rfl dX7_root_26 (by decide) ?_
  dsimp only [List.set]
  refine V_goto XC 6 dX7_root_27 (by decide) ?_
  refine V_kill 3 ?_
  dsimp only [List.set]
  exact ih6 (j, _) ⟨by (try dsimp only); omega, by (try dsimp only); omega, by (try dsimp only); omega, hr1⟩ (Nat.lt_succ_self _)

end STATIC
