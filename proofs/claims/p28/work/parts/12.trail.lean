/-! the class's Trail -/
section TRAIL

set_option maxRecDepth 100000 in
set_option maxHeartbeats 4000000 in
theorem c_X5_empty (l : Launch) (D : va_G) (kI kC : ClassId) (h0 h1 h2 : Nat) (n : Int) (F G : Nat → Int)  : Con l yX5_empty wsX5_empty { frames := 0, cells := 0, slots := 0, locals := 0 } D kI kC [.ref h0] (trW kI h0 h1 h2 n F G) (σ := Unit) (qV (fun u => True)) (fun u => trW kI h0 h1 h2 0 F G) := by
  refine Con.of (cc := cX5_empty) (maxL := 1) (ret := none) (by decide +kernel) rfl (List.forall_mem_cons.mpr ⟨rfl, fun _ h => absurd h List.not_mem_nil⟩) (Nat.le_of_ble_eq_true rfl) ?_
  intro pV eV sV mV bV tV cV AV XC hrV
  have XC : Cx pV _ sV mV _ tV cV cX5_empty 1 RX5 wsX5_empty AV D kI kC := XC
  change VV _ _ _ _ _ _ _ _ _ _ _ _ _ _ _ _ _ [some (.ref h0)] _ _
  dsimp only [trW, shW, List.cons_append, List.nil_append]
  refine V_aload_n XC 0 rfl dX5_empty_0 rfl ?_
  refine V_iconst XC dX5_empty_1 ?_
  refine V_putI XC 0 flX5_empty_18 fpX5 pdX5_0 rfl 0 rfl (Nat.le_of_ble_eq_true rfl) dX5_empty_2 ?_
  dsimp only [List.set]
  refine V_vret XC (()) hrV rfl dX5_empty_5 ?_
  trivial

set_option maxRecDepth 100000 in
set_option maxHeartbeats 4000000 in
theorem c_X5_isLast (l : Launch) (D : va_G) (kI kC : ClassId) (h0 h1 h2 : Nat) (n : Nat) (F G : Nat → Int) (hn : n ≤ 24) (hC : ∀ i, i < n → 0 ≤ F i ∧ F i ≤ 1000 ∧ 0 ≤ G i ∧ G i ≤ 1000) (x y : Int) (hx : IR x) (hy : IR y) : ConR l yX5_isLast wsX5_isLast { frames := 0, cells := 0, slots := 0, locals := 0 } D kI kC [.ref h0, .int (iI x), .int (iI y)] (trW kI h0 h1 h2 (n : Int) F G) (fun r => r = bI (isL n F G x y)) := by
  refine Con.of (cc := cX5_isLast) (maxL := 3) (ret := (some .boolean)) (by decide +kernel) rfl (List.forall_mem_cons.mpr ⟨rfl, List.forall_mem_cons.mpr ⟨rfl, List.forall_mem_cons.mpr ⟨rfl, fun _ h => absurd h List.not_mem_nil⟩⟩⟩) (Nat.le_of_ble_eq_true rfl) ?_
  intro pV eV sV mV bV tV cV AV XC hrV
  have XC : Cx pV _ sV mV _ tV cV cX5_isLast 3 RX5 wsX5_isLast AV D kI kC := XC
  change VV _ _ _ _ _ _ _ _ _ _ _ _ _ _ _ _ _ [some (.ref h0), some (.int (iI x)), some (.int (iI y))] _ _
  dsimp only [trW, shW, List.cons_append, List.nil_append]
  refine V_aload_n XC 0 rfl dX5_isLast_0 rfl ?_
  refine V_get XC 0 flX5_isLast_18 0 rfl rfl dX5_isLast_1 ?_
  refine V_if_le XC 41 dX5_isLast_4 (by decide) (by first | assumption | (unfold IR; omega)) (fun h4 => ?_) (fun h4 => ?_)
  · skip
    refine V_iconst XC dX5_isLast_41 ?_
    refine V_zret (r := false) XC () hrV rfl dX5_isLast_42 ?_
    try dsimp only
    unfold isL
    first | rfl | exact congrArg bI (decide_eq_true (by omega)).symm | exact congrArg bI (decide_eq_false (by omega)).symm
  refine V_aload_n XC 0 rfl dX5_isLast_7 rfl ?_
  refine V_get XC 1 flX5_isLast_9 0 rfl rfl dX5_isLast_8 ?_
  refine V_aload_n XC 0 rfl dX5_isLast_11 rfl ?_
  refine V_get XC 0 flX5_isLast_18 0 rfl rfl dX5_isLast_12 ?_
  refine V_iconst XC dX5_isLast_15 ?_
  refine V_isub XC dX5_isLast_16 ?_
  have hc := hC (n - 1) (by omega)
  refine V_iald XC (n - 1) 1 rfl (by omega) (by omega) (by decide) dX5_isLast_17 ?_
  refine V_iload_n XC 1 rfl dX5_isLast_18 rfl ?_
  refine V_icmp_ne XC 41 dX5_isLast_19 (by decide) (by first | assumption | (unfold IR; omega)) (by first | assumption | (unfold IR; omega)) (fun h19 => ?_) (fun h19 => ?_)
  · skip
    refine V_iconst XC dX5_isLast_41 ?_
    refine V_zret (r := false) XC () hrV rfl dX5_isLast_42 ?_
    try dsimp only
    unfold isL
    first | rfl | exact congrArg bI (decide_eq_true (by omega)).symm | exact congrArg bI (decide_eq_false (by omega)).symm
  refine V_aload_n XC 0 rfl dX5_isLast_22 rfl ?_
  refine V_get XC 2 flX5_isLast_15 0 rfl rfl dX5_isLast_23 ?_
  refine V_aload_n XC 0 rfl dX5_isLast_26 rfl ?_
  refine V_get XC 0 flX5_isLast_18 0 rfl rfl dX5_isLast_27 ?_
  refine V_iconst XC dX5_isLast_30 ?_
  refine V_isub XC dX5_isLast_31 ?_
  refine V_iald XC (n - 1) 2 rfl (by omega) (by omega) (by decide) dX5_isLast_32 ?_
  refine V_iload_n XC 2 rfl dX5_isLast_33 rfl ?_
  refine V_icmp_ne XC 41 dX5_isLast_34 (by decide) (by first | assumption | (unfold IR; omega)) (by first | assumption | (unfold IR; omega)) (fun h34 => ?_) (fun h34 => ?_)
  · skip
    refine V_iconst XC dX5_isLast_41 ?_
    refine V_zret (r := false) XC () hrV rfl dX5_isLast_42 ?_
    try dsimp only
    unfold isL
    first | rfl | exact congrArg bI (decide_eq_true (by omega)).symm | exact congrArg bI (decide_eq_false (by omega)).symm
  refine V_iconst XC dX5_isLast_37 ?_
  refine V_goto XC 42 dX5_isLast_38 (by decide) ?_
  refine V_zret (r := true) XC () hrV rfl dX5_isLast_42 ?_
  try dsimp only
  unfold isL
  first | rfl | exact congrArg bI (decide_eq_true (by omega)).symm | exact congrArg bI (decide_eq_false (by omega)).symm

set_option maxRecDepth 100000 in
set_option maxHeartbeats 4000000 in
theorem c_X5_append (l : Launch) (D : va_G) (kI kC : ClassId) (h0 h1 h2 : Nat) (n : Nat) (F G : Nat → Int) (hn : n < 24) (hC : ∀ i, i < n → 0 ≤ F i ∧ F i ≤ 1000 ∧ 0 ≤ G i ∧ G i ≤ 1000) (x y : Int) (hx : 0 ≤ x ∧ x ≤ 1000 ∧ 0 ≤ y ∧ y ≤ 1000) : Con l yX5_append wsX5_append { frames := 1, cells := 0, slots := 0, locals := 22 } D kI kC [.ref h0, .int (iI x), .int (iI y)] (trW kI h0 h1 h2 (n : Int) F G) (σ := Nat × (Nat → Int) × (Nat → Int)) (qV (fun u => u.1 ≤ 24 ∧ ptsOf u.1 u.2.1 u.2.2 = addP (ptsOf n F G) (x, y) ∧ (∀ i, i < u.1 → 0 ≤ u.2.1 i ∧ u.2.1 i ≤ 1000 ∧ 0 ≤ u.2.2 i ∧ u.2.2 i ≤ 1000) ∧ ((isL n F G x y = true ∧ u = (n, F, G)) ∨ (isL n F G x y = false ∧ u = (n + 1, upz F n x, upz G n y))))) (fun u => trW kI h0 h1 h2 (u.1 : Int) u.2.1 u.2.2) := by
  refine Con.of (cc := cX5_append) (maxL := 3) (ret := none) (by decide +kernel) rfl (List.forall_mem_cons.mpr ⟨rfl, List.forall_mem_cons.mpr ⟨rfl, List.forall_mem_cons.mpr ⟨rfl, fun _ h => absurd h List.not_mem_nil⟩⟩⟩) (Nat.le_of_ble_eq_true rfl) ?_
  intro pV eV sV mV bV tV cV AV XC hrV
  have XC : Cx pV _ sV mV _ tV cV cX5_append 3 RX5 wsX5_append AV D kI kC := XC
  change VV _ _ _ _ _ _ _ _ _ _ _ _ _ _ _ _ _ [some (.ref h0), some (.int (iI x)), some (.int (iI y))] _ _
  dsimp only [trW, shW, List.cons_append, List.nil_append]
  refine V_aload_n XC 0 rfl dX5_append_0 rfl ?_
  refine V_get XC 0 flX5_append_18 0 rfl rfl dX5_append_1 ?_
  refine V_bipush XC dX5_append_4 (by decide) ?_
  refine V_icmp_ge XC 48 dX5_append_6 (by decide) (by first | assumption | (unfold IR; omega)) (by first | assumption | (unfold IR; omega)) (fun h6 => ?_) (fun h6 => ?_)
  · skip
    omega
  refine V_aload_n XC 0 rfl dX5_append_9 rfl ?_
  refine V_iload_n XC 1 rfl dX5_append_10 rfl ?_
  refine V_iload_n XC 2 rfl dX5_append_11 rfl ?_
  refine V_callV (rest := _) (q0 := 0) XC (c_X5_isLast l D kI kC _ _ _ _ _ _ (by omega) (by assumption) _ _ (by first | assumption | (unfold IR; omega)) (by first | assumption | (unfold IR; omega))) gX5_append_X5_isLast rfl kmX5_isLast ⟨⟨Nat.le_of_ble_eq_true rfl, Nat.le_of_ble_eq_true rfl⟩, Nat.le_of_ble_eq_true rfl, Nat.le_of_ble_eq_true rfl⟩ ⟨rfl, rfl⟩ rfl rfl (Nat.le_of_ble_eq_true rfl) [0, 1, 2] rfl rfl (fun _ => rfl) rfl rfl dX5_append_12 (kR_of rfl (fun r12 hq12 => ?_))
  subst hq12
  refine V_bif_ne XC 48 dX5_append_15 (by decide) (fun h15 => ?_) (fun h15 => ?_)
  · skip
    refine V_vret XC (n, F, G) hrV rfl dX5_append_48 ?_
    exact ⟨by omega, (addP_yes h15).symm, hC, Or.inl ⟨h15, rfl⟩⟩
  refine V_aload_n XC 0 rfl dX5_append_18 rfl ?_
  refine V_get XC 1 flX5_append_9 0 rfl rfl dX5_append_19 ?_
  refine V_aload_n XC 0 rfl dX5_append_22 rfl ?_
  refine V_get XC 0 flX5_append_18 0 rfl rfl dX5_append_23 ?_
  refine V_iload_n XC 1 rfl dX5_append_26 rfl ?_
  refine V_iast XC (_) 1 rfl rfl (by omega) (by decide) dX5_append_27 ?_
  dsimp only [List.set]
  refine V_aload_n XC 0 rfl dX5_append_28 rfl ?_
  refine V_get XC 2 flX5_append_15 0 rfl rfl dX5_append_29 ?_
  refine V_aload_n XC 0 rfl dX5_append_32 rfl ?_
  refine V_get XC 0 flX5_append_18 0 rfl rfl dX5_append_33 ?_
  refine V_iload_n XC 2 rfl dX5_append_36 rfl ?_
  refine V_iast XC (_) 2 rfl rfl (by omega) (by decide) dX5_append_37 ?_
  dsimp only [List.set]
  refine V_aload_n XC 0 rfl dX5_append_38 rfl ?_
  refine V_dup XC dX5_append_39 rfl ?_
  refine V_get XC 0 flX5_append_18 0 rfl rfl dX5_append_40 ?_
  refine V_iconst XC dX5_append_43 ?_
  refine V_iadd XC dX5_append_44 ?_
  refine V_putI XC 0 flX5_append_18 fpX5 pdX5_0 rfl 0 rfl (Nat.le_of_ble_eq_true rfl) dX5_append_45 ?_
  dsimp only [List.set]
  refine V_vret XC (n + 1, upz F n x, upz G n y) hrV rfl dX5_append_48 ?_
  refine ⟨by (try dsimp only); omega, (addP_no h15).symm, fun i hi => ?_, Or.inr ⟨h15, rfl⟩⟩
  dsimp only at hi ⊢
  by_cases q : i = n
  · subst q; rw [upz_s, upz_s]; exact hx
  · rw [upz_n q, upz_n q]; exact hC i (by omega)

set_option maxRecDepth 100000 in
set_option maxHeartbeats 4000000 in
theorem c_X5_copy (l : Launch) (D : va_G) (kI kC : ClassId) (h0 h1 h2 : Nat) (n : Int) (F G : Nat → Int) (t0 t1 t2 : Nat) (m : Int) (X Y : Nat → Int)  : Con l yX5_copy wsX5_copy { frames := 1, cells := 0, slots := 0, locals := 40 } D kI kC [.ref h0, .ref t0] (trW kI h0 h1 h2 n F G ++ trW kI t0 t1 t2 (m : Int) X Y) (σ := Unit) (qV (fun u => True)) (fun u => trW kI h0 h1 h2 (m : Int) (cpz X F 0 0 24) (cpz Y G 0 0 24) ++ trW kI t0 t1 t2 (m : Int) X Y) := by
  refine Con.of (cc := cX5_copy) (maxL := 2) (ret := none) (by decide +kernel) rfl (List.forall_mem_cons.mpr ⟨rfl, List.forall_mem_cons.mpr ⟨rfl, fun _ h => absurd h List.not_mem_nil⟩⟩) (Nat.le_of_ble_eq_true rfl) ?_
  intro pV eV sV mV bV tV cV AV XC hrV
  have XC : Cx pV _ sV mV _ tV cV cX5_copy 2 RX5 wsX5_copy AV D kI kC := XC
  change VV _ _ _ _ _ _ _ _ _ _ _ _ _ _ _ _ _ [some (.ref h0), some (.ref t0)] _ _
  dsimp only [trW, shW, List.cons_append, List.nil_append]
  refine V_aload_n XC 0 rfl dX5_copy_0 rfl ?_
  refine V_aload_n XC 1 rfl dX5_copy_1 rfl ?_
  refine V_get XC 0 flX5_copy_18 3 rfl rfl dX5_copy_2 ?_
  refine V_putI XC 0 flX5_copy_18 fpX5 pdX5_0 rfl 0 rfl (Nat.le_of_ble_eq_true rfl) dX5_copy_5 ?_
  dsimp only [List.set]
  refine V_aload_n XC 1 rfl dX5_copy_8 rfl ?_
  refine V_get XC 1 flX5_copy_9 3 rfl rfl dX5_copy_9 ?_
  refine V_iconst XC dX5_copy_12 ?_
  refine V_aload_n XC 0 rfl dX5_copy_13 rfl ?_
  refine V_get XC 1 flX5_copy_9 0 rfl rfl dX5_copy_14 ?_
  refine V_iconst XC dX5_copy_17 ?_
  refine V_bipush XC dX5_copy_18 (by decide) ?_
  refine V_copy XC (0) (0) (24) mcX5_copy_26 4 1 rfl rfl rfl rfl rfl (by omega) (by omega) (by decide) (by decide) (Nat.le_of_ble_eq_true rfl) (Nat.le_of_ble_eq_true rfl) dX5_copy_20 ?_
  dsimp only [List.set]
  refine V_aload_n XC 1 rfl dX5_copy_23 rfl ?_
  refine V_get XC 2 flX5_copy_15 3 rfl rfl dX5_copy_24 ?_
  refine V_iconst XC dX5_copy_27 ?_
  refine V_aload_n XC 0 rfl dX5_copy_28 rfl ?_
  refine V_get XC 2 flX5_copy_15 0 rfl rfl dX5_copy_29 ?_
  refine V_iconst XC dX5_copy_32 ?_
  refine V_bipush XC dX5_copy_33 (by decide) ?_
  refine V_copy XC (0) (0) (24) mcX5_copy_26 5 2 rfl rfl rfl rfl rfl (by omega) (by omega) (by decide) (by decide) (Nat.le_of_ble_eq_true rfl) (Nat.le_of_ble_eq_true rfl) dX5_copy_35 ?_
  dsimp only [List.set]
  refine V_vret XC (()) hrV rfl dX5_copy_38 ?_
  trivial

/-- one round of smoothing a row of n coordinates -/
def smF (n : Nat) (X : Nat → Int) : Nat → Int := fun i => if 0 < i ∧ i + 1 < n then (X (i - 1) + 2 * X i + X (i + 1)) / 4 else X i
theorem smF_rng {n : Nat} {X : Nat → Int} (h : ∀ i, i < n → 0 ≤ X i ∧ X i ≤ 1000) : ∀ i, i < n → 0 ≤ smF n X i ∧ smF n X i ≤ 1000 := by
  intro i hi
  unfold smF
  by_cases q : 0 < i ∧ i + 1 < n
  · rw [if_pos q]
    have h1 := h (i - 1) (by omega)
    have h2 := h i hi
    have h3 := h (i + 1) (by omega)
    omega
  · rw [if_neg q]
    exact h i hi
theorem smF_congr {n : Nat} {X Y : Nat → Int} (h : ∀ i, i < n → X i = Y i) : ∀ i, i < n → smF n X i = smF n Y i := by
  intro i hi
  unfold smF
  by_cases q : 0 < i ∧ i + 1 < n
  · rw [if_pos q, if_pos q, h (i - 1) (by omega), h i hi, h (i + 1) (by omega)]
  · rw [if_neg q, if_neg q]
    exact h i hi
/-- the row while a round goes on: what lies ahead of the place k is new -/
def smK (n : Nat) (X : Nat → Int) (k : Nat) : Nat → Int := fun i => if i < k then smF n X i else X i
theorem smK_in {n k : Nat} {X : Nat → Int} : smK n X k k = X k ∧ smK n X k (k + 1) = X (k + 1) := ⟨if_neg (by omega), if_neg (by omega)⟩
theorem smK_s {n k : Nat} {X : Nat → Int} (h0 : 0 < k) (h : k + 1 < n) : upz (smK n X k) k ((X (k - 1) + 2 * X k + X (k + 1)) / 4) = smK n X (k + 1) := by
  funext i
  unfold upz smK
  by_cases q : i = k
  · subst q
    rw [if_pos rfl, if_pos (by omega)]
    unfold smF
    rw [if_pos ⟨h0, h⟩]
  · rw [if_neg q]
    by_cases q2 : i < k
    · rw [if_pos q2, if_pos (by omega)]
    · rw [if_neg q2, if_neg (by omega)]
theorem smK_1 {n : Nat} {X : Nat → Int} : smK n X 1 = X := by
  funext i
  unfold smK smF
  by_cases q : i < 1
  · rw [if_pos q, if_neg (by omega)]
  · rw [if_neg q]
theorem smK_e {n k : Nat} {X : Nat → Int} (h : n ≤ k + 1) : ∀ i, i < n → smK n X k i = smF n X i := by
  intro i hi
  unfold smK
  by_cases q : i < k
  · rw [if_pos q]
  · rw [if_neg q]
    unfold smF
    rw [if_neg (by omega)]

set_option maxRecDepth 100000 in
set_option maxHeartbeats 4000000 in
theorem c_X5_smoothOnce (l : Launch) (D : va_G) (kI kC : ClassId) (h0 h1 h2 : Nat) (n : Nat) (F G : Nat → Int) (hn0 : 1 ≤ n) (hn : n ≤ 24) (hC : ∀ i, i < n → 0 ≤ F i ∧ F i ≤ 1000 ∧ 0 ≤ G i ∧ G i ≤ 1000)  : Con l yX5_smoothOnce wsX5_smoothOnce { frames := 0, cells := 0, slots := 0, locals := 0 } D kI kC [.ref h0] (trW kI h0 h1 h2 (n : Int) F G) (σ := (Nat → Int) × (Nat → Int)) (qV (fun u => ∀ i, i < n → u.1 i = smF n F i ∧ u.2 i = smF n G i)) (fun u => trW kI h0 h1 h2 (n : Int) u.1 u.2) := by
  refine Con.of (cc := cX5_smoothOnce) (maxL := 6) (ret := none) (by decide +kernel) rfl (List.forall_mem_cons.mpr ⟨rfl, fun _ h => absurd h List.not_mem_nil⟩) (Nat.le_of_ble_eq_true rfl) ?_
  intro pV eV sV mV bV tV cV AV XC hrV
  have XC : Cx pV _ sV mV _ tV cV cX5_smoothOnce 6 RX5 wsX5_smoothOnce AV D kI kC := XC
  change VV _ _ _ _ _ _ _ _ _ _ _ _ _ _ _ _ _ [some (.ref h0), none, none, none, none, none] _ _
  dsimp only [trW]
  refine V_aload_n XC 0 rfl dX5_smoothOnce_0 rfl ?_
  refine V_get XC 1 flX5_smoothOnce_9 0 rfl rfl dX5_smoothOnce_1 ?_
  refine V_iconst XC dX5_smoothOnce_4 ?_
  refine V_iald XC (0) 1 rfl rfl (by decide) (by decide) dX5_smoothOnce_5 ?_
  refine V_istore_n XC 1 rfl dX5_smoothOnce_6 (by decide) ?_
  dsimp only [List.set]
  refine V_aload_n XC 0 rfl dX5_smoothOnce_7 rfl ?_
  refine V_get XC 2 flX5_smoothOnce_15 0 rfl rfl dX5_smoothOnce_8 ?_
  refine V_iconst XC dX5_smoothOnce_11 ?_
  refine V_iald XC (0) 2 rfl rfl (by decide) (by decide) dX5_smoothOnce_12 ?_
  refine V_istore_n XC 2 rfl dX5_smoothOnce_13 (by decide) ?_
  dsimp only [List.set]
  refine V_iconst XC dX5_smoothOnce_14 ?_
  refine V_istore_n XC 3 rfl dX5_smoothOnce_15 (by decide) ?_
  dsimp only [List.set]
  refine V_loop (σ := Nat) (fun u => n - u) (fun u => u + 1 ≤ n) (fun u => [some (.ref h0), some (.int (iI (F u))), some (.int (iI (G u))), some (.int (iI ((u : Int) + 1))), none, none]) (fun u => trW kI h0 h1 h2 (n : Int) (smK n F (u + 1)) (smK n G (u + 1))) (0) hn0 rfl (by simp only [Nat.zero_add, smK_1]) (fun u hJ ih16 => ?_)
  obtain ⟨j, rfl⟩ : ∃ z, z = u := ⟨_, rfl⟩
  try dsimp only at hJ ih16 ⊢
  try dsimp only [List.cons_append, List.nil_append, padO, mdO, shW, trW, txW, hiW, liW, woW, taW]
  obtain hj := hJ
  refine V_iload_n XC 3 rfl dX5_smoothOnce_16 rfl ?_
  refine V_aload_n XC 0 rfl dX5_smoothOnce_17 rfl ?_
  refine V_get XC 0 flX5_smoothOnce_18 0 rfl rfl dX5_smoothOnce_18 ?_
  refine V_iconst XC dX5_smoothOnce_21 ?_
  refine V_isub XC dX5_smoothOnce_22 ?_
  refine V_icmp_ge XC 100 dX5_smoothOnce_23 (by decide) ⟨by omega, by omega⟩ ⟨by omega, by omega⟩ (fun h23 => ?_) (fun h23 => ?_)
  · skip
    refine V_vret XC (_, _) hrV rfl dX5_smoothOnce_100 ?_
    exact fun i hi => ⟨smK_e (by omega) i hi, smK_e (by omega) i hi⟩
  have c0 := hC j (by omega)
  have c1 := hC (j + 1) (by omega)
  have c2 := hC (j + 1 + 1) (by omega)
  have s1 := smK_in (n := n) (k := j + 1) (X := F)
  have s2 := smK_in (n := n) (k := j + 1) (X := G)
  refine V_aload_n XC 0 rfl dX5_smoothOnce_26 rfl ?_
  refine V_get XC 1 flX5_smoothOnce_9 0 rfl rfl dX5_smoothOnce_27 ?_
  refine V_iload_n XC 3 rfl dX5_smoothOnce_30 rfl ?_
  refine V_iald XC (j + 1) 1 rfl (by omega) (by omega) (by decide) dX5_smoothOnce_31 ?_
  rw [s1.1]
  refine V_istore XC dX5_smoothOnce_32 (by decide) ?_
  dsimp only [List.set]
  refine V_aload_n XC 0 rfl dX5_smoothOnce_34 rfl ?_
  refine V_get XC 2 flX5_smoothOnce_15 0 rfl rfl dX5_smoothOnce_35 ?_
  refine V_iload_n XC 3 rfl dX5_smoothOnce_38 rfl ?_
  refine V_iald XC (j + 1) 2 rfl (by omega) (by omega) (by decide) dX5_smoothOnce_39 ?_
  rw [s2.1]
  refine V_istore XC dX5_smoothOnce_40 (by decide) ?_
  dsimp only [List.set]
  refine V_aload_n XC 0 rfl dX5_smoothOnce_42 rfl ?_
  refine V_get XC 1 flX5_smoothOnce_9 0 rfl rfl dX5_smoothOnce_43 ?_
  refine V_iload_n XC 3 rfl dX5_smoothOnce_46 rfl ?_
  refine V_iload_n XC 1 rfl dX5_smoothOnce_47 rfl ?_
  refine V_iconst XC dX5_smoothOnce_48 ?_
  refine V_iload XC dX5_smoothOnce_49 rfl ?_
  refine V_imul XC dX5_smoothOnce_51 ?_
  refine V_iadd XC dX5_smoothOnce_52 ?_
  refine V_aload_n XC 0 rfl dX5_smoothOnce_53 rfl ?_
  refine V_get XC 1 flX5_smoothOnce_9 0 rfl rfl dX5_smoothOnce_54 ?_
  refine V_iload_n XC 3 rfl dX5_smoothOnce_57 rfl ?_
  refine V_iconst XC dX5_smoothOnce_58 ?_
  refine V_iadd XC dX5_smoothOnce_59 ?_
  refine V_iald XC (j + 1 + 1) 1 rfl (by omega) (by omega) (by decide) dX5_smoothOnce_60 ?_
  rw [s1.2]
  refine V_iadd XC dX5_smoothOnce_61 ?_
  refine V_iconst XC dX5_smoothOnce_62 ?_
  refine V_idiv XC dX5_smoothOnce_63 (by omega) (by omega) (by decide) (by decide) ?_
  refine V_iast XC (j + 1) 1 rfl (by omega) (by omega) (by decide) dX5_smoothOnce_64 ?_
  dsimp only [List.set]
  rw [show ((F j + 2 * F (j + 1) + F (j + 1 + 1)) / 4) = ((F (j + 1 - 1) + 2 * F (j + 1) + F (j + 1 + 1)) / 4) from rfl, smK_s (by omega) (by omega)]
  refine V_aload_n XC 0 rfl dX5_smoothOnce_65 rfl ?_
  refine V_get XC 2 flX5_smoothOnce_15 0 rfl rfl dX5_smoothOnce_66 ?_
  refine V_iload_n XC 3 rfl dX5_smoothOnce_69 rfl ?_
  refine V_iload_n XC 2 rfl dX5_smoothOnce_70 rfl ?_
  refine V_iconst XC dX5_smoothOnce_71 ?_
  refine V_iload XC dX5_smoothOnce_72 rfl ?_
  refine V_imul XC dX5_smoothOnce_74 ?_
  refine V_iadd XC dX5_smoothOnce_75 ?_
  refine V_aload_n XC 0 rfl dX5_smoothOnce_76 rfl ?_
  refine V_get XC 2 flX5_smoothOnce_15 0 rfl rfl dX5_smoothOnce_77 ?_
  refine V_iload_n XC 3 rfl dX5_smoothOnce_80 rfl ?_
  refine V_iconst XC dX5_smoothOnce_81 ?_
  refine V_iadd XC dX5_smoothOnce_82 ?_
  refine V_iald XC (j + 1 + 1) 2 rfl (by omega) (by omega) (by decide) dX5_smoothOnce_83 ?_
  rw [s2.2]
  refine V_iadd XC dX5_smoothOnce_84 ?_
  refine V_iconst XC dX5_smoothOnce_85 ?_
  refine V_idiv XC dX5_smoothOnce_86 (by omega) (by omega) (by decide) (by decide) ?_
  refine V_iast XC (j + 1) 2 rfl (by omega) (by omega) (by decide) dX5_smoothOnce_87 ?_
  dsimp only [List.set]
  rw [show ((G j + 2 * G (j + 1) + G (j + 1 + 1)) / 4) = ((G (j + 1 - 1) + 2 * G (j + 1) + G (j + 1 + 1)) / 4) from rfl, smK_s (by omega) (by omega)]
  refine V_iload XC dX5_smoothOnce_88 rfl ?_
  refine V_istore_n XC 1 rfl dX5_smoothOnce_90 (by decide) ?_
  dsimp only [List.set]
  refine V_iload XC dX5_smoothOnce_91 rfl ?_
  refine V_istore_n XC 2 rfl dX5_smoothOnce_93 (by decide) ?_
  dsimp only [List.set]
  refine V_iinc XC dX5_smoothOnce_94 rfl (by decide) ?_
  dsimp only [List.set]
  refine V_goto XC 16 dX5_smoothOnce_97 (by decide) ?_
  refine V_kill 4 ?_
  dsimp only [List.set]
  refine V_kill 5 ?_
  dsimp only [List.set]
  exact ih16 (j + 1) (by omega) (by omega)

theorem ptsOf_take {n i : Nat} {F G : Nat → Int} (h : i ≤ n) : (ptsOf n F G).take i = ptsOf i F G := by
  unfold ptsOf
  rw [← List.map_take, List.take_range, Nat.min_eq_left h]

set_option maxRecDepth 100000 in
set_option maxHeartbeats 4000000 in
theorem c_X5_dropRepeats (l : Launch) (D : va_G) (kI kC : ClassId) (h0 h1 h2 : Nat) (n : Nat) (F G : Nat → Int) (hn : n ≤ 24) (hC : ∀ i, i < n → 0 ≤ F i ∧ F i ≤ 1000 ∧ 0 ≤ G i ∧ G i ≤ 1000)  : Con l yX5_dropRepeats wsX5_dropRepeats { frames := 2, cells := 0, slots := 0, locals := 44 } D kI kC [.ref h0] (trW kI h0 h1 h2 (n : Int) F G) (σ := Nat × (Nat → Int) × (Nat → Int)) (qV (fun u => u.1 ≤ n ∧ ptsOf u.1 u.2.1 u.2.2 = dd (ptsOf n F G) ∧ (∀ i, i < u.1 → 0 ≤ u.2.1 i ∧ u.2.1 i ≤ 1000 ∧ 0 ≤ u.2.2 i ∧ u.2.2 i ≤ 1000))) (fun u => trW kI h0 h1 h2 (u.1 : Int) u.2.1 u.2.2) := by
  refine Con.of (cc := cX5_dropRepeats) (maxL := 3) (ret := none) (by decide +kernel) rfl (List.forall_mem_cons.mpr ⟨rfl, fun _ h => absurd h List.not_mem_nil⟩) (Nat.le_of_ble_eq_true rfl) ?_
  intro pV eV sV mV bV tV cV AV XC hrV
  have XC : Cx pV _ sV mV _ tV cV cX5_dropRepeats 3 RX5 wsX5_dropRepeats AV D kI kC := XC
  change VV _ _ _ _ _ _ _ _ _ _ _ _ _ _ _ _ _ [some (.ref h0), none, none] _ _
  dsimp only [trW, shW, List.cons_append, List.nil_append]
  refine V_aload_n XC 0 rfl dX5_dropRepeats_0 rfl ?_
  refine V_get XC 0 flX5_dropRepeats_18 0 rfl rfl dX5_dropRepeats_1 ?_
  refine V_istore_n XC 1 rfl dX5_dropRepeats_4 (by decide) ?_
  dsimp only [List.set]
  refine V_aload_n XC 0 rfl dX5_dropRepeats_5 rfl ?_
  refine V_iconst XC dX5_dropRepeats_6 ?_
  refine V_putI XC 0 flX5_dropRepeats_18 fpX5 pdX5_0 rfl 0 rfl (Nat.le_of_ble_eq_true rfl) dX5_dropRepeats_7 ?_
  dsimp only [List.set]
  refine V_iconst XC dX5_dropRepeats_10 ?_
  refine V_istore_n XC 2 rfl dX5_dropRepeats_11 (by decide) ?_
  dsimp only [List.set]
  refine V_loop (σ := Nat × Nat × (Nat → Int) × (Nat → Int)) (fun u => n - u.1) (fun u => u.1 ≤ n ∧ u.2.1 ≤ u.1 ∧ ptsOf u.2.1 u.2.2.1 u.2.2.2 = dd (ptsOf u.1 F G) ∧ (∀ i, i < u.2.1 → 0 ≤ u.2.2.1 i ∧ u.2.2.1 i ≤ 1000 ∧ 0 ≤ u.2.2.2 i ∧ u.2.2.2 i ≤ 1000) ∧ (∀ i, u.1 ≤ i → u.2.2.1 i = F i ∧ u.2.2.2 i = G i)) (fun u => [some (.ref h0), some (.int (iI (n : Int))), some (.int (iI (u.1 : Int)))]) (fun u => trW kI h0 h1 h2 (u.2.1 : Int) u.2.2.1 u.2.2.2) (0, 0, F, G) ⟨Nat.zero_le _, Nat.le_refl _, rfl, fun i hi => absurd hi (Nat.not_lt_zero i), fun _ _ => ⟨rfl, rfl⟩⟩ rfl rfl (fun u hJ ih12 => ?_)
  obtain ⟨i, k, X, Y⟩ := u
  try dsimp only at hJ ih12 ⊢
  try dsimp only [List.cons_append, List.nil_append, padO, mdO, shW, trW, txW, hiW, liW, woW, taW]
  obtain ⟨hi, hk, hp, hr, hu⟩ := hJ
  refine V_iload_n XC 2 rfl dX5_dropRepeats_12 rfl ?_
  refine V_iload_n XC 1 rfl dX5_dropRepeats_13 rfl ?_
  refine V_icmp_ge XC 39 dX5_dropRepeats_14 (by decide) (by first | assumption | (unfold IR; omega)) (by first | assumption | (unfold IR; omega)) (fun h14 => ?_) (fun h14 => ?_)
  · skip
    refine V_vret XC (_, _, _) hrV rfl dX5_dropRepeats_39 ?_
    refine ⟨by (try dsimp only); omega, ?_, hr⟩
    rw [show n = i by omega]
    exact hp
  have hci := hC i (by omega)
  have hui := hu i (Nat.le_refl i)
  refine V_aload_n XC 0 rfl dX5_dropRepeats_17 rfl ?_
  refine V_aload_n XC 0 rfl dX5_dropRepeats_18 rfl ?_
  refine V_get XC 1 flX5_dropRepeats_9 0 rfl rfl dX5_dropRepeats_19 ?_
  refine V_iload_n XC 2 rfl dX5_dropRepeats_22 rfl ?_
  refine V_iald XC (_) 1 rfl rfl (by omega) (by decide) dX5_dropRepeats_23 ?_
  refine V_aload_n XC 0 rfl dX5_dropRepeats_24 rfl ?_
  refine V_get XC 2 flX5_dropRepeats_15 0 rfl rfl dX5_dropRepeats_25 ?_
  refine V_iload_n XC 2 rfl dX5_dropRepeats_28 rfl ?_
  refine V_iald XC (_) 2 rfl rfl (by omega) (by decide) dX5_dropRepeats_29 ?_
  rw [hui.1, hui.2]
  refine V_callV (rest := _) (q0 := 0) XC (c_X5_append l D kI kC _ _ _ _ _ _ (by omega) (by assumption) _ _ (by first | assumption | omega)) gX5_dropRepeats_X5_append rfl kmX5_append ⟨⟨Nat.le_of_ble_eq_true rfl, Nat.le_of_ble_eq_true rfl⟩, Nat.le_of_ble_eq_true rfl, Nat.le_of_ble_eq_true rfl⟩ ⟨rfl, rfl⟩ rfl rfl (Nat.le_of_ble_eq_true rfl) [0, 1, 2] rfl rfl (fun _ => rfl) rfl rfl dX5_dropRepeats_30 (kV_of (fun u30 hq30 => ?_))
  obtain ⟨n30, F30, G30⟩ := u30
  dsimp only [putW, List.set, Option.toList, List.cons_append, List.nil_append, padO, mdO, shW, trW, txW, hiW, liW, woW, taW]
  try dsimp only at hq30
  obtain ⟨hn30, hp30, hC30, hu30⟩ := hq30
  refine V_iinc XC dX5_dropRepeats_33 rfl (by decide) ?_
  dsimp only [List.set]
  refine V_goto XC 12 dX5_dropRepeats_36 (by decide) ?_
  refine ih12 (i + 1, _, _, _) ⟨by (try dsimp only); omega, ?_, ?_, hC30, ?_⟩ (by (try dsimp only); omega)
  · rcases hu30 with ⟨_, e⟩ | ⟨_, e⟩ <;> cases e <;> (try dsimp only) <;> omega
  · dsimp only
    rw [hp30, ptsOf_s, dd_app, hp]
  · intro a ha
    dsimp only at ha ⊢
    have h2 := hu a (by omega)
    rcases hu30 with ⟨_, e⟩ | ⟨_, e⟩ <;> cases e
    · exact h2
    · rw [upz_n (by omega), upz_n (by omega)]; exact h2

theorem NR_at : ∀ {l : List Pt} {i : Nat}, NR l → i + 1 < l.length → l[i]? ≠ l[i + 1]?
  | a :: b :: r, 0, h, _ => fun z => h.1 (Option.some.inj z)
  | a :: b :: r, i + 1, h, hl => by
    have := NR_at (l := b :: r) (i := i) h.2 (by simp at hl ⊢; omega)
    simpa using this
  | [a], i, _, hl => by simp at hl
  | [], i, _, hl => by simp at hl
theorem take_getLast {l : List Pt} {i : Nat} (h0 : 0 < i) (h : i ≤ l.length) : (l.take i).getLast? = l[i - 1]? := by
  rw [List.getLast?_eq_getElem?, List.length_take, Nat.min_eq_left h, List.getElem?_take, if_pos (by omega)]
theorem take_last {S : Nat → Int} {k i : Nat} (hs : OkK (skC S k)) (hi : i < szk (skC S k)) (h24 : i < 24) : ((skC S k).2.take i).getLast? ≠ some (S (50 * k + 2 + i), S (50 * k + 26 + i)) := by
  have hxy := skC_xy hi
  rw [hxy.1, hxy.2, ← pxy_at hi]
  by_cases h0 : 0 < i
  · obtain ⟨j, rfl⟩ : ∃ j, i = j + 1 := ⟨i - 1, by omega⟩
    rw [take_getLast h0 (Nat.le_of_lt hi)]
    exact NR_at hs.2.2.2.2.2 hi
  · rw [show i = 0 by omega]
    rw [pxy_at (by omega)]
    intro z
    cases z
theorem take_addP {S : Nat → Int} {k i : Nat} (hs : OkK (skC S k)) (hi : i < szk (skC S k)) (h24 : i < 24) : addP ((skC S k).2.take i) (S (50 * k + 2 + i), S (50 * k + 26 + i)) = (skC S k).2.take (i + 1) := by
  have h1 := take_last hs hi h24
  unfold addP
  rw [if_neg h1]
  have hxy := skC_xy hi
  rw [hxy.1, hxy.2]
  rw [List.take_succ_eq_append_getElem (show i < (skC S k).2.length from hi)]
  have h2 := pxy_at hi
  rw [List.getElem?_eq_getElem (show i < (skC S k).2.length from hi)] at h2
  rw [Option.some.inj h2]

set_option maxRecDepth 100000 in
set_option maxHeartbeats 4000000 in
theorem c_X5_take (l : Launch) (D : va_G) (kI kC : ClassId) (h0 h1 h2 : Nat) (n : Int) (F G : Nat → Int) (s0 s1 : Nat) (sn : Int) (S : Nat → Int) (k : Nat) (hk : k < 16) (hs : OkK (skC S k)) : Con l yX5_take wsX5_take { frames := 2, cells := 0, slots := 0, locals := 44 } D kI kC [.ref h0, .ref s0, .int (iI (k : Int))] (trW kI h0 h1 h2 n F G ++ shW kI s0 s1 sn S) (σ := Nat × (Nat → Int) × (Nat → Int)) (qV (fun u => u.1 = szk (skC S k) ∧ u.1 ≤ 24 ∧ ptsOf u.1 u.2.1 u.2.2 = (skC S k).2 ∧ (∀ i, i < u.1 → 0 ≤ u.2.1 i ∧ u.2.1 i ≤ 1000 ∧ 0 ≤ u.2.2 i ∧ u.2.2 i ≤ 1000))) (fun u => trW kI h0 h1 h2 (u.1 : Int) u.2.1 u.2.2 ++ shW kI s0 s1 sn S) := by
  refine Con.of (cc := cX5_take) (maxL := 4) (ret := none) (by decide +kernel) rfl (List.forall_mem_cons.mpr ⟨rfl, List.forall_mem_cons.mpr ⟨rfl, List.forall_mem_cons.mpr ⟨rfl, fun _ h => absurd h List.not_mem_nil⟩⟩⟩) (Nat.le_of_ble_eq_true rfl) ?_
  intro pV eV sV mV bV tV cV AV XC hrV
  have XC : Cx pV _ sV mV _ tV cV cX5_take 4 RX5 wsX5_take AV D kI kC := XC
  change VV _ _ _ _ _ _ _ _ _ _ _ _ _ _ _ _ _ [some (.ref h0), some (.ref s0), some (.int (iI (k : Int))), none] _ _
  dsimp only [trW, shW, List.cons_append, List.nil_append]
  have hf := skC_ok hs
  have hsz := skC_sz hs
  have hz := OkK_sz hs
  refine V_aload_n XC 0 rfl dX5_take_0 rfl ?_
  refine V_iconst XC dX5_take_1 ?_
  refine V_putI XC 0 flX5_take_18 fpX5 pdX5_0 rfl 0 rfl (Nat.le_of_ble_eq_true rfl) dX5_take_2 ?_
  dsimp only [List.set]
  refine V_iconst XC dX5_take_5 ?_
  refine V_istore_n XC 3 rfl dX5_take_6 (by decide) ?_
  dsimp only [List.set]
  refine V_loop (σ := Nat × (Nat → Int) × (Nat → Int)) (fun u => szk (skC S k) - u.1) (fun u => u.1 ≤ szk (skC S k) ∧ ptsOf u.1 u.2.1 u.2.2 = (skC S k).2.take u.1 ∧ (∀ i, i < u.1 → 0 ≤ u.2.1 i ∧ u.2.1 i ≤ 1000 ∧ 0 ≤ u.2.2 i ∧ u.2.2 i ≤ 1000)) (fun u => [some (.ref h0), some (.ref s0), some (.int (iI (k : Int))), some (.int (iI (u.1 : Int)))]) (fun u => trW kI h0 h1 h2 (u.1 : Int) u.2.1 u.2.2 ++ shW kI s0 s1 sn S) (0, F, G) ⟨Nat.zero_le _, by simp [ptsOf], fun i hi => absurd hi (Nat.not_lt_zero i)⟩ rfl rfl (fun u hJ ih7 => ?_)
  obtain ⟨i, X, Y⟩ := u
  try dsimp only at hJ ih7 ⊢
  try dsimp only [List.cons_append, List.nil_append, padO, mdO, shW, trW, txW, hiW, liW, woW, taW]
  obtain ⟨hi, hp, hr⟩ := hJ
  refine V_iload_n XC 3 rfl dX5_take_7 rfl ?_
  refine V_aload_n XC 1 rfl dX5_take_8 rfl ?_
  refine V_iload_n XC 2 rfl dX5_take_9 rfl ?_
  refine V_callV (rest := _) (q0 := 3) XC (c_X2_size l D kI kC _ _ _ _ _ (by omega)) gX5_take_X2_size rfl kmX2_size ⟨⟨Nat.le_of_ble_eq_true rfl, Nat.le_of_ble_eq_true rfl⟩, Nat.le_of_ble_eq_true rfl, Nat.le_of_ble_eq_true rfl⟩ ⟨rfl, rfl⟩ rfl rfl (Nat.le_of_ble_eq_true rfl) [3, 4] rfl rfl (fun _ => rfl) rfl rfl dX5_take_10 (kR_of rfl (fun r10 hq10 => ?_))
  subst hq10
  refine V_icmp_ge XC 38 dX5_take_13 (by decide) ⟨by omega, by omega⟩ ⟨by omega, by omega⟩ (fun h13 => ?_) (fun h13 => ?_)
  · skip
    refine V_vret XC (_, _, _) hrV rfl dX5_take_38 ?_
    refine ⟨by (try dsimp only); omega, by (try dsimp only); omega, ?_, hr⟩
    dsimp only
    rw [hp]
    exact List.take_of_length_le (by unfold szk at *; omega)
  have hfi := hf.2.2.2.2 i (by omega)
  refine V_aload_n XC 0 rfl dX5_take_16 rfl ?_
  refine V_aload_n XC 1 rfl dX5_take_17 rfl ?_
  refine V_iload_n XC 2 rfl dX5_take_18 rfl ?_
  refine V_iload_n XC 3 rfl dX5_take_19 rfl ?_
  refine V_callV (rest := _) (q0 := 3) XC (c_X2_x l D kI kC _ _ _ _ _ _ (by omega) (by omega)) gX5_take_X2_x rfl kmX2_x ⟨⟨Nat.le_of_ble_eq_true rfl, Nat.le_of_ble_eq_true rfl⟩, Nat.le_of_ble_eq_true rfl, Nat.le_of_ble_eq_true rfl⟩ ⟨rfl, rfl⟩ rfl rfl (Nat.le_of_ble_eq_true rfl) [3, 4] rfl rfl (fun _ => rfl) rfl rfl dX5_take_20 (kR_of rfl (fun r20 hq20 => ?_))
  subst hq20
  refine V_aload_n XC 1 rfl dX5_take_23 rfl ?_
  refine V_iload_n XC 2 rfl dX5_take_24 rfl ?_
  refine V_iload_n XC 3 rfl dX5_take_25 rfl ?_
  refine V_callV (rest := _) (q0 := 3) XC (c_X2_y l D kI kC _ _ _ _ _ _ (by omega) (by omega)) gX5_take_X2_y rfl kmX2_y ⟨⟨Nat.le_of_ble_eq_true rfl, Nat.le_of_ble_eq_true rfl⟩, Nat.le_of_ble_eq_true rfl, Nat.le_of_ble_eq_true rfl⟩ ⟨rfl, rfl⟩ rfl rfl (Nat.le_of_ble_eq_true rfl) [3, 4] rfl rfl (fun _ => rfl) rfl rfl dX5_take_26 (kR_of rfl (fun r26 hq26 => ?_))
  subst hq26
  refine V_callV (rest := _) (q0 := 0) XC (c_X5_append l D kI kC _ _ _ _ _ _ (by omega) (by assumption) _ _ (by first | assumption | omega)) gX5_take_X5_append rfl kmX5_append ⟨⟨Nat.le_of_ble_eq_true rfl, Nat.le_of_ble_eq_true rfl⟩, Nat.le_of_ble_eq_true rfl, Nat.le_of_ble_eq_true rfl⟩ ⟨rfl, rfl⟩ rfl rfl (Nat.le_of_ble_eq_true rfl) [0, 1, 2] rfl rfl (fun _ => rfl) rfl rfl dX5_take_29 (kV_of (fun u29 hq29 => ?_))
  obtain ⟨n29, F29, G29⟩ := u29
  dsimp only [putW, List.set, Option.toList, List.cons_append, List.nil_append, padO, mdO, shW, trW, txW, hiW, liW, woW, taW]
  try dsimp only at hq29
  obtain ⟨hn29, hp29, hC29, hu29⟩ := hq29
  refine V_iinc XC dX5_take_32 rfl (by decide) ?_
  dsimp only [List.set]
  refine V_goto XC 7 dX5_take_35 (by decide) ?_
  rcases hu29 with ⟨q, e⟩ | ⟨q, e⟩
  · exact absurd (isL_iff.mp q) (by rw [hp]; exact take_last hs (by omega) (by omega))
  · cases e
    refine ih7 (i + 1, upz X i (S (50 * k + 2 + i)), upz Y i (S (50 * k + 26 + i))) ⟨by (try dsimp only); omega, ?_, hC29⟩ (by (try dsimp only); omega)
    dsimp only
    rw [hp29, hp, take_addP hs (by omega) (by omega)]

/-- thinning: a point is kept if it is far from the last one kept -/
def farP (d2 : Int) (K : List Pt) (q : Pt) : Bool := match K.getLast? with
  | some l => decide (d2 ≤ (q.1 - l.1) * (q.1 - l.1) + (q.2 - l.2) * (q.2 - l.2))
  | none => true
def thS (d2 : Int) (K : List Pt) (q : Pt) : List Pt := if farP d2 K q = true then addP K q else K
def thK (d2 : Int) (F G : Nat → Int) (m : Nat) : List Pt := itr (fun i K => thS d2 K (F (i + 1), G (i + 1))) [(F 0, G 0)] m
def thinC (n : Nat) (F G : Nat → Int) (d2 : Int) : List Pt := if n ≤ 1 then ptsOf n F G else addP (thK d2 F G (n - 2)) (F (n - 1), G (n - 1))
theorem farP_of {d2 : Int} {k : Nat} {X Y : Nat → Int} {q : Pt} (hk : 0 < k) : farP d2 (ptsOf k X Y) q = decide (d2 ≤ (q.1 - X (k - 1)) * (q.1 - X (k - 1)) + (q.2 - Y (k - 1)) * (q.2 - Y (k - 1))) := by
  unfold farP
  rw [ptsOf_last hk]
theorem thinC_congr {n : Nat} {F G F2 G2 : Nat → Int} {d2 : Int} (h : ∀ i, i < n → F i = F2 i ∧ G i = G2 i) : thinC n F G d2 = thinC n F2 G2 d2 := by
  unfold thinC
  by_cases q : n ≤ 1
  · rw [if_pos q, if_pos q]
    exact ptsOf_congr h
  · rw [if_neg q, if_neg q, (h (n - 1) (by omega)).1, (h (n - 1) (by omega)).2]
    unfold thK
    rw [(h 0 (by omega)).1, (h 0 (by omega)).2]
    rw [itr_congr (fun i b hi => by rw [(h (i + 1) (by omega)).1, (h (i + 1) (by omega)).2])]

set_option maxRecDepth 100000 in
set_option maxHeartbeats 4000000 in
theorem c_X5_dropNear (l : Launch) (D : va_G) (kI kC : ClassId) (h0 h1 h2 : Nat) (n : Nat) (F G : Nat → Int) (hn0 : 1 ≤ n) (hn : n ≤ 24) (hC : ∀ i, i < n → 0 ≤ F i ∧ F i ≤ 1000 ∧ 0 ≤ G i ∧ G i ≤ 1000) (d : Int) (hd : 1 ≤ d ∧ d ≤ 500) : Con l yX5_dropNear wsX5_dropNear { frames := 2, cells := 0, slots := 0, locals := 44 } D kI kC [.ref h0, .int (iI d)] (trW kI h0 h1 h2 (n : Int) F G) (σ := Nat × (Nat → Int) × (Nat → Int)) (qV (fun u => 1 ≤ u.1 ∧ u.1 ≤ n ∧ ptsOf u.1 u.2.1 u.2.2 = thinC n F G (d * d) ∧ (∀ i, i < u.1 → 0 ≤ u.2.1 i ∧ u.2.1 i ≤ 1000 ∧ 0 ≤ u.2.2 i ∧ u.2.2 i ≤ 1000))) (fun u => trW kI h0 h1 h2 (u.1 : Int) u.2.1 u.2.2) := by
  refine Con.of (cc := cX5_dropNear) (maxL := 4) (ret := none) (by decide +kernel) rfl (List.forall_mem_cons.mpr ⟨rfl, List.forall_mem_cons.mpr ⟨rfl, fun _ h => absurd h List.not_mem_nil⟩⟩) (Nat.le_of_ble_eq_true rfl) ?_
  intro pV eV sV mV bV tV cV AV XC hrV
  have XC : Cx pV _ sV mV _ tV cV cX5_dropNear 4 RX5 wsX5_dropNear AV D kI kC := XC
  change VV _ _ _ _ _ _ _ _ _ _ _ _ _ _ _ _ _ [some (.ref h0), some (.int (iI d)), none, none] _ _
  dsimp only [trW, shW, List.cons_append, List.nil_append]
  have hdd := sqb (x := d) (B := 500) (by omega) (by omega)
  refine V_aload_n XC 0 rfl dX5_dropNear_0 rfl ?_
  refine V_get XC 0 flX5_dropNear_18 0 rfl rfl dX5_dropNear_1 ?_
  refine V_iconst XC dX5_dropNear_4 ?_
  refine V_isub XC dX5_dropNear_5 ?_
  refine V_istore_n XC 2 rfl dX5_dropNear_6 (by decide) ?_
  dsimp only [List.set]
  refine V_iload_n XC 2 rfl dX5_dropNear_7 rfl ?_
  refine V_iconst XC dX5_dropNear_8 ?_
  refine V_icmp_ge XC 13 dX5_dropNear_9 (by decide) ⟨by omega, by omega⟩ ⟨by omega, by omega⟩ (fun h9 => ?_) (fun h9 => ?_)
  · skip
    refine V_aload_n XC 0 rfl dX5_dropNear_13 rfl ?_
    refine V_iconst XC dX5_dropNear_14 ?_
    refine V_putI XC 0 flX5_dropNear_18 fpX5 pdX5_0 rfl 0 rfl (Nat.le_of_ble_eq_true rfl) dX5_dropNear_15 ?_
    dsimp only [List.set]
    refine V_iconst XC dX5_dropNear_18 ?_
    refine V_istore_n XC 3 rfl dX5_dropNear_19 (by decide) ?_
    dsimp only [List.set]
    refine V_loop (σ := Nat × Nat × (Nat → Int) × (Nat → Int)) (fun u => n - u.1) (fun u => u.1 + 2 ≤ n ∧ 1 ≤ u.2.1 ∧ u.2.1 ≤ u.1 + 1 ∧ ptsOf u.2.1 u.2.2.1 u.2.2.2 = thK (d * d) F G u.1 ∧ (∀ i, i < u.2.1 → 0 ≤ u.2.2.1 i ∧ u.2.2.1 i ≤ 1000 ∧ 0 ≤ u.2.2.2 i ∧ u.2.2.2 i ≤ 1000) ∧ (∀ i, u.1 + 1 ≤ i → u.2.2.1 i = F i ∧ u.2.2.2 i = G i)) (fun u => [some (.ref h0), some (.int (iI d)), some (.int (iI ((n : Int) - 1))), some (.int (iI ((u.1 : Int) + 1)))]) (fun u => trW kI h0 h1 h2 (u.2.1 : Int) u.2.2.1 u.2.2.2) (0, 1, F, G) ⟨by omega, Nat.le_refl _, Nat.le_refl _, rfl, fun i hi => by (try dsimp only at hi); have := hC 0 (by omega); rw [show i = 0 by omega]; exact this, fun _ _ => ⟨rfl, rfl⟩⟩ rfl rfl (fun u hJ ih20 => ?_)
    obtain ⟨j, k, X, Y⟩ := u
    try dsimp only at hJ ih20 ⊢
    try dsimp only [List.cons_append, List.nil_append, padO, mdO, shW, trW, txW, hiW, liW, woW, taW]
    obtain ⟨hj, hk1, hk, hp, hr, hu⟩ := hJ
    have huj := hu (j + 1) (Nat.le_refl _)
    have hul := hu (n - 1) (by omega)
    refine V_iload_n XC 3 rfl dX5_dropNear_20 rfl ?_
    refine V_iload_n XC 2 rfl dX5_dropNear_21 rfl ?_
    refine V_icmp_ge XC 92 dX5_dropNear_22 (by decide) ⟨by omega, by omega⟩ ⟨by omega, by omega⟩ (fun h22 => ?_) (fun h22 => ?_)
    · skip
      obtain rfl : n = j + 2 := by omega
      have hcl := hC (j + 1) (by omega)
      refine V_aload_n XC 0 rfl dX5_dropNear_92 rfl ?_
      refine V_aload_n XC 0 rfl dX5_dropNear_93 rfl ?_
      refine V_get XC 1 flX5_dropNear_9 0 rfl rfl dX5_dropNear_94 ?_
      refine V_iload_n XC 2 rfl dX5_dropNear_97 rfl ?_
      refine V_iald XC (j + 1) 1 rfl (by omega) (by omega) (by decide) dX5_dropNear_98 ?_
      refine V_aload_n XC 0 rfl dX5_dropNear_99 rfl ?_
      refine V_get XC 2 flX5_dropNear_15 0 rfl rfl dX5_dropNear_100 ?_
      refine V_iload_n XC 2 rfl dX5_dropNear_103 rfl ?_
      refine V_iald XC (j + 1) 2 rfl (by omega) (by omega) (by decide) dX5_dropNear_104 ?_
      rw [huj.1, huj.2]
      refine V_callV (rest := _) (q0 := 0) XC (c_X5_append l D kI kC _ _ _ _ _ _ (by omega) (by assumption) _ _ (by first | assumption | omega)) gX5_dropNear_X5_append rfl kmX5_append ⟨⟨Nat.le_of_ble_eq_true rfl, Nat.le_of_ble_eq_true rfl⟩, Nat.le_of_ble_eq_true rfl, Nat.le_of_ble_eq_true rfl⟩ ⟨rfl, rfl⟩ rfl rfl (Nat.le_of_ble_eq_true rfl) [0, 1, 2] rfl rfl (fun _ => rfl) rfl rfl dX5_dropNear_105 (kV_of (fun u105 hq105 => ?_))
      obtain ⟨n105, F105, G105⟩ := u105
      dsimp only [putW, List.set, Option.toList, List.cons_append, List.nil_append, padO, mdO, shW, trW, txW, hiW, liW, woW, taW]
      try dsimp only at hq105
      obtain ⟨hn105, hp105, hC105, hu105⟩ := hq105
      refine V_vret XC (_, _, _) hrV rfl dX5_dropNear_108 ?_
      refine ⟨?_, ?_, ?_, hC105⟩
      · rcases hu105 with ⟨_, e⟩ | ⟨_, e⟩ <;> cases e <;> (try dsimp only) <;> omega
      · rcases hu105 with ⟨_, e⟩ | ⟨_, e⟩ <;> cases e <;> (try dsimp only) <;> omega
      · dsimp only
        rw [hp105, hp]
        unfold thinC
        rw [if_neg (by omega)]
        rfl
    have hcj := hC (j + 1) (by omega)
    have hrk := hr (k - 1) (by omega)
    refine V_aload_n XC 0 rfl dX5_dropNear_25 rfl ?_
    refine V_get XC 1 flX5_dropNear_9 0 rfl rfl dX5_dropNear_26 ?_
    refine V_iload_n XC 3 rfl dX5_dropNear_29 rfl ?_
    refine V_iald XC (j + 1) 1 rfl (by omega) (by omega) (by decide) dX5_dropNear_30 ?_
    refine V_aload_n XC 0 rfl dX5_dropNear_31 rfl ?_
    refine V_get XC 1 flX5_dropNear_9 0 rfl rfl dX5_dropNear_32 ?_
    refine V_aload_n XC 0 rfl dX5_dropNear_35 rfl ?_
    refine V_get XC 0 flX5_dropNear_18 0 rfl rfl dX5_dropNear_36 ?_
    refine V_iconst XC dX5_dropNear_39 ?_
    refine V_isub XC dX5_dropNear_40 ?_
    refine V_iald XC (k - 1) 1 rfl (by omega) (by omega) (by decide) dX5_dropNear_41 ?_
    refine V_isub XC dX5_dropNear_42 ?_
    refine V_aload_n XC 0 rfl dX5_dropNear_43 rfl ?_
    refine V_get XC 2 flX5_dropNear_15 0 rfl rfl dX5_dropNear_44 ?_
    refine V_iload_n XC 3 rfl dX5_dropNear_47 rfl ?_
    refine V_iald XC (j + 1) 2 rfl (by omega) (by omega) (by decide) dX5_dropNear_48 ?_
    refine V_aload_n XC 0 rfl dX5_dropNear_49 rfl ?_
    refine V_get XC 2 flX5_dropNear_15 0 rfl rfl dX5_dropNear_50 ?_
    refine V_aload_n XC 0 rfl dX5_dropNear_53 rfl ?_
    refine V_get XC 0 flX5_dropNear_18 0 rfl rfl dX5_dropNear_54 ?_
    refine V_iconst XC dX5_dropNear_57 ?_
    refine V_isub XC dX5_dropNear_58 ?_
    refine V_iald XC (k - 1) 2 rfl (by omega) (by omega) (by decide) dX5_dropNear_59 ?_
    refine V_isub XC dX5_dropNear_60 ?_
    rw [huj.1, huj.2]
    refine V_callN (rest := _) XC (c_X7_square l D kI kC _ _) gX5_dropNear_X7_square_n48 mnX5_dropNear_48.1 mnX5_dropNear_48.2 rfl kmX7_square ⟨⟨Nat.le_of_ble_eq_true rfl, Nat.le_of_ble_eq_true rfl⟩, Nat.le_of_ble_eq_true rfl, Nat.le_of_ble_eq_true rfl⟩ ⟨rfl, rfl⟩ rfl rfl (Nat.le_of_ble_eq_true rfl) [] rfl rfl (fun _ => rfl) dX5_dropNear_61 (kR_of rfl (fun r61 hq61 => ?_))
    subst hq61
    have q1 := sqb (x := F (j + 1) - X (k - 1)) (B := 1000) (by omega) (by omega)
    have q2 := sqb (x := G (j + 1) - Y (k - 1)) (B := 1000) (by omega) (by omega)
    refine V_iload_n XC 1 rfl dX5_dropNear_64 rfl ?_
    refine V_iload_n XC 1 rfl dX5_dropNear_65 rfl ?_
    refine V_imul XC dX5_dropNear_66 ?_
    refine V_icmp_lt XC 86 dX5_dropNear_67 (by decide) ⟨by omega, by omega⟩ ⟨by omega, by omega⟩ (fun h67 => ?_) (fun h67 => ?_)
    · skip
      refine V_iinc XC dX5_dropNear_86 rfl (by decide) ?_
      dsimp only [List.set]
      refine V_goto XC 20 dX5_dropNear_89 (by decide) ?_
      first
      | (have hst : thK (d * d) F G (j + 1) = addP (ptsOf k X Y) (F (j + 1), G (j + 1)) := by
          show thS (d * d) (thK (d * d) F G j) _ = _
          unfold thS
          rw [← hp, farP_of hk1, if_pos (decide_eq_true (by (try dsimp only); omega))]
         refine ih20 (j + 1, _, _, _) ⟨by (try dsimp only); omega, ?_, ?_, ?_, hC83, ?_⟩ (by (try dsimp only); omega)
         · rcases hu83 with ⟨_, e⟩ | ⟨_, e⟩ <;> cases e <;> (try dsimp only) <;> omega
         · rcases hu83 with ⟨_, e⟩ | ⟨_, e⟩ <;> cases e <;> (try dsimp only) <;> omega
         · dsimp only
           rw [hp83, hst]
         · intro a ha
           dsimp only at ha ⊢
           have h2 := hu a (by omega)
           rcases hu83 with ⟨_, e⟩ | ⟨_, e⟩ <;> cases e
           · exact h2
           · rw [upz_n (by omega), upz_n (by omega)]; exact h2)
      | (have hst : thK (d * d) F G (j + 1) = ptsOf k X Y := by
          show thS (d * d) (thK (d * d) F G j) _ = _
          unfold thS
          rw [← hp, farP_of hk1, if_neg (by simp only [decide_eq_true_eq]; omega)]
         exact ih20 (j + 1, k, X, Y) ⟨by (try dsimp only); omega, by (try dsimp only); omega, by (try dsimp only); omega, by dsimp only; rw [hst], hr, fun a ha => hu a (by (try dsimp only at ha); omega)⟩ (by (try dsimp only); omega))
    refine V_aload_n XC 0 rfl dX5_dropNear_70 rfl ?_
    refine V_aload_n XC 0 rfl dX5_dropNear_71 rfl ?_
    refine V_get XC 1 flX5_dropNear_9 0 rfl rfl dX5_dropNear_72 ?_
    refine V_iload_n XC 3 rfl dX5_dropNear_75 rfl ?_
    refine V_iald XC (j + 1) 1 rfl (by omega) (by omega) (by decide) dX5_dropNear_76 ?_
    refine V_aload_n XC 0 rfl dX5_dropNear_77 rfl ?_
    refine V_get XC 2 flX5_dropNear_15 0 rfl rfl dX5_dropNear_78 ?_
    refine V_iload_n XC 3 rfl dX5_dropNear_81 rfl ?_
    refine V_iald XC (j + 1) 2 rfl (by omega) (by omega) (by decide) dX5_dropNear_82 ?_
    rw [huj.1, huj.2]
    refine V_callV (rest := _) (q0 := 0) XC (c_X5_append l D kI kC _ _ _ _ _ _ (by omega) (by assumption) _ _ (by first | assumption | omega)) gX5_dropNear_X5_append rfl kmX5_append ⟨⟨Nat.le_of_ble_eq_true rfl, Nat.le_of_ble_eq_true rfl⟩, Nat.le_of_ble_eq_true rfl, Nat.le_of_ble_eq_true rfl⟩ ⟨rfl, rfl⟩ rfl rfl (Nat.le_of_ble_eq_true rfl) [0, 1, 2] rfl rfl (fun _ => rfl) rfl rfl dX5_dropNear_83 (kV_of (fun u83 hq83 => ?_))
    obtain ⟨n83, F83, G83⟩ := u83
    dsimp only [putW, List.set, Option.toList, List.cons_append, List.nil_append, padO, mdO, shW, trW, txW, hiW, liW, woW, taW]
    try dsimp only at hq83
    obtain ⟨hn83, hp83, hC83, hu83⟩ := hq83
    refine V_iinc XC dX5_dropNear_86 rfl (by decide) ?_
    dsimp only [List.set]
    refine V_goto XC 20 dX5_dropNear_89 (by decide) ?_
    first
    | (have hst : thK (d * d) F G (j + 1) = addP (ptsOf k X Y) (F (j + 1), G (j + 1)) := by
        show thS (d * d) (thK (d * d) F G j) _ = _
        unfold thS
        rw [← hp, farP_of hk1, if_pos (decide_eq_true (by (try dsimp only); omega))]
       refine ih20 (j + 1, _, _, _) ⟨by (try dsimp only); omega, ?_, ?_, ?_, hC83, ?_⟩ (by (try dsimp only); omega)
       · rcases hu83 with ⟨_, e⟩ | ⟨_, e⟩ <;> cases e <;> (try dsimp only) <;> omega
       · rcases hu83 with ⟨_, e⟩ | ⟨_, e⟩ <;> cases e <;> (try dsimp only) <;> omega
       · dsimp only
         rw [hp83, hst]
       · intro a ha
         dsimp only at ha ⊢
         have h2 := hu a (by omega)
         rcases hu83 with ⟨_, e⟩ | ⟨_, e⟩ <;> cases e
         · exact h2
         · rw [upz_n (by omega), upz_n (by omega)]; exact h2)
    | (have hst : thK (d * d) F G (j + 1) = ptsOf k X Y := by
        show thS (d * d) (thK (d * d) F G j) _ = _
        unfold thS
        rw [← hp, farP_of hk1, if_neg (by simp only [decide_eq_true_eq]; omega)]
       exact ih20 (j + 1, k, X, Y) ⟨by (try dsimp only); omega, by (try dsimp only); omega, by (try dsimp only); omega, by dsimp only; rw [hst], hr, fun a ha => hu a (by (try dsimp only at ha); omega)⟩ (by (try dsimp only); omega))
  refine V_vret XC (n, F, G) hrV rfl dX5_dropNear_12 ?_
  refine ⟨hn0, Nat.le_refl _, ?_, hC⟩
  unfold thinC
  rw [if_pos (by omega)]

end TRAIL
