/-! the reference: buffer, building a state -/
section REFB

set_option maxRecDepth 100000 in
set_option maxHeartbeats 4000000 in
theorem c_X8_isLast (l : Launch) (D : va_G) (kI kC : ClassId) (b : Nat → Nat) (gp : Int) (ke : Nat) (un : Nat) (bu : Nat) (ty : Nat) (pc : Int) (gd : Bool) (rd : Int) (po : Int) (ln : Int) (wd : Int) (BX : Nat → Int) (BY : Nat → Int) (hb24 : bu ≤ 24) (hC : ∀ i, i < bu → 0 ≤ BX i ∧ BX i ≤ 1000 ∧ 0 ≤ BY i ∧ BY i ≤ 1000) (x y : Int) (hx : IR x) (hy : IR y) : ConR l yX8_isLast wsX8_isLast { frames := 0, cells := 0, slots := 0, locals := 0 } D kI kC [.ref (b 0), .int (iI x), .int (iI y)] (mdO b gp (ke : Int) (un : Int) (bu : Int) (ty : Int) pc gd rd po ln wd :: [(b 4, IA kI 24 BX), (b 5, IA kI 24 BY)]) (fun r => r = bI (isL bu BX BY x y)) := by
  refine Con.of (cc := cX8_isLast) (maxL := 3) (ret := (some .boolean)) (by decide +kernel) rfl (List.forall_mem_cons.mpr ⟨rfl, List.forall_mem_cons.mpr ⟨rfl, List.forall_mem_cons.mpr ⟨rfl, fun _ h => absurd h List.not_mem_nil⟩⟩⟩) (Nat.le_of_ble_eq_true rfl) ?_
  intro pV eV sV mV bV tV cV AV XC hrV
  have XC : Cx pV _ sV mV _ tV cV cX8_isLast 3 RX8 wsX8_isLast AV D kI kC := XC
  change VV _ _ _ _ _ _ _ _ _ _ _ _ _ _ _ _ _ [some (.ref (b 0)), some (.int (iI x)), some (.int (iI y))] _ _
  dsimp only [mdO, List.cons_append, List.nil_append]
  refine V_aload_n XC 0 rfl dX8_isLast_0 rfl ?_
  refine V_get XC 6 flX8_isLast_92 0 rfl rfl dX8_isLast_1 ?_
  refine V_if_le XC 41 dX8_isLast_4 (by decide) (by first | assumption | (unfold IR; omega)) (fun h4 => ?_) (fun h4 => ?_)
  · skip
    refine V_iconst XC dX8_isLast_41 ?_
    refine V_zret (r := false) XC () hrV rfl dX8_isLast_42 ?_
    try dsimp only
    unfold isL
    first | rfl | exact congrArg bI (decide_eq_true (by omega)).symm | exact congrArg bI (decide_eq_false (by omega)).symm
  refine V_aload_n XC 0 rfl dX8_isLast_7 rfl ?_
  refine V_get XC 7 flX8_isLast_23 0 rfl rfl dX8_isLast_8 ?_
  refine V_aload_n XC 0 rfl dX8_isLast_11 rfl ?_
  refine V_get XC 6 flX8_isLast_92 0 rfl rfl dX8_isLast_12 ?_
  refine V_iconst XC dX8_isLast_15 ?_
  refine V_isub XC dX8_isLast_16 ?_
  have hc := hC (bu - 1) (by omega)
  refine V_iald XC (bu - 1) 1 rfl (by omega) (by omega) (by decide) dX8_isLast_17 ?_
  refine V_iload_n XC 1 rfl dX8_isLast_18 rfl ?_
  refine V_icmp_ne XC 41 dX8_isLast_19 (by decide) (by first | assumption | (unfold IR; omega)) (by first | assumption | (unfold IR; omega)) (fun h19 => ?_) (fun h19 => ?_)
  · skip
    refine V_iconst XC dX8_isLast_41 ?_
    refine V_zret (r := false) XC () hrV rfl dX8_isLast_42 ?_
    try dsimp only
    unfold isL
    first | rfl | exact congrArg bI (decide_eq_true (by omega)).symm | exact congrArg bI (decide_eq_false (by omega)).symm
  refine V_aload_n XC 0 rfl dX8_isLast_22 rfl ?_
  refine V_get XC 8 flX8_isLast_26 0 rfl rfl dX8_isLast_23 ?_
  refine V_aload_n XC 0 rfl dX8_isLast_26 rfl ?_
  refine V_get XC 6 flX8_isLast_92 0 rfl rfl dX8_isLast_27 ?_
  refine V_iconst XC dX8_isLast_30 ?_
  refine V_isub XC dX8_isLast_31 ?_
  refine V_iald XC (bu - 1) 2 rfl (by omega) (by omega) (by decide) dX8_isLast_32 ?_
  refine V_iload_n XC 2 rfl dX8_isLast_33 rfl ?_
  refine V_icmp_ne XC 41 dX8_isLast_34 (by decide) (by first | assumption | (unfold IR; omega)) (by first | assumption | (unfold IR; omega)) (fun h34 => ?_) (fun h34 => ?_)
  · skip
    refine V_iconst XC dX8_isLast_41 ?_
    refine V_zret (r := false) XC () hrV rfl dX8_isLast_42 ?_
    try dsimp only
    unfold isL
    first | rfl | exact congrArg bI (decide_eq_true (by omega)).symm | exact congrArg bI (decide_eq_false (by omega)).symm
  refine V_iconst XC dX8_isLast_37 ?_
  refine V_goto XC 42 dX8_isLast_38 (by decide) ?_
  refine V_zret (r := true) XC () hrV rfl dX8_isLast_42 ?_
  try dsimp only
  unfold isL
  first | rfl | exact congrArg bI (decide_eq_true (by omega)).symm | exact congrArg bI (decide_eq_false (by omega)).symm

set_option maxRecDepth 100000 in
set_option maxHeartbeats 4000000 in
theorem c_X8_add (l : Launch) (D : va_G) (kI kC : ClassId) (b : Nat → Nat) (gp : Int) (ke : Nat) (un : Nat) (bu : Nat) (ty : Nat) (pc : Int) (gd : Bool) (rd : Int) (po : Int) (ln : Int) (wd : Int) (BX : Nat → Int) (BY : Nat → Int) (hb24 : bu < 24) (hC : ∀ i, i < bu → 0 ≤ BX i ∧ BX i ≤ 1000 ∧ 0 ≤ BY i ∧ BY i ≤ 1000) (x y : Int) (hx : 0 ≤ x ∧ x ≤ 1000 ∧ 0 ≤ y ∧ y ≤ 1000) : Con l yX8_add wsX8_add { frames := 1, cells := 0, slots := 0, locals := 22 } D kI kC [.ref (b 0), .int (iI x), .int (iI y)] (mdO b gp (ke : Int) (un : Int) (bu : Int) (ty : Int) pc gd rd po ln wd :: [(b 4, IA kI 24 BX), (b 5, IA kI 24 BY)]) (σ := Nat × (Nat → Int) × (Nat → Int)) (qV (fun u => u.1 ≤ 24 ∧ u.1 ≤ bu + 1 ∧ ptsOf u.1 u.2.1 u.2.2 = addP (ptsOf bu BX BY) (x, y) ∧ (∀ i, i < u.1 → 0 ≤ u.2.1 i ∧ u.2.1 i ≤ 1000 ∧ 0 ≤ u.2.2 i ∧ u.2.2 i ≤ 1000))) (fun u => (mdO b gp (ke : Int) (un : Int) (u.1 : Int) (ty : Int) pc gd rd po ln wd :: [(b 4, IA kI 24 u.2.1), (b 5, IA kI 24 u.2.2)])) := by
  refine Con.of (cc := cX8_add) (maxL := 3) (ret := none) (by decide +kernel) rfl (List.forall_mem_cons.mpr ⟨rfl, List.forall_mem_cons.mpr ⟨rfl, List.forall_mem_cons.mpr ⟨rfl, fun _ h => absurd h List.not_mem_nil⟩⟩⟩) (Nat.le_of_ble_eq_true rfl) ?_
  intro pV eV sV mV bV tV cV AV XC hrV
  have XC : Cx pV _ sV mV _ tV cV cX8_add 3 RX8 wsX8_add AV D kI kC := XC
  change VV _ _ _ _ _ _ _ _ _ _ _ _ _ _ _ _ _ [some (.ref (b 0)), some (.int (iI x)), some (.int (iI y))] _ _
  dsimp only [mdO, List.cons_append, List.nil_append]
  refine V_aload_n XC 0 rfl dX8_add_0 rfl ?_
  refine V_iload_n XC 1 rfl dX8_add_1 rfl ?_
  refine V_iload_n XC 2 rfl dX8_add_2 rfl ?_
  refine V_callV (rest := _) (q0 := 0) XC (c_X8_isLast l D kI kC _ _ _ _ _ _ _ _ _ _ _ _ _ _ (by omega) (by assumption) _ _ (by first | assumption | (unfold IR; omega)) (by first | assumption | (unfold IR; omega))) gX8_add_X8_isLast rfl kmX8_isLast ⟨⟨Nat.le_of_ble_eq_true rfl, Nat.le_of_ble_eq_true rfl⟩, Nat.le_of_ble_eq_true rfl, Nat.le_of_ble_eq_true rfl⟩ ⟨rfl, rfl⟩ rfl rfl (Nat.le_of_ble_eq_true rfl) [0, 1, 2] rfl rfl (fun _ => rfl) rfl rfl dX8_add_3 (kR_of rfl (fun r3 hq3 => ?_))
  subst hq3
  refine V_bif_ne XC 39 dX8_add_6 (by decide) (fun h6 => ?_) (fun h6 => ?_)
  · skip
    refine V_vret XC (bu, BX, BY) hrV rfl dX8_add_39 ?_
    exact ⟨by (try dsimp only); omega, Nat.le_succ bu, (addP_yes h6).symm, hC⟩
  refine V_aload_n XC 0 rfl dX8_add_9 rfl ?_
  refine V_get XC 7 flX8_add_23 0 rfl rfl dX8_add_10 ?_
  refine V_aload_n XC 0 rfl dX8_add_13 rfl ?_
  refine V_get XC 6 flX8_add_92 0 rfl rfl dX8_add_14 ?_
  refine V_iload_n XC 1 rfl dX8_add_17 rfl ?_
  refine V_iast XC (bu) 1 rfl (by omega) (by omega) (by decide) dX8_add_18 ?_
  dsimp only [List.set]
  refine V_aload_n XC 0 rfl dX8_add_19 rfl ?_
  refine V_get XC 8 flX8_add_26 0 rfl rfl dX8_add_20 ?_
  refine V_aload_n XC 0 rfl dX8_add_23 rfl ?_
  refine V_get XC 6 flX8_add_92 0 rfl rfl dX8_add_24 ?_
  refine V_iload_n XC 2 rfl dX8_add_27 rfl ?_
  refine V_iast XC (bu) 2 rfl (by omega) (by omega) (by decide) dX8_add_28 ?_
  dsimp only [List.set]
  refine V_aload_n XC 0 rfl dX8_add_29 rfl ?_
  refine V_dup XC dX8_add_30 rfl ?_
  refine V_get XC 6 flX8_add_92 0 rfl rfl dX8_add_31 ?_
  refine V_iconst XC dX8_add_34 ?_
  refine V_iadd XC dX8_add_35 ?_
  refine V_top (y := ((bu + 1 : Nat) : Int)) (by omega) ?_
  refine V_putI XC 6 flX8_add_92 fpX8 pdX8_6 rfl 0 rfl (Nat.le_of_ble_eq_true rfl) dX8_add_36 ?_
  dsimp only [List.set]
  refine V_vret XC (bu + 1, upz BX bu x, upz BY bu y) hrV rfl dX8_add_39 ?_
  refine ⟨by (try dsimp only); omega, Nat.le_refl _, (addP_no h6).symm, fun i hi => ?_⟩
  dsimp only at hi ⊢
  by_cases q : i = bu
  · subst q; rw [upz_s, upz_s]; exact hx
  · rw [upz_n q, upz_n q]; exact hC i (by omega)

set_option maxRecDepth 100000 in
set_option maxHeartbeats 4000000 in
theorem c_X8_put (l : Launch) (D : va_G) (kI kC : ClassId) (b : Nat → Nat) (gp : Int) (ke : Nat) (un : Nat) (bu : Nat) (ty : Nat) (pc : Int) (gd : Bool) (rd : Int) (po : Int) (ln : Int) (wd : Int) (BX : Nat → Int) (BY : Nat → Int) (hB : OkB (ptsOf bu BX BY)) (x y : Int) (hx : IR x) (hy : IR y) : Con l yX8_put wsX8_put { frames := 2, cells := 0, slots := 0, locals := 44 } D kI kC [.ref (b 0), .int (iI x), .int (iI y)] (mdO b gp (ke : Int) (un : Int) (bu : Int) (ty : Int) pc gd rd po ln wd :: [(b 4, IA kI 24 BX), (b 5, IA kI 24 BY)]) (σ := Nat × (Nat → Int) × (Nat → Int)) (qI (fun r u => r = (putS (ptsOf bu BX BY) x y).1 ∧ ptsOf u.1 u.2.1 u.2.2 = (putS (ptsOf bu BX BY) x y).2 ∧ OkB (ptsOf u.1 u.2.1 u.2.2))) (fun u => (mdO b gp (ke : Int) (un : Int) (u.1 : Int) (ty : Int) pc gd rd po ln wd :: [(b 4, IA kI 24 u.2.1), (b 5, IA kI 24 u.2.2)])) := by
  refine Con.of (cc := cX8_put) (maxL := 3) (ret := (some .int)) (by decide +kernel) rfl (List.forall_mem_cons.mpr ⟨rfl, List.forall_mem_cons.mpr ⟨rfl, List.forall_mem_cons.mpr ⟨rfl, fun _ h => absurd h List.not_mem_nil⟩⟩⟩) (Nat.le_of_ble_eq_true rfl) ?_
  intro pV eV sV mV bV tV cV AV XC hrV
  have XC : Cx pV _ sV mV _ tV cV cX8_put 3 RX8 wsX8_put AV D kI kC := XC
  change VV _ _ _ _ _ _ _ _ _ _ _ _ _ _ _ _ _ [some (.ref (b 0)), some (.int (iI x)), some (.int (iI y))] _ _
  dsimp only [mdO, List.cons_append, List.nil_append]
  have hb := OkB_at hB
  refine V_iload_n XC 1 rfl dX8_put_0 rfl ?_
  refine V_callS (rest := _) XC (c_X8_isPlace l D kI kC _ (by first | assumption | (unfold IR; omega))) gX8_put_X8_isPlace rfl kmX8_isPlace ⟨⟨Nat.le_of_ble_eq_true rfl, Nat.le_of_ble_eq_true rfl⟩, Nat.le_of_ble_eq_true rfl, Nat.le_of_ble_eq_true rfl⟩ ⟨rfl, rfl⟩ rfl rfl (Nat.le_of_ble_eq_true rfl) [] rfl rfl (fun _ => rfl) dX8_put_1 (kR_of rfl (fun r1 hq1 => ?_))
  subst hq1
  refine V_bif_eq XC 14 dX8_put_4 (by decide) (fun h4 => ?_) (fun h4 => ?_)
  · skip
    have hp : putS (ptsOf bu BX BY) x y = (-2, ptsOf bu BX BY) := if_pos (Or.inl h4)
    refine V_bipush XC dX8_put_14 (by decide) ?_
    refine V_iret XC (bu, BX, BY) hrV rfl dX8_put_16 ?_
    rw [hp]
    exact ⟨rfl, rfl, hB⟩
  refine V_iload_n XC 2 rfl dX8_put_7 rfl ?_
  refine V_callS (rest := _) XC (c_X8_isPlace l D kI kC _ (by first | assumption | (unfold IR; omega))) gX8_put_X8_isPlace rfl kmX8_isPlace ⟨⟨Nat.le_of_ble_eq_true rfl, Nat.le_of_ble_eq_true rfl⟩, Nat.le_of_ble_eq_true rfl, Nat.le_of_ble_eq_true rfl⟩ ⟨rfl, rfl⟩ rfl rfl (Nat.le_of_ble_eq_true rfl) [] rfl rfl (fun _ => rfl) dX8_put_8 (kR_of rfl (fun r8 hq8 => ?_))
  subst hq8
  refine V_bif_ne XC 17 dX8_put_11 (by decide) (fun h11 => ?_) (fun h11 => ?_)
  · skip
    have hx2 := of_decide_eq_true h4
    have hy2 := of_decide_eq_true h11
    have hg : ¬ (inR x 0 1000 = false ∨ inR y 0 1000 = false) := by
      unfold inR
      rw [h4, h11]
      simp
    refine V_aload_n XC 0 rfl dX8_put_17 rfl ?_
    refine V_get XC 6 flX8_put_92 0 rfl rfl dX8_put_18 ?_
    refine V_bipush XC dX8_put_21 (by decide) ?_
    refine V_icmp_ne XC 29 dX8_put_23 (by decide) ⟨by omega, by omega⟩ ⟨by omega, by omega⟩ (fun h23 => ?_) (fun h23 => ?_)
    · skip
      refine V_aload_n XC 0 rfl dX8_put_29 rfl ?_
      refine V_iload_n XC 1 rfl dX8_put_30 rfl ?_
      refine V_iload_n XC 2 rfl dX8_put_31 rfl ?_
      refine V_callV (rest := _) (q0 := 0) XC (c_X8_add l D kI kC _ _ _ _ _ _ _ _ _ _ _ _ _ _ (by omega) hb.2 _ _ (by omega)) gX8_put_X8_add rfl kmX8_add ⟨⟨Nat.le_of_ble_eq_true rfl, Nat.le_of_ble_eq_true rfl⟩, Nat.le_of_ble_eq_true rfl, Nat.le_of_ble_eq_true rfl⟩ ⟨rfl, rfl⟩ rfl rfl (Nat.le_of_ble_eq_true rfl) [0, 1, 2] rfl rfl (fun _ => rfl) rfl rfl dX8_put_32 (kV_of (fun u32 hq32 => ?_))
      obtain ⟨bu32, BX32, BY32⟩ := u32
      dsimp only [putW, List.set, Option.toList, List.cons_append, List.nil_append, padO, mdO, shW, trW, txW, hiW, liW, woW, taW]
      try dsimp only at hq32
      obtain ⟨hn32, hs32, hp32, hC32⟩ := hq32
      refine V_aload_n XC 0 rfl dX8_put_35 rfl ?_
      refine V_get XC 6 flX8_put_92 0 rfl rfl dX8_put_36 ?_
      refine V_iret XC (_, _, _) hrV rfl dX8_put_39 ?_
      have hp : putS (ptsOf bu BX BY) x y = (((addP (ptsOf bu BX BY) (x, y)).length : Int), addP (ptsOf bu BX BY) (x, y)) := by
        unfold putS
        rw [if_neg hg, if_neg (by rw [ptsOf_len]; omega)]
      rw [hp]
      dsimp only
      rw [← hp32, ptsOf_len]
      exact ⟨rfl, rfl, by rw [hp32]; exact OkB_addP hB ⟨by omega, by omega, by omega, by omega⟩ (by rw [ptsOf_len]; omega)⟩
    refine V_bipush XC dX8_put_26 (by decide) ?_
    refine V_iret XC (bu, BX, BY) hrV rfl dX8_put_28 ?_
    have hp : putS (ptsOf bu BX BY) x y = (-3, ptsOf bu BX BY) := by
      unfold putS
      rw [if_neg hg, if_pos (by rw [ptsOf_len]; omega)]
    rw [hp]
    exact ⟨rfl, rfl, hB⟩
  have hp : putS (ptsOf bu BX BY) x y = (-2, ptsOf bu BX BY) := if_pos (Or.inr h11)
  refine V_bipush XC dX8_put_14 (by decide) ?_
  refine V_iret XC (bu, BX, BY) hrV rfl dX8_put_16 ?_
  rw [hp]
  exact ⟨rfl, rfl, hB⟩

set_option maxRecDepth 100000 in
set_option maxHeartbeats 4000000 in
theorem c_X8_clearPoints (l : Launch) (D : va_G) (kI kC : ClassId) (b : Nat → Nat) (gp : Int) (ke : Nat) (un : Nat) (bu : Nat) (ty : Nat) (pc : Int) (gd : Bool) (rd : Int) (po : Int) (ln : Int) (wd : Int)   : Con l yX8_clearPoints wsX8_clearPoints { frames := 0, cells := 0, slots := 0, locals := 0 } D kI kC [.ref (b 0)] (mdO b gp (ke : Int) (un : Int) (bu : Int) (ty : Int) pc gd rd po ln wd :: []) (σ := Unit) (qI (fun r u => r = bu)) (fun u => (mdO b gp (ke : Int) (un : Int) ((0 : Nat) : Int) (ty : Int) pc gd rd po ln wd :: [])) := by
  refine Con.of (cc := cX8_clearPoints) (maxL := 2) (ret := (some .int)) (by decide +kernel) rfl (List.forall_mem_cons.mpr ⟨rfl, fun _ h => absurd h List.not_mem_nil⟩) (Nat.le_of_ble_eq_true rfl) ?_
  intro pV eV sV mV bV tV cV AV XC hrV
  have XC : Cx pV _ sV mV _ tV cV cX8_clearPoints 2 RX8 wsX8_clearPoints AV D kI kC := XC
  change VV _ _ _ _ _ _ _ _ _ _ _ _ _ _ _ _ _ [some (.ref (b 0)), none] _ _
  dsimp only [mdO, List.cons_append, List.nil_append]
  refine V_aload_n XC 0 rfl dX8_clearPoints_0 rfl ?_
  refine V_get XC 6 flX8_clearPoints_92 0 rfl rfl dX8_clearPoints_1 ?_
  refine V_istore_n XC 1 rfl dX8_clearPoints_4 (by decide) ?_
  dsimp only [List.set]
  refine V_aload_n XC 0 rfl dX8_clearPoints_5 rfl ?_
  refine V_iconst XC dX8_clearPoints_6 ?_
  refine V_putI XC 6 flX8_clearPoints_92 fpX8 pdX8_6 rfl 0 rfl (Nat.le_of_ble_eq_true rfl) dX8_clearPoints_7 ?_
  dsimp only [List.set]
  refine V_iload_n XC 1 rfl dX8_clearPoints_10 rfl ?_
  refine V_iret XC (()) hrV rfl dX8_clearPoints_11 ?_
  rfl

set_option maxRecDepth 100000 in
set_option maxHeartbeats 4000000 in
theorem c_X8_clearText (l : Launch) (D : va_G) (kI kC : ClassId) (b : Nat → Nat) (gp : Int) (ke : Nat) (un : Nat) (bu : Nat) (ty : Nat) (pc : Int) (gd : Bool) (rd : Int) (po : Int) (ln : Int) (wd : Int)   : Con l yX8_clearText wsX8_clearText { frames := 0, cells := 0, slots := 0, locals := 0 } D kI kC [.ref (b 0)] (mdO b gp (ke : Int) (un : Int) (bu : Int) (ty : Int) pc gd rd po ln wd :: []) (σ := Unit) (qI (fun r u => r = ty)) (fun u => (mdO b gp (ke : Int) (un : Int) (bu : Int) ((0 : Nat) : Int) pc gd rd po ln wd :: [])) := by
  refine Con.of (cc := cX8_clearText) (maxL := 2) (ret := (some .int)) (by decide +kernel) rfl (List.forall_mem_cons.mpr ⟨rfl, fun _ h => absurd h List.not_mem_nil⟩) (Nat.le_of_ble_eq_true rfl) ?_
  intro pV eV sV mV bV tV cV AV XC hrV
  have XC : Cx pV _ sV mV _ tV cV cX8_clearText 2 RX8 wsX8_clearText AV D kI kC := XC
  change VV _ _ _ _ _ _ _ _ _ _ _ _ _ _ _ _ _ [some (.ref (b 0)), none] _ _
  dsimp only [mdO, List.cons_append, List.nil_append]
  refine V_aload_n XC 0 rfl dX8_clearText_0 rfl ?_
  refine V_get XC 9 flX8_clearText_107 0 rfl rfl dX8_clearText_1 ?_
  refine V_istore_n XC 1 rfl dX8_clearText_4 (by decide) ?_
  dsimp only [List.set]
  refine V_aload_n XC 0 rfl dX8_clearText_5 rfl ?_
  refine V_iconst XC dX8_clearText_6 ?_
  refine V_putI XC 9 flX8_clearText_107 fpX8 pdX8_9 rfl 0 rfl (Nat.le_of_ble_eq_true rfl) dX8_clearText_7 ?_
  dsimp only [List.set]
  refine V_iload_n XC 1 rfl dX8_clearText_10 rfl ?_
  refine V_iret XC (()) hrV rfl dX8_clearText_11 ?_
  rfl

set_option maxRecDepth 100000 in
set_option maxHeartbeats 4000000 in
theorem c_X8_type (l : Launch) (D : va_G) (kI kC : ClassId) (b : Nat → Nat) (gp : Int) (ke : Nat) (un : Nat) (bu : Nat) (ty : Nat) (pc : Int) (gd : Bool) (rd : Int) (po : Int) (ln : Int) (wd : Int) (T : Nat → Int) (hn : ty ≤ 100) (c : Int) (hc : 0 ≤ c ∧ c < 65536) : Con l yX8_type wsX8_type { frames := 0, cells := 0, slots := 0, locals := 0 } D kI kC [.ref (b 0), .int (iI c)] (mdO b gp (ke : Int) (un : Int) (bu : Int) (ty : Int) pc gd rd po ln wd :: [(b 6, IA kC 100 T)]) (σ := Nat × (Nat → Int)) (qI (fun r u => (ty = 100 ∧ r = -3 ∧ u = (ty, T)) ∨ (ty < 100 ∧ r = (ty : Int) + 1 ∧ u = (ty + 1, upz T ty c)))) (fun u => (mdO b gp (ke : Int) (un : Int) (bu : Int) (u.1 : Int) pc gd rd po ln wd :: [(b 6, IA kC 100 u.2)])) := by
  refine Con.of (cc := cX8_type) (maxL := 2) (ret := (some .int)) (by decide +kernel) rfl (List.forall_mem_cons.mpr ⟨rfl, List.forall_mem_cons.mpr ⟨rfl, fun _ h => absurd h List.not_mem_nil⟩⟩) (Nat.le_of_ble_eq_true rfl) ?_
  intro pV eV sV mV bV tV cV AV XC hrV
  have XC : Cx pV _ sV mV _ tV cV cX8_type 2 RX8 wsX8_type AV D kI kC := XC
  change VV _ _ _ _ _ _ _ _ _ _ _ _ _ _ _ _ _ [some (.ref (b 0)), some (.int (iI c))] _ _
  dsimp only [mdO, List.cons_append, List.nil_append]
  refine V_aload_n XC 0 rfl dX8_type_0 rfl ?_
  refine V_get XC 9 flX8_type_107 0 rfl rfl dX8_type_1 ?_
  refine V_bipush XC dX8_type_4 (by decide) ?_
  refine V_icmp_ne XC 12 dX8_type_6 (by decide) ⟨by omega, by omega⟩ ⟨by omega, by omega⟩ (fun h6 => ?_) (fun h6 => ?_)
  · skip
    refine V_aload_n XC 0 rfl dX8_type_12 rfl ?_
    refine V_get XC 10 flX8_type_29 0 rfl rfl dX8_type_13 ?_
    refine V_aload_n XC 0 rfl dX8_type_16 rfl ?_
    refine V_get XC 9 flX8_type_107 0 rfl rfl dX8_type_17 ?_
    refine V_iload_n XC 1 rfl dX8_type_20 rfl ?_
    refine V_cast XC (ty) 1 rfl (by omega) (by omega) (by decide) (by omega) (by omega) dX8_type_21 ?_
    dsimp only [List.set]
    refine V_aload_n XC 0 rfl dX8_type_22 rfl ?_
    refine V_dup XC dX8_type_23 rfl ?_
    refine V_get XC 9 flX8_type_107 0 rfl rfl dX8_type_24 ?_
    refine V_iconst XC dX8_type_27 ?_
    refine V_iadd XC dX8_type_28 ?_
    refine V_top (y := ((ty + 1 : Nat) : Int)) (by omega) ?_
    refine V_putI XC 9 flX8_type_107 fpX8 pdX8_9 rfl 0 rfl (Nat.le_of_ble_eq_true rfl) dX8_type_29 ?_
    dsimp only [List.set]
    refine V_aload_n XC 0 rfl dX8_type_32 rfl ?_
    refine V_get XC 9 flX8_type_107 0 rfl rfl dX8_type_33 ?_
    refine V_iret XC (ty + 1, upz T ty c) hrV rfl dX8_type_36 ?_
    exact Or.inr ⟨by omega, by (try dsimp only); omega, rfl⟩
  refine V_bipush XC dX8_type_9 (by decide) ?_
  refine V_iret XC (ty, T) hrV rfl dX8_type_11 ?_
  exact Or.inl ⟨by omega, rfl, rfl⟩

set_option maxRecDepth 100000 in
set_option maxHeartbeats 4000000 in
theorem c_X8_setGap (l : Launch) (D : va_G) (kI kC : ClassId) (b : Nat → Nat) (gp : Int) (ke : Nat) (un : Nat) (bu : Nat) (ty : Nat) (pc : Int) (gd : Bool) (rd : Int) (po : Int) (ln : Int) (wd : Int)  (hg : 0 ≤ gp ∧ gp ≤ 500) (z : Int) (hz : IR z) : Con l yX8_setGap wsX8_setGap { frames := 1, cells := 0, slots := 0, locals := 22 } D kI kC [.ref (b 0), .int (iI z)] (mdO b gp (ke : Int) (un : Int) (bu : Int) (ty : Int) pc gd rd po ln wd :: []) (σ := Int) (qI (fun r u => r = (if inR z 0 500 = false then -2 else gp) ∧ u = (if inR z 0 500 = false then gp else z))) (fun u => (mdO b u (ke : Int) (un : Int) (bu : Int) (ty : Int) pc gd rd po ln wd :: [])) := by
  refine Con.of (cc := cX8_setGap) (maxL := 3) (ret := (some .int)) (by decide +kernel) rfl (List.forall_mem_cons.mpr ⟨rfl, List.forall_mem_cons.mpr ⟨rfl, fun _ h => absurd h List.not_mem_nil⟩⟩) (Nat.le_of_ble_eq_true rfl) ?_
  intro pV eV sV mV bV tV cV AV XC hrV
  have XC : Cx pV _ sV mV _ tV cV cX8_setGap 3 RX8 wsX8_setGap AV D kI kC := XC
  change VV _ _ _ _ _ _ _ _ _ _ _ _ _ _ _ _ _ [some (.ref (b 0)), some (.int (iI z)), none] _ _
  dsimp only [mdO, List.cons_append, List.nil_append]
  refine V_iload_n XC 1 rfl dX8_setGap_0 rfl ?_
  refine V_iconst XC dX8_setGap_1 ?_
  refine V_sipush XC dX8_setGap_2 (by decide) ?_
  refine V_callS (rest := _) XC (c_X8_in l D kI kC _ _ _ (by first | assumption | (unfold IR; omega)) (by first | assumption | (unfold IR; omega)) (by first | assumption | (unfold IR; omega))) gX8_setGap_X8_in rfl kmX8_in ⟨⟨Nat.le_of_ble_eq_true rfl, Nat.le_of_ble_eq_true rfl⟩, Nat.le_of_ble_eq_true rfl, Nat.le_of_ble_eq_true rfl⟩ ⟨rfl, rfl⟩ rfl rfl (Nat.le_of_ble_eq_true rfl) [] rfl rfl (fun _ => rfl) dX8_setGap_5 (kR_of rfl (fun r5 hq5 => ?_))
  subst hq5
  refine V_bif_ne XC 14 dX8_setGap_8 (by decide) (fun h8 => ?_) (fun h8 => ?_)
  · skip
    refine V_aload_n XC 0 rfl dX8_setGap_14 rfl ?_
    refine V_get XC 1 flX8_setGap_13 0 rfl rfl dX8_setGap_15 ?_
    refine V_istore_n XC 2 rfl dX8_setGap_18 (by decide) ?_
    dsimp only [List.set]
    refine V_aload_n XC 0 rfl dX8_setGap_19 rfl ?_
    refine V_iload_n XC 1 rfl dX8_setGap_20 rfl ?_
    refine V_putI XC 1 flX8_setGap_13 fpX8 pdX8_1 rfl 0 rfl (Nat.le_of_ble_eq_true rfl) dX8_setGap_21 ?_
    dsimp only [List.set]
    refine V_iload_n XC 2 rfl dX8_setGap_24 rfl ?_
    refine V_iret XC (_) hrV rfl dX8_setGap_25 ?_
    first | exact ⟨(if_pos h8).symm, (if_pos h8).symm⟩ | exact ⟨(if_neg (by unfold inR; rw [h8]; decide)).symm, (if_neg (by unfold inR; rw [h8]; decide)).symm⟩
  refine V_bipush XC dX8_setGap_11 (by decide) ?_
  refine V_iret XC (_) hrV rfl dX8_setGap_13 ?_
  first | exact ⟨(if_pos h8).symm, (if_pos h8).symm⟩ | exact ⟨(if_neg (by unfold inR; rw [h8]; decide)).symm, (if_neg (by unfold inR; rw [h8]; decide)).symm⟩

set_option maxRecDepth 100000 in
set_option maxHeartbeats 4000000 in
theorem c_X8_begin (l : Launch) (D : va_G) (kI kC : ClassId) (b : Nat → Nat) (gp : Int) (ke : Nat) (un : Nat) (bu : Nat) (ty : Nat) (pc : Int) (gd : Bool) (rd : Int) (po : Int) (ln : Int) (wd : Int) (X : Nat → Int)  : Con l yX8_begin wsX8_begin { frames := 0, cells := 0, slots := 0, locals := 0 } D kI kC [.ref (b 0)] (mdO b gp (ke : Int) (un : Int) (bu : Int) (ty : Int) pc gd rd po ln wd :: [(b 9, IA kI 801 X)]) (σ := Unit) (qV (fun u => True)) (fun u => (mdO b gp (ke : Int) (un : Int) (bu : Int) (ty : Int) pc gd rd po ln wd :: [(b 9, IA kI 801 (upz X 0 0))])) := by
  refine Con.of (cc := cX8_begin) (maxL := 1) (ret := none) (by decide +kernel) rfl (List.forall_mem_cons.mpr ⟨rfl, fun _ h => absurd h List.not_mem_nil⟩) (Nat.le_of_ble_eq_true rfl) ?_
  intro pV eV sV mV bV tV cV AV XC hrV
  have XC : Cx pV _ sV mV _ tV cV cX8_begin 1 RX8 wsX8_begin AV D kI kC := XC
  change VV _ _ _ _ _ _ _ _ _ _ _ _ _ _ _ _ _ [some (.ref (b 0))] _ _
  dsimp only [mdO, List.cons_append, List.nil_append]
  refine V_aload_n XC 0 rfl dX8_begin_0 rfl ?_
  refine V_get XC 16 flX8_begin_39 0 rfl rfl dX8_begin_1 ?_
  refine V_iconst XC dX8_begin_4 ?_
  refine V_iconst XC dX8_begin_5 ?_
  refine V_iast XC (0) 1 rfl rfl (by decide) (by decide) dX8_begin_6 ?_
  dsimp only [List.set]
  refine V_vret XC (()) hrV rfl dX8_begin_7 ?_
  trivial

set_option maxRecDepth 100000 in
set_option maxHeartbeats 4000000 in
theorem c_X8_addStroke (l : Launch) (D : va_G) (kI kC : ClassId) (b : Nat → Nat) (gp : Int) (ke : Nat) (un : Nat) (bu : Nat) (ty : Nat) (pc : Int) (gd : Bool) (rd : Int) (po : Int) (ln : Int) (wd : Int) (X : Nat → Int) (Dl : List Stk) (hX : NxR X Dl) (hl : Dl.length < 1000) (c : Int) : Con l yX8_addStroke wsX8_addStroke { frames := 0, cells := 0, slots := 0, locals := 0 } D kI kC [.ref (b 0), .int (iI c)] (mdO b gp (ke : Int) (un : Int) (bu : Int) (ty : Int) pc gd rd po ln wd :: [(b 9, IA kI 801 X)]) (σ := Unit) (qV (fun u => True)) (fun u => (mdO b gp (ke : Int) (un : Int) (bu : Int) (ty : Int) pc gd rd po ln wd :: [(b 9, IA kI 801 (asF X Dl.length c))])) := by
  refine Con.of (cc := cX8_addStroke) (maxL := 3) (ret := none) (by decide +kernel) rfl (List.forall_mem_cons.mpr ⟨rfl, List.forall_mem_cons.mpr ⟨rfl, fun _ h => absurd h List.not_mem_nil⟩⟩) (Nat.le_of_ble_eq_true rfl) ?_
  intro pV eV sV mV bV tV cV AV XC hrV
  have XC : Cx pV _ sV mV _ tV cV cX8_addStroke 3 RX8 wsX8_addStroke AV D kI kC := XC
  change VV _ _ _ _ _ _ _ _ _ _ _ _ _ _ _ _ _ [some (.ref (b 0)), some (.int (iI c)), none] _ _
  dsimp only [mdO, List.cons_append, List.nil_append]
  refine V_aload_n XC 0 rfl dX8_addStroke_0 rfl ?_
  refine V_get XC 16 flX8_addStroke_39 0 rfl rfl dX8_addStroke_1 ?_
  refine V_iconst XC dX8_addStroke_4 ?_
  refine V_iald XC (0) 1 rfl rfl (by decide) (by decide) dX8_addStroke_5 ?_
  rw [hX.1]
  refine V_istore_n XC 2 rfl dX8_addStroke_6 (by decide) ?_
  dsimp only [List.set]
  refine V_iload_n XC 2 rfl dX8_addStroke_7 rfl ?_
  refine V_bipush XC dX8_addStroke_8 (by decide) ?_
  refine V_icmp_ge XC 32 dX8_addStroke_10 (by decide) ⟨by omega, by omega⟩ ⟨by omega, by omega⟩ (fun h10 => ?_) (fun h10 => ?_)
  · skip
    have e : (if Dl.length < 16 then upz (upz X (1 + Dl.length) 0) (17 + Dl.length) c else X) = X := if_neg (by omega)
    have e0 : X 0 = (Dl.length : Int) := hX.1
    rw [show asF X Dl.length c = upz X 0 ((Dl.length : Int) + 1) from congrArg (fun z => upz z 0 ((Dl.length : Int) + 1)) e]
    refine V_aload_n XC 0 rfl dX8_addStroke_32 rfl ?_
    refine V_get XC 16 flX8_addStroke_39 0 rfl rfl dX8_addStroke_33 ?_
    refine V_iconst XC dX8_addStroke_36 ?_
    refine V_dup2 XC dX8_addStroke_37 rfl rfl ?_
    refine V_iald XC (0) 1 rfl rfl (by decide) (by decide) dX8_addStroke_38 ?_
    rw [e0]
    refine V_iconst XC dX8_addStroke_39 ?_
    refine V_iadd XC dX8_addStroke_40 ?_
    refine V_iast XC (0) 1 rfl rfl (by decide) (by decide) dX8_addStroke_41 ?_
    dsimp only [List.set]
    refine V_vret XC (()) hrV rfl dX8_addStroke_42 ?_
    trivial
  have e : (if Dl.length < 16 then upz (upz X (1 + Dl.length) 0) (17 + Dl.length) c else X) = upz (upz X (1 + Dl.length) 0) (17 + Dl.length) c := if_pos (by omega)
  have e0 : upz (upz X (1 + Dl.length) 0) (17 + Dl.length) c 0 = (Dl.length : Int) := by rw [upz_n (by omega), upz_n (by omega)]; exact hX.1
  rw [show asF X Dl.length c = upz (upz (upz X (1 + Dl.length) 0) (17 + Dl.length) c) 0 ((Dl.length : Int) + 1) from congrArg (fun z => upz z 0 ((Dl.length : Int) + 1)) e]
  refine V_aload_n XC 0 rfl dX8_addStroke_13 rfl ?_
  refine V_get XC 16 flX8_addStroke_39 0 rfl rfl dX8_addStroke_14 ?_
  refine V_iconst XC dX8_addStroke_17 ?_
  refine V_iload_n XC 2 rfl dX8_addStroke_18 rfl ?_
  refine V_iadd XC dX8_addStroke_19 ?_
  refine V_iconst XC dX8_addStroke_20 ?_
  refine V_iast XC (1 + Dl.length) 1 rfl (by omega) (by omega) (by decide) dX8_addStroke_21 ?_
  dsimp only [List.set]
  refine V_aload_n XC 0 rfl dX8_addStroke_22 rfl ?_
  refine V_get XC 16 flX8_addStroke_39 0 rfl rfl dX8_addStroke_23 ?_
  refine V_bipush XC dX8_addStroke_26 (by decide) ?_
  refine V_iload_n XC 2 rfl dX8_addStroke_28 rfl ?_
  refine V_iadd XC dX8_addStroke_29 ?_
  refine V_iload_n XC 1 rfl dX8_addStroke_30 rfl ?_
  refine V_iast XC (17 + Dl.length) 1 rfl (by omega) (by omega) (by decide) dX8_addStroke_31 ?_
  dsimp only [List.set]
  refine V_aload_n XC 0 rfl dX8_addStroke_32 rfl ?_
  refine V_get XC 16 flX8_addStroke_39 0 rfl rfl dX8_addStroke_33 ?_
  refine V_iconst XC dX8_addStroke_36 ?_
  refine V_dup2 XC dX8_addStroke_37 rfl rfl ?_
  refine V_iald XC (0) 1 rfl rfl (by decide) (by decide) dX8_addStroke_38 ?_
  rw [e0]
  refine V_iconst XC dX8_addStroke_39 ?_
  refine V_iadd XC dX8_addStroke_40 ?_
  refine V_iast XC (0) 1 rfl rfl (by decide) (by decide) dX8_addStroke_41 ?_
  dsimp only [List.set]
  refine V_vret XC (()) hrV rfl dX8_addStroke_42 ?_
  trivial

set_option maxRecDepth 100000 in
set_option maxHeartbeats 4000000 in
theorem c_X8_addPoint (l : Launch) (D : va_G) (kI kC : ClassId) (b : Nat → Nat) (gp : Int) (ke : Nat) (un : Nat) (bu : Nat) (ty : Nat) (pc : Int) (gd : Bool) (rd : Int) (po : Int) (ln : Int) (wd : Int) (X : Nat → Int) (Dl : List Stk) (c : Int) (ps : List Pt) (hX : NxR X (Dl ++ [(c, ps)])) (hl : Dl.length < 1000) (hps : ps.length < 24) (x y : Int) : Con l yX8_addPoint wsX8_addPoint { frames := 0, cells := 0, slots := 0, locals := 0 } D kI kC [.ref (b 0), .int (iI x), .int (iI y)] (mdO b gp (ke : Int) (un : Int) (bu : Int) (ty : Int) pc gd rd po ln wd :: [(b 9, IA kI 801 X)]) (σ := Unit) (qV (fun u => True)) (fun u => (mdO b gp (ke : Int) (un : Int) (bu : Int) (ty : Int) pc gd rd po ln wd :: [(b 9, IA kI 801 (if Dl.length < 16 then apF X Dl.length ps.length x y else X))])) := by
  refine Con.of (cc := cX8_addPoint) (maxL := 4) (ret := none) (by decide +kernel) rfl (List.forall_mem_cons.mpr ⟨rfl, List.forall_mem_cons.mpr ⟨rfl, List.forall_mem_cons.mpr ⟨rfl, fun _ h => absurd h List.not_mem_nil⟩⟩⟩) (Nat.le_of_ble_eq_true rfl) ?_
  intro pV eV sV mV bV tV cV AV XC hrV
  have XC : Cx pV _ sV mV _ tV cV cX8_addPoint 4 RX8 wsX8_addPoint AV D kI kC := XC
  change VV _ _ _ _ _ _ _ _ _ _ _ _ _ _ _ _ _ [some (.ref (b 0)), some (.int (iI x)), some (.int (iI y)), none] _ _
  dsimp only [mdO, List.cons_append, List.nil_append]
  have hX0 : X 0 = (Dl.length : Int) + 1 := by rw [hX.1, List.length_append]; rfl
  refine V_aload_n XC 0 rfl dX8_addPoint_0 rfl ?_
  refine V_get XC 16 flX8_addPoint_39 0 rfl rfl dX8_addPoint_1 ?_
  refine V_iconst XC dX8_addPoint_4 ?_
  refine V_iald XC (0) 1 rfl rfl (by decide) (by decide) dX8_addPoint_5 ?_
  rw [hX0]
  refine V_iconst XC dX8_addPoint_6 ?_
  refine V_isub XC dX8_addPoint_7 ?_
  refine V_top (y := (Dl.length : Int)) (by omega) ?_
  refine V_istore_n XC 3 rfl dX8_addPoint_8 (by decide) ?_
  dsimp only [List.set]
  refine V_iload_n XC 3 rfl dX8_addPoint_9 rfl ?_
  refine V_bipush XC dX8_addPoint_10 (by decide) ?_
  refine V_icmp_ge XC 72 dX8_addPoint_12 (by decide) ⟨by omega, by omega⟩ ⟨by omega, by omega⟩ (fun h12 => ?_) (fun h12 => ?_)
  · skip
    have e : (if Dl.length < 16 then apF X Dl.length ps.length x y else X) = X := if_neg (by omega)
    rw [e]
    refine V_vret XC (()) hrV rfl dX8_addPoint_72 ?_
    trivial
  have hlt : Dl.length < 16 := by omega
  have hsz := NxR_size hX hlt
  have e : (if Dl.length < 16 then apF X Dl.length ps.length x y else X) = upz (upz (upz X (33 + 24 * Dl.length + ps.length) x) (417 + 24 * Dl.length + ps.length) y) (1 + Dl.length) ((ps.length : Int) + 1) := if_pos hlt
  have s1 : upz X (33 + 24 * Dl.length + ps.length) x (1 + Dl.length) = (ps.length : Int) := by rw [upz_n (by omega)]; exact hsz
  have s2 : upz (upz X (33 + 24 * Dl.length + ps.length) x) (417 + 24 * Dl.length + ps.length) y (1 + Dl.length) = (ps.length : Int) := by rw [upz_n (by omega)]; exact s1
  rw [e]
  refine V_aload_n XC 0 rfl dX8_addPoint_15 rfl ?_
  refine V_get XC 16 flX8_addPoint_39 0 rfl rfl dX8_addPoint_16 ?_
  refine V_bipush XC dX8_addPoint_19 (by decide) ?_
  refine V_bipush XC dX8_addPoint_21 (by decide) ?_
  refine V_iload_n XC 3 rfl dX8_addPoint_23 rfl ?_
  refine V_imul XC dX8_addPoint_24 ?_
  refine V_iadd XC dX8_addPoint_25 ?_
  refine V_aload_n XC 0 rfl dX8_addPoint_26 rfl ?_
  refine V_get XC 16 flX8_addPoint_39 0 rfl rfl dX8_addPoint_27 ?_
  refine V_iconst XC dX8_addPoint_30 ?_
  refine V_iload_n XC 3 rfl dX8_addPoint_31 rfl ?_
  refine V_iadd XC dX8_addPoint_32 ?_
  refine V_iald XC (1 + Dl.length) 1 rfl (by omega) (by omega) (by decide) dX8_addPoint_33 ?_
  rw [hsz]
  refine V_iadd XC dX8_addPoint_34 ?_
  refine V_iload_n XC 1 rfl dX8_addPoint_35 rfl ?_
  refine V_iast XC (33 + 24 * Dl.length + ps.length) 1 rfl (by omega) (by omega) (by decide) dX8_addPoint_36 ?_
  dsimp only [List.set]
  refine V_aload_n XC 0 rfl dX8_addPoint_37 rfl ?_
  refine V_get XC 16 flX8_addPoint_39 0 rfl rfl dX8_addPoint_38 ?_
  refine V_sipush XC dX8_addPoint_41 (by decide) ?_
  refine V_bipush XC dX8_addPoint_44 (by decide) ?_
  refine V_iload_n XC 3 rfl dX8_addPoint_46 rfl ?_
  refine V_imul XC dX8_addPoint_47 ?_
  refine V_iadd XC dX8_addPoint_48 ?_
  refine V_aload_n XC 0 rfl dX8_addPoint_49 rfl ?_
  refine V_get XC 16 flX8_addPoint_39 0 rfl rfl dX8_addPoint_50 ?_
  refine V_iconst XC dX8_addPoint_53 ?_
  refine V_iload_n XC 3 rfl dX8_addPoint_54 rfl ?_
  refine V_iadd XC dX8_addPoint_55 ?_
  refine V_iald XC (1 + Dl.length) 1 rfl (by omega) (by omega) (by decide) dX8_addPoint_56 ?_
  rw [s1]
  refine V_iadd XC dX8_addPoint_57 ?_
  refine V_iload_n XC 2 rfl dX8_addPoint_58 rfl ?_
  refine V_iast XC (417 + 24 * Dl.length + ps.length) 1 rfl (by omega) (by omega) (by decide) dX8_addPoint_59 ?_
  dsimp only [List.set]
  refine V_aload_n XC 0 rfl dX8_addPoint_60 rfl ?_
  refine V_get XC 16 flX8_addPoint_39 0 rfl rfl dX8_addPoint_61 ?_
  refine V_iconst XC dX8_addPoint_64 ?_
  refine V_iload_n XC 3 rfl dX8_addPoint_65 rfl ?_
  refine V_iadd XC dX8_addPoint_66 ?_
  refine V_dup2 XC dX8_addPoint_67 rfl rfl ?_
  refine V_iald XC (1 + Dl.length) 1 rfl (by omega) (by omega) (by decide) dX8_addPoint_68 ?_
  rw [s2]
  refine V_iconst XC dX8_addPoint_69 ?_
  refine V_iadd XC dX8_addPoint_70 ?_
  refine V_iast XC (1 + Dl.length) 1 rfl (by omega) (by omega) (by decide) dX8_addPoint_71 ?_
  dsimp only [List.set]
  refine V_vret XC (()) hrV rfl dX8_addPoint_72 ?_
  trivial

set_option maxRecDepth 100000 in
set_option maxHeartbeats 4000000 in
theorem c_X8_copyStroke (l : Launch) (D : va_G) (kI kC : ClassId) (b : Nat → Nat) (gp : Int) (ke : Nat) (un : Nat) (bu : Nat) (ty : Nat) (pc : Int) (gd : Bool) (rd : Int) (po : Int) (ln : Int) (wd : Int) (G : Nat → Int) (X : Nat → Int) (S : List Stk) (hS : OkS S) (hN : NowR G S) (Dl : List Stk) (hX : NxR X Dl) (hl : Dl.length < 999) (k : Nat) (hk : k < S.length) : Con l yX8_copyStroke wsX8_copyStroke { frames := 1, cells := 0, slots := 0, locals := 23 } D kI kC [.ref (b 0), .int (iI (k : Int))] (mdO b gp (ke : Int) (un : Int) (bu : Int) (ty : Int) pc gd rd po ln wd :: [(b 1, IA kI 801 G), (b 9, IA kI 801 X)]) (σ := (Nat → Int)) (qV (fun u => NxR u (Dl ++ [gk S k]))) (fun u => (mdO b gp (ke : Int) (un : Int) (bu : Int) (ty : Int) pc gd rd po ln wd :: [(b 1, IA kI 801 G), (b 9, IA kI 801 u)])) := by
  refine Con.of (cc := cX8_copyStroke) (maxL := 3) (ret := none) (by decide +kernel) rfl (List.forall_mem_cons.mpr ⟨rfl, List.forall_mem_cons.mpr ⟨rfl, fun _ h => absurd h List.not_mem_nil⟩⟩) (Nat.le_of_ble_eq_true rfl) ?_
  intro pV eV sV mV bV tV cV AV XC hrV
  have XC : Cx pV _ sV mV _ tV cV cX8_copyStroke 3 RX8 wsX8_copyStroke AV D kI kC := XC
  change VV _ _ _ _ _ _ _ _ _ _ _ _ _ _ _ _ _ [some (.ref (b 0)), some (.int (iI (k : Int))), none] _ _
  dsimp only [mdO, List.cons_append, List.nil_append]
  have h16 := hS.1
  have hok := NowR_ok hN hS hk
  have hat := NowR_at hN hk
  have hf := skR_ok hok
  have hsz := skR_sz hok
  have hz3 := OkK_sz hok
  refine V_aload_n XC 0 rfl dX8_copyStroke_0 rfl ?_
  refine V_aload_n XC 0 rfl dX8_copyStroke_1 rfl ?_
  refine V_get XC 0 flX8_copyStroke_7 0 rfl rfl dX8_copyStroke_2 ?_
  refine V_bipush XC dX8_copyStroke_5 (by decide) ?_
  refine V_iload_n XC 1 rfl dX8_copyStroke_7 rfl ?_
  refine V_iadd XC dX8_copyStroke_8 ?_
  refine V_iald XC (17 + k) 1 rfl (by omega) (by omega) (by decide) dX8_copyStroke_9 ?_
  refine V_callV (rest := _) (q0 := 0) XC (c_X8_addStroke l D kI kC _ _ _ _ _ _ _ _ _ _ _ _ _ Dl hX (by omega) _) gX8_copyStroke_X8_addStroke rfl kmX8_addStroke ⟨⟨Nat.le_of_ble_eq_true rfl, Nat.le_of_ble_eq_true rfl⟩, Nat.le_of_ble_eq_true rfl, Nat.le_of_ble_eq_true rfl⟩ ⟨rfl, rfl⟩ rfl rfl (Nat.le_of_ble_eq_true rfl) [0, 2] rfl rfl (fun _ => rfl) rfl rfl dX8_copyStroke_10 (kV_of (fun u10 hq10 => ?_))
  dsimp only [putW, List.set, Option.toList, List.cons_append, List.nil_append, padO, mdO, shW, trW, txW, hiW, liW, woW, taW]
  try dsimp only at hq10
  refine V_iconst XC dX8_copyStroke_13 ?_
  refine V_istore_n XC 2 rfl dX8_copyStroke_14 (by decide) ?_
  dsimp only [List.set]
  refine V_loop (σ := Nat × (Nat → Int)) (fun u => 24 - u.1) (fun u => u.1 ≤ szk (skR G k) ∧ NxR u.2 (Dl ++ [(G (17 + k), (skR G k).2.take u.1)])) (fun u => [some (.ref (b 0)), some (.int (iI (k : Int))), some (.int (iI (u.1 : Int)))]) (fun u => (mdO b gp (ke : Int) (un : Int) (bu : Int) (ty : Int) pc gd rd po ln wd :: [(b 1, IA kI 801 G), (b 9, IA kI 801 u.2)])) (0, asF X Dl.length (G (17 + k))) ?_ rfl rfl (fun u hJ ih15 => ?_)
  · dsimp only
    exact ⟨Nat.zero_le _, NxR_stroke hX⟩
  obtain ⟨i, X2⟩ := u
  try dsimp only at hJ ih15 ⊢
  try dsimp only [List.cons_append, List.nil_append, padO, mdO, shW, trW, txW, hiW, liW, woW, taW]
  obtain ⟨hi, hX2⟩ := hJ
  refine V_iload_n XC 2 rfl dX8_copyStroke_15 rfl ?_
  refine V_aload_n XC 0 rfl dX8_copyStroke_16 rfl ?_
  refine V_iload_n XC 1 rfl dX8_copyStroke_17 rfl ?_
  refine V_callV (rest := _) (q0 := 0) XC (c_X8_size l D kI kC _ _ _ _ _ _ _ _ _ _ _ _ _ _ (by omega)) gX8_copyStroke_X8_size rfl kmX8_size ⟨⟨Nat.le_of_ble_eq_true rfl, Nat.le_of_ble_eq_true rfl⟩, Nat.le_of_ble_eq_true rfl, Nat.le_of_ble_eq_true rfl⟩ ⟨rfl, rfl⟩ rfl rfl (Nat.le_of_ble_eq_true rfl) [0, 1] rfl rfl (fun _ => rfl) rfl rfl dX8_copyStroke_18 (kR_of rfl (fun r18 hq18 => ?_))
  subst hq18
  refine V_icmp_ge XC 46 dX8_copyStroke_21 (by decide) ⟨by omega, by omega⟩ ⟨by omega, by omega⟩ (fun h21 => ?_) (fun h21 => ?_)
  · skip
    refine V_vret XC (X2) hrV rfl dX8_copyStroke_46 ?_
    rw [show i = szk (skR G k) by omega, List.take_of_length_le (by exact Nat.le_refl _)] at hX2
    rw [hat]
    exact hX2
  have hxy := skR_xy (F := G) (k := k) (i := i) (by omega)
  refine V_aload_n XC 0 rfl dX8_copyStroke_24 rfl ?_
  refine V_aload_n XC 0 rfl dX8_copyStroke_25 rfl ?_
  refine V_iload_n XC 1 rfl dX8_copyStroke_26 rfl ?_
  refine V_iload_n XC 2 rfl dX8_copyStroke_27 rfl ?_
  refine V_callV (rest := _) (q0 := 0) XC (c_X8_x l D kI kC _ _ _ _ _ _ _ _ _ _ _ _ _ k i (by omega) (by omega)) gX8_copyStroke_X8_x rfl kmX8_x ⟨⟨Nat.le_of_ble_eq_true rfl, Nat.le_of_ble_eq_true rfl⟩, Nat.le_of_ble_eq_true rfl, Nat.le_of_ble_eq_true rfl⟩ ⟨rfl, rfl⟩ rfl rfl (Nat.le_of_ble_eq_true rfl) [0, 1] rfl rfl (fun _ => rfl) rfl rfl dX8_copyStroke_28 (kR_of rfl (fun r28 hq28 => ?_))
  subst hq28
  rw [hxy.1]
  refine V_aload_n XC 0 rfl dX8_copyStroke_31 rfl ?_
  refine V_iload_n XC 1 rfl dX8_copyStroke_32 rfl ?_
  refine V_iload_n XC 2 rfl dX8_copyStroke_33 rfl ?_
  refine V_callV (rest := _) (q0 := 0) XC (c_X8_y l D kI kC _ _ _ _ _ _ _ _ _ _ _ _ _ k i (by omega) (by omega)) gX8_copyStroke_X8_y rfl kmX8_y ⟨⟨Nat.le_of_ble_eq_true rfl, Nat.le_of_ble_eq_true rfl⟩, Nat.le_of_ble_eq_true rfl, Nat.le_of_ble_eq_true rfl⟩ ⟨rfl, rfl⟩ rfl rfl (Nat.le_of_ble_eq_true rfl) [0, 1] rfl rfl (fun _ => rfl) rfl rfl dX8_copyStroke_34 (kR_of rfl (fun r34 hq34 => ?_))
  subst hq34
  rw [hxy.2]
  refine V_callV (rest := _) (q0 := 0) XC (c_X8_addPoint l D kI kC _ _ _ _ _ _ _ _ _ _ _ _ _ Dl (G (17 + k)) _ hX2 (by omega) (by rw [List.length_take]; omega) _ _) gX8_copyStroke_X8_addPoint rfl kmX8_addPoint ⟨⟨Nat.le_of_ble_eq_true rfl, Nat.le_of_ble_eq_true rfl⟩, Nat.le_of_ble_eq_true rfl, Nat.le_of_ble_eq_true rfl⟩ ⟨rfl, rfl⟩ rfl rfl (Nat.le_of_ble_eq_true rfl) [0, 2] rfl rfl (fun _ => rfl) rfl rfl dX8_copyStroke_37 (kV_of (fun u37 hq37 => ?_))
  dsimp only [putW, List.set, Option.toList, List.cons_append, List.nil_append, padO, mdO, shW, trW, txW, hiW, liW, woW, taW]
  try dsimp only at hq37
  refine V_iinc XC dX8_copyStroke_40 rfl (by decide) ?_
  dsimp only [List.set]
  refine V_goto XC 15 dX8_copyStroke_43 (by decide) ?_
  have h9 := NxR_point (x := px (skR G k) i) (y := py (skR G k) i) hX2 (by rw [List.length_take]; omega)
  rw [← take_s (pxy_at (t := skR G k) (i := i) (by omega))] at h9
  exact ih15 (i + 1, _) ⟨by (try dsimp only); omega, h9⟩ (by (try dsimp only); omega)

set_option maxRecDepth 100000 in
set_option maxHeartbeats 4000000 in
theorem c_X8_paint (l : Launch) (D : va_G) (kI kC : ClassId) (b : Nat → Nat) (gp : Int) (ke : Nat) (un : Nat) (bu : Nat) (ty : Nat) (pc : Int) (gd : Bool) (rd : Int) (po : Int) (ln : Int) (wd : Int) (G : Nat → Int) (H : Nat → Int) (A : Nat → Int) (S : List Stk) (past fut : List (List Stk)) (h3 : Ok3 (S, past, fut)) (hN : NowR G S) (hH : RH (S, past, fut) ke un H A) (z c : Int) (hz : IR z) (hc : IR c) : Con l yX8_paint wsX8_paint { frames := 3, cells := 0, slots := 0, locals := 65 } D kI kC [.ref (b 0), .int (iI z), .int (iI c)] (mdO b gp (ke : Int) (un : Int) (bu : Int) (ty : Int) pc gd rd po ln wd :: [(b 1, IA kI 801 G), (b 2, IA kI 4806 H)]) (σ := (Nat → Int) × Nat × Nat × (Nat → Int)) (qI (fun r u => r = (paintS S z c).1 ∧ NowR u.1 (actS (S, past, fut) (paintS S z c).2).1 ∧ RH (actS (S, past, fut) (paintS S z c).2) u.2.1 u.2.2.1 u.2.2.2 A ∧ Ok3 (actS (S, past, fut) (paintS S z c).2))) (fun u => (mdO b gp (u.2.1 : Int) (u.2.2.1 : Int) (bu : Int) (ty : Int) pc gd rd po ln wd :: [(b 1, IA kI 801 u.1), (b 2, IA kI 4806 u.2.2.2)])) := by
  refine Con.of (cc := cX8_paint) (maxL := 4) (ret := (some .int)) (by decide +kernel) rfl (List.forall_mem_cons.mpr ⟨rfl, List.forall_mem_cons.mpr ⟨rfl, List.forall_mem_cons.mpr ⟨rfl, fun _ h => absurd h List.not_mem_nil⟩⟩⟩) (Nat.le_of_ble_eq_true rfl) ?_
  intro pV eV sV mV bV tV cV AV XC hrV
  have XC : Cx pV _ sV mV _ tV cV cX8_paint 4 RX8 wsX8_paint AV D kI kC := XC
  change VV _ _ _ _ _ _ _ _ _ _ _ _ _ _ _ _ _ [some (.ref (b 0)), some (.int (iI z)), some (.int (iI c)), none] _ _
  dsimp only [mdO, List.cons_append, List.nil_append]
  have hn16 : S.length ≤ 16 := h3.1.1
  have hS : OkS S := h3.1
  have hk6 : ke ≤ 6 := by rw [hH.1]; exact h3.2.1.1
  have hN0 : G 0 = (S.length : Int) := hN.1
  refine V_aload_n XC 0 rfl dX8_paint_0 rfl ?_
  refine V_iload_n XC 1 rfl dX8_paint_1 rfl ?_
  refine V_callV (rest := _) (q0 := 0) XC (c_X8_noStroke l D kI kC _ _ _ _ _ _ _ _ _ _ _ _ _ S.length hn16 hN0 _ hz) gX8_paint_X8_noStroke rfl kmX8_noStroke ⟨⟨Nat.le_of_ble_eq_true rfl, Nat.le_of_ble_eq_true rfl⟩, Nat.le_of_ble_eq_true rfl, Nat.le_of_ble_eq_true rfl⟩ ⟨rfl, rfl⟩ rfl rfl (Nat.le_of_ble_eq_true rfl) [0, 1] rfl rfl (fun _ => rfl) rfl rfl dX8_paint_2 (kR_of rfl (fun r2 hq2 => ?_))
  subst hq2
  refine V_bif_eq XC 10 dX8_paint_5 (by decide) (fun h5 => ?_) (fun h5 => ?_)
  · skip
    have hz2 : 0 ≤ z ∧ z < (S.length : Int) := by simpa using h5
    obtain ⟨k, rfl⟩ : ∃ k : Nat, z = (k : Int) := ⟨z.toNat, by omega⟩
    have hkn : k < S.length := by omega
    have hok := NowR_ok hN hS hkn
    have hat := NowR_at hN hkn
    have hf := skR_ok hok
    have hsz := skR_sz hok
    have hz3 := OkK_sz hok
    have hh : ¬ hasS S (k : Int) = false := by unfold hasS; rw [decide_eq_true hz2]; decide
    refine V_iload_n XC 2 rfl dX8_paint_10 rfl ?_
    refine V_iconst XC dX8_paint_11 ?_
    refine V_iconst XC dX8_paint_12 ?_
    refine V_callS (rest := _) XC (c_X8_in l D kI kC _ _ _ (by first | assumption | (unfold IR; omega)) (by first | assumption | (unfold IR; omega)) (by first | assumption | (unfold IR; omega))) gX8_paint_X8_in rfl kmX8_in ⟨⟨Nat.le_of_ble_eq_true rfl, Nat.le_of_ble_eq_true rfl⟩, Nat.le_of_ble_eq_true rfl, Nat.le_of_ble_eq_true rfl⟩ ⟨rfl, rfl⟩ rfl rfl (Nat.le_of_ble_eq_true rfl) [] rfl rfl (fun _ => rfl) dX8_paint_13 (kR_of rfl (fun r13 hq13 => ?_))
    subst hq13
    refine V_bif_ne XC 22 dX8_paint_16 (by decide) (fun h16 => ?_) (fun h16 => ?_)
    · skip
      have hc2 := of_decide_eq_true h16
      have hcc : ¬ inR c 0 3 = false := by unfold inR; rw [h16]; decide
      refine V_aload_n XC 0 rfl dX8_paint_22 rfl ?_
      refine V_get XC 0 flX8_paint_7 0 rfl rfl dX8_paint_23 ?_
      refine V_bipush XC dX8_paint_26 (by decide) ?_
      refine V_iload_n XC 1 rfl dX8_paint_28 rfl ?_
      refine V_iadd XC dX8_paint_29 ?_
      refine V_iald XC (17 + k) 1 rfl (by omega) (by omega) (by decide) dX8_paint_30 ?_
      refine V_istore_n XC 3 rfl dX8_paint_31 (by decide) ?_
      dsimp only [List.set]
      refine V_iload_n XC 3 rfl dX8_paint_32 rfl ?_
      refine V_iload_n XC 2 rfl dX8_paint_33 rfl ?_
      refine V_icmp_ne XC 40 dX8_paint_34 (by decide) (by first | assumption | (unfold IR at *; omega)) (by first | assumption | (unfold IR at *; omega)) (fun h34 => ?_) (fun h34 => ?_)
      · skip
        have hp : paintS S (k : Int) c = (G (17 + k), some (S.set k (c, (gk S k).2))) := by
          unfold paintS
          rw [if_neg hh, if_neg hcc, Int.toNat_natCast, hat, if_neg (by exact h34)]
          rfl
        refine V_aload_n XC 0 rfl dX8_paint_40 rfl ?_
        refine V_callV (rest := _) (q0 := 0) XC (c_X8_record l D kI kC _ _ _ _ _ _ _ _ _ _ _ _ _ _ (by omega)) gX8_paint_X8_record rfl kmX8_record ⟨⟨Nat.le_of_ble_eq_true rfl, Nat.le_of_ble_eq_true rfl⟩, Nat.le_of_ble_eq_true rfl, Nat.le_of_ble_eq_true rfl⟩ ⟨rfl, rfl⟩ rfl rfl (Nat.le_of_ble_eq_true rfl) [0, 1, 2] rfl rfl (fun _ => rfl) rfl rfl dX8_paint_41 (kV_of (fun u41 hq41 => ?_))
        dsimp only [putW, List.set, Option.toList, List.cons_append, List.nil_append, padO, mdO, shW, trW, txW, hiW, liW, woW, taW]
        try dsimp only at hq41
        refine V_aload_n XC 0 rfl dX8_paint_44 rfl ?_
        refine V_get XC 0 flX8_paint_7 0 rfl rfl dX8_paint_45 ?_
        refine V_bipush XC dX8_paint_48 (by decide) ?_
        refine V_iload_n XC 1 rfl dX8_paint_50 rfl ?_
        refine V_iadd XC dX8_paint_51 ?_
        refine V_iload_n XC 2 rfl dX8_paint_52 rfl ?_
        refine V_iast XC (17 + k) 1 rfl (by omega) (by omega) (by decide) dX8_paint_53 ?_
        dsimp only [List.set]
        refine V_iload_n XC 3 rfl dX8_paint_54 rfl ?_
        refine V_iret XC (upz G (17 + k) c, min (ke + 1) 6, 0, pushH G H ke) hrV rfl dX8_paint_55 ?_
        rw [hp]
        exact ⟨rfl, act_endR h3 hH hN (OkS_set hS ⟨hc2.1, hc2.2, by rw [hat]; exact hok.2.2⟩) (NowR_color hN hS hkn)⟩
      have hp : paintS S (k : Int) c = (-5, none) := by
        unfold paintS
        rw [if_neg hh, if_neg hcc, Int.toNat_natCast, hat, if_pos (by exact h34)]
      refine V_bipush XC dX8_paint_37 (by decide) ?_
      refine V_iret XC (G, ke, un, H) hrV rfl dX8_paint_39 ?_
      rw [hp]
      exact ⟨rfl, hN, hH, h3⟩
    have hp : paintS S (k : Int) c = (-2, none) := by
      unfold paintS
      rw [if_neg hh]
      exact if_pos h16
    refine V_bipush XC dX8_paint_19 (by decide) ?_
    refine V_iret XC (G, ke, un, H) hrV rfl dX8_paint_21 ?_
    rw [hp]
    exact ⟨rfl, hN, hH, h3⟩
  have hp : paintS S z c = (-1, none) := if_pos (by have h9 := h5; simp at h9; unfold hasS; exact decide_eq_false (by omega))
  refine V_iconst XC dX8_paint_8 ?_
  refine V_iret XC (G, ke, un, H) hrV rfl dX8_paint_9 ?_
  rw [hp]
  exact ⟨rfl, hN, hH, h3⟩

set_option maxRecDepth 100000 in
set_option maxHeartbeats 4000000 in
theorem c_X8_remove (l : Launch) (D : va_G) (kI kC : ClassId) (b : Nat → Nat) (gp : Int) (ke : Nat) (un : Nat) (bu : Nat) (ty : Nat) (pc : Int) (gd : Bool) (rd : Int) (po : Int) (ln : Int) (wd : Int) (G : Nat → Int) (H : Nat → Int) (X : Nat → Int) (A : Nat → Int) (S : List Stk) (past fut : List (List Stk)) (h3 : Ok3 (S, past, fut)) (hN : NowR G S) (hH : RH (S, past, fut) ke un H A) (z : Int) (hz : IR z) : Con l yX8_remove wsX8_remove { frames := 4, cells := 0, slots := 0, locals := 85 } D kI kC [.ref (b 0), .int (iI z)] (mdO b gp (ke : Int) (un : Int) (bu : Int) (ty : Int) pc gd rd po ln wd :: [(b 1, IA kI 801 G), (b 2, IA kI 4806 H), (b 9, IA kI 801 X)]) (σ := (Nat → Int) × Nat × Nat × (Nat → Int) × (Nat → Int)) (qI (fun r u => r = (removeS S z).1 ∧ NowR u.1 (actS (S, past, fut) (removeS S z).2).1 ∧ RH (actS (S, past, fut) (removeS S z).2) u.2.1 u.2.2.1 u.2.2.2.1 A ∧ Ok3 (actS (S, past, fut) (removeS S z).2))) (fun u => (mdO b gp (u.2.1 : Int) (u.2.2.1 : Int) (bu : Int) (ty : Int) pc gd rd po ln wd :: [(b 1, IA kI 801 u.1), (b 2, IA kI 4806 u.2.2.2.1), (b 9, IA kI 801 u.2.2.2.2)])) := by
  refine Con.of (cc := cX8_remove) (maxL := 3) (ret := (some .int)) (by decide +kernel) rfl (List.forall_mem_cons.mpr ⟨rfl, List.forall_mem_cons.mpr ⟨rfl, fun _ h => absurd h List.not_mem_nil⟩⟩) (Nat.le_of_ble_eq_true rfl) ?_
  intro pV eV sV mV bV tV cV AV XC hrV
  have XC : Cx pV _ sV mV _ tV cV cX8_remove 3 RX8 wsX8_remove AV D kI kC := XC
  change VV _ _ _ _ _ _ _ _ _ _ _ _ _ _ _ _ _ [some (.ref (b 0)), some (.int (iI z)), none] _ _
  dsimp only [mdO, List.cons_append, List.nil_append]
  have hn16 : S.length ≤ 16 := h3.1.1
  have hS : OkS S := h3.1
  have hk6 : ke ≤ 6 := by rw [hH.1]; exact h3.2.1.1
  have hN0 : G 0 = (S.length : Int) := hN.1
  refine V_aload_n XC 0 rfl dX8_remove_0 rfl ?_
  refine V_iload_n XC 1 rfl dX8_remove_1 rfl ?_
  refine V_callV (rest := _) (q0 := 0) XC (c_X8_noStroke l D kI kC _ _ _ _ _ _ _ _ _ _ _ _ _ S.length hn16 hN0 _ hz) gX8_remove_X8_noStroke rfl kmX8_noStroke ⟨⟨Nat.le_of_ble_eq_true rfl, Nat.le_of_ble_eq_true rfl⟩, Nat.le_of_ble_eq_true rfl, Nat.le_of_ble_eq_true rfl⟩ ⟨rfl, rfl⟩ rfl rfl (Nat.le_of_ble_eq_true rfl) [0, 1] rfl rfl (fun _ => rfl) rfl rfl dX8_remove_2 (kR_of rfl (fun r2 hq2 => ?_))
  subst hq2
  refine V_bif_eq XC 10 dX8_remove_5 (by decide) (fun h5 => ?_) (fun h5 => ?_)
  · skip
    have hz2 : 0 ≤ z ∧ z < (S.length : Int) := by simpa using h5
    obtain ⟨k, rfl⟩ : ∃ k : Nat, z = (k : Int) := ⟨z.toNat, by omega⟩
    have hkn : k < S.length := by omega
    have hok := NowR_ok hN hS hkn
    have hat := NowR_at hN hkn
    have hf := skR_ok hok
    have hsz := skR_sz hok
    have hz3 := OkK_sz hok
    have hh : ¬ hasS S (k : Int) = false := by unfold hasS; rw [decide_eq_true hz2]; decide
    refine V_aload_n XC 0 rfl dX8_remove_10 rfl ?_
    refine V_callV (rest := _) (q0 := 0) XC (c_X8_begin l D kI kC _ _ _ _ _ _ _ _ _ _ _ _ _ ) gX8_remove_X8_begin rfl kmX8_begin ⟨⟨Nat.le_of_ble_eq_true rfl, Nat.le_of_ble_eq_true rfl⟩, Nat.le_of_ble_eq_true rfl, Nat.le_of_ble_eq_true rfl⟩ ⟨rfl, rfl⟩ rfl rfl (Nat.le_of_ble_eq_true rfl) [0, 3] rfl rfl (fun _ => rfl) rfl rfl dX8_remove_11 (kV_of (fun u11 hq11 => ?_))
    dsimp only [putW, List.set, Option.toList, List.cons_append, List.nil_append, padO, mdO, shW, trW, txW, hiW, liW, woW, taW]
    try dsimp only at hq11
    refine V_iconst XC dX8_remove_14 ?_
    refine V_istore_n XC 2 rfl dX8_remove_15 (by decide) ?_
    dsimp only [List.set]
    refine V_loop (σ := Nat × (Nat → Int)) (fun u => S.length - u.1) (fun u => u.1 ≤ S.length ∧ NxR u.2 ((S.take u.1).eraseIdx k)) (fun u => [some (.ref (b 0)), some (.int (iI (k : Int))), some (.int (iI (u.1 : Int)))]) (fun u => (mdO b gp (ke : Int) (un : Int) (bu : Int) (ty : Int) pc gd rd po ln wd :: [(b 1, IA kI 801 G), (b 2, IA kI 4806 H), (b 9, IA kI 801 u.2)])) (0, upz X 0 0) ?_ rfl rfl (fun u hJ ih16 => ?_)
    · dsimp only
      exact ⟨Nat.zero_le _, by rw [List.take_zero]; exact NxR_0⟩
    obtain ⟨j, X2⟩ := u
    try dsimp only at hJ ih16 ⊢
    try dsimp only [List.cons_append, List.nil_append, padO, mdO, shW, trW, txW, hiW, liW, woW, taW]
    obtain ⟨hj, hX2⟩ := hJ
    refine V_iload_n XC 2 rfl dX8_remove_16 rfl ?_
    refine V_aload_n XC 0 rfl dX8_remove_17 rfl ?_
    refine V_callV (rest := _) (q0 := 0) XC (c_X8_strokes l D kI kC _ _ _ _ _ _ _ _ _ _ _ _ _ ) gX8_remove_X8_strokes rfl kmX8_strokes ⟨⟨Nat.le_of_ble_eq_true rfl, Nat.le_of_ble_eq_true rfl⟩, Nat.le_of_ble_eq_true rfl, Nat.le_of_ble_eq_true rfl⟩ ⟨rfl, rfl⟩ rfl rfl (Nat.le_of_ble_eq_true rfl) [0, 1] rfl rfl (fun _ => rfl) rfl rfl dX8_remove_18 (kR_of rfl (fun r18 hq18 => ?_))
    subst hq18
    rw [hN0]
    refine V_icmp_ge XC 40 dX8_remove_21 (by decide) ⟨by omega, by omega⟩ ⟨by omega, by omega⟩ (fun h21 => ?_) (fun h21 => ?_)
    · skip
      obtain rfl : j = S.length := by omega
      rw [List.take_of_length_le (Nat.le_refl _)] at hX2
      have hE := OkS_erase (k := k) hS
      have hNb := NowR_become (G := G) hX2 hE
      have hle := List.length_eraseIdx_of_lt hkn
      refine V_aload_n XC 0 rfl dX8_remove_40 rfl ?_
      refine V_callV (rest := _) (q0 := 0) XC (c_X8_become l D kI kC _ _ _ _ _ _ _ _ _ _ _ _ _ _ _ (by omega)) gX8_remove_X8_become rfl kmX8_become ⟨⟨Nat.le_of_ble_eq_true rfl, Nat.le_of_ble_eq_true rfl⟩, Nat.le_of_ble_eq_true rfl, Nat.le_of_ble_eq_true rfl⟩ ⟨rfl, rfl⟩ rfl rfl (Nat.le_of_ble_eq_true rfl) [0, 1, 2, 3] rfl rfl (fun _ => rfl) rfl rfl dX8_remove_41 (kV_of (fun u41 hq41 => ?_))
      dsimp only [putW, List.set, Option.toList, List.cons_append, List.nil_append, padO, mdO, shW, trW, txW, hiW, liW, woW, taW]
      try dsimp only at hq41
      refine V_aload_n XC 0 rfl dX8_remove_44 rfl ?_
      refine V_callV (rest := _) (q0 := 0) XC (c_X8_strokes l D kI kC _ _ _ _ _ _ _ _ _ _ _ _ _ ) gX8_remove_X8_strokes rfl kmX8_strokes ⟨⟨Nat.le_of_ble_eq_true rfl, Nat.le_of_ble_eq_true rfl⟩, Nat.le_of_ble_eq_true rfl, Nat.le_of_ble_eq_true rfl⟩ ⟨rfl, rfl⟩ rfl rfl (Nat.le_of_ble_eq_true rfl) [0, 1] rfl rfl (fun _ => rfl) rfl rfl dX8_remove_45 (kR_of rfl (fun r45 hq45 => ?_))
      subst hq45
      rw [hNb.1, hle]
      refine V_iret XC (cpz X2 G 0 0 801, min (ke + 1) 6, 0, pushH G H ke, X2) hrV rfl dX8_remove_48 ?_
      have hp : removeS S (k : Int) = ((S.length : Int) - 1, some (S.eraseIdx k)) := by
        unfold removeS
        rw [if_neg hh, Int.toNat_natCast]
      rw [hp]
      exact ⟨by (try dsimp only); omega, act_endR h3 hH hN hE hNb⟩
    refine V_iload_n XC 2 rfl dX8_remove_24 rfl ?_
    refine V_iload_n XC 1 rfl dX8_remove_25 rfl ?_
    refine V_icmp_eq XC 34 dX8_remove_26 (by decide) ⟨by omega, by omega⟩ ⟨by omega, by omega⟩ (fun h26 => ?_) (fun h26 => ?_)
    · skip
      refine V_iinc XC dX8_remove_34 rfl (by decide) ?_
      dsimp only [List.set]
      refine V_goto XC 16 dX8_remove_37 (by decide) ?_
      first
      | (refine ih16 (j + 1, u31) ⟨by (try dsimp only); omega, ?_⟩ (by (try dsimp only); omega)
         dsimp only
         rw [er_s (gk_at (by omega)) (by omega)]
         exact hX31)
      | (refine ih16 (j + 1, X2) ⟨by (try dsimp only); omega, ?_⟩ (by (try dsimp only); omega)
         dsimp only
         obtain rfl : j = k := by omega
         rw [er_same hkn]
         exact hX2)
    refine V_aload_n XC 0 rfl dX8_remove_29 rfl ?_
    refine V_iload_n XC 2 rfl dX8_remove_30 rfl ?_
    refine V_callV (rest := _) (q0 := 0) XC (c_X8_copyStroke l D kI kC _ _ _ _ _ _ _ _ _ _ _ _ _ _ S hS hN _ hX2 (by have h9 := List.length_eraseIdx_le (S.take j) k; rw [List.length_take] at h9; omega) j (by omega)) gX8_remove_X8_copyStroke rfl kmX8_copyStroke ⟨⟨Nat.le_of_ble_eq_true rfl, Nat.le_of_ble_eq_true rfl⟩, Nat.le_of_ble_eq_true rfl, Nat.le_of_ble_eq_true rfl⟩ ⟨rfl, rfl⟩ rfl rfl (Nat.le_of_ble_eq_true rfl) [0, 1, 3] rfl rfl (fun _ => rfl) rfl rfl dX8_remove_31 (kV_of (fun u31 hq31 => ?_))
    dsimp only [putW, List.set, Option.toList, List.cons_append, List.nil_append, padO, mdO, shW, trW, txW, hiW, liW, woW, taW]
    try dsimp only at hq31
    have hX31 := hq31
    refine V_iinc XC dX8_remove_34 rfl (by decide) ?_
    dsimp only [List.set]
    refine V_goto XC 16 dX8_remove_37 (by decide) ?_
    first
    | (refine ih16 (j + 1, u31) ⟨by (try dsimp only); omega, ?_⟩ (by (try dsimp only); omega)
       dsimp only
       rw [er_s (gk_at (by omega)) (by omega)]
       exact hX31)
    | (refine ih16 (j + 1, X2) ⟨by (try dsimp only); omega, ?_⟩ (by (try dsimp only); omega)
       dsimp only
       obtain rfl : j = k := by omega
       rw [er_same hkn]
       exact hX2)
  have hp : removeS S z = (-1, none) := if_pos (by have h9 := h5; simp at h9; unfold hasS; exact decide_eq_false (by omega))
  refine V_iconst XC dX8_remove_8 ?_
  refine V_iret XC (G, ke, un, H, X) hrV rfl dX8_remove_9 ?_
  rw [hp]
  exact ⟨rfl, hN, hH, h3⟩

set_option maxRecDepth 100000 in
set_option maxHeartbeats 4000000 in
theorem c_X8_draw (l : Launch) (D : va_G) (kI kC : ClassId) (b : Nat → Nat) (gp : Int) (ke : Nat) (un : Nat) (bu : Nat) (ty : Nat) (pc : Int) (gd : Bool) (rd : Int) (po : Int) (ln : Int) (wd : Int) (G : Nat → Int) (H : Nat → Int) (X : Nat → Int) (BX : Nat → Int) (BY : Nat → Int) (A : Nat → Int) (S : List Stk) (past fut : List (List Stk)) (h3 : Ok3 (S, past, fut)) (hN : NowR G S) (hH : RH (S, past, fut) ke un H A) (hB : OkB (ptsOf bu BX BY)) (c : Int) (hc : IR c) : Con l yX8_draw wsX8_draw { frames := 4, cells := 0, slots := 0, locals := 85 } D kI kC [.ref (b 0), .int (iI c)] (mdO b gp (ke : Int) (un : Int) (bu : Int) (ty : Int) pc gd rd po ln wd :: [(b 1, IA kI 801 G), (b 2, IA kI 4806 H), (b 9, IA kI 801 X), (b 4, IA kI 24 BX), (b 5, IA kI 24 BY)]) (σ := (Nat → Int) × Nat × Nat × (Nat → Int) × (Nat → Int) × Nat) (qI (fun r u => r = (drawS S (ptsOf bu BX BY) c).1 ∧ u.2.2.2.2.2 = (if (drawS S (ptsOf bu BX BY) c).2 = none then bu else 0) ∧ NowR u.1 (actS (S, past, fut) (drawS S (ptsOf bu BX BY) c).2).1 ∧ RH (actS (S, past, fut) (drawS S (ptsOf bu BX BY) c).2) u.2.1 u.2.2.1 u.2.2.2.1 A ∧ Ok3 (actS (S, past, fut) (drawS S (ptsOf bu BX BY) c).2))) (fun u => (mdO b gp (u.2.1 : Int) (u.2.2.1 : Int) (u.2.2.2.2.2 : Int) (ty : Int) pc gd rd po ln wd :: [(b 1, IA kI 801 u.1), (b 2, IA kI 4806 u.2.2.2.1), (b 9, IA kI 801 u.2.2.2.2.1), (b 4, IA kI 24 BX), (b 5, IA kI 24 BY)])) := by
  refine Con.of (cc := cX8_draw) (maxL := 3) (ret := (some .int)) (by decide +kernel) rfl (List.forall_mem_cons.mpr ⟨rfl, List.forall_mem_cons.mpr ⟨rfl, fun _ h => absurd h List.not_mem_nil⟩⟩) (Nat.le_of_ble_eq_true rfl) ?_
  intro pV eV sV mV bV tV cV AV XC hrV
  have XC : Cx pV _ sV mV _ tV cV cX8_draw 3 RX8 wsX8_draw AV D kI kC := XC
  change VV _ _ _ _ _ _ _ _ _ _ _ _ _ _ _ _ _ [some (.ref (b 0)), some (.int (iI c)), none] _ _
  dsimp only [mdO, List.cons_append, List.nil_append]
  have hn16 : S.length ≤ 16 := h3.1.1
  have hS : OkS S := h3.1
  have hk6 : ke ≤ 6 := by rw [hH.1]; exact h3.2.1.1
  have hN0 : G 0 = (S.length : Int) := hN.1
  have hb := OkB_at hB
  refine V_iload_n XC 1 rfl dX8_draw_0 rfl ?_
  refine V_iconst XC dX8_draw_1 ?_
  refine V_iconst XC dX8_draw_2 ?_
  refine V_callS (rest := _) XC (c_X8_in l D kI kC _ _ _ (by first | assumption | (unfold IR; omega)) (by first | assumption | (unfold IR; omega)) (by first | assumption | (unfold IR; omega))) gX8_draw_X8_in rfl kmX8_in ⟨⟨Nat.le_of_ble_eq_true rfl, Nat.le_of_ble_eq_true rfl⟩, Nat.le_of_ble_eq_true rfl, Nat.le_of_ble_eq_true rfl⟩ ⟨rfl, rfl⟩ rfl rfl (Nat.le_of_ble_eq_true rfl) [] rfl rfl (fun _ => rfl) dX8_draw_3 (kR_of rfl (fun r3 hq3 => ?_))
  subst hq3
  refine V_bif_ne XC 12 dX8_draw_6 (by decide) (fun h6 => ?_) (fun h6 => ?_)
  · skip
    have hc2 := of_decide_eq_true h6
    have hcc : ¬ inR c 0 3 = false := by unfold inR; rw [h6]; decide
    refine V_aload_n XC 0 rfl dX8_draw_12 rfl ?_
    refine V_get XC 6 flX8_draw_92 0 rfl rfl dX8_draw_13 ?_
    refine V_if_ne XC 22 dX8_draw_16 (by decide) ⟨by omega, by omega⟩ (fun h16 => ?_) (fun h16 => ?_)
    · skip
      refine V_aload_n XC 0 rfl dX8_draw_22 rfl ?_
      refine V_callV (rest := _) (q0 := 0) XC (c_X8_strokes l D kI kC _ _ _ _ _ _ _ _ _ _ _ _ _ ) gX8_draw_X8_strokes rfl kmX8_strokes ⟨⟨Nat.le_of_ble_eq_true rfl, Nat.le_of_ble_eq_true rfl⟩, Nat.le_of_ble_eq_true rfl, Nat.le_of_ble_eq_true rfl⟩ ⟨rfl, rfl⟩ rfl rfl (Nat.le_of_ble_eq_true rfl) [0, 1] rfl rfl (fun _ => rfl) rfl rfl dX8_draw_23 (kR_of rfl (fun r23 hq23 => ?_))
      subst hq23
      rw [hN0]
      refine V_bipush XC dX8_draw_26 (by decide) ?_
      refine V_icmp_ne XC 34 dX8_draw_28 (by decide) ⟨by omega, by omega⟩ ⟨by omega, by omega⟩ (fun h28 => ?_) (fun h28 => ?_)
      · skip
        refine V_aload_n XC 0 rfl dX8_draw_34 rfl ?_
        refine V_callV (rest := _) (q0 := 0) XC (c_X8_begin l D kI kC _ _ _ _ _ _ _ _ _ _ _ _ _ ) gX8_draw_X8_begin rfl kmX8_begin ⟨⟨Nat.le_of_ble_eq_true rfl, Nat.le_of_ble_eq_true rfl⟩, Nat.le_of_ble_eq_true rfl, Nat.le_of_ble_eq_true rfl⟩ ⟨rfl, rfl⟩ rfl rfl (Nat.le_of_ble_eq_true rfl) [0, 3] rfl rfl (fun _ => rfl) rfl rfl dX8_draw_35 (kV_of (fun u35 hq35 => ?_))
        dsimp only [putW, List.set, Option.toList, List.cons_append, List.nil_append, padO, mdO, shW, trW, txW, hiW, liW, woW, taW]
        try dsimp only at hq35
        refine V_iconst XC dX8_draw_38 ?_
        refine V_istore_n XC 2 rfl dX8_draw_39 (by decide) ?_
        dsimp only [List.set]
        refine V_loop (σ := Nat × (Nat → Int)) (fun u => S.length - u.1) (fun u => u.1 ≤ S.length ∧ NxR u.2 (S.take u.1)) (fun u => [some (.ref (b 0)), some (.int (iI c)), some (.int (iI (u.1 : Int)))]) (fun u => (mdO b gp (ke : Int) (un : Int) (bu : Int) (ty : Int) pc gd rd po ln wd :: [(b 1, IA kI 801 G), (b 2, IA kI 4806 H), (b 9, IA kI 801 u.2), (b 4, IA kI 24 BX), (b 5, IA kI 24 BY)])) (0, upz X 0 0) ?_ rfl rfl (fun u hJ ih40 => ?_)
        · dsimp only
          exact ⟨Nat.zero_le _, NxR_0⟩
        obtain ⟨j, X2⟩ := u
        try dsimp only at hJ ih40 ⊢
        try dsimp only [List.cons_append, List.nil_append, padO, mdO, shW, trW, txW, hiW, liW, woW, taW]
        obtain ⟨hj, hX2⟩ := hJ
        refine V_iload_n XC 2 rfl dX8_draw_40 rfl ?_
        refine V_aload_n XC 0 rfl dX8_draw_41 rfl ?_
        refine V_callV (rest := _) (q0 := 0) XC (c_X8_strokes l D kI kC _ _ _ _ _ _ _ _ _ _ _ _ _ ) gX8_draw_X8_strokes rfl kmX8_strokes ⟨⟨Nat.le_of_ble_eq_true rfl, Nat.le_of_ble_eq_true rfl⟩, Nat.le_of_ble_eq_true rfl, Nat.le_of_ble_eq_true rfl⟩ ⟨rfl, rfl⟩ rfl rfl (Nat.le_of_ble_eq_true rfl) [0, 1] rfl rfl (fun _ => rfl) rfl rfl dX8_draw_42 (kR_of rfl (fun r42 hq42 => ?_))
        subst hq42
        rw [hN0]
        refine V_icmp_ge XC 59 dX8_draw_45 (by decide) ⟨by omega, by omega⟩ ⟨by omega, by omega⟩ (fun h45 => ?_) (fun h45 => ?_)
        · skip
          obtain rfl : j = S.length := by omega
          rw [List.take_of_length_le (Nat.le_refl _)] at hX2
          refine V_aload_n XC 0 rfl dX8_draw_59 rfl ?_
          refine V_iload_n XC 1 rfl dX8_draw_60 rfl ?_
          refine V_callV (rest := _) (q0 := 0) XC (c_X8_addStroke l D kI kC _ _ _ _ _ _ _ _ _ _ _ _ _ S hX2 (by omega) _) gX8_draw_X8_addStroke rfl kmX8_addStroke ⟨⟨Nat.le_of_ble_eq_true rfl, Nat.le_of_ble_eq_true rfl⟩, Nat.le_of_ble_eq_true rfl, Nat.le_of_ble_eq_true rfl⟩ ⟨rfl, rfl⟩ rfl rfl (Nat.le_of_ble_eq_true rfl) [0, 3] rfl rfl (fun _ => rfl) rfl rfl dX8_draw_61 (kV_of (fun u61 hq61 => ?_))
          dsimp only [putW, List.set, Option.toList, List.cons_append, List.nil_append, padO, mdO, shW, trW, txW, hiW, liW, woW, taW]
          try dsimp only at hq61
          refine V_iconst XC dX8_draw_64 ?_
          refine V_istore_n XC 2 rfl dX8_draw_65 (by decide) ?_
          dsimp only [List.set]
          refine V_loop (σ := Nat × (Nat → Int)) (fun u => bu - u.1) (fun u => u.1 ≤ bu ∧ NxR u.2 (S ++ [(c, ptsOf u.1 BX BY)])) (fun u => [some (.ref (b 0)), some (.int (iI c)), some (.int (iI (u.1 : Int)))]) (fun u => (mdO b gp (ke : Int) (un : Int) (bu : Int) (ty : Int) pc gd rd po ln wd :: [(b 1, IA kI 801 G), (b 2, IA kI 4806 H), (b 9, IA kI 801 u.2), (b 4, IA kI 24 BX), (b 5, IA kI 24 BY)])) (0, asF X2 S.length c) ?_ rfl rfl (fun u hJ ih66 => ?_)
          · dsimp only
            exact ⟨Nat.zero_le _, NxR_stroke hX2⟩
          obtain ⟨i, X3⟩ := u
          try dsimp only at hJ ih66 ⊢
          try dsimp only [List.cons_append, List.nil_append, padO, mdO, shW, trW, txW, hiW, liW, woW, taW]
          obtain ⟨hi, hX3⟩ := hJ
          refine V_iload_n XC 2 rfl dX8_draw_66 rfl ?_
          refine V_aload_n XC 0 rfl dX8_draw_67 rfl ?_
          refine V_get XC 6 flX8_draw_92 0 rfl rfl dX8_draw_68 ?_
          refine V_icmp_ge XC 96 dX8_draw_71 (by decide) ⟨by omega, by omega⟩ ⟨by omega, by omega⟩ (fun h71 => ?_) (fun h71 => ?_)
          · skip
            obtain rfl : i = bu := by omega
            have hPu := OkS_push (t := (c, ptsOf i BX BY)) hS (by omega) ⟨hc2.1, hc2.2, OkP_of (by omega) hb.1 hb.2 hB.2.2⟩
            have hNb := NowR_become (G := G) hX3 hPu
            have hpl : (S ++ [(c, ptsOf i BX BY)]).length = S.length + 1 := by rw [List.length_append]; rfl
            refine V_aload_n XC 0 rfl dX8_draw_96 rfl ?_
            refine V_iconst XC dX8_draw_97 ?_
            refine V_putI XC 6 flX8_draw_92 fpX8 pdX8_6 rfl 0 rfl (Nat.le_of_ble_eq_true rfl) dX8_draw_98 ?_
            dsimp only [List.set]
            refine V_aload_n XC 0 rfl dX8_draw_101 rfl ?_
            refine V_callV (rest := _) (q0 := 0) XC (c_X8_become l D kI kC _ _ _ _ _ _ _ _ _ _ _ _ _ _ _ (by omega)) gX8_draw_X8_become rfl kmX8_become ⟨⟨Nat.le_of_ble_eq_true rfl, Nat.le_of_ble_eq_true rfl⟩, Nat.le_of_ble_eq_true rfl, Nat.le_of_ble_eq_true rfl⟩ ⟨rfl, rfl⟩ rfl rfl (Nat.le_of_ble_eq_true rfl) [0, 1, 2, 3] rfl rfl (fun _ => rfl) rfl rfl dX8_draw_102 (kV_of (fun u102 hq102 => ?_))
            dsimp only [putW, List.set, Option.toList, List.cons_append, List.nil_append, padO, mdO, shW, trW, txW, hiW, liW, woW, taW]
            try dsimp only at hq102
            refine V_aload_n XC 0 rfl dX8_draw_105 rfl ?_
            refine V_callV (rest := _) (q0 := 0) XC (c_X8_strokes l D kI kC _ _ _ _ _ _ _ _ _ _ _ _ _ ) gX8_draw_X8_strokes rfl kmX8_strokes ⟨⟨Nat.le_of_ble_eq_true rfl, Nat.le_of_ble_eq_true rfl⟩, Nat.le_of_ble_eq_true rfl, Nat.le_of_ble_eq_true rfl⟩ ⟨rfl, rfl⟩ rfl rfl (Nat.le_of_ble_eq_true rfl) [0, 1] rfl rfl (fun _ => rfl) rfl rfl dX8_draw_106 (kR_of rfl (fun r106 hq106 => ?_))
            subst hq106
            rw [hNb.1, hpl]
            refine V_iconst XC dX8_draw_109 ?_
            refine V_isub XC dX8_draw_110 ?_
            refine V_iret XC (cpz X3 G 0 0 801, min (ke + 1) 6, 0, pushH G H ke, X3, 0) hrV rfl dX8_draw_111 ?_
            have hp : drawS S (ptsOf i BX BY) c = ((S.length : Int), some (S ++ [(c, ptsOf i BX BY)])) := by
              unfold drawS
              rw [if_neg hcc, if_neg (by rw [ptsOf_len]; omega), if_neg (by omega)]
            rw [hp]
            exact ⟨by (try dsimp only); omega, rfl, act_endR h3 hH hN hPu hNb⟩
          refine V_aload_n XC 0 rfl dX8_draw_74 rfl ?_
          refine V_aload_n XC 0 rfl dX8_draw_75 rfl ?_
          refine V_get XC 7 flX8_draw_23 0 rfl rfl dX8_draw_76 ?_
          refine V_iload_n XC 2 rfl dX8_draw_79 rfl ?_
          refine V_iald XC (i) 4 rfl (by omega) (by omega) (by decide) dX8_draw_80 ?_
          refine V_aload_n XC 0 rfl dX8_draw_81 rfl ?_
          refine V_get XC 8 flX8_draw_26 0 rfl rfl dX8_draw_82 ?_
          refine V_iload_n XC 2 rfl dX8_draw_85 rfl ?_
          refine V_iald XC (i) 5 rfl (by omega) (by omega) (by decide) dX8_draw_86 ?_
          refine V_callV (rest := _) (q0 := 0) XC (c_X8_addPoint l D kI kC _ _ _ _ _ _ _ _ _ _ _ _ _ S c _ hX3 (by omega) (by rw [ptsOf_len]; omega) _ _) gX8_draw_X8_addPoint rfl kmX8_addPoint ⟨⟨Nat.le_of_ble_eq_true rfl, Nat.le_of_ble_eq_true rfl⟩, Nat.le_of_ble_eq_true rfl, Nat.le_of_ble_eq_true rfl⟩ ⟨rfl, rfl⟩ rfl rfl (Nat.le_of_ble_eq_true rfl) [0, 3] rfl rfl (fun _ => rfl) rfl rfl dX8_draw_87 (kV_of (fun u87 hq87 => ?_))
          dsimp only [putW, List.set, Option.toList, List.cons_append, List.nil_append, padO, mdO, shW, trW, txW, hiW, liW, woW, taW]
          try dsimp only at hq87
          refine V_iinc XC dX8_draw_90 rfl (by decide) ?_
          dsimp only [List.set]
          refine V_goto XC 66 dX8_draw_93 (by decide) ?_
          have h9 := NxR_point (x := BX i) (y := BY i) hX3 (by rw [ptsOf_len]; omega)
          rw [← ptsOf_s] at h9
          exact ih66 (i + 1, _) ⟨by (try dsimp only); omega, h9⟩ (by (try dsimp only); omega)
        refine V_aload_n XC 0 rfl dX8_draw_48 rfl ?_
        refine V_iload_n XC 2 rfl dX8_draw_49 rfl ?_
        refine V_callV (rest := _) (q0 := 0) XC (c_X8_copyStroke l D kI kC _ _ _ _ _ _ _ _ _ _ _ _ _ _ S hS hN _ hX2 (by rw [List.length_take]; omega) j (by omega)) gX8_draw_X8_copyStroke rfl kmX8_copyStroke ⟨⟨Nat.le_of_ble_eq_true rfl, Nat.le_of_ble_eq_true rfl⟩, Nat.le_of_ble_eq_true rfl, Nat.le_of_ble_eq_true rfl⟩ ⟨rfl, rfl⟩ rfl rfl (Nat.le_of_ble_eq_true rfl) [0, 1, 3] rfl rfl (fun _ => rfl) rfl rfl dX8_draw_50 (kV_of (fun u50 hq50 => ?_))
        dsimp only [putW, List.set, Option.toList, List.cons_append, List.nil_append, padO, mdO, shW, trW, txW, hiW, liW, woW, taW]
        try dsimp only at hq50
        have hX50 := hq50
        refine V_iinc XC dX8_draw_53 rfl (by decide) ?_
        dsimp only [List.set]
        refine V_goto XC 40 dX8_draw_56 (by decide) ?_
        refine ih40 (j + 1, u50) ⟨by (try dsimp only); omega, ?_⟩ (by (try dsimp only); omega)
        dsimp only
        rw [take_s (gk_at (by omega))]
        exact hX50
      refine V_bipush XC dX8_draw_31 (by decide) ?_
      refine V_iret XC (G, ke, un, H, X, bu) hrV rfl dX8_draw_33 ?_
      have hp : drawS S (ptsOf bu BX BY) c = (-3, none) := by
        unfold drawS
        rw [if_neg hcc, if_neg (by rw [ptsOf_len]; omega), if_pos (by omega)]
      rw [hp]
      exact ⟨rfl, rfl, hN, hH, h3⟩
    refine V_bipush XC dX8_draw_19 (by decide) ?_
    refine V_iret XC (G, ke, un, H, X, bu) hrV rfl dX8_draw_21 ?_
    have hp : drawS S (ptsOf bu BX BY) c = (-4, none) := by
      unfold drawS
      rw [if_neg hcc, if_pos (by rw [ptsOf_len]; omega)]
    rw [hp]
    exact ⟨rfl, rfl, hN, hH, h3⟩
  have hp : drawS S (ptsOf bu BX BY) c = (-2, none) := if_pos h6
  refine V_bipush XC dX8_draw_9 (by decide) ?_
  refine V_iret XC (G, ke, un, H, X, bu) hrV rfl dX8_draw_11 ?_
  rw [hp]
  exact ⟨rfl, rfl, hN, hH, h3⟩

end REFB
