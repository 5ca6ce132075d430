/-! the reference: above, before, places; a stroke put back -/
section REFD

set_option maxRecDepth 100000 in
set_option maxHeartbeats 4000000 in
theorem c_X8_isAbove (l : Launch) (D : va_G) (kI kC : ClassId) (b : Nat → Nat) (gp : Int) (ke : Nat) (un : Nat) (bu : Nat) (ty : Nat) (pc : Int) (gd : Bool) (rd : Int) (po : Int) (ln : Int) (wd : Int) (TO : Nat → Int) (BO : Nat → Int) (i o : Nat) (hi : i < 16) (ho : o < 16) (h1 : IR (TO i)) (h2 : IR (TO o)) (h3 : IR (BO i)) (h4 : IR (BO o)) : ConR l yX8_isAbove wsX8_isAbove { frames := 0, cells := 0, slots := 0, locals := 0 } D kI kC [.ref (b 0), .int (iI (i : Int)), .int (iI (o : Int))] (mdO b gp (ke : Int) (un : Int) (bu : Int) (ty : Int) pc gd rd po ln wd :: [(b 14, IA kI 16 TO), (b 15, IA kI 16 BO)]) (fun r => r = bI (lx TO BO i o)) := by
  refine Con.of (cc := cX8_isAbove) (maxL := 3) (ret := (some .boolean)) (by decide +kernel) rfl (List.forall_mem_cons.mpr ⟨rfl, List.forall_mem_cons.mpr ⟨rfl, List.forall_mem_cons.mpr ⟨rfl, fun _ h => absurd h List.not_mem_nil⟩⟩⟩) (Nat.le_of_ble_eq_true rfl) ?_
  intro pV eV sV mV bV tV cV AV XC hrV
  have XC : Cx pV _ sV mV _ tV cV cX8_isAbove 3 RX8 wsX8_isAbove AV D kI kC := XC
  change VV _ _ _ _ _ _ _ _ _ _ _ _ _ _ _ _ _ [some (.ref (b 0)), some (.int (iI (i : Int))), some (.int (iI (o : Int)))] _ _
  dsimp only [mdO, List.cons_append, List.nil_append]
  refine V_aload_n XC 0 rfl dX8_isAbove_0 rfl ?_
  refine V_get XC 23 flX8_isAbove_54 0 rfl rfl dX8_isAbove_1 ?_
  refine V_iload_n XC 1 rfl dX8_isAbove_4 rfl ?_
  refine V_iald XC (i) 1 rfl (by omega) (by omega) (by decide) dX8_isAbove_5 ?_
  refine V_aload_n XC 0 rfl dX8_isAbove_6 rfl ?_
  refine V_get XC 23 flX8_isAbove_54 0 rfl rfl dX8_isAbove_7 ?_
  refine V_iload_n XC 2 rfl dX8_isAbove_10 rfl ?_
  refine V_iald XC (o) 1 rfl (by omega) (by omega) (by decide) dX8_isAbove_11 ?_
  refine V_icmp_eq XC 36 dX8_isAbove_12 (by decide) (by first | assumption | (unfold IR; omega)) (by first | assumption | (unfold IR; omega)) (fun h12 => ?_) (fun h12 => ?_)
  · skip
    refine V_aload_n XC 0 rfl dX8_isAbove_36 rfl ?_
    refine V_get XC 24 flX8_isAbove_57 0 rfl rfl dX8_isAbove_37 ?_
    refine V_iload_n XC 1 rfl dX8_isAbove_40 rfl ?_
    refine V_iald XC (i) 2 rfl (by omega) (by omega) (by decide) dX8_isAbove_41 ?_
    refine V_aload_n XC 0 rfl dX8_isAbove_42 rfl ?_
    refine V_get XC 24 flX8_isAbove_57 0 rfl rfl dX8_isAbove_43 ?_
    refine V_iload_n XC 2 rfl dX8_isAbove_46 rfl ?_
    refine V_iald XC (o) 2 rfl (by omega) (by omega) (by decide) dX8_isAbove_47 ?_
    refine V_icmp_eq XC 74 dX8_isAbove_48 (by decide) (by first | assumption | (unfold IR; omega)) (by first | assumption | (unfold IR; omega)) (fun h48 => ?_) (fun h48 => ?_)
    · skip
      refine V_iload_n XC 1 rfl dX8_isAbove_74 rfl ?_
      refine V_iload_n XC 2 rfl dX8_isAbove_75 rfl ?_
      refine V_icmp_ge XC 83 dX8_isAbove_76 (by decide) ⟨by omega, by omega⟩ ⟨by omega, by omega⟩ (fun h76 => ?_) (fun h76 => ?_)
      · skip
        refine V_iconst XC dX8_isAbove_83 ?_
        refine V_zret (r := false) XC () hrV rfl dX8_isAbove_84 ?_
        try dsimp only
        unfold lx
        try dsimp only
        first | exact congrArg bI (decide_eq_true (by omega)).symm | exact congrArg bI (decide_eq_false (by omega)).symm
      refine V_iconst XC dX8_isAbove_79 ?_
      refine V_goto XC 84 dX8_isAbove_80 (by decide) ?_
      refine V_zret (r := true) XC () hrV rfl dX8_isAbove_84 ?_
      try dsimp only
      unfold lx
      try dsimp only
      first | exact congrArg bI (decide_eq_true (by omega)).symm | exact congrArg bI (decide_eq_false (by omega)).symm
    refine V_aload_n XC 0 rfl dX8_isAbove_51 rfl ?_
    refine V_get XC 24 flX8_isAbove_57 0 rfl rfl dX8_isAbove_52 ?_
    refine V_iload_n XC 1 rfl dX8_isAbove_55 rfl ?_
    refine V_iald XC (i) 2 rfl (by omega) (by omega) (by decide) dX8_isAbove_56 ?_
    refine V_aload_n XC 0 rfl dX8_isAbove_57 rfl ?_
    refine V_get XC 24 flX8_isAbove_57 0 rfl rfl dX8_isAbove_58 ?_
    refine V_iload_n XC 2 rfl dX8_isAbove_61 rfl ?_
    refine V_iald XC (o) 2 rfl (by omega) (by omega) (by decide) dX8_isAbove_62 ?_
    refine V_icmp_ge XC 70 dX8_isAbove_63 (by decide) (by first | assumption | (unfold IR; omega)) (by first | assumption | (unfold IR; omega)) (fun h63 => ?_) (fun h63 => ?_)
    · skip
      refine V_iconst XC dX8_isAbove_70 ?_
      refine V_goto XC 84 dX8_isAbove_71 (by decide) ?_
      refine V_zret (r := false) XC () hrV rfl dX8_isAbove_84 ?_
      try dsimp only
      unfold lx
      try dsimp only
      first | exact congrArg bI (decide_eq_true (by omega)).symm | exact congrArg bI (decide_eq_false (by omega)).symm
    refine V_iconst XC dX8_isAbove_66 ?_
    refine V_goto XC 84 dX8_isAbove_67 (by decide) ?_
    refine V_zret (r := true) XC () hrV rfl dX8_isAbove_84 ?_
    try dsimp only
    unfold lx
    try dsimp only
    first | exact congrArg bI (decide_eq_true (by omega)).symm | exact congrArg bI (decide_eq_false (by omega)).symm
  refine V_aload_n XC 0 rfl dX8_isAbove_15 rfl ?_
  refine V_get XC 23 flX8_isAbove_54 0 rfl rfl dX8_isAbove_16 ?_
  refine V_iload_n XC 1 rfl dX8_isAbove_19 rfl ?_
  refine V_iald XC (i) 1 rfl (by omega) (by omega) (by decide) dX8_isAbove_20 ?_
  refine V_aload_n XC 0 rfl dX8_isAbove_21 rfl ?_
  refine V_get XC 23 flX8_isAbove_54 0 rfl rfl dX8_isAbove_22 ?_
  refine V_iload_n XC 2 rfl dX8_isAbove_25 rfl ?_
  refine V_iald XC (o) 1 rfl (by omega) (by omega) (by decide) dX8_isAbove_26 ?_
  refine V_icmp_ge XC 34 dX8_isAbove_27 (by decide) (by first | assumption | (unfold IR; omega)) (by first | assumption | (unfold IR; omega)) (fun h27 => ?_) (fun h27 => ?_)
  · skip
    refine V_iconst XC dX8_isAbove_34 ?_
    refine V_zret (r := false) XC () hrV rfl dX8_isAbove_35 ?_
    try dsimp only
    unfold lx
    try dsimp only
    first | exact congrArg bI (decide_eq_true (by omega)).symm | exact congrArg bI (decide_eq_false (by omega)).symm
  refine V_iconst XC dX8_isAbove_30 ?_
  refine V_goto XC 35 dX8_isAbove_31 (by decide) ?_
  refine V_zret (r := true) XC () hrV rfl dX8_isAbove_35 ?_
  try dsimp only
  unfold lx
  try dsimp only
  first | exact congrArg bI (decide_eq_true (by omega)).symm | exact congrArg bI (decide_eq_false (by omega)).symm

set_option maxRecDepth 100000 in
set_option maxHeartbeats 4000000 in
theorem c_X8_lineOf (l : Launch) (D : va_G) (kI kC : ClassId) (b : Nat → Nat) (gp : Int) (ke : Nat) (un : Nat) (bu : Nat) (ty : Nat) (pc : Int) (gd : Bool) (rd : Int) (po : Int) (ln : Int) (wd : Int) (BE : Nat → Int) (RK : Nat → Int) (k : Nat) (hk : k < 16) (hb : 0 ≤ BE k ∧ BE k < 16) : ConR l yX8_lineOf wsX8_lineOf { frames := 0, cells := 0, slots := 0, locals := 0 } D kI kC [.ref (b 0), .int (iI (k : Int))] (mdO b gp (ke : Int) (un : Int) (bu : Int) (ty : Int) pc gd rd po ln wd :: [(b 16, IA kI 16 BE), (b 17, IA kI 16 RK)]) (fun r => r = RK (BE k).toNat) := by
  refine Con.of (cc := cX8_lineOf) (maxL := 2) (ret := (some .int)) (by decide +kernel) rfl (List.forall_mem_cons.mpr ⟨rfl, List.forall_mem_cons.mpr ⟨rfl, fun _ h => absurd h List.not_mem_nil⟩⟩) (Nat.le_of_ble_eq_true rfl) ?_
  intro pV eV sV mV bV tV cV AV XC hrV
  have XC : Cx pV _ sV mV _ tV cV cX8_lineOf 2 RX8 wsX8_lineOf AV D kI kC := XC
  change VV _ _ _ _ _ _ _ _ _ _ _ _ _ _ _ _ _ [some (.ref (b 0)), some (.int (iI (k : Int)))] _ _
  dsimp only [mdO, List.cons_append, List.nil_append]
  refine V_aload_n XC 0 rfl dX8_lineOf_0 rfl ?_
  refine V_get XC 26 flX8_lineOf_63 0 rfl rfl dX8_lineOf_1 ?_
  refine V_aload_n XC 0 rfl dX8_lineOf_4 rfl ?_
  refine V_get XC 25 flX8_lineOf_60 0 rfl rfl dX8_lineOf_5 ?_
  refine V_iload_n XC 1 rfl dX8_lineOf_8 rfl ?_
  refine V_iald XC (k) 1 rfl (by omega) (by omega) (by decide) dX8_lineOf_9 ?_
  refine V_iald XC ((BE k).toNat) 2 rfl (by omega) (by omega) (by decide) dX8_lineOf_10 ?_
  refine V_iret XC () hrV rfl dX8_lineOf_11 ?_
  first | rfl | assumption | omega

set_option maxRecDepth 100000 in
set_option maxHeartbeats 4000000 in
theorem c_X8_isBefore (l : Launch) (D : va_G) (kI kC : ClassId) (b : Nat → Nat) (gp : Int) (ke : Nat) (un : Nat) (bu : Nat) (ty : Nat) (pc : Int) (gd : Bool) (rd : Int) (po : Int) (ln : Int) (wd : Int) (G : Nat → Int) (BE : Nat → Int) (RK : Nat → Int) (S : List Stk) (hS : OkS S) (hN : NowR G S) (hb : ∀ k, k < S.length → 0 ≤ BE k ∧ BE k < 16) (hr : ∀ k, k < S.length → RK (BE k).toNat = (lnS S k : Int)) (i o : Nat) (hi : i < S.length) (ho : o < S.length) : ConR l yX8_isBefore wsX8_isBefore { frames := 2, cells := 0, slots := 0, locals := 48 } D kI kC [.ref (b 0), .int (iI (i : Int)), .int (iI (o : Int))] (mdO b gp (ke : Int) (un : Int) (bu : Int) (ty : Int) pc gd rd po ln wd :: [(b 1, IA kI 801 G), (b 16, IA kI 16 BE), (b 17, IA kI 16 RK)]) (fun r => r = bI (lx (fun k => (lnS S k : Int)) (lfS S) i o)) := by
  refine Con.of (cc := cX8_isBefore) (maxL := 5) (ret := (some .boolean)) (by decide +kernel) rfl (List.forall_mem_cons.mpr ⟨rfl, List.forall_mem_cons.mpr ⟨rfl, List.forall_mem_cons.mpr ⟨rfl, fun _ h => absurd h List.not_mem_nil⟩⟩⟩) (Nat.le_of_ble_eq_true rfl) ?_
  intro pV eV sV mV bV tV cV AV XC hrV
  have XC : Cx pV _ sV mV _ tV cV cX8_isBefore 5 RX8 wsX8_isBefore AV D kI kC := XC
  change VV _ _ _ _ _ _ _ _ _ _ _ _ _ _ _ _ _ [some (.ref (b 0)), some (.int (iI (i : Int))), some (.int (iI (o : Int))), none, none] _ _
  dsimp only [mdO, List.cons_append, List.nil_append]
  have h16 := hS.1
  have hbi := bdS hS hi
  have hbo := bdS hS ho
  have hli := lnS_lt hS hi
  have hlo := lnS_lt hS ho
  have hm9 := (GS_ok hS).1
  refine V_aload_n XC 0 rfl dX8_isBefore_0 rfl ?_
  refine V_iload_n XC 1 rfl dX8_isBefore_1 rfl ?_
  refine V_callV (rest := _) (q0 := 0) XC (c_X8_lineOf l D kI kC _ _ _ _ _ _ _ _ _ _ _ _ _ _ i (by omega) (hb i (by omega))) gX8_isBefore_X8_lineOf rfl kmX8_lineOf ⟨⟨Nat.le_of_ble_eq_true rfl, Nat.le_of_ble_eq_true rfl⟩, Nat.le_of_ble_eq_true rfl, Nat.le_of_ble_eq_true rfl⟩ ⟨rfl, rfl⟩ rfl rfl (Nat.le_of_ble_eq_true rfl) [0, 2, 3] rfl rfl (fun _ => rfl) rfl rfl dX8_isBefore_2 (kR_of rfl (fun r2 hq2 => ?_))
  subst hq2
  rw [hr i (by omega)]
  refine V_aload_n XC 0 rfl dX8_isBefore_5 rfl ?_
  refine V_iload_n XC 2 rfl dX8_isBefore_6 rfl ?_
  refine V_callV (rest := _) (q0 := 0) XC (c_X8_lineOf l D kI kC _ _ _ _ _ _ _ _ _ _ _ _ _ _ o (by omega) (hb o (by omega))) gX8_isBefore_X8_lineOf rfl kmX8_lineOf ⟨⟨Nat.le_of_ble_eq_true rfl, Nat.le_of_ble_eq_true rfl⟩, Nat.le_of_ble_eq_true rfl, Nat.le_of_ble_eq_true rfl⟩ ⟨rfl, rfl⟩ rfl rfl (Nat.le_of_ble_eq_true rfl) [0, 2, 3] rfl rfl (fun _ => rfl) rfl rfl dX8_isBefore_7 (kR_of rfl (fun r7 hq7 => ?_))
  subst hq7
  rw [hr o (by omega)]
  refine V_icmp_eq XC 32 dX8_isBefore_10 (by decide) ⟨by omega, by omega⟩ ⟨by omega, by omega⟩ (fun h10 => ?_) (fun h10 => ?_)
  · skip
    refine V_aload_n XC 0 rfl dX8_isBefore_32 rfl ?_
    refine V_iload_n XC 1 rfl dX8_isBefore_33 rfl ?_
    refine V_iconst XC dX8_isBefore_34 ?_
    refine V_iconst XC dX8_isBefore_35 ?_
    refine V_callV (rest := _) (q0 := 0) XC (c_X8_bound l D kI kC _ _ _ _ _ _ _ _ _ _ _ _ _ i false false (by omega) (NowR_ok hN hS (by omega))) gX8_isBefore_X8_bound rfl kmX8_bound ⟨⟨Nat.le_of_ble_eq_true rfl, Nat.le_of_ble_eq_true rfl⟩, Nat.le_of_ble_eq_true rfl, Nat.le_of_ble_eq_true rfl⟩ ⟨rfl, rfl⟩ rfl rfl (Nat.le_of_ble_eq_true rfl) [0, 1] rfl rfl (fun _ => rfl) rfl rfl dX8_isBefore_36 (kR_of rfl (fun r36 hq36 => ?_))
    subst hq36
    rw [show bdR (skR G i) false false = lfS S i from by unfold lfS; rw [NowR_at hN (by omega)]; rfl]
    refine V_istore_n XC 3 rfl dX8_isBefore_39 (by decide) ?_
    dsimp only [List.set]
    refine V_aload_n XC 0 rfl dX8_isBefore_40 rfl ?_
    refine V_iload_n XC 2 rfl dX8_isBefore_41 rfl ?_
    refine V_iconst XC dX8_isBefore_42 ?_
    refine V_iconst XC dX8_isBefore_43 ?_
    refine V_callV (rest := _) (q0 := 0) XC (c_X8_bound l D kI kC _ _ _ _ _ _ _ _ _ _ _ _ _ o false false (by omega) (NowR_ok hN hS (by omega))) gX8_isBefore_X8_bound rfl kmX8_bound ⟨⟨Nat.le_of_ble_eq_true rfl, Nat.le_of_ble_eq_true rfl⟩, Nat.le_of_ble_eq_true rfl, Nat.le_of_ble_eq_true rfl⟩ ⟨rfl, rfl⟩ rfl rfl (Nat.le_of_ble_eq_true rfl) [0, 1] rfl rfl (fun _ => rfl) rfl rfl dX8_isBefore_44 (kR_of rfl (fun r44 hq44 => ?_))
    subst hq44
    rw [show bdR (skR G o) false false = lfS S o from by unfold lfS; rw [NowR_at hN (by omega)]; rfl]
    refine V_istore XC dX8_isBefore_47 (by decide) ?_
    dsimp only [List.set]
    refine V_iload_n XC 3 rfl dX8_isBefore_49 rfl ?_
    refine V_iload XC dX8_isBefore_50 rfl ?_
    refine V_icmp_eq XC 69 dX8_isBefore_52 (by decide) ⟨by omega, by omega⟩ ⟨by omega, by omega⟩ (fun h52 => ?_) (fun h52 => ?_)
    · skip
      refine V_iload_n XC 1 rfl dX8_isBefore_69 rfl ?_
      refine V_iload_n XC 2 rfl dX8_isBefore_70 rfl ?_
      refine V_icmp_ge XC 78 dX8_isBefore_71 (by decide) ⟨by omega, by omega⟩ ⟨by omega, by omega⟩ (fun h71 => ?_) (fun h71 => ?_)
      · skip
        refine V_iconst XC dX8_isBefore_78 ?_
        refine V_zret (r := false) XC () hrV rfl dX8_isBefore_79 ?_
        try dsimp only
        unfold lx
        try dsimp only
        first | exact congrArg bI (decide_eq_true (by omega)).symm | exact congrArg bI (decide_eq_false (by omega)).symm
      refine V_iconst XC dX8_isBefore_74 ?_
      refine V_goto XC 79 dX8_isBefore_75 (by decide) ?_
      refine V_zret (r := true) XC () hrV rfl dX8_isBefore_79 ?_
      try dsimp only
      unfold lx
      try dsimp only
      first | exact congrArg bI (decide_eq_true (by omega)).symm | exact congrArg bI (decide_eq_false (by omega)).symm
    refine V_iload_n XC 3 rfl dX8_isBefore_55 rfl ?_
    refine V_iload XC dX8_isBefore_56 rfl ?_
    refine V_icmp_ge XC 65 dX8_isBefore_58 (by decide) ⟨by omega, by omega⟩ ⟨by omega, by omega⟩ (fun h58 => ?_) (fun h58 => ?_)
    · skip
      refine V_iconst XC dX8_isBefore_65 ?_
      refine V_goto XC 79 dX8_isBefore_66 (by decide) ?_
      refine V_zret (r := false) XC () hrV rfl dX8_isBefore_79 ?_
      try dsimp only
      unfold lx
      try dsimp only
      first | exact congrArg bI (decide_eq_true (by omega)).symm | exact congrArg bI (decide_eq_false (by omega)).symm
    refine V_iconst XC dX8_isBefore_61 ?_
    refine V_goto XC 79 dX8_isBefore_62 (by decide) ?_
    refine V_zret (r := true) XC () hrV rfl dX8_isBefore_79 ?_
    try dsimp only
    unfold lx
    try dsimp only
    first | exact congrArg bI (decide_eq_true (by omega)).symm | exact congrArg bI (decide_eq_false (by omega)).symm
  refine V_aload_n XC 0 rfl dX8_isBefore_13 rfl ?_
  refine V_iload_n XC 1 rfl dX8_isBefore_14 rfl ?_
  refine V_callV (rest := _) (q0 := 0) XC (c_X8_lineOf l D kI kC _ _ _ _ _ _ _ _ _ _ _ _ _ _ i (by omega) (hb i (by omega))) gX8_isBefore_X8_lineOf rfl kmX8_lineOf ⟨⟨Nat.le_of_ble_eq_true rfl, Nat.le_of_ble_eq_true rfl⟩, Nat.le_of_ble_eq_true rfl, Nat.le_of_ble_eq_true rfl⟩ ⟨rfl, rfl⟩ rfl rfl (Nat.le_of_ble_eq_true rfl) [0, 2, 3] rfl rfl (fun _ => rfl) rfl rfl dX8_isBefore_15 (kR_of rfl (fun r15 hq15 => ?_))
  subst hq15
  rw [hr i (by omega)]
  refine V_aload_n XC 0 rfl dX8_isBefore_18 rfl ?_
  refine V_iload_n XC 2 rfl dX8_isBefore_19 rfl ?_
  refine V_callV (rest := _) (q0 := 0) XC (c_X8_lineOf l D kI kC _ _ _ _ _ _ _ _ _ _ _ _ _ _ o (by omega) (hb o (by omega))) gX8_isBefore_X8_lineOf rfl kmX8_lineOf ⟨⟨Nat.le_of_ble_eq_true rfl, Nat.le_of_ble_eq_true rfl⟩, Nat.le_of_ble_eq_true rfl, Nat.le_of_ble_eq_true rfl⟩ ⟨rfl, rfl⟩ rfl rfl (Nat.le_of_ble_eq_true rfl) [0, 2, 3] rfl rfl (fun _ => rfl) rfl rfl dX8_isBefore_20 (kR_of rfl (fun r20 hq20 => ?_))
  subst hq20
  rw [hr o (by omega)]
  refine V_icmp_ge XC 30 dX8_isBefore_23 (by decide) ⟨by omega, by omega⟩ ⟨by omega, by omega⟩ (fun h23 => ?_) (fun h23 => ?_)
  · skip
    refine V_iconst XC dX8_isBefore_30 ?_
    refine V_zret (r := false) XC () hrV rfl dX8_isBefore_31 ?_
    try dsimp only
    unfold lx
    try dsimp only
    first | exact congrArg bI (decide_eq_true (by omega)).symm | exact congrArg bI (decide_eq_false (by omega)).symm
  refine V_iconst XC dX8_isBefore_26 ?_
  refine V_goto XC 31 dX8_isBefore_27 (by decide) ?_
  refine V_zret (r := true) XC () hrV rfl dX8_isBefore_31 ?_
  try dsimp only
  unfold lx
  try dsimp only
  first | exact congrArg bI (decide_eq_true (by omega)).symm | exact congrArg bI (decide_eq_false (by omega)).symm

set_option maxRecDepth 100000 in
set_option maxHeartbeats 4000000 in
theorem c_X8_placeOf (l : Launch) (D : va_G) (kI kC : ClassId) (b : Nat → Nat) (gp : Int) (ke : Nat) (un : Nat) (bu : Nat) (ty : Nat) (pc : Int) (gd : Bool) (rd : Int) (po : Int) (ln : Int) (wd : Int) (G : Nat → Int) (BE : Nat → Int) (RK : Nat → Int) (S : List Stk) (hS : OkS S) (hN : NowR G S) (hb : ∀ k, k < S.length → 0 ≤ BE k ∧ BE k < 16) (hr : ∀ k, k < S.length → RK (BE k).toNat = (lnS S k : Int)) (k : Nat) (hk : k < S.length) : ConR l yX8_placeOf wsX8_placeOf { frames := 3, cells := 0, slots := 0, locals := 72 } D kI kC [.ref (b 0), .int (iI (k : Int))] (mdO b gp (ke : Int) (un : Int) (bu : Int) (ty : Int) pc gd rd po ln wd :: [(b 1, IA kI 801 G), (b 16, IA kI 16 BE), (b 17, IA kI 16 RK)]) (fun r => r = (plS S k : Int)) := by
  refine Con.of (cc := cX8_placeOf) (maxL := 4) (ret := (some .int)) (by decide +kernel) rfl (List.forall_mem_cons.mpr ⟨rfl, List.forall_mem_cons.mpr ⟨rfl, fun _ h => absurd h List.not_mem_nil⟩⟩) (Nat.le_of_ble_eq_true rfl) ?_
  intro pV eV sV mV bV tV cV AV XC hrV
  have XC : Cx pV _ sV mV _ tV cV cX8_placeOf 4 RX8 wsX8_placeOf AV D kI kC := XC
  change VV _ _ _ _ _ _ _ _ _ _ _ _ _ _ _ _ _ [some (.ref (b 0)), some (.int (iI (k : Int))), none, none] _ _
  dsimp only [mdO, List.cons_append, List.nil_append]
  have h16 := hS.1
  have hN0 : G 0 = (S.length : Int) := hN.1
  refine V_iconst XC dX8_placeOf_0 ?_
  refine V_istore_n XC 2 rfl dX8_placeOf_1 (by decide) ?_
  dsimp only [List.set]
  refine V_iconst XC dX8_placeOf_2 ?_
  refine V_istore_n XC 3 rfl dX8_placeOf_3 (by decide) ?_
  dsimp only [List.set]
  refine V_loopR (σ := Nat) (fun u => S.length - u) (fun u => u ≤ S.length) (fun u => [some (.ref (b 0)), some (.int (iI (k : Int))), some (.int (iI ((fb_ct (fun o => lx (fun k => (lnS S k : Int)) (lfS S) o k) u : Nat) : Int))), some (.int (iI (u : Int)))]) (0) (Nat.zero_le _) rfl (fun u hJ ih4 => ?_)
  obtain ⟨j, rfl⟩ : ∃ z, z = u := ⟨_, rfl⟩
  try dsimp only at hJ ih4 ⊢
  obtain hj := hJ
  refine V_iload_n XC 3 rfl dX8_placeOf_4 rfl ?_
  refine V_aload_n XC 0 rfl dX8_placeOf_5 rfl ?_
  refine V_callV (rest := _) (q0 := 0) XC (c_X8_strokes l D kI kC _ _ _ _ _ _ _ _ _ _ _ _ _ ) gX8_placeOf_X8_strokes rfl kmX8_strokes ⟨⟨Nat.le_of_ble_eq_true rfl, Nat.le_of_ble_eq_true rfl⟩, Nat.le_of_ble_eq_true rfl, Nat.le_of_ble_eq_true rfl⟩ ⟨rfl, rfl⟩ rfl rfl (Nat.le_of_ble_eq_true rfl) [0, 1] rfl rfl (fun _ => rfl) rfl rfl dX8_placeOf_6 (kR_of rfl (fun r6 hq6 => ?_))
  subst hq6
  rw [hN0]
  refine V_icmp_ge XC 35 dX8_placeOf_9 (by decide) ⟨by omega, by omega⟩ ⟨by omega, by omega⟩ (fun h9 => ?_) (fun h9 => ?_)
  · skip
    refine V_iload_n XC 2 rfl dX8_placeOf_35 rfl ?_
    refine V_iret XC () hrV rfl dX8_placeOf_36 ?_
    try dsimp only
    obtain rfl : j = S.length := by omega
    rfl
  refine V_iload_n XC 2 rfl dX8_placeOf_12 rfl ?_
  refine V_aload_n XC 0 rfl dX8_placeOf_13 rfl ?_
  refine V_iload_n XC 3 rfl dX8_placeOf_14 rfl ?_
  refine V_iload_n XC 1 rfl dX8_placeOf_15 rfl ?_
  refine V_callV (rest := _) (q0 := 0) XC (c_X8_isBefore l D kI kC _ _ _ _ _ _ _ _ _ _ _ _ _ _ _ S hS hN hb hr j k (by omega) hk) gX8_placeOf_X8_isBefore rfl kmX8_isBefore ⟨⟨Nat.le_of_ble_eq_true rfl, Nat.le_of_ble_eq_true rfl⟩, Nat.le_of_ble_eq_true rfl, Nat.le_of_ble_eq_true rfl⟩ ⟨rfl, rfl⟩ rfl rfl (Nat.le_of_ble_eq_true rfl) [0, 1, 2, 3] rfl rfl (fun _ => rfl) rfl rfl dX8_placeOf_16 (kR_of rfl (fun r16 hq16 => ?_))
  subst hq16
  refine V_bif_eq XC 26 dX8_placeOf_19 (by decide) (fun h19 => ?_) (fun h19 => ?_)
  · skip
    refine V_iconst XC dX8_placeOf_26 ?_
    refine V_iadd XC dX8_placeOf_27 ?_
    refine V_istore_n XC 2 rfl dX8_placeOf_28 (by decide) ?_
    dsimp only [List.set]
    refine V_iinc XC dX8_placeOf_29 rfl (by decide) ?_
    dsimp only [List.set]
    refine V_goto XC 4 dX8_placeOf_32 (by decide) ?_
    first
    | (rw [ct_s1 (p := fun o => lx (fun k => (lnS S k : Int)) (lfS S) o k) h19]; exact ih4 (j + 1) (by omega) (by omega))
    | (rw [ct_s0 (p := fun o => lx (fun k => (lnS S k : Int)) (lfS S) o k) h19]; exact ih4 (j + 1) (by omega) (by omega))
  refine V_iconst XC dX8_placeOf_22 ?_
  refine V_goto XC 27 dX8_placeOf_23 (by decide) ?_
  refine V_iadd XC dX8_placeOf_27 ?_
  refine V_istore_n XC 2 rfl dX8_placeOf_28 (by decide) ?_
  dsimp only [List.set]
  refine V_iinc XC dX8_placeOf_29 rfl (by decide) ?_
  dsimp only [List.set]
  refine V_goto XC 4 dX8_placeOf_32 (by decide) ?_
  first
  | (rw [ct_s1 (p := fun o => lx (fun k => (lnS S k : Int)) (lfS S) o k) h19]; exact ih4 (j + 1) (by omega) (by omega))
  | (rw [ct_s0 (p := fun o => lx (fun k => (lnS S k : Int)) (lfS S) o k) h19]; exact ih4 (j + 1) (by omega) (by omega))

set_option maxRecDepth 100000 in
set_option maxHeartbeats 4000000 in
theorem c_X8_putBack (l : Launch) (D : va_G) (kI kC : ClassId) (b : Nat → Nat) (gp : Int) (ke : Nat) (un : Nat) (bu : Nat) (ty : Nat) (pc : Int) (gd : Bool) (rd : Int) (po : Nat) (ln : Int) (wd : Int) (G : Nat → Int) (H : Nat → Int) (X : Nat → Int) (PX : Nat → Int) (PY : Nat → Int) (A : Nat → Int) (S : List Stk) (past fut : List (List Stk)) (h3 : Ok3 (S, past, fut)) (hN : NowR G S) (hH : RH (S, past, fut) ke un H A) (k : Nat) (hk : k < S.length) (hP : OkP (ptsOf po PX PY)) : Con l yX8_putBack wsX8_putBack { frames := 4, cells := 0, slots := 0, locals := 85 } D kI kC [.ref (b 0), .int (iI (k : Int))] (mdO b gp (ke : Int) (un : Int) (bu : Int) (ty : Int) pc gd rd (po : Int) ln wd :: [(b 1, IA kI 801 G), (b 2, IA kI 4806 H), (b 9, IA kI 801 X), (b 10, IA kI 24 PX), (b 11, IA kI 24 PY)]) (σ := (Nat → Int) × Nat × Nat × (Nat → Int) × (Nat → Int)) (qI (fun r u => r = (repS S k (ptsOf po PX PY)).1 ∧ NowR u.1 (actS (S, past, fut) (repS S k (ptsOf po PX PY)).2).1 ∧ RH (actS (S, past, fut) (repS S k (ptsOf po PX PY)).2) u.2.1 u.2.2.1 u.2.2.2.1 A ∧ Ok3 (actS (S, past, fut) (repS S k (ptsOf po PX PY)).2))) (fun u => (mdO b gp (u.2.1 : Int) (u.2.2.1 : Int) (bu : Int) (ty : Int) pc gd rd (po : Int) ln wd :: [(b 1, IA kI 801 u.1), (b 2, IA kI 4806 u.2.2.2.1), (b 9, IA kI 801 u.2.2.2.2), (b 10, IA kI 24 PX), (b 11, IA kI 24 PY)])) := by
  refine Con.of (cc := cX8_putBack) (maxL := 5) (ret := (some .int)) (by decide +kernel) rfl (List.forall_mem_cons.mpr ⟨rfl, List.forall_mem_cons.mpr ⟨rfl, fun _ h => absurd h List.not_mem_nil⟩⟩) (Nat.le_of_ble_eq_true rfl) ?_
  intro pV eV sV mV bV tV cV AV XC hrV
  have XC : Cx pV _ sV mV _ tV cV cX8_putBack 5 RX8 wsX8_putBack AV D kI kC := XC
  change VV _ _ _ _ _ _ _ _ _ _ _ _ _ _ _ _ _ [some (.ref (b 0)), some (.int (iI (k : Int))), none, none, none] _ _
  dsimp only [mdO, List.cons_append, List.nil_append]
  have hn16 : S.length ≤ 16 := h3.1.1
  have hS : OkS S := h3.1
  have hk6 : ke ≤ 6 := by rw [hH.1]; exact h3.2.1.1
  have hN0 : G 0 = (S.length : Int) := hN.1
  have hok := NowR_ok hN hS hk
  have hat := NowR_at hN hk
  have hf := skR_ok hok
  have hsz := skR_sz hok
  have hz3 := OkK_sz hok
  have hp1 := hP.1
  have hp24 := hP.2.1
  rw [ptsOf_len] at hp1 hp24
  have hxy := fun i hi => skR_xy (F := G) (k := k) (i := i) hi
  have hc := fun i hi => OkK_xy (t := skR G k) (i := i) hok hi
  have hcP : ∀ i, i < po → 0 ≤ PX i ∧ PX i ≤ 1000 ∧ 0 ≤ PY i ∧ PY i ≤ 1000 := fun i hi => hP.2.2.1 _ (List.mem_of_getElem? (ptsOf_at hi))
  refine V_aload_n XC 0 rfl dX8_putBack_0 rfl ?_
  refine V_get XC 17 flX8_putBack_167 0 rfl rfl dX8_putBack_1 ?_
  refine V_aload_n XC 0 rfl dX8_putBack_4 rfl ?_
  refine V_iload_n XC 1 rfl dX8_putBack_5 rfl ?_
  refine V_callV (rest := _) (q0 := 0) XC (c_X8_size l D kI kC _ _ _ _ _ _ _ _ _ _ _ _ _ _ (by omega)) gX8_putBack_X8_size rfl kmX8_size ⟨⟨Nat.le_of_ble_eq_true rfl, Nat.le_of_ble_eq_true rfl⟩, Nat.le_of_ble_eq_true rfl, Nat.le_of_ble_eq_true rfl⟩ ⟨rfl, rfl⟩ rfl rfl (Nat.le_of_ble_eq_true rfl) [0, 1] rfl rfl (fun _ => rfl) rfl rfl dX8_putBack_6 (kR_of rfl (fun r6 hq6 => ?_))
  subst hq6
  rw [hsz]
  refine V_icmp_ne XC 16 dX8_putBack_9 (by decide) ⟨by omega, by omega⟩ ⟨by omega, by omega⟩ (fun h9 => ?_) (fun h9 => ?_)
  · skip
    obtain ⟨wv, hwv⟩ : ∃ wv : Bool, wv = false := ⟨_, rfl⟩
    have hA : wv = true → po = szk (skR G k) := fun z => by rw [hwv] at z; cases z
    have hB : wv = false → ptsOf po PX PY ≠ (skR G k).2 := fun _ z => by
      have h99 : po = szk (skR G k) := by
        have := congrArg List.length z
        rw [ptsOf_len] at this
        exact this
      omega
    refine V_iconst XC dX8_putBack_16 ?_
    refine V_top (y := bI wv) (by subst hwv; rfl) ?_
    refine V_istore_n XC 2 rfl dX8_putBack_17 (by decide) ?_
    dsimp only [List.set]
    refine V_iconst XC dX8_putBack_18 ?_
    refine V_istore_n XC 3 rfl dX8_putBack_19 (by decide) ?_
    dsimp only [List.set]
    refine V_loopR (σ := Nat × Bool) (fun u => po - u.1) (fun u => u.1 ≤ po ∧ (u.2 = true → po = szk (skR G k) ∧ ∀ i, i < u.1 → PX i = px (skR G k) i ∧ PY i = py (skR G k) i) ∧ (u.2 = false → ptsOf po PX PY ≠ (skR G k).2)) (fun u => [some (.ref (b 0)), some (.int (iI (k : Int))), some (.int (iI (bI u.2))), some (.int (iI (u.1 : Int))), none]) (0, wv) ?_ rfl (fun u hJ ih20 => ?_)
    · dsimp only
      exact ⟨Nat.zero_le _, fun z => ⟨hA z, fun i hi => absurd hi (Nat.not_lt_zero i)⟩, hB⟩
    obtain ⟨p, w⟩ := u
    try dsimp only at hJ ih20 ⊢
    obtain ⟨hpp, hw1, hw0⟩ := hJ
    refine V_iload_n XC 3 rfl dX8_putBack_20 rfl ?_
    refine V_aload_n XC 0 rfl dX8_putBack_21 rfl ?_
    refine V_get XC 17 flX8_putBack_167 0 rfl rfl dX8_putBack_22 ?_
    refine V_icmp_ge XC 74 dX8_putBack_25 (by decide) ⟨by omega, by omega⟩ ⟨by omega, by omega⟩ (fun h25 => ?_) (fun h25 => ?_)
    · skip
      refine V_iload_n XC 2 rfl dX8_putBack_74 rfl ?_
      refine V_bif_eq XC 81 dX8_putBack_75 (by decide) (fun h75 => ?_) (fun h75 => ?_)
      · skip
        have hne := hw0 h75
        refine V_aload_n XC 0 rfl dX8_putBack_81 rfl ?_
        refine V_callV (rest := _) (q0 := 0) XC (c_X8_begin l D kI kC _ _ _ _ _ _ _ _ _ _ _ _ _ ) gX8_putBack_X8_begin rfl kmX8_begin ⟨⟨Nat.le_of_ble_eq_true rfl, Nat.le_of_ble_eq_true rfl⟩, Nat.le_of_ble_eq_true rfl, Nat.le_of_ble_eq_true rfl⟩ ⟨rfl, rfl⟩ rfl rfl (Nat.le_of_ble_eq_true rfl) [0, 3] rfl rfl (fun _ => rfl) rfl rfl dX8_putBack_82 (kV_of (fun u82 hq82 => ?_))
        dsimp only [putW, List.set, Option.toList, List.cons_append, List.nil_append, padO, mdO, shW, trW, txW, hiW, liW, woW, taW]
        try dsimp only at hq82
        refine V_iconst XC dX8_putBack_85 ?_
        refine V_istore_n XC 3 rfl dX8_putBack_86 (by decide) ?_
        dsimp only [List.set]
        refine V_kill 2 ?_
        dsimp only [List.set]
        refine V_loop (σ := Nat × (Nat → Int)) (fun u => S.length - u.1) (fun u => u.1 ≤ S.length ∧ NxR u.2 ((S.set k ((skR G k).1, ptsOf po PX PY)).take u.1)) (fun u => [some (.ref (b 0)), some (.int (iI (k : Int))), none, some (.int (iI (u.1 : Int))), none]) (fun u => (mdO b gp (ke : Int) (un : Int) (bu : Int) (ty : Int) pc gd rd (po : Int) ln wd :: [(b 1, IA kI 801 G), (b 2, IA kI 4806 H), (b 9, IA kI 801 u.2), (b 10, IA kI 24 PX), (b 11, IA kI 24 PY)])) (0, upz X 0 0) ?_ rfl rfl (fun u hJ ih87 => ?_)
        · dsimp only
          exact ⟨Nat.zero_le _, by rw [List.take_zero]; exact NxR_0⟩
        obtain ⟨j, X2⟩ := u
        try dsimp only at hJ ih87 ⊢
        try dsimp only [List.cons_append, List.nil_append, padO, mdO, shW, trW, txW, hiW, liW, woW, taW]
        obtain ⟨hj, hX2⟩ := hJ
        refine V_iload_n XC 3 rfl dX8_putBack_87 rfl ?_
        refine V_aload_n XC 0 rfl dX8_putBack_88 rfl ?_
        refine V_callV (rest := _) (q0 := 0) XC (c_X8_strokes l D kI kC _ _ _ _ _ _ _ _ _ _ _ _ _ ) gX8_putBack_X8_strokes rfl kmX8_strokes ⟨⟨Nat.le_of_ble_eq_true rfl, Nat.le_of_ble_eq_true rfl⟩, Nat.le_of_ble_eq_true rfl, Nat.le_of_ble_eq_true rfl⟩ ⟨rfl, rfl⟩ rfl rfl (Nat.le_of_ble_eq_true rfl) [0, 1] rfl rfl (fun _ => rfl) rfl rfl dX8_putBack_89 (kR_of rfl (fun r89 hq89 => ?_))
        subst hq89
        rw [hN0]
        refine V_icmp_ge XC 163 dX8_putBack_92 (by decide) ⟨by omega, by omega⟩ ⟨by omega, by omega⟩ (fun h92 => ?_) (fun h92 => ?_)
        · skip
          obtain rfl : j = S.length := by omega
          rw [List.take_of_length_le (by rw [List.length_set]; omega)] at hX2
          have hE := OkS_set (k := k) (t := ((skR G k).1, ptsOf po PX PY)) hS ⟨hok.1, hok.2.1, hP⟩
          have hNb := NowR_become (G := G) hX2 hE
          refine V_aload_n XC 0 rfl dX8_putBack_163 rfl ?_
          refine V_callV (rest := _) (q0 := 0) XC (c_X8_become l D kI kC _ _ _ _ _ _ _ _ _ _ _ _ _ _ _ (by omega)) gX8_putBack_X8_become rfl kmX8_become ⟨⟨Nat.le_of_ble_eq_true rfl, Nat.le_of_ble_eq_true rfl⟩, Nat.le_of_ble_eq_true rfl, Nat.le_of_ble_eq_true rfl⟩ ⟨rfl, rfl⟩ rfl rfl (Nat.le_of_ble_eq_true rfl) [0, 1, 2, 3] rfl rfl (fun _ => rfl) rfl rfl dX8_putBack_164 (kV_of (fun u164 hq164 => ?_))
          dsimp only [putW, List.set, Option.toList, List.cons_append, List.nil_append, padO, mdO, shW, trW, txW, hiW, liW, woW, taW]
          try dsimp only at hq164
          refine V_aload_n XC 0 rfl dX8_putBack_167 rfl ?_
          refine V_get XC 17 flX8_putBack_167 0 rfl rfl dX8_putBack_168 ?_
          refine V_iret XC (cpz X2 G 0 0 801, min (ke + 1) 6, 0, pushH G H ke, X2) hrV rfl dX8_putBack_171 ?_
          have hp : repS S k (ptsOf po PX PY) = ((po : Int), some (S.set k ((skR G k).1, ptsOf po PX PY))) := by
            unfold repS
            rw [hat, if_neg (fun z => hne z.symm), ptsOf_len]
          rw [hp]
          exact ⟨rfl, act_endR h3 hH hN hE hNb⟩
        refine V_iload_n XC 3 rfl dX8_putBack_95 rfl ?_
        refine V_iload_n XC 1 rfl dX8_putBack_96 rfl ?_
        refine V_icmp_eq XC 108 dX8_putBack_97 (by decide) ⟨by omega, by omega⟩ ⟨by omega, by omega⟩ (fun h97 => ?_) (fun h97 => ?_)
        · skip
          refine V_aload_n XC 0 rfl dX8_putBack_108 rfl ?_
          refine V_aload_n XC 0 rfl dX8_putBack_109 rfl ?_
          refine V_get XC 0 flX8_putBack_7 0 rfl rfl dX8_putBack_110 ?_
          refine V_bipush XC dX8_putBack_113 (by decide) ?_
          refine V_iload_n XC 1 rfl dX8_putBack_115 rfl ?_
          refine V_iadd XC dX8_putBack_116 ?_
          refine V_iald XC (17 + k) 1 rfl (by omega) (by omega) (by decide) dX8_putBack_117 ?_
          refine V_callV (rest := _) (q0 := 0) XC (c_X8_addStroke l D kI kC _ _ _ _ _ _ _ _ _ _ _ _ _ _ hX2 (by rw [List.length_take, List.length_set]; omega) _) gX8_putBack_X8_addStroke rfl kmX8_addStroke ⟨⟨Nat.le_of_ble_eq_true rfl, Nat.le_of_ble_eq_true rfl⟩, Nat.le_of_ble_eq_true rfl, Nat.le_of_ble_eq_true rfl⟩ ⟨rfl, rfl⟩ rfl rfl (Nat.le_of_ble_eq_true rfl) [0, 3] rfl rfl (fun _ => rfl) rfl rfl dX8_putBack_118 (kV_of (fun u118 hq118 => ?_))
          dsimp only [putW, List.set, Option.toList, List.cons_append, List.nil_append, padO, mdO, shW, trW, txW, hiW, liW, woW, taW]
          try dsimp only at hq118
          refine V_iconst XC dX8_putBack_121 ?_
          refine V_istore XC dX8_putBack_122 (by decide) ?_
          dsimp only [List.set]
          refine V_loop (σ := Nat × (Nat → Int)) (fun u => po - u.1) (fun u => u.1 ≤ po ∧ NxR u.2 ((S.set k ((skR G k).1, ptsOf po PX PY)).take j ++ [(G (17 + k), ptsOf u.1 PX PY)])) (fun u => [some (.ref (b 0)), some (.int (iI (k : Int))), none, some (.int (iI (j : Int))), some (.int (iI (u.1 : Int)))]) (fun u => (mdO b gp (ke : Int) (un : Int) (bu : Int) (ty : Int) pc gd rd (po : Int) ln wd :: [(b 1, IA kI 801 G), (b 2, IA kI 4806 H), (b 9, IA kI 801 u.2), (b 10, IA kI 24 PX), (b 11, IA kI 24 PY)])) (0, asF X2 ((S.set k ((skR G k).1, ptsOf po PX PY)).take j).length (G (17 + k))) ?_ rfl rfl (fun u hJ ih124 => ?_)
          · dsimp only
            exact ⟨Nat.zero_le _, NxR_stroke hX2⟩
          obtain ⟨i, X3⟩ := u
          try dsimp only at hJ ih124 ⊢
          try dsimp only [List.cons_append, List.nil_append, padO, mdO, shW, trW, txW, hiW, liW, woW, taW]
          obtain ⟨hi, hX3⟩ := hJ
          refine V_iload XC dX8_putBack_124 rfl ?_
          refine V_aload_n XC 0 rfl dX8_putBack_126 rfl ?_
          refine V_get XC 17 flX8_putBack_167 0 rfl rfl dX8_putBack_127 ?_
          refine V_icmp_ge XC 157 dX8_putBack_130 (by decide) ⟨by omega, by omega⟩ ⟨by omega, by omega⟩ (fun h130 => ?_) (fun h130 => ?_)
          · skip
            refine V_iinc XC dX8_putBack_157 rfl (by decide) ?_
            dsimp only [List.set]
            refine V_goto XC 87 dX8_putBack_160 (by decide) ?_
            refine V_kill 4 ?_
            dsimp only [List.set]
            first
            | (refine ih87 (j + 1, u102) ⟨by (try dsimp only); omega, ?_⟩ (by (try dsimp only); omega)
               dsimp only
               rw [take_s (l := S.set k ((skR G k).1, ptsOf po PX PY)) (q := gk S j) (by rw [List.getElem?_set_ne (by omega)]; exact gk_at (by omega))]
               exact hX102)
            | (refine ih87 (j + 1, X3) ⟨by (try dsimp only); omega, ?_⟩ (by (try dsimp only); omega)
               dsimp only
               obtain rfl : i = po := by omega
               obtain rfl : j = k := by omega
               rw [take_s (l := S.set j ((skR G j).1, ptsOf i PX PY)) (q := ((skR G j).1, ptsOf i PX PY)) (by rw [List.getElem?_set_self hk])]
               exact hX3)
          refine V_aload_n XC 0 rfl dX8_putBack_133 rfl ?_
          refine V_aload_n XC 0 rfl dX8_putBack_134 rfl ?_
          refine V_get XC 18 flX8_putBack_42 0 rfl rfl dX8_putBack_135 ?_
          refine V_iload XC dX8_putBack_138 rfl ?_
          refine V_iald XC (i) 4 rfl (by omega) (by omega) (by decide) dX8_putBack_140 ?_
          refine V_aload_n XC 0 rfl dX8_putBack_141 rfl ?_
          refine V_get XC 19 flX8_putBack_45 0 rfl rfl dX8_putBack_142 ?_
          refine V_iload XC dX8_putBack_145 rfl ?_
          refine V_iald XC (i) 5 rfl (by omega) (by omega) (by decide) dX8_putBack_147 ?_
          refine V_callV (rest := _) (q0 := 0) XC (c_X8_addPoint l D kI kC _ _ _ _ _ _ _ _ _ _ _ _ _ _ (G (17 + k)) _ hX3 (by rw [List.length_take, List.length_set]; omega) (by rw [ptsOf_len]; omega) _ _) gX8_putBack_X8_addPoint rfl kmX8_addPoint ⟨⟨Nat.le_of_ble_eq_true rfl, Nat.le_of_ble_eq_true rfl⟩, Nat.le_of_ble_eq_true rfl, Nat.le_of_ble_eq_true rfl⟩ ⟨rfl, rfl⟩ rfl rfl (Nat.le_of_ble_eq_true rfl) [0, 3] rfl rfl (fun _ => rfl) rfl rfl dX8_putBack_148 (kV_of (fun u148 hq148 => ?_))
          dsimp only [putW, List.set, Option.toList, List.cons_append, List.nil_append, padO, mdO, shW, trW, txW, hiW, liW, woW, taW]
          try dsimp only at hq148
          refine V_iinc XC dX8_putBack_151 rfl (by decide) ?_
          dsimp only [List.set]
          refine V_goto XC 124 dX8_putBack_154 (by decide) ?_
          have h99 := NxR_point (x := PX i) (y := PY i) hX3 (by rw [ptsOf_len]; omega)
          rw [← ptsOf_s] at h99
          exact ih124 (i + 1, _) ⟨by (try dsimp only); omega, h99⟩ (by (try dsimp only); omega)
        refine V_aload_n XC 0 rfl dX8_putBack_100 rfl ?_
        refine V_iload_n XC 3 rfl dX8_putBack_101 rfl ?_
        refine V_callV (rest := _) (q0 := 0) XC (c_X8_copyStroke l D kI kC _ _ _ _ _ _ _ _ _ _ _ _ _ _ S hS hN _ hX2 (by rw [List.length_take, List.length_set]; omega) j (by omega)) gX8_putBack_X8_copyStroke rfl kmX8_copyStroke ⟨⟨Nat.le_of_ble_eq_true rfl, Nat.le_of_ble_eq_true rfl⟩, Nat.le_of_ble_eq_true rfl, Nat.le_of_ble_eq_true rfl⟩ ⟨rfl, rfl⟩ rfl rfl (Nat.le_of_ble_eq_true rfl) [0, 1, 3] rfl rfl (fun _ => rfl) rfl rfl dX8_putBack_102 (kV_of (fun u102 hq102 => ?_))
        dsimp only [putW, List.set, Option.toList, List.cons_append, List.nil_append, padO, mdO, shW, trW, txW, hiW, liW, woW, taW]
        try dsimp only at hq102
        have hX102 := hq102
        refine V_goto XC 157 dX8_putBack_105 (by decide) ?_
        refine V_iinc XC dX8_putBack_157 rfl (by decide) ?_
        dsimp only [List.set]
        refine V_goto XC 87 dX8_putBack_160 (by decide) ?_
        first
        | (refine ih87 (j + 1, u102) ⟨by (try dsimp only); omega, ?_⟩ (by (try dsimp only); omega)
           dsimp only
           rw [take_s (l := S.set k ((skR G k).1, ptsOf po PX PY)) (q := gk S j) (by rw [List.getElem?_set_ne (by omega)]; exact gk_at (by omega))]
           exact hX102)
        | (refine ih87 (j + 1, X3) ⟨by (try dsimp only); omega, ?_⟩ (by (try dsimp only); omega)
           dsimp only
           obtain rfl : i = po := by omega
           obtain rfl : j = k := by omega
           rw [take_s (l := S.set j ((skR G j).1, ptsOf i PX PY)) (q := ((skR G j).1, ptsOf i PX PY)) (by rw [List.getElem?_set_self hk])]
           exact hX3)
      have hp : repS S k (ptsOf po PX PY) = (-5, none) := by
        unfold repS
        obtain ⟨e1, e2⟩ := hw1 h75
        rw [if_pos (by rw [hat, ← pxy_pts (skR G k), ← e1]; exact (ptsOf_congr (fun i hi => e2 i (by first | omega | (rename_i hh; exact absurd (hw1 h75) (by simp_all)))) ).symm)]
      refine V_bipush XC dX8_putBack_78 (by decide) ?_
      refine V_iret XC (G, ke, un, H, X) hrV rfl dX8_putBack_80 ?_
      rw [hp]
      exact ⟨rfl, hN, hH, h3⟩
    refine V_iload_n XC 2 rfl dX8_putBack_28 rfl ?_
    refine V_bif_eq XC 74 dX8_putBack_29 (by decide) (fun h29 => ?_) (fun h29 => ?_)
    · skip
      refine V_iload_n XC 2 rfl dX8_putBack_74 rfl ?_
      refine V_bif_eq XC 81 dX8_putBack_75 (by decide) (fun h75 => ?_) (fun h75 => ?_)
      · skip
        have hne := hw0 h75
        refine V_aload_n XC 0 rfl dX8_putBack_81 rfl ?_
        refine V_callV (rest := _) (q0 := 0) XC (c_X8_begin l D kI kC _ _ _ _ _ _ _ _ _ _ _ _ _ ) gX8_putBack_X8_begin rfl kmX8_begin ⟨⟨Nat.le_of_ble_eq_true rfl, Nat.le_of_ble_eq_true rfl⟩, Nat.le_of_ble_eq_true rfl, Nat.le_of_ble_eq_true rfl⟩ ⟨rfl, rfl⟩ rfl rfl (Nat.le_of_ble_eq_true rfl) [0, 3] rfl rfl (fun _ => rfl) rfl rfl dX8_putBack_82 (kV_of (fun u82 hq82 => ?_))
        dsimp only [putW, List.set, Option.toList, List.cons_append, List.nil_append, padO, mdO, shW, trW, txW, hiW, liW, woW, taW]
        try dsimp only at hq82
        refine V_iconst XC dX8_putBack_85 ?_
        refine V_istore_n XC 3 rfl dX8_putBack_86 (by decide) ?_
        dsimp only [List.set]
        refine V_kill 2 ?_
        dsimp only [List.set]
        refine V_loop (σ := Nat × (Nat → Int)) (fun u => S.length - u.1) (fun u => u.1 ≤ S.length ∧ NxR u.2 ((S.set k ((skR G k).1, ptsOf po PX PY)).take u.1)) (fun u => [some (.ref (b 0)), some (.int (iI (k : Int))), none, some (.int (iI (u.1 : Int))), none]) (fun u => (mdO b gp (ke : Int) (un : Int) (bu : Int) (ty : Int) pc gd rd (po : Int) ln wd :: [(b 1, IA kI 801 G), (b 2, IA kI 4806 H), (b 9, IA kI 801 u.2), (b 10, IA kI 24 PX), (b 11, IA kI 24 PY)])) (0, upz X 0 0) ?_ rfl rfl (fun u hJ ih87 => ?_)
        · dsimp only
          exact ⟨Nat.zero_le _, by rw [List.take_zero]; exact NxR_0⟩
        obtain ⟨j, X2⟩ := u
        try dsimp only at hJ ih87 ⊢
        try dsimp only [List.cons_append, List.nil_append, padO, mdO, shW, trW, txW, hiW, liW, woW, taW]
        obtain ⟨hj, hX2⟩ := hJ
        refine V_iload_n XC 3 rfl dX8_putBack_87 rfl ?_
        refine V_aload_n XC 0 rfl dX8_putBack_88 rfl ?_
        refine V_callV (rest := _) (q0 := 0) XC (c_X8_strokes l D kI kC _ _ _ _ _ _ _ _ _ _ _ _ _ ) gX8_putBack_X8_strokes rfl kmX8_strokes ⟨⟨Nat.le_of_ble_eq_true rfl, Nat.le_of_ble_eq_true rfl⟩, Nat.le_of_ble_eq_true rfl, Nat.le_of_ble_eq_true rfl⟩ ⟨rfl, rfl⟩ rfl rfl (Nat.le_of_ble_eq_true rfl) [0, 1] rfl rfl (fun _ => rfl) rfl rfl dX8_putBack_89 (kR_of rfl (fun r89 hq89 => ?_))
        subst hq89
        rw [hN0]
        refine V_icmp_ge XC 163 dX8_putBack_92 (by decide) ⟨by omega, by omega⟩ ⟨by omega, by omega⟩ (fun h92 => ?_) (fun h92 => ?_)
        · skip
          obtain rfl : j = S.length := by omega
          rw [List.take_of_length_le (by rw [List.length_set]; omega)] at hX2
          have hE := OkS_set (k := k) (t := ((skR G k).1, ptsOf po PX PY)) hS ⟨hok.1, hok.2.1, hP⟩
          have hNb := NowR_become (G := G) hX2 hE
          refine V_aload_n XC 0 rfl dX8_putBack_163 rfl ?_
          refine V_callV (rest := _) (q0 := 0) XC (c_X8_become l D kI kC _ _ _ _ _ _ _ _ _ _ _ _ _ _ _ (by omega)) gX8_putBack_X8_become rfl kmX8_become ⟨⟨Nat.le_of_ble_eq_true rfl, Nat.le_of_ble_eq_true rfl⟩, Nat.le_of_ble_eq_true rfl, Nat.le_of_ble_eq_true rfl⟩ ⟨rfl, rfl⟩ rfl rfl (Nat.le_of_ble_eq_true rfl) [0, 1, 2, 3] rfl rfl (fun _ => rfl) rfl rfl dX8_putBack_164 (kV_of (fun u164 hq164 => ?_))
          dsimp only [putW, List.set, Option.toList, List.cons_append, List.nil_append, padO, mdO, shW, trW, txW, hiW, liW, woW, taW]
          try dsimp only at hq164
          refine V_aload_n XC 0 rfl dX8_putBack_167 rfl ?_
          refine V_get XC 17 flX8_putBack_167 0 rfl rfl dX8_putBack_168 ?_
          refine V_iret XC (cpz X2 G 0 0 801, min (ke + 1) 6, 0, pushH G H ke, X2) hrV rfl dX8_putBack_171 ?_
          have hp : repS S k (ptsOf po PX PY) = ((po : Int), some (S.set k ((skR G k).1, ptsOf po PX PY))) := by
            unfold repS
            rw [hat, if_neg (fun z => hne z.symm), ptsOf_len]
          rw [hp]
          exact ⟨rfl, act_endR h3 hH hN hE hNb⟩
        refine V_iload_n XC 3 rfl dX8_putBack_95 rfl ?_
        refine V_iload_n XC 1 rfl dX8_putBack_96 rfl ?_
        refine V_icmp_eq XC 108 dX8_putBack_97 (by decide) ⟨by omega, by omega⟩ ⟨by omega, by omega⟩ (fun h97 => ?_) (fun h97 => ?_)
        · skip
          refine V_aload_n XC 0 rfl dX8_putBack_108 rfl ?_
          refine V_aload_n XC 0 rfl dX8_putBack_109 rfl ?_
          refine V_get XC 0 flX8_putBack_7 0 rfl rfl dX8_putBack_110 ?_
          refine V_bipush XC dX8_putBack_113 (by decide) ?_
          refine V_iload_n XC 1 rfl dX8_putBack_115 rfl ?_
          refine V_iadd XC dX8_putBack_116 ?_
          refine V_iald XC (17 + k) 1 rfl (by omega) (by omega) (by decide) dX8_putBack_117 ?_
          refine V_callV (rest := _) (q0 := 0) XC (c_X8_addStroke l D kI kC _ _ _ _ _ _ _ _ _ _ _ _ _ _ hX2 (by rw [List.length_take, List.length_set]; omega) _) gX8_putBack_X8_addStroke rfl kmX8_addStroke ⟨⟨Nat.le_of_ble_eq_true rfl, Nat.le_of_ble_eq_true rfl⟩, Nat.le_of_ble_eq_true rfl, Nat.le_of_ble_eq_true rfl⟩ ⟨rfl, rfl⟩ rfl rfl (Nat.le_of_ble_eq_true rfl) [0, 3] rfl rfl (fun _ => rfl) rfl rfl dX8_putBack_118 (kV_of (fun u118 hq118 => ?_))
          dsimp only [putW, List.set, Option.toList, List.cons_append, List.nil_append, padO, mdO, shW, trW, txW, hiW, liW, woW, taW]
          try dsimp only at hq118
          refine V_iconst XC dX8_putBack_121 ?_
          refine V_istore XC dX8_putBack_122 (by decide) ?_
          dsimp only [List.set]
          refine V_loop (σ := Nat × (Nat → Int)) (fun u => po - u.1) (fun u => u.1 ≤ po ∧ NxR u.2 ((S.set k ((skR G k).1, ptsOf po PX PY)).take j ++ [(G (17 + k), ptsOf u.1 PX PY)])) (fun u => [some (.ref (b 0)), some (.int (iI (k : Int))), none, some (.int (iI (j : Int))), some (.int (iI (u.1 : Int)))]) (fun u => (mdO b gp (ke : Int) (un : Int) (bu : Int) (ty : Int) pc gd rd (po : Int) ln wd :: [(b 1, IA kI 801 G), (b 2, IA kI 4806 H), (b 9, IA kI 801 u.2), (b 10, IA kI 24 PX), (b 11, IA kI 24 PY)])) (0, asF X2 ((S.set k ((skR G k).1, ptsOf po PX PY)).take j).length (G (17 + k))) ?_ rfl rfl (fun u hJ ih124 => ?_)
          · dsimp only
            exact ⟨Nat.zero_le _, NxR_stroke hX2⟩
          obtain ⟨i, X3⟩ := u
          try dsimp only at hJ ih124 ⊢
          try dsimp only [List.cons_append, List.nil_append, padO, mdO, shW, trW, txW, hiW, liW, woW, taW]
          obtain ⟨hi, hX3⟩ := hJ
          refine V_iload XC dX8_putBack_124 rfl ?_
          refine V_aload_n XC 0 rfl dX8_putBack_126 rfl ?_
          refine V_get XC 17 flX8_putBack_167 0 rfl rfl dX8_putBack_127 ?_
          refine V_icmp_ge XC 157 dX8_putBack_130 (by decide) ⟨by omega, by omega⟩ ⟨by omega, by omega⟩ (fun h130 => ?_) (fun h130 => ?_)
          · skip
            refine V_iinc XC dX8_putBack_157 rfl (by decide) ?_
            dsimp only [List.set]
            refine V_goto XC 87 dX8_putBack_160 (by decide) ?_
            refine V_kill 4 ?_
            dsimp only [List.set]
            first
            | (refine ih87 (j + 1, u102) ⟨by (try dsimp only); omega, ?_⟩ (by (try dsimp only); omega)
               dsimp only
               rw [take_s (l := S.set k ((skR G k).1, ptsOf po PX PY)) (q := gk S j) (by rw [List.getElem?_set_ne (by omega)]; exact gk_at (by omega))]
               exact hX102)
            | (refine ih87 (j + 1, X3) ⟨by (try dsimp only); omega, ?_⟩ (by (try dsimp only); omega)
               dsimp only
               obtain rfl : i = po := by omega
               obtain rfl : j = k := by omega
               rw [take_s (l := S.set j ((skR G j).1, ptsOf i PX PY)) (q := ((skR G j).1, ptsOf i PX PY)) (by rw [List.getElem?_set_self hk])]
               exact hX3)
          refine V_aload_n XC 0 rfl dX8_putBack_133 rfl ?_
          refine V_aload_n XC 0 rfl dX8_putBack_134 rfl ?_
          refine V_get XC 18 flX8_putBack_42 0 rfl rfl dX8_putBack_135 ?_
          refine V_iload XC dX8_putBack_138 rfl ?_
          refine V_iald XC (i) 4 rfl (by omega) (by omega) (by decide) dX8_putBack_140 ?_
          refine V_aload_n XC 0 rfl dX8_putBack_141 rfl ?_
          refine V_get XC 19 flX8_putBack_45 0 rfl rfl dX8_putBack_142 ?_
          refine V_iload XC dX8_putBack_145 rfl ?_
          refine V_iald XC (i) 5 rfl (by omega) (by omega) (by decide) dX8_putBack_147 ?_
          refine V_callV (rest := _) (q0 := 0) XC (c_X8_addPoint l D kI kC _ _ _ _ _ _ _ _ _ _ _ _ _ _ (G (17 + k)) _ hX3 (by rw [List.length_take, List.length_set]; omega) (by rw [ptsOf_len]; omega) _ _) gX8_putBack_X8_addPoint rfl kmX8_addPoint ⟨⟨Nat.le_of_ble_eq_true rfl, Nat.le_of_ble_eq_true rfl⟩, Nat.le_of_ble_eq_true rfl, Nat.le_of_ble_eq_true rfl⟩ ⟨rfl, rfl⟩ rfl rfl (Nat.le_of_ble_eq_true rfl) [0, 3] rfl rfl (fun _ => rfl) rfl rfl dX8_putBack_148 (kV_of (fun u148 hq148 => ?_))
          dsimp only [putW, List.set, Option.toList, List.cons_append, List.nil_append, padO, mdO, shW, trW, txW, hiW, liW, woW, taW]
          try dsimp only at hq148
          refine V_iinc XC dX8_putBack_151 rfl (by decide) ?_
          dsimp only [List.set]
          refine V_goto XC 124 dX8_putBack_154 (by decide) ?_
          have h99 := NxR_point (x := PX i) (y := PY i) hX3 (by rw [ptsOf_len]; omega)
          rw [← ptsOf_s] at h99
          exact ih124 (i + 1, _) ⟨by (try dsimp only); omega, h99⟩ (by (try dsimp only); omega)
        refine V_aload_n XC 0 rfl dX8_putBack_100 rfl ?_
        refine V_iload_n XC 3 rfl dX8_putBack_101 rfl ?_
        refine V_callV (rest := _) (q0 := 0) XC (c_X8_copyStroke l D kI kC _ _ _ _ _ _ _ _ _ _ _ _ _ _ S hS hN _ hX2 (by rw [List.length_take, List.length_set]; omega) j (by omega)) gX8_putBack_X8_copyStroke rfl kmX8_copyStroke ⟨⟨Nat.le_of_ble_eq_true rfl, Nat.le_of_ble_eq_true rfl⟩, Nat.le_of_ble_eq_true rfl, Nat.le_of_ble_eq_true rfl⟩ ⟨rfl, rfl⟩ rfl rfl (Nat.le_of_ble_eq_true rfl) [0, 1, 3] rfl rfl (fun _ => rfl) rfl rfl dX8_putBack_102 (kV_of (fun u102 hq102 => ?_))
        dsimp only [putW, List.set, Option.toList, List.cons_append, List.nil_append, padO, mdO, shW, trW, txW, hiW, liW, woW, taW]
        try dsimp only at hq102
        have hX102 := hq102
        refine V_goto XC 157 dX8_putBack_105 (by decide) ?_
        refine V_iinc XC dX8_putBack_157 rfl (by decide) ?_
        dsimp only [List.set]
        refine V_goto XC 87 dX8_putBack_160 (by decide) ?_
        first
        | (refine ih87 (j + 1, u102) ⟨by (try dsimp only); omega, ?_⟩ (by (try dsimp only); omega)
           dsimp only
           rw [take_s (l := S.set k ((skR G k).1, ptsOf po PX PY)) (q := gk S j) (by rw [List.getElem?_set_ne (by omega)]; exact gk_at (by omega))]
           exact hX102)
        | (refine ih87 (j + 1, X3) ⟨by (try dsimp only); omega, ?_⟩ (by (try dsimp only); omega)
           dsimp only
           obtain rfl : i = po := by omega
           obtain rfl : j = k := by omega
           rw [take_s (l := S.set j ((skR G j).1, ptsOf i PX PY)) (q := ((skR G j).1, ptsOf i PX PY)) (by rw [List.getElem?_set_self hk])]
           exact hX3)
      have hp : repS S k (ptsOf po PX PY) = (-5, none) := by
        unfold repS
        obtain ⟨e1, e2⟩ := hw1 h75
        rw [if_pos (by rw [hat, ← pxy_pts (skR G k), ← e1]; exact (ptsOf_congr (fun i hi => e2 i (by first | omega | (rename_i hh; exact absurd (hw1 h75) (by simp_all)))) ).symm)]
      refine V_bipush XC dX8_putBack_78 (by decide) ?_
      refine V_iret XC (G, ke, un, H, X) hrV rfl dX8_putBack_80 ?_
      rw [hp]
      exact ⟨rfl, hN, hH, h3⟩
    have hzz := (hw1 h29).1
    have hx1 := hxy p (by omega)
    have hc1 := hc p (by omega)
    have hcp := hcP p (by omega)
    refine V_aload_n XC 0 rfl dX8_putBack_32 rfl ?_
    refine V_get XC 18 flX8_putBack_42 0 rfl rfl dX8_putBack_33 ?_
    refine V_iload_n XC 3 rfl dX8_putBack_36 rfl ?_
    refine V_iald XC (_) 4 rfl rfl (by omega) (by decide) dX8_putBack_37 ?_
    refine V_aload_n XC 0 rfl dX8_putBack_38 rfl ?_
    refine V_iload_n XC 1 rfl dX8_putBack_39 rfl ?_
    refine V_iload_n XC 3 rfl dX8_putBack_40 rfl ?_
    refine V_callV (rest := _) (q0 := 0) XC (c_X8_x l D kI kC _ _ _ _ _ _ _ _ _ _ _ _ _ k p (by omega) (by omega)) gX8_putBack_X8_x rfl kmX8_x ⟨⟨Nat.le_of_ble_eq_true rfl, Nat.le_of_ble_eq_true rfl⟩, Nat.le_of_ble_eq_true rfl, Nat.le_of_ble_eq_true rfl⟩ ⟨rfl, rfl⟩ rfl rfl (Nat.le_of_ble_eq_true rfl) [0, 1] rfl rfl (fun _ => rfl) rfl rfl dX8_putBack_41 (kR_of rfl (fun r41 hq41 => ?_))
    subst hq41
    rw [hx1.1]
    refine V_icmp_ne XC 66 dX8_putBack_44 (by decide) ⟨by omega, by omega⟩ ⟨by omega, by omega⟩ (fun h44 => ?_) (fun h44 => ?_)
    · skip
      refine V_iconst XC dX8_putBack_66 ?_
      refine V_istore_n XC 2 rfl dX8_putBack_67 (by decide) ?_
      dsimp only [List.set]
      refine V_iinc XC dX8_putBack_68 rfl (by decide) ?_
      dsimp only [List.set]
      refine V_goto XC 20 dX8_putBack_71 (by decide) ?_
      first
      | (refine ih20 (p + 1, true) ⟨by (try dsimp only); omega, fun _ => ⟨(hw1 h29).1, fun i hi => ?_⟩, fun z => absurd (show true = false from z) (by decide)⟩ (by (try dsimp only); omega)
         dsimp only at hi
         by_cases q : i = p
         · subst q; exact ⟨by omega, by omega⟩
         · exact (hw1 h29).2 i (by omega))
      | (refine ih20 (p + 1, false) ⟨by (try dsimp only); omega, fun z => absurd (show false = true from z) (by decide), fun _ z => ?_⟩ (by (try dsimp only); omega)
         have h99 := ptsOf_at (X := PX) (Y := PY) (i := p) (n := po) (by omega)
         rw [z, pxy_at (t := skR G k) (by omega)] at h99
         simp at h99
         omega)
    refine V_aload_n XC 0 rfl dX8_putBack_47 rfl ?_
    refine V_get XC 19 flX8_putBack_45 0 rfl rfl dX8_putBack_48 ?_
    refine V_iload_n XC 3 rfl dX8_putBack_51 rfl ?_
    refine V_iald XC (_) 5 rfl rfl (by omega) (by decide) dX8_putBack_52 ?_
    refine V_aload_n XC 0 rfl dX8_putBack_53 rfl ?_
    refine V_iload_n XC 1 rfl dX8_putBack_54 rfl ?_
    refine V_iload_n XC 3 rfl dX8_putBack_55 rfl ?_
    refine V_callV (rest := _) (q0 := 0) XC (c_X8_y l D kI kC _ _ _ _ _ _ _ _ _ _ _ _ _ k p (by omega) (by omega)) gX8_putBack_X8_y rfl kmX8_y ⟨⟨Nat.le_of_ble_eq_true rfl, Nat.le_of_ble_eq_true rfl⟩, Nat.le_of_ble_eq_true rfl, Nat.le_of_ble_eq_true rfl⟩ ⟨rfl, rfl⟩ rfl rfl (Nat.le_of_ble_eq_true rfl) [0, 1] rfl rfl (fun _ => rfl) rfl rfl dX8_putBack_56 (kR_of rfl (fun r56 hq56 => ?_))
    subst hq56
    rw [hx1.2]
    refine V_icmp_ne XC 66 dX8_putBack_59 (by decide) ⟨by omega, by omega⟩ ⟨by omega, by omega⟩ (fun h59 => ?_) (fun h59 => ?_)
    · skip
      refine V_iconst XC dX8_putBack_66 ?_
      refine V_istore_n XC 2 rfl dX8_putBack_67 (by decide) ?_
      dsimp only [List.set]
      refine V_iinc XC dX8_putBack_68 rfl (by decide) ?_
      dsimp only [List.set]
      refine V_goto XC 20 dX8_putBack_71 (by decide) ?_
      first
      | (refine ih20 (p + 1, true) ⟨by (try dsimp only); omega, fun _ => ⟨(hw1 h29).1, fun i hi => ?_⟩, fun z => absurd (show true = false from z) (by decide)⟩ (by (try dsimp only); omega)
         dsimp only at hi
         by_cases q : i = p
         · subst q; exact ⟨by omega, by omega⟩
         · exact (hw1 h29).2 i (by omega))
      | (refine ih20 (p + 1, false) ⟨by (try dsimp only); omega, fun z => absurd (show false = true from z) (by decide), fun _ z => ?_⟩ (by (try dsimp only); omega)
         have h99 := ptsOf_at (X := PX) (Y := PY) (i := p) (n := po) (by omega)
         rw [z, pxy_at (t := skR G k) (by omega)] at h99
         simp at h99
         omega)
    refine V_iconst XC dX8_putBack_62 ?_
    refine V_goto XC 67 dX8_putBack_63 (by decide) ?_
    refine V_istore_n XC 2 rfl dX8_putBack_67 (by decide) ?_
    dsimp only [List.set]
    refine V_iinc XC dX8_putBack_68 rfl (by decide) ?_
    dsimp only [List.set]
    refine V_goto XC 20 dX8_putBack_71 (by decide) ?_
    first
    | (refine ih20 (p + 1, true) ⟨by (try dsimp only); omega, fun _ => ⟨(hw1 h29).1, fun i hi => ?_⟩, fun z => absurd (show true = false from z) (by decide)⟩ (by (try dsimp only); omega)
       dsimp only at hi
       by_cases q : i = p
       · subst q; exact ⟨by omega, by omega⟩
       · exact (hw1 h29).2 i (by omega))
    | (refine ih20 (p + 1, false) ⟨by (try dsimp only); omega, fun z => absurd (show false = true from z) (by decide), fun _ z => ?_⟩ (by (try dsimp only); omega)
       have h99 := ptsOf_at (X := PX) (Y := PY) (i := p) (n := po) (by omega)
       rw [z, pxy_at (t := skR G k) (by omega)] at h99
       simp at h99
       omega)
  obtain ⟨wv, hwv⟩ : ∃ wv : Bool, wv = true := ⟨_, rfl⟩
  have hA : wv = true → po = szk (skR G k) := fun _ => by omega
  have hB : wv = false → ptsOf po PX PY ≠ (skR G k).2 := fun z => by rw [hwv] at z; cases z
  refine V_iconst XC dX8_putBack_12 ?_
  refine V_goto XC 17 dX8_putBack_13 (by decide) ?_
  refine V_top (y := bI wv) (by subst hwv; rfl) ?_
  refine V_istore_n XC 2 rfl dX8_putBack_17 (by decide) ?_
  dsimp only [List.set]
  refine V_iconst XC dX8_putBack_18 ?_
  refine V_istore_n XC 3 rfl dX8_putBack_19 (by decide) ?_
  dsimp only [List.set]
  refine V_loopR (σ := Nat × Bool) (fun u => po - u.1) (fun u => u.1 ≤ po ∧ (u.2 = true → po = szk (skR G k) ∧ ∀ i, i < u.1 → PX i = px (skR G k) i ∧ PY i = py (skR G k) i) ∧ (u.2 = false → ptsOf po PX PY ≠ (skR G k).2)) (fun u => [some (.ref (b 0)), some (.int (iI (k : Int))), some (.int (iI (bI u.2))), some (.int (iI (u.1 : Int))), none]) (0, wv) ?_ rfl (fun u hJ ih20 => ?_)
  · dsimp only
    exact ⟨Nat.zero_le _, fun z => ⟨hA z, fun i hi => absurd hi (Nat.not_lt_zero i)⟩, hB⟩
  obtain ⟨p, w⟩ := u
  try dsimp only at hJ ih20 ⊢
  obtain ⟨hpp, hw1, hw0⟩ := hJ
  refine V_iload_n XC 3 rfl dX8_putBack_20 rfl ?_
  refine V_aload_n XC 0 rfl dX8_putBack_21 rfl ?_
  refine V_get XC 17 flX8_putBack_167 0 rfl rfl dX8_putBack_22 ?_
  refine V_icmp_ge XC 74 dX8_putBack_25 (by decide) ⟨by omega, by omega⟩ ⟨by omega, by omega⟩ (fun h25 => ?_) (fun h25 => ?_)
  · skip
    refine V_iload_n XC 2 rfl dX8_putBack_74 rfl ?_
    refine V_bif_eq XC 81 dX8_putBack_75 (by decide) (fun h75 => ?_) (fun h75 => ?_)
    · skip
      have hne := hw0 h75
      refine V_aload_n XC 0 rfl dX8_putBack_81 rfl ?_
      refine V_callV (rest := _) (q0 := 0) XC (c_X8_begin l D kI kC _ _ _ _ _ _ _ _ _ _ _ _ _ ) gX8_putBack_X8_begin rfl kmX8_begin ⟨⟨Nat.le_of_ble_eq_true rfl, Nat.le_of_ble_eq_true rfl⟩, Nat.le_of_ble_eq_true rfl, Nat.le_of_ble_eq_true rfl⟩ ⟨rfl, rfl⟩ rfl rfl (Nat.le_of_ble_eq_true rfl) [0, 3] rfl rfl (fun _ => rfl) rfl rfl dX8_putBack_82 (kV_of (fun u82 hq82 => ?_))
      dsimp only [putW, List.set, Option.toList, List.cons_append, List.nil_append, padO, mdO, shW, trW, txW, hiW, liW, woW, taW]
      try dsimp only at hq82
      refine V_iconst XC dX8_putBack_85 ?_
      refine V_istore_n XC 3 rfl dX8_putBack_86 (by decide) ?_
      dsimp only [List.set]
      refine V_kill 2 ?_
      dsimp only [List.set]
      refine V_loop (σ := Nat × (Nat → Int)) (fun u => S.length - u.1) (fun u => u.1 ≤ S.length ∧ NxR u.2 ((S.set k ((skR G k).1, ptsOf po PX PY)).take u.1)) (fun u => [some (.ref (b 0)), some (.int (iI (k : Int))), none, some (.int (iI (u.1 : Int))), none]) (fun u => (mdO b gp (ke : Int) (un : Int) (bu : Int) (ty : Int) pc gd rd (po : Int) ln wd :: [(b 1, IA kI 801 G), (b 2, IA kI 4806 H), (b 9, IA kI 801 u.2), (b 10, IA kI 24 PX), (b 11, IA kI 24 PY)])) (0, upz X 0 0) ?_ rfl rfl (fun u hJ ih87 => ?_)
      · dsimp only
        exact ⟨Nat.zero_le _, by rw [List.take_zero]; exact NxR_0⟩
      obtain ⟨j, X2⟩ := u
      try dsimp only at hJ ih87 ⊢
      try dsimp only [List.cons_append, List.nil_append, padO, mdO, shW, trW, txW, hiW, liW, woW, taW]
      obtain ⟨hj, hX2⟩ := hJ
      refine V_iload_n XC 3 rfl dX8_putBack_87 rfl ?_
      refine V_aload_n XC 0 rfl dX8_putBack_88 rfl ?_
      refine V_callV (rest := _) (q0 := 0) XC (c_X8_strokes l D kI kC _ _ _ _ _ _ _ _ _ _ _ _ _ ) gX8_putBack_X8_strokes rfl kmX8_strokes ⟨⟨Nat.le_of_ble_eq_true rfl, Nat.le_of_ble_eq_true rfl⟩, Nat.le_of_ble_eq_true rfl, Nat.le_of_ble_eq_true rfl⟩ ⟨rfl, rfl⟩ rfl rfl (Nat.le_of_ble_eq_true rfl) [0, 1] rfl rfl (fun _ => rfl) rfl rfl dX8_putBack_89 (kR_of rfl (fun r89 hq89 => ?_))
      subst hq89
      rw [hN0]
      refine V_icmp_ge XC 163 dX8_putBack_92 (by decide) ⟨by omega, by omega⟩ ⟨by omega, by omega⟩ (fun h92 => ?_) (fun h92 => ?_)
      · skip
        obtain rfl : j = S.length := by omega
        rw [List.take_of_length_le (by rw [List.length_set]; omega)] at hX2
        have hE := OkS_set (k := k) (t := ((skR G k).1, ptsOf po PX PY)) hS ⟨hok.1, hok.2.1, hP⟩
        have hNb := NowR_become (G := G) hX2 hE
        refine V_aload_n XC 0 rfl dX8_putBack_163 rfl ?_
        refine V_callV (rest := _) (q0 := 0) XC (c_X8_become l D kI kC _ _ _ _ _ _ _ _ _ _ _ _ _ _ _ (by omega)) gX8_putBack_X8_become rfl kmX8_become ⟨⟨Nat.le_of_ble_eq_true rfl, Nat.le_of_ble_eq_true rfl⟩, Nat.le_of_ble_eq_true rfl, Nat.le_of_ble_eq_true rfl⟩ ⟨rfl, rfl⟩ rfl rfl (Nat.le_of_ble_eq_true rfl) [0, 1, 2, 3] rfl rfl (fun _ => rfl) rfl rfl dX8_putBack_164 (kV_of (fun u164 hq164 => ?_))
        dsimp only [putW, List.set, Option.toList, List.cons_append, List.nil_append, padO, mdO, shW, trW, txW, hiW, liW, woW, taW]
        try dsimp only at hq164
        refine V_aload_n XC 0 rfl dX8_putBack_167 rfl ?_
        refine V_get XC 17 flX8_putBack_167 0 rfl rfl dX8_putBack_168 ?_
        refine V_iret XC (cpz X2 G 0 0 801, min (ke + 1) 6, 0, pushH G H ke, X2) hrV rfl dX8_putBack_171 ?_
        have hp : repS S k (ptsOf po PX PY) = ((po : Int), some (S.set k ((skR G k).1, ptsOf po PX PY))) := by
          unfold repS
          rw [hat, if_neg (fun z => hne z.symm), ptsOf_len]
        rw [hp]
        exact ⟨rfl, act_endR h3 hH hN hE hNb⟩
      refine V_iload_n XC 3 rfl dX8_putBack_95 rfl ?_
      refine V_iload_n XC 1 rfl dX8_putBack_96 rfl ?_
      refine V_icmp_eq XC 108 dX8_putBack_97 (by decide) ⟨by omega, by omega⟩ ⟨by omega, by omega⟩ (fun h97 => ?_) (fun h97 => ?_)
      · skip
        refine V_aload_n XC 0 rfl dX8_putBack_108 rfl ?_
        refine V_aload_n XC 0 rfl dX8_putBack_109 rfl ?_
        refine V_get XC 0 flX8_putBack_7 0 rfl rfl dX8_putBack_110 ?_
        refine V_bipush XC dX8_putBack_113 (by decide) ?_
        refine V_iload_n XC 1 rfl dX8_putBack_115 rfl ?_
        refine V_iadd XC dX8_putBack_116 ?_
        refine V_iald XC (17 + k) 1 rfl (by omega) (by omega) (by decide) dX8_putBack_117 ?_
        refine V_callV (rest := _) (q0 := 0) XC (c_X8_addStroke l D kI kC _ _ _ _ _ _ _ _ _ _ _ _ _ _ hX2 (by rw [List.length_take, List.length_set]; omega) _) gX8_putBack_X8_addStroke rfl kmX8_addStroke ⟨⟨Nat.le_of_ble_eq_true rfl, Nat.le_of_ble_eq_true rfl⟩, Nat.le_of_ble_eq_true rfl, Nat.le_of_ble_eq_true rfl⟩ ⟨rfl, rfl⟩ rfl rfl (Nat.le_of_ble_eq_true rfl) [0, 3] rfl rfl (fun _ => rfl) rfl rfl dX8_putBack_118 (kV_of (fun u118 hq118 => ?_))
        dsimp only [putW, List.set, Option.toList, List.cons_append, List.nil_append, padO, mdO, shW, trW, txW, hiW, liW, woW, taW]
        try dsimp only at hq118
        refine V_iconst XC dX8_putBack_121 ?_
        refine V_istore XC dX8_putBack_122 (by decide) ?_
        dsimp only [List.set]
        refine V_loop (σ := Nat × (Nat → Int)) (fun u => po - u.1) (fun u => u.1 ≤ po ∧ NxR u.2 ((S.set k ((skR G k).1, ptsOf po PX PY)).take j ++ [(G (17 + k), ptsOf u.1 PX PY)])) (fun u => [some (.ref (b 0)), some (.int (iI (k : Int))), none, some (.int (iI (j : Int))), some (.int (iI (u.1 : Int)))]) (fun u => (mdO b gp (ke : Int) (un : Int) (bu : Int) (ty : Int) pc gd rd (po : Int) ln wd :: [(b 1, IA kI 801 G), (b 2, IA kI 4806 H), (b 9, IA kI 801 u.2), (b 10, IA kI 24 PX), (b 11, IA kI 24 PY)])) (0, asF X2 ((S.set k ((skR G k).1, ptsOf po PX PY)).take j).length (G (17 + k))) ?_ rfl rfl (fun u hJ ih124 => ?_)
        · dsimp only
          exact ⟨Nat.zero_le _, NxR_stroke hX2⟩
        obtain ⟨i, X3⟩ := u
        try dsimp only at hJ ih124 ⊢
        try dsimp only [List.cons_append, List.nil_append, padO, mdO, shW, trW, txW, hiW, liW, woW, taW]
        obtain ⟨hi, hX3⟩ := hJ
        refine V_iload XC dX8_putBack_124 rfl ?_
        refine V_aload_n XC 0 rfl dX8_putBack_126 rfl ?_
        refine V_get XC 17 flX8_putBack_167 0 rfl rfl dX8_putBack_127 ?_
        refine V_icmp_ge XC 157 dX8_putBack_130 (by decide) ⟨by omega, by omega⟩ ⟨by omega, by omega⟩ (fun h130 => ?_) (fun h130 => ?_)
        · skip
          refine V_iinc XC dX8_putBack_157 rfl (by decide) ?_
          dsimp only [List.set]
          refine V_goto XC 87 dX8_putBack_160 (by decide) ?_
          refine V_kill 4 ?_
          dsimp only [List.set]
          first
          | (refine ih87 (j + 1, u102) ⟨by (try dsimp only); omega, ?_⟩ (by (try dsimp only); omega)
             dsimp only
             rw [take_s (l := S.set k ((skR G k).1, ptsOf po PX PY)) (q := gk S j) (by rw [List.getElem?_set_ne (by omega)]; exact gk_at (by omega))]
             exact hX102)
          | (refine ih87 (j + 1, X3) ⟨by (try dsimp only); omega, ?_⟩ (by (try dsimp only); omega)
             dsimp only
             obtain rfl : i = po := by omega
             obtain rfl : j = k := by omega
             rw [take_s (l := S.set j ((skR G j).1, ptsOf i PX PY)) (q := ((skR G j).1, ptsOf i PX PY)) (by rw [List.getElem?_set_self hk])]
             exact hX3)
        refine V_aload_n XC 0 rfl dX8_putBack_133 rfl ?_
        refine V_aload_n XC 0 rfl dX8_putBack_134 rfl ?_
        refine V_get XC 18 flX8_putBack_42 0 rfl rfl dX8_putBack_135 ?_
        refine V_iload XC dX8_putBack_138 rfl ?_
        refine V_iald XC (i) 4 rfl (by omega) (by omega) (by decide) dX8_putBack_140 ?_
        refine V_aload_n XC 0 rfl dX8_putBack_141 rfl ?_
        refine V_get XC 19 flX8_putBack_45 0 rfl rfl dX8_putBack_142 ?_
        refine V_iload XC dX8_putBack_145 rfl ?_
        refine V_iald XC (i) 5 rfl (by omega) (by omega) (by decide) dX8_putBack_147 ?_
        refine V_callV (rest := _) (q0 := 0) XC (c_X8_addPoint l D kI kC _ _ _ _ _ _ _ _ _ _ _ _ _ _ (G (17 + k)) _ hX3 (by rw [List.length_take, List.length_set]; omega) (by rw [ptsOf_len]; omega) _ _) gX8_putBack_X8_addPoint rfl kmX8_addPoint ⟨⟨Nat.le_of_ble_eq_true rfl, Nat.le_of_ble_eq_true rfl⟩, Nat.le_of_ble_eq_true rfl, Nat.le_of_ble_eq_true rfl⟩ ⟨rfl, rfl⟩ rfl rfl (Nat.le_of_ble_eq_true rfl) [0, 3] rfl rfl (fun _ => rfl) rfl rfl dX8_putBack_148 (kV_of (fun u148 hq148 => ?_))
        dsimp only [putW, List.set, Option.toList, List.cons_append, List.nil_append, padO, mdO, shW, trW, txW, hiW, liW, woW, taW]
        try dsimp only at hq148
        refine V_iinc XC dX8_putBack_151 rfl (by decide) ?_
        dsimp only [List.set]
        refine V_goto XC 124 dX8_putBack_154 (by decide) ?_
        have h99 := NxR_point (x := PX i) (y := PY i) hX3 (by rw [ptsOf_len]; omega)
        rw [← ptsOf_s] at h99
        exact ih124 (i + 1, _) ⟨by (try dsimp only); omega, h99⟩ (by (try dsimp only); omega)
      refine V_aload_n XC 0 rfl dX8_putBack_100 rfl ?_
      refine V_iload_n XC 3 rfl dX8_putBack_101 rfl ?_
      refine V_callV (rest := _) (q0 := 0) XC (c_X8_copyStroke l D kI kC _ _ _ _ _ _ _ _ _ _ _ _ _ _ S hS hN _ hX2 (by rw [List.length_take, List.length_set]; omega) j (by omega)) gX8_putBack_X8_copyStroke rfl kmX8_copyStroke ⟨⟨Nat.le_of_ble_eq_true rfl, Nat.le_of_ble_eq_true rfl⟩, Nat.le_of_ble_eq_true rfl, Nat.le_of_ble_eq_true rfl⟩ ⟨rfl, rfl⟩ rfl rfl (Nat.le_of_ble_eq_true rfl) [0, 1, 3] rfl rfl (fun _ => rfl) rfl rfl dX8_putBack_102 (kV_of (fun u102 hq102 => ?_))
      dsimp only [putW, List.set, Option.toList, List.cons_append, List.nil_append, padO, mdO, shW, trW, txW, hiW, liW, woW, taW]
      try dsimp only at hq102
      have hX102 := hq102
      refine V_goto XC 157 dX8_putBack_105 (by decide) ?_
      refine V_iinc XC dX8_putBack_157 rfl (by decide) ?_
      dsimp only [List.set]
      refine V_goto XC 87 dX8_putBack_160 (by decide) ?_
      first
      | (refine ih87 (j + 1, u102) ⟨by (try dsimp only); omega, ?_⟩ (by (try dsimp only); omega)
         dsimp only
         rw [take_s (l := S.set k ((skR G k).1, ptsOf po PX PY)) (q := gk S j) (by rw [List.getElem?_set_ne (by omega)]; exact gk_at (by omega))]
         exact hX102)
      | (refine ih87 (j + 1, X3) ⟨by (try dsimp only); omega, ?_⟩ (by (try dsimp only); omega)
         dsimp only
         obtain rfl : i = po := by omega
         obtain rfl : j = k := by omega
         rw [take_s (l := S.set j ((skR G j).1, ptsOf i PX PY)) (q := ((skR G j).1, ptsOf i PX PY)) (by rw [List.getElem?_set_self hk])]
         exact hX3)
    have hp : repS S k (ptsOf po PX PY) = (-5, none) := by
      unfold repS
      obtain ⟨e1, e2⟩ := hw1 h75
      rw [if_pos (by rw [hat, ← pxy_pts (skR G k), ← e1]; exact (ptsOf_congr (fun i hi => e2 i (by first | omega | (rename_i hh; exact absurd (hw1 h75) (by simp_all)))) ).symm)]
    refine V_bipush XC dX8_putBack_78 (by decide) ?_
    refine V_iret XC (G, ke, un, H, X) hrV rfl dX8_putBack_80 ?_
    rw [hp]
    exact ⟨rfl, hN, hH, h3⟩
  refine V_iload_n XC 2 rfl dX8_putBack_28 rfl ?_
  refine V_bif_eq XC 74 dX8_putBack_29 (by decide) (fun h29 => ?_) (fun h29 => ?_)
  · skip
    refine V_iload_n XC 2 rfl dX8_putBack_74 rfl ?_
    refine V_bif_eq XC 81 dX8_putBack_75 (by decide) (fun h75 => ?_) (fun h75 => ?_)
    · skip
      have hne := hw0 h75
      refine V_aload_n XC 0 rfl dX8_putBack_81 rfl ?_
      refine V_callV (rest := _) (q0 := 0) XC (c_X8_begin l D kI kC _ _ _ _ _ _ _ _ _ _ _ _ _ ) gX8_putBack_X8_begin rfl kmX8_begin ⟨⟨Nat.le_of_ble_eq_true rfl, Nat.le_of_ble_eq_true rfl⟩, Nat.le_of_ble_eq_true rfl, Nat.le_of_ble_eq_true rfl⟩ ⟨rfl, rfl⟩ rfl rfl (Nat.le_of_ble_eq_true rfl) [0, 3] rfl rfl (fun _ => rfl) rfl rfl dX8_putBack_82 (kV_of (fun u82 hq82 => ?_))
      dsimp only [putW, List.set, Option.toList, List.cons_append, List.nil_append, padO, mdO, shW, trW, txW, hiW, liW, woW, taW]
      try dsimp only at hq82
      refine V_iconst XC dX8_putBack_85 ?_
      refine V_istore_n XC 3 rfl dX8_putBack_86 (by decide) ?_
      dsimp only [List.set]
      refine V_kill 2 ?_
      dsimp only [List.set]
      refine V_loop (σ := Nat × (Nat → Int)) (fun u => S.length - u.1) (fun u => u.1 ≤ S.length ∧ NxR u.2 ((S.set k ((skR G k).1, ptsOf po PX PY)).take u.1)) (fun u => [some (.ref (b 0)), some (.int (iI (k : Int))), none, some (.int (iI (u.1 : Int))), none]) (fun u => (mdO b gp (ke : Int) (un : Int) (bu : Int) (ty : Int) pc gd rd (po : Int) ln wd :: [(b 1, IA kI 801 G), (b 2, IA kI 4806 H), (b 9, IA kI 801 u.2), (b 10, IA kI 24 PX), (b 11, IA kI 24 PY)])) (0, upz X 0 0) ?_ rfl rfl (fun u hJ ih87 => ?_)
      · dsimp only
        exact ⟨Nat.zero_le _, by rw [List.take_zero]; exact NxR_0⟩
      obtain ⟨j, X2⟩ := u
      try dsimp only at hJ ih87 ⊢
      try dsimp only [List.cons_append, List.nil_append, padO, mdO, shW, trW, txW, hiW, liW, woW, taW]
      obtain ⟨hj, hX2⟩ := hJ
      refine V_iload_n XC 3 rfl dX8_putBack_87 rfl ?_
      refine V_aload_n XC 0 rfl dX8_putBack_88 rfl ?_
      refine V_callV (rest := _) (q0 := 0) XC (c_X8_strokes l D kI kC _ _ _ _ _ _ _ _ _ _ _ _ _ ) gX8_putBack_X8_strokes rfl kmX8_strokes ⟨⟨Nat.le_of_ble_eq_true rfl, Nat.le_of_ble_eq_true rfl⟩, Nat.le_of_ble_eq_true rfl, Nat.le_of_ble_eq_true rfl⟩ ⟨rfl, rfl⟩ rfl rfl (Nat.le_of_ble_eq_true rfl) [0, 1] rfl rfl (fun _ => rfl) rfl rfl dX8_putBack_89 (kR_of rfl (fun r89 hq89 => ?_))
      subst hq89
      rw [hN0]
      refine V_icmp_ge XC 163 dX8_putBack_92 (by decide) ⟨by omega, by omega⟩ ⟨by omega, by omega⟩ (fun h92 => ?_) (fun h92 => ?_)
      · skip
        obtain rfl : j = S.length := by omega
        rw [List.take_of_length_le (by rw [List.length_set]; omega)] at hX2
        have hE := OkS_set (k := k) (t := ((skR G k).1, ptsOf po PX PY)) hS ⟨hok.1, hok.2.1, hP⟩
        have hNb := NowR_become (G := G) hX2 hE
        refine V_aload_n XC 0 rfl dX8_putBack_163 rfl ?_
        refine V_callV (rest := _) (q0 := 0) XC (c_X8_become l D kI kC _ _ _ _ _ _ _ _ _ _ _ _ _ _ _ (by omega)) gX8_putBack_X8_become rfl kmX8_become ⟨⟨Nat.le_of_ble_eq_true rfl, Nat.le_of_ble_eq_true rfl⟩, Nat.le_of_ble_eq_true rfl, Nat.le_of_ble_eq_true rfl⟩ ⟨rfl, rfl⟩ rfl rfl (Nat.le_of_ble_eq_true rfl) [0, 1, 2, 3] rfl rfl (fun _ => rfl) rfl rfl dX8_putBack_164 (kV_of (fun u164 hq164 => ?_))
        dsimp only [putW, List.set, Option.toList, List.cons_append, List.nil_append, padO, mdO, shW, trW, txW, hiW, liW, woW, taW]
        try dsimp only at hq164
        refine V_aload_n XC 0 rfl dX8_putBack_167 rfl ?_
        refine V_get XC 17 flX8_putBack_167 0 rfl rfl dX8_putBack_168 ?_
        refine V_iret XC (cpz X2 G 0 0 801, min (ke + 1) 6, 0, pushH G H ke, X2) hrV rfl dX8_putBack_171 ?_
        have hp : repS S k (ptsOf po PX PY) = ((po : Int), some (S.set k ((skR G k).1, ptsOf po PX PY))) := by
          unfold repS
          rw [hat, if_neg (fun z => hne z.symm), ptsOf_len]
        rw [hp]
        exact ⟨rfl, act_endR h3 hH hN hE hNb⟩
      refine V_iload_n XC 3 rfl dX8_putBack_95 rfl ?_
      refine V_iload_n XC 1 rfl dX8_putBack_96 rfl ?_
      refine V_icmp_eq XC 108 dX8_putBack_97 (by decide) ⟨by omega, by omega⟩ ⟨by omega, by omega⟩ (fun h97 => ?_) (fun h97 => ?_)
      · skip
        refine V_aload_n XC 0 rfl dX8_putBack_108 rfl ?_
        refine V_aload_n XC 0 rfl dX8_putBack_109 rfl ?_
        refine V_get XC 0 flX8_putBack_7 0 rfl rfl dX8_putBack_110 ?_
        refine V_bipush XC dX8_putBack_113 (by decide) ?_
        refine V_iload_n XC 1 rfl dX8_putBack_115 rfl ?_
        refine V_iadd XC dX8_putBack_116 ?_
        refine V_iald XC (17 + k) 1 rfl (by omega) (by omega) (by decide) dX8_putBack_117 ?_
        refine V_callV (rest := _) (q0 := 0) XC (c_X8_addStroke l D kI kC _ _ _ _ _ _ _ _ _ _ _ _ _ _ hX2 (by rw [List.length_take, List.length_set]; omega) _) gX8_putBack_X8_addStroke rfl kmX8_addStroke ⟨⟨Nat.le_of_ble_eq_true rfl, Nat.le_of_ble_eq_true rfl⟩, Nat.le_of_ble_eq_true rfl, Nat.le_of_ble_eq_true rfl⟩ ⟨rfl, rfl⟩ rfl rfl (Nat.le_of_ble_eq_true rfl) [0, 3] rfl rfl (fun _ => rfl) rfl rfl dX8_putBack_118 (kV_of (fun u118 hq118 => ?_))
        dsimp only [putW, List.set, Option.toList, List.cons_append, List.nil_append, padO, mdO, shW, trW, txW, hiW, liW, woW, taW]
        try dsimp only at hq118
        refine V_iconst XC dX8_putBack_121 ?_
        refine V_istore XC dX8_putBack_122 (by decide) ?_
        dsimp only [List.set]
        refine V_loop (σ := Nat × (Nat → Int)) (fun u => po - u.1) (fun u => u.1 ≤ po ∧ NxR u.2 ((S.set k ((skR G k).1, ptsOf po PX PY)).take j ++ [(G (17 + k), ptsOf u.1 PX PY)])) (fun u => [some (.ref (b 0)), some (.int (iI (k : Int))), none, some (.int (iI (j : Int))), some (.int (iI (u.1 : Int)))]) (fun u => (mdO b gp (ke : Int) (un : Int) (bu : Int) (ty : Int) pc gd rd (po : Int) ln wd :: [(b 1, IA kI 801 G), (b 2, IA kI 4806 H), (b 9, IA kI 801 u.2), (b 10, IA kI 24 PX), (b 11, IA kI 24 PY)])) (0, asF X2 ((S.set k ((skR G k).1, ptsOf po PX PY)).take j).length (G (17 + k))) ?_ rfl rfl (fun u hJ ih124 => ?_)
        · dsimp only
          exact ⟨Nat.zero_le _, NxR_stroke hX2⟩
        obtain ⟨i, X3⟩ := u
        try dsimp only at hJ ih124 ⊢
        try dsimp only [List.cons_append, List.nil_append, padO, mdO, shW, trW, txW, hiW, liW, woW, taW]
        obtain ⟨hi, hX3⟩ := hJ
        refine V_iload XC dX8_putBack_124 rfl ?_
        refine V_aload_n XC 0 rfl dX8_putBack_126 rfl ?_
        refine V_get XC 17 flX8_putBack_167 0 rfl rfl dX8_putBack_127 ?_
        refine V_icmp_ge XC 157 dX8_putBack_130 (by decide) ⟨by omega, by omega⟩ ⟨by omega, by omega⟩ (fun h130 => ?_) (fun h130 => ?_)
        · skip
          refine V_iinc XC dX8_putBack_157 rfl (by decide) ?_
          dsimp only [List.set]
          refine V_goto XC 87 dX8_putBack_160 (by decide) ?_
          refine V_kill 4 ?_
          dsimp only [List.set]
          first
          | (refine ih87 (j + 1, u102) ⟨by (try dsimp only); omega, ?_⟩ (by (try dsimp only); omega)
             dsimp only
             rw [take_s (l := S.set k ((skR G k).1, ptsOf po PX PY)) (q := gk S j) (by rw [List.getElem?_set_ne (by omega)]; exact gk_at (by omega))]
             exact hX102)
          | (refine ih87 (j + 1, X3) ⟨by (try dsimp only); omega, ?_⟩ (by (try dsimp only); omega)
             dsimp only
             obtain rfl : i = po := by omega
             obtain rfl : j = k := by omega
             rw [take_s (l := S.set j ((skR G j).1, ptsOf i PX PY)) (q := ((skR G j).1, ptsOf i PX PY)) (by rw [List.getElem?_set_self hk])]
             exact hX3)
        refine V_aload_n XC 0 rfl dX8_putBack_133 rfl ?_
        refine V_aload_n XC 0 rfl dX8_putBack_134 rfl ?_
        refine V_get XC 18 flX8_putBack_42 0 rfl rfl dX8_putBack_135 ?_
        refine V_iload XC dX8_putBack_138 rfl ?_
        refine V_iald XC (i) 4 rfl (by omega) (by omega) (by decide) dX8_putBack_140 ?_
        refine V_aload_n XC 0 rfl dX8_putBack_141 rfl ?_
        refine V_get XC 19 flX8_putBack_45 0 rfl rfl dX8_putBack_142 ?_
        refine V_iload XC dX8_putBack_145 rfl ?_
        refine V_iald XC (i) 5 rfl (by omega) (by omega) (by decide) dX8_putBack_147 ?_
        refine V_callV (rest := _) (q0 := 0) XC (c_X8_addPoint l D kI kC _ _ _ _ _ _ _ _ _ _ _ _ _ _ (G (17 + k)) _ hX3 (by rw [List.length_take, List.length_set]; omega) (by rw [ptsOf_len]; omega) _ _) gX8_putBack_X8_addPoint rfl kmX8_addPoint ⟨⟨Nat.le_of_ble_eq_true rfl, Nat.le_of_ble_eq_true rfl⟩, Nat.le_of_ble_eq_true rfl, Nat.le_of_ble_eq_true rfl⟩ ⟨rfl, rfl⟩ rfl rfl (Nat.le_of_ble_eq_true rfl) [0, 3] rfl rfl (fun _ => rfl) rfl rfl dX8_putBack_148 (kV_of (fun u148 hq148 => ?_))
        dsimp only [putW, List.set, Option.toList, List.cons_append, List.nil_append, padO, mdO, shW, trW, txW, hiW, liW, woW, taW]
        try dsimp only at hq148
        refine V_iinc XC dX8_putBack_151 rfl (by decide) ?_
        dsimp only [List.set]
        refine V_goto XC 124 dX8_putBack_154 (by decide) ?_
        have h99 := NxR_point (x := PX i) (y := PY i) hX3 (by rw [ptsOf_len]; omega)
        rw [← ptsOf_s] at h99
        exact ih124 (i + 1, _) ⟨by (try dsimp only); omega, h99⟩ (by (try dsimp only); omega)
      refine V_aload_n XC 0 rfl dX8_putBack_100 rfl ?_
      refine V_iload_n XC 3 rfl dX8_putBack_101 rfl ?_
      refine V_callV (rest := _) (q0 := 0) XC (c_X8_copyStroke l D kI kC _ _ _ _ _ _ _ _ _ _ _ _ _ _ S hS hN _ hX2 (by rw [List.length_take, List.length_set]; omega) j (by omega)) gX8_putBack_X8_copyStroke rfl kmX8_copyStroke ⟨⟨Nat.le_of_ble_eq_true rfl, Nat.le_of_ble_eq_true rfl⟩, Nat.le_of_ble_eq_true rfl, Nat.le_of_ble_eq_true rfl⟩ ⟨rfl, rfl⟩ rfl rfl (Nat.le_of_ble_eq_true rfl) [0, 1, 3] rfl rfl (fun _ => rfl) rfl rfl dX8_putBack_102 (kV_of (fun u102 hq102 => ?_))
      dsimp only [putW, List.set, Option.toList, List.cons_append, List.nil_append, padO, mdO, shW, trW, txW, hiW, liW, woW, taW]
      try dsimp only at hq102
      have hX102 := hq102
      refine V_goto XC 157 dX8_putBack_105 (by decide) ?_
      refine V_iinc XC dX8_putBack_157 rfl (by decide) ?_
      dsimp only [List.set]
      refine V_goto XC 87 dX8_putBack_160 (by decide) ?_
      first
      | (refine ih87 (j + 1, u102) ⟨by (try dsimp only); omega, ?_⟩ (by (try dsimp only); omega)
         dsimp only
         rw [take_s (l := S.set k ((skR G k).1, ptsOf po PX PY)) (q := gk S j) (by rw [List.getElem?_set_ne (by omega)]; exact gk_at (by omega))]
         exact hX102)
      | (refine ih87 (j + 1, X3) ⟨by (try dsimp only); omega, ?_⟩ (by (try dsimp only); omega)
         dsimp only
         obtain rfl : i = po := by omega
         obtain rfl : j = k := by omega
         rw [take_s (l := S.set j ((skR G j).1, ptsOf i PX PY)) (q := ((skR G j).1, ptsOf i PX PY)) (by rw [List.getElem?_set_self hk])]
         exact hX3)
    have hp : repS S k (ptsOf po PX PY) = (-5, none) := by
      unfold repS
      obtain ⟨e1, e2⟩ := hw1 h75
      rw [if_pos (by rw [hat, ← pxy_pts (skR G k), ← e1]; exact (ptsOf_congr (fun i hi => e2 i (by first | omega | (rename_i hh; exact absurd (hw1 h75) (by simp_all)))) ).symm)]
    refine V_bipush XC dX8_putBack_78 (by decide) ?_
    refine V_iret XC (G, ke, un, H, X) hrV rfl dX8_putBack_80 ?_
    rw [hp]
    exact ⟨rfl, hN, hH, h3⟩
  have hzz := (hw1 h29).1
  have hx1 := hxy p (by omega)
  have hc1 := hc p (by omega)
  have hcp := hcP p (by omega)
  refine V_aload_n XC 0 rfl dX8_putBack_32 rfl ?_
  refine V_get XC 18 flX8_putBack_42 0 rfl rfl dX8_putBack_33 ?_
  refine V_iload_n XC 3 rfl dX8_putBack_36 rfl ?_
  refine V_iald XC (_) 4 rfl rfl (by omega) (by decide) dX8_putBack_37 ?_
  refine V_aload_n XC 0 rfl dX8_putBack_38 rfl ?_
  refine V_iload_n XC 1 rfl dX8_putBack_39 rfl ?_
  refine V_iload_n XC 3 rfl dX8_putBack_40 rfl ?_
  refine V_callV (rest := _) (q0 := 0) XC (c_X8_x l D kI kC _ _ _ _ _ _ _ _ _ _ _ _ _ k p (by omega) (by omega)) gX8_putBack_X8_x rfl kmX8_x ⟨⟨Nat.le_of_ble_eq_true rfl, Nat.le_of_ble_eq_true rfl⟩, Nat.le_of_ble_eq_true rfl, Nat.le_of_ble_eq_true rfl⟩ ⟨rfl, rfl⟩ rfl rfl (Nat.le_of_ble_eq_true rfl) [0, 1] rfl rfl (fun _ => rfl) rfl rfl dX8_putBack_41 (kR_of rfl (fun r41 hq41 => ?_))
  subst hq41
  rw [hx1.1]
  refine V_icmp_ne XC 66 dX8_putBack_44 (by decide) ⟨by omega, by omega⟩ ⟨by omega, by omega⟩ (fun h44 => ?_) (fun h44 => ?_)
  · skip
    refine V_iconst XC dX8_putBack_66 ?_
    refine V_istore_n XC 2 rfl dX8_putBack_67 (by decide) ?_
    dsimp only [List.set]
    refine V_iinc XC dX8_putBack_68 rfl (by decide) ?_
    dsimp only [List.set]
    refine V_goto XC 20 dX8_putBack_71 (by decide) ?_
    first
    | (refine ih20 (p + 1, true) ⟨by (try dsimp only); omega, fun _ => ⟨(hw1 h29).1, fun i hi => ?_⟩, fun z => absurd (show true = false from z) (by decide)⟩ (by (try dsimp only); omega)
       dsimp only at hi
       by_cases q : i = p
       · subst q; exact ⟨by omega, by omega⟩
       · exact (hw1 h29).2 i (by omega))
    | (refine ih20 (p + 1, false) ⟨by (try dsimp only); omega, fun z => absurd (show false = true from z) (by decide), fun _ z => ?_⟩ (by (try dsimp only); omega)
       have h99 := ptsOf_at (X := PX) (Y := PY) (i := p) (n := po) (by omega)
       rw [z, pxy_at (t := skR G k) (by omega)] at h99
       simp at h99
       omega)
  refine V_aload_n XC 0 rfl dX8_putBack_47 rfl ?_
  refine V_get XC 19 flX8_putBack_45 0 rfl rfl dX8_putBack_48 ?_
  refine V_iload_n XC 3 rfl dX8_putBack_51 rfl ?_
  refine V_iald XC (_) 5 rfl rfl (by omega) (by decide) dX8_putBack_52 ?_
  refine V_aload_n XC 0 rfl dX8_putBack_53 rfl ?_
  refine V_iload_n XC 1 rfl dX8_putBack_54 rfl ?_
  refine V_iload_n XC 3 rfl dX8_putBack_55 rfl ?_
  refine V_callV (rest := _) (q0 := 0) XC (c_X8_y l D kI kC _ _ _ _ _ _ _ _ _ _ _ _ _ k p (by omega) (by omega)) gX8_putBack_X8_y rfl kmX8_y ⟨⟨Nat.le_of_ble_eq_true rfl, Nat.le_of_ble_eq_true rfl⟩, Nat.le_of_ble_eq_true rfl, Nat.le_of_ble_eq_true rfl⟩ ⟨rfl, rfl⟩ rfl rfl (Nat.le_of_ble_eq_true rfl) [0, 1] rfl rfl (fun _ => rfl) rfl rfl dX8_putBack_56 (kR_of rfl (fun r56 hq56 => ?_))
  subst hq56
  rw [hx1.2]
  refine V_icmp_ne XC 66 dX8_putBack_59 (by decide) ⟨by omega, by omega⟩ ⟨by omega, by omega⟩ (fun h59 => ?_) (fun h59 => ?_)
  · skip
    refine V_iconst XC dX8_putBack_66 ?_
    refine V_istore_n XC 2 rfl dX8_putBack_67 (by decide) ?_
    dsimp only [List.set]
    refine V_iinc XC dX8_putBack_68 rfl (by decide) ?_
    dsimp only [List.set]
    refine V_goto XC 20 dX8_putBack_71 (by decide) ?_
    first
    | (refine ih20 (p + 1, true) ⟨by (try dsimp only); omega, fun _ => ⟨(hw1 h29).1, fun i hi => ?_⟩, fun z => absurd (show true = false from z) (by decide)⟩ (by (try dsimp only); omega)
       dsimp only at hi
       by_cases q : i = p
       · subst q; exact ⟨by omega, by omega⟩
       · exact (hw1 h29).2 i (by omega))
    | (refine ih20 (p + 1, false) ⟨by (try dsimp only); omega, fun z => absurd (show false = true from z) (by decide), fun _ z => ?_⟩ (by (try dsimp only); omega)
       have h99 := ptsOf_at (X := PX) (Y := PY) (i := p) (n := po) (by omega)
       rw [z, pxy_at (t := skR G k) (by omega)] at h99
       simp at h99
       omega)
  refine V_iconst XC dX8_putBack_62 ?_
  refine V_goto XC 67 dX8_putBack_63 (by decide) ?_
  refine V_istore_n XC 2 rfl dX8_putBack_67 (by decide) ?_
  dsimp only [List.set]
  refine V_iinc XC dX8_putBack_68 rfl (by decide) ?_
  dsimp only [List.set]
  refine V_goto XC 20 dX8_putBack_71 (by decide) ?_
  first
  | (refine ih20 (p + 1, true) ⟨by (try dsimp only); omega, fun _ => ⟨(hw1 h29).1, fun i hi => ?_⟩, fun z => absurd (show true = false from z) (by decide)⟩ (by (try dsimp only); omega)
     dsimp only at hi
     by_cases q : i = p
     · subst q; exact ⟨by omega, by omega⟩
     · exact (hw1 h29).2 i (by omega))
  | (refine ih20 (p + 1, false) ⟨by (try dsimp only); omega, fun z => absurd (show false = true from z) (by decide), fun _ z => ?_⟩ (by (try dsimp only); omega)
     have h99 := ptsOf_at (X := PX) (Y := PY) (i := p) (n := po) (by omega)
     rw [z, pxy_at (t := skR G k) (by omega)] at h99
     simp at h99
     omega)

end REFD
