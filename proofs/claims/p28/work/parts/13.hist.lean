/-! the class's History: a ring of seven rows -/
section HIST
def nx (a : Nat) : Nat := if a = 6 then 0 else a + 1
def pv (a : Nat) : Nat := if a = 0 then 6 else a - 1

set_option maxRecDepth 100000 in
set_option maxHeartbeats 4000000 in
theorem c_X0_record (l : Launch) (D : va_G) (kI kC : ClassId) (h0 h1 h2 : Nat) (past : Nat) (future : Int) (a : Nat) (N HS : Nat → Int) (s0 s1 : Nat) (sn : Int) (F : Nat → Int) (ha : a < 7) (hp : past ≤ 6)  : Con l yX0_record wsX0_record { frames := 1, cells := 0, slots := 0, locals := 40 } D kI kC [.ref h0, .ref s0] (hiW kI h0 h1 h2 (past : Int) future (a : Int) N HS ++ shW kI s0 s1 sn F) (σ := Unit) (qV (fun u => True)) (fun u => hiW kI h0 h1 h2 ((min (past + 1) 6 : Nat) : Int) 0 ((nx a : Nat) : Int) (upz N (nx a) sn) (cpz F HS 0 (800 * nx a) 800) ++ shW kI s0 s1 sn F) := by
  refine Con.of (cc := cX0_record) (maxL := 2) (ret := none) (by decide +kernel) rfl (List.forall_mem_cons.mpr ⟨rfl, List.forall_mem_cons.mpr ⟨rfl, fun _ h => absurd h List.not_mem_nil⟩⟩) (Nat.le_of_ble_eq_true rfl) ?_
  intro pV eV sV mV bV tV cV AV XC hrV
  have XC : Cx pV _ sV mV _ tV cV cX0_record 2 RX0 wsX0_record AV D kI kC := XC
  change VV _ _ _ _ _ _ _ _ _ _ _ _ _ _ _ _ _ [some (.ref h0), some (.ref s0)] _ _
  dsimp only [hiW, shW, List.cons_append, List.nil_append]
  refine V_aload_n XC 0 rfl dX0_record_0 rfl ?_
  refine V_aload_n XC 0 rfl dX0_record_1 rfl ?_
  refine V_get XC 2 flX0_record_18 0 rfl rfl dX0_record_2 ?_
  refine V_bipush XC dX0_record_5 (by decide) ?_
  refine V_icmp_ne XC 14 dX0_record_7 (by decide) ⟨by omega, by omega⟩ ⟨by decide, by decide⟩ (fun h7 => ?_) (fun h7 => ?_)
  · skip
    refine V_aload_n XC 0 rfl dX0_record_14 rfl ?_
    refine V_get XC 2 flX0_record_18 0 rfl rfl dX0_record_15 ?_
    refine V_iconst XC dX0_record_18 ?_
    refine V_iadd XC dX0_record_19 ?_
    have hnx : nx a < 7 := by unfold nx; split <;> omega
    refine V_top (y := ((nx a : Nat) : Int)) (by unfold nx; split <;> omega) ?_
    refine V_putI XC 2 flX0_record_18 fpX0 pdX0_2 rfl 0 rfl (Nat.le_of_ble_eq_true rfl) dX0_record_20 ?_
    dsimp only [List.set]
    refine V_aload_n XC 0 rfl dX0_record_23 rfl ?_
    refine V_aload_n XC 0 rfl dX0_record_24 rfl ?_
    refine V_get XC 0 flX0_record_22 0 rfl rfl dX0_record_25 ?_
    refine V_iconst XC dX0_record_28 ?_
    refine V_iadd XC dX0_record_29 ?_
    refine V_bipush XC dX0_record_30 (by decide) ?_
    refine V_mmin XC mmX0_record_25 ⟨by omega, by omega⟩ ⟨by decide, by decide⟩ (Nat.le_of_ble_eq_true rfl) (Nat.le_of_ble_eq_true rfl) (Nat.le_of_ble_eq_true rfl) (Nat.le_of_ble_eq_true rfl) dX0_record_32 ?_
    refine V_top (y := ((min (past + 1) 6 : Nat) : Int)) (by omega) ?_
    refine V_putI XC 0 flX0_record_22 fpX0 pdX0_0 rfl 0 rfl (Nat.le_of_ble_eq_true rfl) dX0_record_35 ?_
    dsimp only [List.set]
    refine V_aload_n XC 0 rfl dX0_record_38 rfl ?_
    refine V_iconst XC dX0_record_39 ?_
    refine V_putI XC 1 flX0_record_31 fpX0 pdX0_1 rfl 0 rfl (Nat.le_of_ble_eq_true rfl) dX0_record_40 ?_
    dsimp only [List.set]
    refine V_aload_n XC 0 rfl dX0_record_43 rfl ?_
    refine V_get XC 3 flX0_record_11 0 rfl rfl dX0_record_44 ?_
    refine V_aload_n XC 0 rfl dX0_record_47 rfl ?_
    refine V_get XC 2 flX0_record_18 0 rfl rfl dX0_record_48 ?_
    refine V_aload_n XC 1 rfl dX0_record_51 rfl ?_
    refine V_get XC 0 flX0_record_34 3 rfl rfl dX0_record_52 ?_
    refine V_iast XC (nx a) 1 rfl (by omega) (by omega) (by decide) dX0_record_55 ?_
    dsimp only [List.set]
    refine V_aload_n XC 1 rfl dX0_record_56 rfl ?_
    refine V_get XC 1 flX0_record_39 3 rfl rfl dX0_record_57 ?_
    refine V_iconst XC dX0_record_60 ?_
    refine V_aload_n XC 0 rfl dX0_record_61 rfl ?_
    refine V_get XC 4 flX0_record_15 0 rfl rfl dX0_record_62 ?_
    refine V_aload_n XC 0 rfl dX0_record_65 rfl ?_
    refine V_get XC 2 flX0_record_18 0 rfl rfl dX0_record_66 ?_
    refine V_sipush XC dX0_record_69 (by decide) ?_
    refine V_imul XC dX0_record_72 ?_
    refine V_sipush XC dX0_record_73 (by decide) ?_
    refine V_copy XC (0) (800 * nx a) (800) mcX0_record_42 4 2 rfl rfl rfl (by omega) rfl (by omega) (by omega) (by decide) (by decide) (Nat.le_of_ble_eq_true rfl) (Nat.le_of_ble_eq_true rfl) dX0_record_76 ?_
    dsimp only [List.set]
    refine V_vret XC (()) hrV rfl dX0_record_79 ?_
    trivial
  refine V_iconst XC dX0_record_10 ?_
  refine V_goto XC 20 dX0_record_11 (by decide) ?_
  have hnx : nx a < 7 := by unfold nx; split <;> omega
  refine V_top (y := ((nx a : Nat) : Int)) (by unfold nx; split <;> omega) ?_
  refine V_putI XC 2 flX0_record_18 fpX0 pdX0_2 rfl 0 rfl (Nat.le_of_ble_eq_true rfl) dX0_record_20 ?_
  dsimp only [List.set]
  refine V_aload_n XC 0 rfl dX0_record_23 rfl ?_
  refine V_aload_n XC 0 rfl dX0_record_24 rfl ?_
  refine V_get XC 0 flX0_record_22 0 rfl rfl dX0_record_25 ?_
  refine V_iconst XC dX0_record_28 ?_
  refine V_iadd XC dX0_record_29 ?_
  refine V_bipush XC dX0_record_30 (by decide) ?_
  refine V_mmin XC mmX0_record_25 ⟨by omega, by omega⟩ ⟨by decide, by decide⟩ (Nat.le_of_ble_eq_true rfl) (Nat.le_of_ble_eq_true rfl) (Nat.le_of_ble_eq_true rfl) (Nat.le_of_ble_eq_true rfl) dX0_record_32 ?_
  refine V_top (y := ((min (past + 1) 6 : Nat) : Int)) (by omega) ?_
  refine V_putI XC 0 flX0_record_22 fpX0 pdX0_0 rfl 0 rfl (Nat.le_of_ble_eq_true rfl) dX0_record_35 ?_
  dsimp only [List.set]
  refine V_aload_n XC 0 rfl dX0_record_38 rfl ?_
  refine V_iconst XC dX0_record_39 ?_
  refine V_putI XC 1 flX0_record_31 fpX0 pdX0_1 rfl 0 rfl (Nat.le_of_ble_eq_true rfl) dX0_record_40 ?_
  dsimp only [List.set]
  refine V_aload_n XC 0 rfl dX0_record_43 rfl ?_
  refine V_get XC 3 flX0_record_11 0 rfl rfl dX0_record_44 ?_
  refine V_aload_n XC 0 rfl dX0_record_47 rfl ?_
  refine V_get XC 2 flX0_record_18 0 rfl rfl dX0_record_48 ?_
  refine V_aload_n XC 1 rfl dX0_record_51 rfl ?_
  refine V_get XC 0 flX0_record_34 3 rfl rfl dX0_record_52 ?_
  refine V_iast XC (nx a) 1 rfl (by omega) (by omega) (by decide) dX0_record_55 ?_
  dsimp only [List.set]
  refine V_aload_n XC 1 rfl dX0_record_56 rfl ?_
  refine V_get XC 1 flX0_record_39 3 rfl rfl dX0_record_57 ?_
  refine V_iconst XC dX0_record_60 ?_
  refine V_aload_n XC 0 rfl dX0_record_61 rfl ?_
  refine V_get XC 4 flX0_record_15 0 rfl rfl dX0_record_62 ?_
  refine V_aload_n XC 0 rfl dX0_record_65 rfl ?_
  refine V_get XC 2 flX0_record_18 0 rfl rfl dX0_record_66 ?_
  refine V_sipush XC dX0_record_69 (by decide) ?_
  refine V_imul XC dX0_record_72 ?_
  refine V_sipush XC dX0_record_73 (by decide) ?_
  refine V_copy XC (0) (800 * nx a) (800) mcX0_record_42 4 2 rfl rfl rfl (by omega) rfl (by omega) (by omega) (by decide) (by decide) (Nat.le_of_ble_eq_true rfl) (Nat.le_of_ble_eq_true rfl) dX0_record_76 ?_
  dsimp only [List.set]
  refine V_vret XC (()) hrV rfl dX0_record_79 ?_
  trivial

set_option maxRecDepth 100000 in
set_option maxHeartbeats 4000000 in
theorem c_X0_show (l : Launch) (D : va_G) (kI kC : ClassId) (h0 h1 h2 : Nat) (past : Nat) (future : Int) (a : Nat) (N HS : Nat → Int) (s0 s1 : Nat) (sn : Int) (F : Nat → Int) (ha : a < 7) (hp : past ≤ 6)  : Con l yX0_show wsX0_show { frames := 1, cells := 0, slots := 0, locals := 40 } D kI kC [.ref h0, .ref s0] (hiW kI h0 h1 h2 (past : Int) future (a : Int) N HS ++ shW kI s0 s1 sn F) (σ := Unit) (qV (fun u => True)) (fun u => hiW kI h0 h1 h2 (past : Int) future (a : Int) N HS ++ shW kI s0 s1 (N a) (cpz HS F (800 * a) 0 800)) := by
  refine Con.of (cc := cX0_show) (maxL := 2) (ret := none) (by decide +kernel) rfl (List.forall_mem_cons.mpr ⟨rfl, List.forall_mem_cons.mpr ⟨rfl, fun _ h => absurd h List.not_mem_nil⟩⟩) (Nat.le_of_ble_eq_true rfl) ?_
  intro pV eV sV mV bV tV cV AV XC hrV
  have XC : Cx pV _ sV mV _ tV cV cX0_show 2 RX0 wsX0_show AV D kI kC := XC
  change VV _ _ _ _ _ _ _ _ _ _ _ _ _ _ _ _ _ [some (.ref h0), some (.ref s0)] _ _
  dsimp only [hiW, shW, List.cons_append, List.nil_append]
  refine V_aload_n XC 1 rfl dX0_show_0 rfl ?_
  refine V_aload_n XC 0 rfl dX0_show_1 rfl ?_
  refine V_get XC 3 flX0_show_11 0 rfl rfl dX0_show_2 ?_
  refine V_aload_n XC 0 rfl dX0_show_5 rfl ?_
  refine V_get XC 2 flX0_show_18 0 rfl rfl dX0_show_6 ?_
  refine V_iald XC (a) 1 rfl (by omega) (by omega) (by decide) dX0_show_9 ?_
  refine V_putI XC 0 flX0_show_34 fpX2 pdX2_0 rfl 3 rfl (Nat.le_of_ble_eq_true rfl) dX0_show_10 ?_
  dsimp only [List.set]
  refine V_aload_n XC 0 rfl dX0_show_13 rfl ?_
  refine V_get XC 4 flX0_show_15 0 rfl rfl dX0_show_14 ?_
  refine V_aload_n XC 0 rfl dX0_show_17 rfl ?_
  refine V_get XC 2 flX0_show_18 0 rfl rfl dX0_show_18 ?_
  refine V_sipush XC dX0_show_21 (by decide) ?_
  refine V_imul XC dX0_show_24 ?_
  refine V_aload_n XC 1 rfl dX0_show_25 rfl ?_
  refine V_get XC 1 flX0_show_39 3 rfl rfl dX0_show_26 ?_
  refine V_iconst XC dX0_show_29 ?_
  refine V_sipush XC dX0_show_30 (by decide) ?_
  refine V_copy XC (800 * a) (0) (800) mcX0_show_42 2 4 rfl rfl (by omega) rfl rfl (by omega) (by omega) (by decide) (by decide) (Nat.le_of_ble_eq_true rfl) (Nat.le_of_ble_eq_true rfl) dX0_show_33 ?_
  dsimp only [List.set]
  refine V_vret XC (()) hrV rfl dX0_show_36 ?_
  trivial

set_option maxRecDepth 100000 in
set_option maxHeartbeats 4000000 in
theorem c_X0_stepBack (l : Launch) (D : va_G) (kI kC : ClassId) (h0 h1 h2 : Nat) (past : Nat) (future : Int) (a : Nat) (N HS : Nat → Int) (s0 s1 : Nat) (sn : Int) (F : Nat → Int) (ha : a < 7) (hp : past ≤ 6) (h0p : 0 < past) : Con l yX0_stepBack wsX0_stepBack { frames := 2, cells := 0, slots := 0, locals := 61 } D kI kC [.ref h0, .ref s0] (hiW kI h0 h1 h2 (past : Int) future (a : Int) N HS ++ shW kI s0 s1 sn F) (σ := Unit) (qV (fun u => True)) (fun u => hiW kI h0 h1 h2 ((past - 1 : Nat) : Int) (future + 1) ((pv a : Nat) : Int) N HS ++ shW kI s0 s1 (N (pv a)) (cpz HS F (800 * pv a) 0 800)) := by
  refine Con.of (cc := cX0_stepBack) (maxL := 2) (ret := none) (by decide +kernel) rfl (List.forall_mem_cons.mpr ⟨rfl, List.forall_mem_cons.mpr ⟨rfl, fun _ h => absurd h List.not_mem_nil⟩⟩) (Nat.le_of_ble_eq_true rfl) ?_
  intro pV eV sV mV bV tV cV AV XC hrV
  have XC : Cx pV _ sV mV _ tV cV cX0_stepBack 2 RX0 wsX0_stepBack AV D kI kC := XC
  change VV _ _ _ _ _ _ _ _ _ _ _ _ _ _ _ _ _ [some (.ref h0), some (.ref s0)] _ _
  dsimp only [hiW, shW, List.cons_append, List.nil_append]
  refine V_aload_n XC 0 rfl dX0_stepBack_0 rfl ?_
  refine V_get XC 0 flX0_stepBack_22 0 rfl rfl dX0_stepBack_1 ?_
  refine V_if_le XC 54 dX0_stepBack_4 (by decide) ⟨by omega, by omega⟩ (fun h4 => ?_) (fun h4 => ?_)
  · skip
    omega
  refine V_aload_n XC 0 rfl dX0_stepBack_7 rfl ?_
  refine V_aload_n XC 0 rfl dX0_stepBack_8 rfl ?_
  refine V_get XC 2 flX0_stepBack_18 0 rfl rfl dX0_stepBack_9 ?_
  refine V_if_ne XC 20 dX0_stepBack_12 (by decide) ⟨by omega, by omega⟩ (fun h12 => ?_) (fun h12 => ?_)
  · skip
    refine V_aload_n XC 0 rfl dX0_stepBack_20 rfl ?_
    refine V_get XC 2 flX0_stepBack_18 0 rfl rfl dX0_stepBack_21 ?_
    refine V_iconst XC dX0_stepBack_24 ?_
    refine V_isub XC dX0_stepBack_25 ?_
    have hpv : pv a < 7 := by unfold pv; split <;> omega
    refine V_top (y := ((pv a : Nat) : Int)) (by unfold pv; split <;> omega) ?_
    refine V_putI XC 2 flX0_stepBack_18 fpX0 pdX0_2 rfl 0 rfl (Nat.le_of_ble_eq_true rfl) dX0_stepBack_26 ?_
    dsimp only [List.set]
    refine V_aload_n XC 0 rfl dX0_stepBack_29 rfl ?_
    refine V_dup XC dX0_stepBack_30 rfl ?_
    refine V_get XC 0 flX0_stepBack_22 0 rfl rfl dX0_stepBack_31 ?_
    refine V_iconst XC dX0_stepBack_34 ?_
    refine V_isub XC dX0_stepBack_35 ?_
    refine V_top (y := ((past - 1 : Nat) : Int)) (by omega) ?_
    refine V_putI XC 0 flX0_stepBack_22 fpX0 pdX0_0 rfl 0 rfl (Nat.le_of_ble_eq_true rfl) dX0_stepBack_36 ?_
    dsimp only [List.set]
    refine V_aload_n XC 0 rfl dX0_stepBack_39 rfl ?_
    refine V_dup XC dX0_stepBack_40 rfl ?_
    refine V_get XC 1 flX0_stepBack_31 0 rfl rfl dX0_stepBack_41 ?_
    refine V_iconst XC dX0_stepBack_44 ?_
    refine V_iadd XC dX0_stepBack_45 ?_
    refine V_putI XC 1 flX0_stepBack_31 fpX0 pdX0_1 rfl 0 rfl (Nat.le_of_ble_eq_true rfl) dX0_stepBack_46 ?_
    dsimp only [List.set]
    refine V_aload_n XC 0 rfl dX0_stepBack_49 rfl ?_
    refine V_aload_n XC 1 rfl dX0_stepBack_50 rfl ?_
    refine V_callV (rest := _) (q0 := 0) XC (c_X0_show l D kI kC _ _ _ _ _ _ _ _ _ _ _ _ (by omega) (by omega) ) gX0_stepBack_X0_show rfl kmX0_show ⟨⟨Nat.le_of_ble_eq_true rfl, Nat.le_of_ble_eq_true rfl⟩, Nat.le_of_ble_eq_true rfl, Nat.le_of_ble_eq_true rfl⟩ ⟨rfl, rfl⟩ rfl rfl (Nat.le_of_ble_eq_true rfl) [0, 1, 2, 3, 4] rfl rfl (fun _ => rfl) rfl rfl dX0_stepBack_51 (kV_of (fun u51 hq51 => ?_))
    dsimp only [putW, List.set, Option.toList, List.cons_append, List.nil_append, padO, mdO, shW, trW, txW, hiW, liW, woW, taW]
    try dsimp only at hq51
    refine V_vret XC (()) hrV rfl dX0_stepBack_54 ?_
    trivial
  refine V_bipush XC dX0_stepBack_15 (by decide) ?_
  refine V_goto XC 26 dX0_stepBack_17 (by decide) ?_
  have hpv : pv a < 7 := by unfold pv; split <;> omega
  refine V_top (y := ((pv a : Nat) : Int)) (by unfold pv; split <;> omega) ?_
  refine V_putI XC 2 flX0_stepBack_18 fpX0 pdX0_2 rfl 0 rfl (Nat.le_of_ble_eq_true rfl) dX0_stepBack_26 ?_
  dsimp only [List.set]
  refine V_aload_n XC 0 rfl dX0_stepBack_29 rfl ?_
  refine V_dup XC dX0_stepBack_30 rfl ?_
  refine V_get XC 0 flX0_stepBack_22 0 rfl rfl dX0_stepBack_31 ?_
  refine V_iconst XC dX0_stepBack_34 ?_
  refine V_isub XC dX0_stepBack_35 ?_
  refine V_top (y := ((past - 1 : Nat) : Int)) (by omega) ?_
  refine V_putI XC 0 flX0_stepBack_22 fpX0 pdX0_0 rfl 0 rfl (Nat.le_of_ble_eq_true rfl) dX0_stepBack_36 ?_
  dsimp only [List.set]
  refine V_aload_n XC 0 rfl dX0_stepBack_39 rfl ?_
  refine V_dup XC dX0_stepBack_40 rfl ?_
  refine V_get XC 1 flX0_stepBack_31 0 rfl rfl dX0_stepBack_41 ?_
  refine V_iconst XC dX0_stepBack_44 ?_
  refine V_iadd XC dX0_stepBack_45 ?_
  refine V_putI XC 1 flX0_stepBack_31 fpX0 pdX0_1 rfl 0 rfl (Nat.le_of_ble_eq_true rfl) dX0_stepBack_46 ?_
  dsimp only [List.set]
  refine V_aload_n XC 0 rfl dX0_stepBack_49 rfl ?_
  refine V_aload_n XC 1 rfl dX0_stepBack_50 rfl ?_
  refine V_callV (rest := _) (q0 := 0) XC (c_X0_show l D kI kC _ _ _ _ _ _ _ _ _ _ _ _ (by omega) (by omega) ) gX0_stepBack_X0_show rfl kmX0_show ⟨⟨Nat.le_of_ble_eq_true rfl, Nat.le_of_ble_eq_true rfl⟩, Nat.le_of_ble_eq_true rfl, Nat.le_of_ble_eq_true rfl⟩ ⟨rfl, rfl⟩ rfl rfl (Nat.le_of_ble_eq_true rfl) [0, 1, 2, 3, 4] rfl rfl (fun _ => rfl) rfl rfl dX0_stepBack_51 (kV_of (fun u51 hq51 => ?_))
  dsimp only [putW, List.set, Option.toList, List.cons_append, List.nil_append, padO, mdO, shW, trW, txW, hiW, liW, woW, taW]
  try dsimp only at hq51
  refine V_vret XC (()) hrV rfl dX0_stepBack_54 ?_
  trivial

set_option maxRecDepth 100000 in
set_option maxHeartbeats 4000000 in
theorem c_X0_stepOn (l : Launch) (D : va_G) (kI kC : ClassId) (h0 h1 h2 : Nat) (past : Nat) (future : Nat) (a : Nat) (N HS : Nat → Int) (s0 s1 : Nat) (sn : Int) (F : Nat → Int) (ha : a < 7) (hp : past ≤ 5) (hf0 : 0 < future) (hf : future ≤ 6) : Con l yX0_stepOn wsX0_stepOn { frames := 2, cells := 0, slots := 0, locals := 61 } D kI kC [.ref h0, .ref s0] (hiW kI h0 h1 h2 (past : Int) (future : Int) (a : Int) N HS ++ shW kI s0 s1 sn F) (σ := Unit) (qV (fun u => True)) (fun u => hiW kI h0 h1 h2 ((past + 1 : Nat) : Int) ((future - 1 : Nat) : Int) ((nx a : Nat) : Int) N HS ++ shW kI s0 s1 (N (nx a)) (cpz HS F (800 * nx a) 0 800)) := by
  refine Con.of (cc := cX0_stepOn) (maxL := 2) (ret := none) (by decide +kernel) rfl (List.forall_mem_cons.mpr ⟨rfl, List.forall_mem_cons.mpr ⟨rfl, fun _ h => absurd h List.not_mem_nil⟩⟩) (Nat.le_of_ble_eq_true rfl) ?_
  intro pV eV sV mV bV tV cV AV XC hrV
  have XC : Cx pV _ sV mV _ tV cV cX0_stepOn 2 RX0 wsX0_stepOn AV D kI kC := XC
  change VV _ _ _ _ _ _ _ _ _ _ _ _ _ _ _ _ _ [some (.ref h0), some (.ref s0)] _ _
  dsimp only [hiW, shW, List.cons_append, List.nil_append]
  refine V_aload_n XC 0 rfl dX0_stepOn_0 rfl ?_
  refine V_get XC 1 flX0_stepOn_31 0 rfl rfl dX0_stepOn_1 ?_
  refine V_if_le XC 55 dX0_stepOn_4 (by decide) ⟨by omega, by omega⟩ (fun h4 => ?_) (fun h4 => ?_)
  · skip
    omega
  refine V_aload_n XC 0 rfl dX0_stepOn_7 rfl ?_
  refine V_aload_n XC 0 rfl dX0_stepOn_8 rfl ?_
  refine V_get XC 2 flX0_stepOn_18 0 rfl rfl dX0_stepOn_9 ?_
  refine V_bipush XC dX0_stepOn_12 (by decide) ?_
  refine V_icmp_ne XC 21 dX0_stepOn_14 (by decide) ⟨by omega, by omega⟩ ⟨by decide, by decide⟩ (fun h14 => ?_) (fun h14 => ?_)
  · skip
    refine V_aload_n XC 0 rfl dX0_stepOn_21 rfl ?_
    refine V_get XC 2 flX0_stepOn_18 0 rfl rfl dX0_stepOn_22 ?_
    refine V_iconst XC dX0_stepOn_25 ?_
    refine V_iadd XC dX0_stepOn_26 ?_
    have hnx : nx a < 7 := by unfold nx; split <;> omega
    refine V_top (y := ((nx a : Nat) : Int)) (by unfold nx; split <;> omega) ?_
    refine V_putI XC 2 flX0_stepOn_18 fpX0 pdX0_2 rfl 0 rfl (Nat.le_of_ble_eq_true rfl) dX0_stepOn_27 ?_
    dsimp only [List.set]
    refine V_aload_n XC 0 rfl dX0_stepOn_30 rfl ?_
    refine V_dup XC dX0_stepOn_31 rfl ?_
    refine V_get XC 0 flX0_stepOn_22 0 rfl rfl dX0_stepOn_32 ?_
    refine V_iconst XC dX0_stepOn_35 ?_
    refine V_iadd XC dX0_stepOn_36 ?_
    refine V_top (y := ((past + 1 : Nat) : Int)) (by omega) ?_
    refine V_putI XC 0 flX0_stepOn_22 fpX0 pdX0_0 rfl 0 rfl (Nat.le_of_ble_eq_true rfl) dX0_stepOn_37 ?_
    dsimp only [List.set]
    refine V_aload_n XC 0 rfl dX0_stepOn_40 rfl ?_
    refine V_dup XC dX0_stepOn_41 rfl ?_
    refine V_get XC 1 flX0_stepOn_31 0 rfl rfl dX0_stepOn_42 ?_
    refine V_iconst XC dX0_stepOn_45 ?_
    refine V_isub XC dX0_stepOn_46 ?_
    refine V_top (y := ((future - 1 : Nat) : Int)) (by omega) ?_
    refine V_putI XC 1 flX0_stepOn_31 fpX0 pdX0_1 rfl 0 rfl (Nat.le_of_ble_eq_true rfl) dX0_stepOn_47 ?_
    dsimp only [List.set]
    refine V_aload_n XC 0 rfl dX0_stepOn_50 rfl ?_
    refine V_aload_n XC 1 rfl dX0_stepOn_51 rfl ?_
    refine V_callV (rest := _) (q0 := 0) XC (c_X0_show l D kI kC _ _ _ _ _ _ _ _ _ _ _ _ (by omega) (by omega) ) gX0_stepOn_X0_show rfl kmX0_show ⟨⟨Nat.le_of_ble_eq_true rfl, Nat.le_of_ble_eq_true rfl⟩, Nat.le_of_ble_eq_true rfl, Nat.le_of_ble_eq_true rfl⟩ ⟨rfl, rfl⟩ rfl rfl (Nat.le_of_ble_eq_true rfl) [0, 1, 2, 3, 4] rfl rfl (fun _ => rfl) rfl rfl dX0_stepOn_52 (kV_of (fun u52 hq52 => ?_))
    dsimp only [putW, List.set, Option.toList, List.cons_append, List.nil_append, padO, mdO, shW, trW, txW, hiW, liW, woW, taW]
    try dsimp only at hq52
    refine V_vret XC (()) hrV rfl dX0_stepOn_55 ?_
    trivial
  refine V_iconst XC dX0_stepOn_17 ?_
  refine V_goto XC 27 dX0_stepOn_18 (by decide) ?_
  have hnx : nx a < 7 := by unfold nx; split <;> omega
  refine V_top (y := ((nx a : Nat) : Int)) (by unfold nx; split <;> omega) ?_
  refine V_putI XC 2 flX0_stepOn_18 fpX0 pdX0_2 rfl 0 rfl (Nat.le_of_ble_eq_true rfl) dX0_stepOn_27 ?_
  dsimp only [List.set]
  refine V_aload_n XC 0 rfl dX0_stepOn_30 rfl ?_
  refine V_dup XC dX0_stepOn_31 rfl ?_
  refine V_get XC 0 flX0_stepOn_22 0 rfl rfl dX0_stepOn_32 ?_
  refine V_iconst XC dX0_stepOn_35 ?_
  refine V_iadd XC dX0_stepOn_36 ?_
  refine V_top (y := ((past + 1 : Nat) : Int)) (by omega) ?_
  refine V_putI XC 0 flX0_stepOn_22 fpX0 pdX0_0 rfl 0 rfl (Nat.le_of_ble_eq_true rfl) dX0_stepOn_37 ?_
  dsimp only [List.set]
  refine V_aload_n XC 0 rfl dX0_stepOn_40 rfl ?_
  refine V_dup XC dX0_stepOn_41 rfl ?_
  refine V_get XC 1 flX0_stepOn_31 0 rfl rfl dX0_stepOn_42 ?_
  refine V_iconst XC dX0_stepOn_45 ?_
  refine V_isub XC dX0_stepOn_46 ?_
  refine V_top (y := ((future - 1 : Nat) : Int)) (by omega) ?_
  refine V_putI XC 1 flX0_stepOn_31 fpX0 pdX0_1 rfl 0 rfl (Nat.le_of_ble_eq_true rfl) dX0_stepOn_47 ?_
  dsimp only [List.set]
  refine V_aload_n XC 0 rfl dX0_stepOn_50 rfl ?_
  refine V_aload_n XC 1 rfl dX0_stepOn_51 rfl ?_
  refine V_callV (rest := _) (q0 := 0) XC (c_X0_show l D kI kC _ _ _ _ _ _ _ _ _ _ _ _ (by omega) (by omega) ) gX0_stepOn_X0_show rfl kmX0_show ⟨⟨Nat.le_of_ble_eq_true rfl, Nat.le_of_ble_eq_true rfl⟩, Nat.le_of_ble_eq_true rfl, Nat.le_of_ble_eq_true rfl⟩ ⟨rfl, rfl⟩ rfl rfl (Nat.le_of_ble_eq_true rfl) [0, 1, 2, 3, 4] rfl rfl (fun _ => rfl) rfl rfl dX0_stepOn_52 (kV_of (fun u52 hq52 => ?_))
  dsimp only [putW, List.set, Option.toList, List.cons_append, List.nil_append, padO, mdO, shW, trW, txW, hiW, liW, woW, taW]
  try dsimp only at hq52
  refine V_vret XC (()) hrV rfl dX0_stepOn_55 ?_
  trivial

end HIST
