/-! the reference: reading the text -/
section REFK

set_option maxRecDepth 100000 in
set_option maxHeartbeats 4000000 in
theorem c_X8_isAt (l : Launch) (D : va_G) (kI kC : ClassId) (b : Nat → Nat) (gp : Int) (ke : Nat) (un : Nat) (bu : Nat) (ty : Nat) (pc : Nat) (gd : Bool) (rd : Int) (po : Int) (ln : Int) (wd : Int) (T : Nat → Int) (h100 : ty ≤ 100) (hT : ∀ i, i < ty → 0 ≤ T i ∧ T i < 65536) (hp : pc ≤ ty) (lo up : Int) (hlo : IR lo) (hup : IR up) : ConR l yX8_isAt wsX8_isAt { frames := 0, cells := 0, slots := 0, locals := 0 } D kI kC [.ref (b 0), .int (iI lo), .int (iI up)] (mdO b gp (ke : Int) (un : Int) (bu : Int) (ty : Int) (pc : Int) gd rd po ln wd :: [(b 6, IA kC 100 T)]) (fun r => r = bI (decide (pc < ty ∧ lo ≤ T pc ∧ T pc ≤ up))) := by
  refine Con.of (cc := cX8_isAt) (maxL := 3) (ret := (some .boolean)) (by decide +kernel) rfl (List.forall_mem_cons.mpr ⟨rfl, List.forall_mem_cons.mpr ⟨rfl, List.forall_mem_cons.mpr ⟨rfl, fun _ h => absurd h List.not_mem_nil⟩⟩⟩) (Nat.le_of_ble_eq_true rfl) ?_
  intro pV eV sV mV bV tV cV AV XC hrV
  have XC : Cx pV _ sV mV _ tV cV cX8_isAt 3 RX8 wsX8_isAt AV D kI kC := XC
  change VV _ _ _ _ _ _ _ _ _ _ _ _ _ _ _ _ _ [some (.ref (b 0)), some (.int (iI lo)), some (.int (iI up))] _ _
  dsimp only [mdO, List.cons_append, List.nil_append]
  refine V_aload_n XC 0 rfl dX8_isAt_0 rfl ?_
  refine V_get XC 11 flX8_isAt_110 0 rfl rfl dX8_isAt_1 ?_
  refine V_aload_n XC 0 rfl dX8_isAt_4 rfl ?_
  refine V_get XC 9 flX8_isAt_107 0 rfl rfl dX8_isAt_5 ?_
  refine V_icmp_ge XC 41 dX8_isAt_8 (by decide) ⟨by omega, by omega⟩ ⟨by omega, by omega⟩ (fun h8 => ?_) (fun h8 => ?_)
  · skip
    refine V_iconst XC dX8_isAt_41 ?_
    refine V_zret (r := false) XC () hrV rfl dX8_isAt_42 ?_
    try dsimp only
    first | rfl | exact congrArg bI (decide_eq_true (by omega)).symm | exact congrArg bI (decide_eq_false (by omega)).symm
  have ht := hT pc (by omega)
  refine V_aload_n XC 0 rfl dX8_isAt_11 rfl ?_
  refine V_get XC 10 flX8_isAt_29 0 rfl rfl dX8_isAt_12 ?_
  refine V_aload_n XC 0 rfl dX8_isAt_15 rfl ?_
  refine V_get XC 11 flX8_isAt_110 0 rfl rfl dX8_isAt_16 ?_
  refine V_cald XC (pc) 1 rfl (by omega) (by omega) (by decide) dX8_isAt_19 ?_
  refine V_iload_n XC 1 rfl dX8_isAt_20 rfl ?_
  refine V_icmp_lt XC 41 dX8_isAt_21 (by decide) ⟨by omega, by omega⟩ hlo (fun h21 => ?_) (fun h21 => ?_)
  · skip
    refine V_iconst XC dX8_isAt_41 ?_
    refine V_zret (r := false) XC () hrV rfl dX8_isAt_42 ?_
    try dsimp only
    first | rfl | exact congrArg bI (decide_eq_true (by omega)).symm | exact congrArg bI (decide_eq_false (by omega)).symm
  refine V_aload_n XC 0 rfl dX8_isAt_24 rfl ?_
  refine V_get XC 10 flX8_isAt_29 0 rfl rfl dX8_isAt_25 ?_
  refine V_aload_n XC 0 rfl dX8_isAt_28 rfl ?_
  refine V_get XC 11 flX8_isAt_110 0 rfl rfl dX8_isAt_29 ?_
  refine V_cald XC (pc) 1 rfl (by omega) (by omega) (by decide) dX8_isAt_32 ?_
  refine V_iload_n XC 2 rfl dX8_isAt_33 rfl ?_
  refine V_icmp_gt XC 41 dX8_isAt_34 (by decide) ⟨by omega, by omega⟩ hup (fun h34 => ?_) (fun h34 => ?_)
  · skip
    refine V_iconst XC dX8_isAt_41 ?_
    refine V_zret (r := false) XC () hrV rfl dX8_isAt_42 ?_
    try dsimp only
    first | rfl | exact congrArg bI (decide_eq_true (by omega)).symm | exact congrArg bI (decide_eq_false (by omega)).symm
  refine V_iconst XC dX8_isAt_37 ?_
  refine V_goto XC 42 dX8_isAt_38 (by decide) ?_
  refine V_zret (r := true) XC () hrV rfl dX8_isAt_42 ?_
  try dsimp only
  first | rfl | exact congrArg bI (decide_eq_true (by omega)).symm | exact congrArg bI (decide_eq_false (by omega)).symm

end REFK
