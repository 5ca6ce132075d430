/-! the reference: point, what lines share -/
section REFI

def shF (bt bb : Nat → Int) (t b : Int) (i : Nat) : Int := min b (bb i) - max t (bt i) + 1
def mjF (bt bb : Nat → Int) (t b : Int) (i : Nat) : Bool := decide (1 ≤ shF bt bb t b i ∧ min (b - t) (bb i - bt i) + 1 ≤ 2 * shF bt bb t b i)

set_option maxRecDepth 100000 in
set_option maxHeartbeats 4000000 in
theorem c_X8_shared (l : Launch) (D : va_G) (kI kC : ClassId) (b : Nat → Nat) (gp : Int) (ke : Nat) (un : Nat) (bu : Nat) (ty : Nat) (pc : Int) (gd : Bool) (rd : Int) (po : Int) (ln : Int) (wd : Int) (TO : Nat → Int) (BO : Nat → Int) (t e : Int) (i : Nat) (hi : i < 16) (ht : 0 ≤ t ∧ t ≤ 1000) (he : 0 ≤ e ∧ e ≤ 1000) (hT : 0 ≤ TO i ∧ TO i ≤ 1000) (hBo : 0 ≤ BO i ∧ BO i ≤ 1000) : ConR l yX8_shared wsX8_shared { frames := 0, cells := 0, slots := 0, locals := 0 } D kI kC [.ref (b 0), .int (iI t), .int (iI e), .int (iI (i : Int))] (mdO b gp (ke : Int) (un : Int) (bu : Int) (ty : Int) pc gd rd po ln wd :: [(b 14, IA kI 16 TO), (b 15, IA kI 16 BO)]) (fun r => r = shF TO BO t e i) := by
  refine Con.of (cc := cX8_shared) (maxL := 6) (ret := (some .int)) (by decide +kernel) rfl (List.forall_mem_cons.mpr ⟨rfl, List.forall_mem_cons.mpr ⟨rfl, List.forall_mem_cons.mpr ⟨rfl, List.forall_mem_cons.mpr ⟨rfl, fun _ h => absurd h List.not_mem_nil⟩⟩⟩⟩) (Nat.le_of_ble_eq_true rfl) ?_
  intro pV eV sV mV bV tV cV AV XC hrV
  have XC : Cx pV _ sV mV _ tV cV cX8_shared 6 RX8 wsX8_shared AV D kI kC := XC
  change VV _ _ _ _ _ _ _ _ _ _ _ _ _ _ _ _ _ [some (.ref (b 0)), some (.int (iI t)), some (.int (iI e)), some (.int (iI (i : Int))), none, none] _ _
  dsimp only [mdO, List.cons_append, List.nil_append]
  refine V_iload_n XC 2 rfl dX8_shared_0 rfl ?_
  refine V_aload_n XC 0 rfl dX8_shared_1 rfl ?_
  refine V_get XC 24 flX8_shared_57 0 rfl rfl dX8_shared_2 ?_
  refine V_iload_n XC 3 rfl dX8_shared_5 rfl ?_
  refine V_iald XC (i) 2 rfl (by omega) (by omega) (by decide) dX8_shared_6 ?_
  refine V_icmp_ge XC 14 dX8_shared_7 (by decide) ⟨by omega, by omega⟩ ⟨by omega, by omega⟩ (fun h7 => ?_) (fun h7 => ?_)
  · skip
    refine V_aload_n XC 0 rfl dX8_shared_14 rfl ?_
    refine V_get XC 24 flX8_shared_57 0 rfl rfl dX8_shared_15 ?_
    refine V_iload_n XC 3 rfl dX8_shared_18 rfl ?_
    refine V_iald XC (i) 2 rfl (by omega) (by omega) (by decide) dX8_shared_19 ?_
    refine V_istore XC dX8_shared_20 (by decide) ?_
    dsimp only [List.set]
    refine V_iload_n XC 1 rfl dX8_shared_22 rfl ?_
    refine V_aload_n XC 0 rfl dX8_shared_23 rfl ?_
    refine V_get XC 23 flX8_shared_54 0 rfl rfl dX8_shared_24 ?_
    refine V_iload_n XC 3 rfl dX8_shared_27 rfl ?_
    refine V_iald XC (i) 1 rfl (by omega) (by omega) (by decide) dX8_shared_28 ?_
    refine V_icmp_le XC 36 dX8_shared_29 (by decide) ⟨by omega, by omega⟩ ⟨by omega, by omega⟩ (fun h29 => ?_) (fun h29 => ?_)
    · skip
      refine V_aload_n XC 0 rfl dX8_shared_36 rfl ?_
      refine V_get XC 23 flX8_shared_54 0 rfl rfl dX8_shared_37 ?_
      refine V_iload_n XC 3 rfl dX8_shared_40 rfl ?_
      refine V_iald XC (i) 1 rfl (by omega) (by omega) (by decide) dX8_shared_41 ?_
      refine V_istore XC dX8_shared_42 (by decide) ?_
      dsimp only [List.set]
      refine V_iload XC dX8_shared_44 rfl ?_
      refine V_iload XC dX8_shared_46 rfl ?_
      refine V_isub XC dX8_shared_48 ?_
      refine V_iconst XC dX8_shared_49 ?_
      refine V_iadd XC dX8_shared_50 ?_
      refine V_iret XC () hrV rfl dX8_shared_51 ?_
      try dsimp only
      unfold shF
      omega
    refine V_iload_n XC 1 rfl dX8_shared_32 rfl ?_
    refine V_goto XC 42 dX8_shared_33 (by decide) ?_
    refine V_istore XC dX8_shared_42 (by decide) ?_
    dsimp only [List.set]
    refine V_iload XC dX8_shared_44 rfl ?_
    refine V_iload XC dX8_shared_46 rfl ?_
    refine V_isub XC dX8_shared_48 ?_
    refine V_iconst XC dX8_shared_49 ?_
    refine V_iadd XC dX8_shared_50 ?_
    refine V_iret XC () hrV rfl dX8_shared_51 ?_
    try dsimp only
    unfold shF
    omega
  refine V_iload_n XC 2 rfl dX8_shared_10 rfl ?_
  refine V_goto XC 20 dX8_shared_11 (by decide) ?_
  refine V_istore XC dX8_shared_20 (by decide) ?_
  dsimp only [List.set]
  refine V_iload_n XC 1 rfl dX8_shared_22 rfl ?_
  refine V_aload_n XC 0 rfl dX8_shared_23 rfl ?_
  refine V_get XC 23 flX8_shared_54 0 rfl rfl dX8_shared_24 ?_
  refine V_iload_n XC 3 rfl dX8_shared_27 rfl ?_
  refine V_iald XC (i) 1 rfl (by omega) (by omega) (by decide) dX8_shared_28 ?_
  refine V_icmp_le XC 36 dX8_shared_29 (by decide) ⟨by omega, by omega⟩ ⟨by omega, by omega⟩ (fun h29 => ?_) (fun h29 => ?_)
  · skip
    refine V_aload_n XC 0 rfl dX8_shared_36 rfl ?_
    refine V_get XC 23 flX8_shared_54 0 rfl rfl dX8_shared_37 ?_
    refine V_iload_n XC 3 rfl dX8_shared_40 rfl ?_
    refine V_iald XC (i) 1 rfl (by omega) (by omega) (by decide) dX8_shared_41 ?_
    refine V_istore XC dX8_shared_42 (by decide) ?_
    dsimp only [List.set]
    refine V_iload XC dX8_shared_44 rfl ?_
    refine V_iload XC dX8_shared_46 rfl ?_
    refine V_isub XC dX8_shared_48 ?_
    refine V_iconst XC dX8_shared_49 ?_
    refine V_iadd XC dX8_shared_50 ?_
    refine V_iret XC () hrV rfl dX8_shared_51 ?_
    try dsimp only
    unfold shF
    omega
  refine V_iload_n XC 1 rfl dX8_shared_32 rfl ?_
  refine V_goto XC 42 dX8_shared_33 (by decide) ?_
  refine V_istore XC dX8_shared_42 (by decide) ?_
  dsimp only [List.set]
  refine V_iload XC dX8_shared_44 rfl ?_
  refine V_iload XC dX8_shared_46 rfl ?_
  refine V_isub XC dX8_shared_48 ?_
  refine V_iconst XC dX8_shared_49 ?_
  refine V_iadd XC dX8_shared_50 ?_
  refine V_iret XC () hrV rfl dX8_shared_51 ?_
  try dsimp only
  unfold shF
  omega

set_option maxRecDepth 100000 in
set_option maxHeartbeats 4000000 in
theorem c_X8_mayJoin (l : Launch) (D : va_G) (kI kC : ClassId) (b : Nat → Nat) (gp : Int) (ke : Nat) (un : Nat) (bu : Nat) (ty : Nat) (pc : Int) (gd : Bool) (rd : Int) (po : Int) (ln : Int) (wd : Int) (TO : Nat → Int) (BO : Nat → Int) (t e : Int) (i : Nat) (hi : i < 16) (ht : 0 ≤ t ∧ t ≤ 1000) (he : 0 ≤ e ∧ e ≤ 1000) (hT : 0 ≤ TO i ∧ TO i ≤ 1000) (hBo : 0 ≤ BO i ∧ BO i ≤ 1000) : ConR l yX8_mayJoin wsX8_mayJoin { frames := 1, cells := 0, slots := 0, locals := 25 } D kI kC [.ref (b 0), .int (iI t), .int (iI e), .int (iI (i : Int))] (mdO b gp (ke : Int) (un : Int) (bu : Int) (ty : Int) pc gd rd po ln wd :: [(b 14, IA kI 16 TO), (b 15, IA kI 16 BO)]) (fun r => r = bI (mjF TO BO t e i)) := by
  refine Con.of (cc := cX8_mayJoin) (maxL := 7) (ret := (some .boolean)) (by decide +kernel) rfl (List.forall_mem_cons.mpr ⟨rfl, List.forall_mem_cons.mpr ⟨rfl, List.forall_mem_cons.mpr ⟨rfl, List.forall_mem_cons.mpr ⟨rfl, fun _ h => absurd h List.not_mem_nil⟩⟩⟩⟩) (Nat.le_of_ble_eq_true rfl) ?_
  intro pV eV sV mV bV tV cV AV XC hrV
  have XC : Cx pV _ sV mV _ tV cV cX8_mayJoin 7 RX8 wsX8_mayJoin AV D kI kC := XC
  change VV _ _ _ _ _ _ _ _ _ _ _ _ _ _ _ _ _ [some (.ref (b 0)), some (.int (iI t)), some (.int (iI e)), some (.int (iI (i : Int))), none, none, none] _ _
  dsimp only [mdO, List.cons_append, List.nil_append]
  have hsh : -1000 ≤ shF TO BO t e i ∧ shF TO BO t e i ≤ 1001 := by unfold shF; omega
  refine V_aload_n XC 0 rfl dX8_mayJoin_0 rfl ?_
  refine V_iload_n XC 1 rfl dX8_mayJoin_1 rfl ?_
  refine V_iload_n XC 2 rfl dX8_mayJoin_2 rfl ?_
  refine V_iload_n XC 3 rfl dX8_mayJoin_3 rfl ?_
  refine V_callV (rest := _) (q0 := 0) XC (c_X8_shared l D kI kC _ _ _ _ _ _ _ _ _ _ _ _ _ _ _ _ _ (by omega) (by omega) (by omega) (by omega) (by omega)) gX8_mayJoin_X8_shared rfl kmX8_shared ⟨⟨Nat.le_of_ble_eq_true rfl, Nat.le_of_ble_eq_true rfl⟩, Nat.le_of_ble_eq_true rfl, Nat.le_of_ble_eq_true rfl⟩ ⟨rfl, rfl⟩ rfl rfl (Nat.le_of_ble_eq_true rfl) [0, 1, 2] rfl rfl (fun _ => rfl) rfl rfl dX8_mayJoin_4 (kR_of rfl (fun r4 hq4 => ?_))
  subst hq4
  refine V_istore XC dX8_mayJoin_7 (by decide) ?_
  dsimp only [List.set]
  refine V_iload_n XC 2 rfl dX8_mayJoin_9 rfl ?_
  refine V_iload_n XC 1 rfl dX8_mayJoin_10 rfl ?_
  refine V_isub XC dX8_mayJoin_11 ?_
  refine V_istore XC dX8_mayJoin_12 (by decide) ?_
  dsimp only [List.set]
  refine V_aload_n XC 0 rfl dX8_mayJoin_14 rfl ?_
  refine V_get XC 24 flX8_mayJoin_57 0 rfl rfl dX8_mayJoin_15 ?_
  refine V_iload_n XC 3 rfl dX8_mayJoin_18 rfl ?_
  refine V_iald XC (i) 2 rfl (by omega) (by omega) (by decide) dX8_mayJoin_19 ?_
  refine V_aload_n XC 0 rfl dX8_mayJoin_20 rfl ?_
  refine V_get XC 23 flX8_mayJoin_54 0 rfl rfl dX8_mayJoin_21 ?_
  refine V_iload_n XC 3 rfl dX8_mayJoin_24 rfl ?_
  refine V_iald XC (i) 1 rfl (by omega) (by omega) (by decide) dX8_mayJoin_25 ?_
  refine V_isub XC dX8_mayJoin_26 ?_
  refine V_istore XC dX8_mayJoin_27 (by decide) ?_
  dsimp only [List.set]
  refine V_iload XC dX8_mayJoin_29 rfl ?_
  refine V_iconst XC dX8_mayJoin_31 ?_
  refine V_icmp_lt XC 62 dX8_mayJoin_32 (by decide) ⟨by omega, by omega⟩ ⟨by omega, by omega⟩ (fun h32 => ?_) (fun h32 => ?_)
  · skip
    refine V_iconst XC dX8_mayJoin_62 ?_
    refine V_zret (r := false) XC () hrV rfl dX8_mayJoin_63 ?_
    try dsimp only
    unfold mjF
    first | exact congrArg bI (decide_eq_true (by omega)).symm | exact congrArg bI (decide_eq_false (by omega)).symm
  refine V_iconst XC dX8_mayJoin_35 ?_
  refine V_iload XC dX8_mayJoin_36 rfl ?_
  refine V_imul XC dX8_mayJoin_38 ?_
  refine V_iload XC dX8_mayJoin_39 rfl ?_
  refine V_iload XC dX8_mayJoin_41 rfl ?_
  refine V_icmp_ge XC 51 dX8_mayJoin_43 (by decide) ⟨by omega, by omega⟩ ⟨by omega, by omega⟩ (fun h43 => ?_) (fun h43 => ?_)
  · skip
    refine V_iload XC dX8_mayJoin_51 rfl ?_
    refine V_iconst XC dX8_mayJoin_53 ?_
    refine V_iadd XC dX8_mayJoin_54 ?_
    refine V_icmp_lt XC 62 dX8_mayJoin_55 (by decide) ⟨by omega, by omega⟩ ⟨by omega, by omega⟩ (fun h55 => ?_) (fun h55 => ?_)
    · skip
      refine V_iconst XC dX8_mayJoin_62 ?_
      refine V_zret (r := false) XC () hrV rfl dX8_mayJoin_63 ?_
      try dsimp only
      unfold mjF
      first | exact congrArg bI (decide_eq_true (by omega)).symm | exact congrArg bI (decide_eq_false (by omega)).symm
    refine V_iconst XC dX8_mayJoin_58 ?_
    refine V_goto XC 63 dX8_mayJoin_59 (by decide) ?_
    refine V_zret (r := true) XC () hrV rfl dX8_mayJoin_63 ?_
    try dsimp only
    unfold mjF
    first | exact congrArg bI (decide_eq_true (by omega)).symm | exact congrArg bI (decide_eq_false (by omega)).symm
  refine V_iload XC dX8_mayJoin_46 rfl ?_
  refine V_goto XC 53 dX8_mayJoin_48 (by decide) ?_
  refine V_iconst XC dX8_mayJoin_53 ?_
  refine V_iadd XC dX8_mayJoin_54 ?_
  refine V_icmp_lt XC 62 dX8_mayJoin_55 (by decide) ⟨by omega, by omega⟩ ⟨by omega, by omega⟩ (fun h55 => ?_) (fun h55 => ?_)
  · skip
    refine V_iconst XC dX8_mayJoin_62 ?_
    refine V_zret (r := false) XC () hrV rfl dX8_mayJoin_63 ?_
    try dsimp only
    unfold mjF
    first | exact congrArg bI (decide_eq_true (by omega)).symm | exact congrArg bI (decide_eq_false (by omega)).symm
  refine V_iconst XC dX8_mayJoin_58 ?_
  refine V_goto XC 63 dX8_mayJoin_59 (by decide) ?_
  refine V_zret (r := true) XC () hrV rfl dX8_mayJoin_63 ?_
  try dsimp only
  unfold mjF
  first | exact congrArg bI (decide_eq_true (by omega)).symm | exact congrArg bI (decide_eq_false (by omega)).symm

set_option maxRecDepth 100000 in
set_option maxHeartbeats 4000000 in
theorem c_X8_point (l : Launch) (D : va_G) (kI kC : ClassId) (b : Nat → Nat) (gp : Int) (ke : Nat) (un : Nat) (bu : Nat) (ty : Nat) (pc : Int) (gd : Bool) (rd : Int) (po : Int) (ln : Int) (wd : Int) (G : Nat → Int) (S : List Stk) (hS : OkS S) (hN : NowR G S) (z i w : Int) (hz : IR z) (hi : IR i) (hw : IR w) : ConR l yX8_point wsX8_point { frames := 2, cells := 0, slots := 0, locals := 43 } D kI kC [.ref (b 0), .int (iI z), .int (iI i), .int (iI w)] (mdO b gp (ke : Int) (un : Int) (bu : Int) (ty : Int) pc gd rd po ln wd :: [(b 1, IA kI 801 G)]) (fun r => r = pointS S z i w) := by
  refine Con.of (cc := cX8_point) (maxL := 4) (ret := (some .int)) (by decide +kernel) rfl (List.forall_mem_cons.mpr ⟨rfl, List.forall_mem_cons.mpr ⟨rfl, List.forall_mem_cons.mpr ⟨rfl, List.forall_mem_cons.mpr ⟨rfl, fun _ h => absurd h List.not_mem_nil⟩⟩⟩⟩) (Nat.le_of_ble_eq_true rfl) ?_
  intro pV eV sV mV bV tV cV AV XC hrV
  have XC : Cx pV _ sV mV _ tV cV cX8_point 4 RX8 wsX8_point AV D kI kC := XC
  change VV _ _ _ _ _ _ _ _ _ _ _ _ _ _ _ _ _ [some (.ref (b 0)), some (.int (iI z)), some (.int (iI i)), some (.int (iI w))] _ _
  dsimp only [mdO, List.cons_append, List.nil_append]
  have hn16 : S.length ≤ 16 := hS.1
  have hN0 : G 0 = (S.length : Int) := hN.1
  refine V_aload_n XC 0 rfl dX8_point_0 rfl ?_
  refine V_iload_n XC 1 rfl dX8_point_1 rfl ?_
  refine V_callV (rest := _) (q0 := 0) XC (c_X8_noStroke l D kI kC _ _ _ _ _ _ _ _ _ _ _ _ _ S.length hn16 hN0 _ hz) gX8_point_X8_noStroke rfl kmX8_noStroke ⟨⟨Nat.le_of_ble_eq_true rfl, Nat.le_of_ble_eq_true rfl⟩, Nat.le_of_ble_eq_true rfl, Nat.le_of_ble_eq_true rfl⟩ ⟨rfl, rfl⟩ rfl rfl (Nat.le_of_ble_eq_true rfl) [0, 1] rfl rfl (fun _ => rfl) rfl rfl dX8_point_2 (kR_of rfl (fun r2 hq2 => ?_))
  subst hq2
  refine V_bif_ne XC 23 dX8_point_5 (by decide) (fun h5 => ?_) (fun h5 => ?_)
  · skip
    have hp : pointS S z i w = -1 := if_pos (Or.inl (by have h99 := h5; simp at h99; unfold hasS; exact decide_eq_false (show ¬ (0 ≤ z ∧ z < (S.length : Int)) by omega)))
    refine V_iconst XC dX8_point_23 ?_
    refine V_iret XC () hrV rfl dX8_point_24 ?_
    try dsimp only
    rw [hp]
  have hz5 : 0 ≤ z ∧ z < (S.length : Int) := by simpa using h5
  obtain ⟨k, rfl⟩ : ∃ k : Nat, z = (k : Int) := ⟨z.toNat, by omega⟩
  have hknk : k < S.length := by omega
  have hokk := NowR_ok hN hS hknk
  have hatk := NowR_at hN hknk
  have hfk := skR_ok hokk
  have hszk := skR_sz hokk
  have hzzk := OkK_sz hokk
  have hxyk := fun i hi => skR_xy (F := G) (k := k) (i := i) hi
  have hxck := fun i hi => OkK_xy (t := skR G k) (i := i) hokk hi
  have hbk : hasS S (k : Int) = true := by unfold hasS; rw [decide_eq_true hz5]
  refine V_iload_n XC 2 rfl dX8_point_8 rfl ?_
  refine V_iconst XC dX8_point_9 ?_
  refine V_aload_n XC 0 rfl dX8_point_10 rfl ?_
  refine V_iload_n XC 1 rfl dX8_point_11 rfl ?_
  refine V_callV (rest := _) (q0 := 0) XC (c_X8_size l D kI kC _ _ _ _ _ _ _ _ _ _ _ _ _ k (by omega)) gX8_point_X8_size rfl kmX8_size ⟨⟨Nat.le_of_ble_eq_true rfl, Nat.le_of_ble_eq_true rfl⟩, Nat.le_of_ble_eq_true rfl, Nat.le_of_ble_eq_true rfl⟩ ⟨rfl, rfl⟩ rfl rfl (Nat.le_of_ble_eq_true rfl) [0, 1] rfl rfl (fun _ => rfl) rfl rfl dX8_point_12 (kR_of rfl (fun r12 hq12 => ?_))
  subst hq12
  rw [hszk]
  refine V_iconst XC dX8_point_15 ?_
  refine V_isub XC dX8_point_16 ?_
  refine V_callS (rest := _) XC (c_X8_in l D kI kC _ _ _ hi ⟨by decide, by decide⟩ ⟨by omega, by omega⟩) gX8_point_X8_in rfl kmX8_in ⟨⟨Nat.le_of_ble_eq_true rfl, Nat.le_of_ble_eq_true rfl⟩, Nat.le_of_ble_eq_true rfl, Nat.le_of_ble_eq_true rfl⟩ ⟨rfl, rfl⟩ rfl rfl (Nat.le_of_ble_eq_true rfl) [] rfl rfl (fun _ => rfl) dX8_point_17 (kR_of rfl (fun r17 hq17 => ?_))
  subst hq17
  refine V_bif_ne XC 25 dX8_point_20 (by decide) (fun h20 => ?_) (fun h20 => ?_)
  · skip
    have hi2 := of_decide_eq_true h20
    obtain ⟨v, rfl⟩ : ∃ v : Nat, i = (v : Int) := ⟨i.toNat, by omega⟩
    have hxv := hxyk v (by omega)
    have hcc : ¬ (hasS S (k : Int) = false ∨ inR (v : Int) 0 ((szk (gk S (k : Int).toNat) : Int) - 1) = false) := by rw [hbk, Int.toNat_natCast, hatk]; unfold inR; rw [h20]; simp
    refine V_iload_n XC 3 rfl dX8_point_25 rfl ?_
    refine V_if_ne XC 38 dX8_point_26 (by decide) hw (fun h26 => ?_) (fun h26 => ?_)
    · skip
      refine V_iload_n XC 3 rfl dX8_point_38 rfl ?_
      refine V_iconst XC dX8_point_39 ?_
      refine V_icmp_ne XC 52 dX8_point_40 (by decide) hw ⟨by decide, by decide⟩ (fun h40 => ?_) (fun h40 => ?_)
      · skip
        refine V_bipush XC dX8_point_52 (by decide) ?_
        refine V_iret XC () hrV rfl dX8_point_54 ?_
        try dsimp only
        unfold pointS
        rw [if_neg hcc, Int.toNat_natCast, Int.toNat_natCast, hatk]
        repeat' split
        all_goals first | rfl | omega
      refine V_aload_n XC 0 rfl dX8_point_43 rfl ?_
      refine V_iload_n XC 1 rfl dX8_point_44 rfl ?_
      refine V_iload_n XC 2 rfl dX8_point_45 rfl ?_
      refine V_callV (rest := _) (q0 := 0) XC (c_X8_y l D kI kC _ _ _ _ _ _ _ _ _ _ _ _ _ k v (by omega) (by omega)) gX8_point_X8_y rfl kmX8_y ⟨⟨Nat.le_of_ble_eq_true rfl, Nat.le_of_ble_eq_true rfl⟩, Nat.le_of_ble_eq_true rfl, Nat.le_of_ble_eq_true rfl⟩ ⟨rfl, rfl⟩ rfl rfl (Nat.le_of_ble_eq_true rfl) [0, 1] rfl rfl (fun _ => rfl) rfl rfl dX8_point_46 (kR_of rfl (fun r46 hq46 => ?_))
      subst hq46
      rw [hxv.2]
      refine V_goto XC 54 dX8_point_49 (by decide) ?_
      refine V_iret XC () hrV rfl dX8_point_54 ?_
      try dsimp only
      unfold pointS
      rw [if_neg hcc, Int.toNat_natCast, Int.toNat_natCast, hatk]
      repeat' split
      all_goals first | rfl | omega
    refine V_aload_n XC 0 rfl dX8_point_29 rfl ?_
    refine V_iload_n XC 1 rfl dX8_point_30 rfl ?_
    refine V_iload_n XC 2 rfl dX8_point_31 rfl ?_
    refine V_callV (rest := _) (q0 := 0) XC (c_X8_x l D kI kC _ _ _ _ _ _ _ _ _ _ _ _ _ k v (by omega) (by omega)) gX8_point_X8_x rfl kmX8_x ⟨⟨Nat.le_of_ble_eq_true rfl, Nat.le_of_ble_eq_true rfl⟩, Nat.le_of_ble_eq_true rfl, Nat.le_of_ble_eq_true rfl⟩ ⟨rfl, rfl⟩ rfl rfl (Nat.le_of_ble_eq_true rfl) [0, 1] rfl rfl (fun _ => rfl) rfl rfl dX8_point_32 (kR_of rfl (fun r32 hq32 => ?_))
    subst hq32
    rw [hxv.1]
    refine V_goto XC 54 dX8_point_35 (by decide) ?_
    refine V_iret XC () hrV rfl dX8_point_54 ?_
    try dsimp only
    unfold pointS
    rw [if_neg hcc, Int.toNat_natCast, Int.toNat_natCast, hatk]
    repeat' split
    all_goals first | rfl | omega
  have hp : pointS S (k : Int) i w = -1 := if_pos (Or.inr (by rw [Int.toNat_natCast, hatk]; exact h20))
  refine V_iconst XC dX8_point_23 ?_
  refine V_iret XC () hrV rfl dX8_point_24 ?_
  try dsimp only
  rw [hp]

theorem bf_sh {bt bb : Nat → Int} {t b : Int} : ∀ m, ((bf bt bb t b m).1 = -5 ∧ (bf bt bb t b m).2 = 0) ∨ ∃ i : Nat, i < m ∧ (bf bt bb t b m).1 = (i : Int) ∧ (bf bt bb t b m).2 = shF bt bb t b i ∧ 1 ≤ (bf bt bb t b m).2
  | 0 => Or.inl ⟨rfl, rfl⟩
  | m + 1 => by
    have ih := bf_sh (bt := bt) (bb := bb) (t := t) (b := b) m
    rw [bf_s]
    unfold bfS
    split
    · rename_i h
      refine Or.inr ⟨m, by omega, rfl, rfl, ?_⟩
      rcases ih with e | ⟨i, hi, e1, e2, e3⟩ <;> (dsimp only; omega)
    · rcases ih with e | ⟨i, hi, e1, e2, e3⟩
      · exact Or.inl e
      · exact Or.inr ⟨i, by omega, e1, e2, e3⟩
theorem bf_yes {bt bb : Nat → Int} {t b : Int} {m : Nat} (h1 : mjF bt bb t b m = true) (h2 : (bf bt bb t b m).2 < shF bt bb t b m) : bf bt bb t b (m + 1) = ((m : Int), shF bt bb t b m) := by
  have h3 := of_decide_eq_true h1
  rw [bf_s]
  unfold bfS
  unfold shF at *
  rw [if_pos (by omega)]
theorem bf_no1 {bt bb : Nat → Int} {t b : Int} {m : Nat} (h1 : mjF bt bb t b m = false) : bf bt bb t b (m + 1) = bf bt bb t b m := by
  have h3 := of_decide_eq_false h1
  have h4 := bf_sh (bt := bt) (bb := bb) (t := t) (b := b) m
  have h5 : 0 ≤ (bf bt bb t b m).2 := by rcases h4 with e | ⟨i, hi, e1, e2, e3⟩ <;> omega
  clear h4
  rw [bf_s]
  unfold bfS
  unfold shF at h3
  rw [if_neg (by omega)]
theorem bf_no2 {bt bb : Nat → Int} {t b : Int} {m : Nat} (h : shF bt bb t b m ≤ (bf bt bb t b m).2) : bf bt bb t b (m + 1) = bf bt bb t b m := by
  rw [bf_s]
  unfold bfS
  unfold shF at h
  rw [if_neg (by omega)]

end REFI
