/-! the class's pad: buffer, text, gap, acts -/
section PADA

set_option maxRecDepth 100000 in
set_option maxHeartbeats 4000000 in
theorem c_X7_put (l : Launch) (D : va_G) (kI kC : ClassId) (a g w : Nat → Nat) (gap : Int) (nb : Nat) (BX BY : Nat → Int) (hB : OkB (ptsOf nb BX BY)) (x y : Int) (hx : IR x) (hy : IR y) : Con l yX7_put wsX7_put { frames := 2, cells := 0, slots := 0, locals := 44 } D kI kC [.ref (a 0), .int (iI x), .int (iI y)] (padO a g w gap :: (trW kI (a 1) (a 2) (a 3) (nb : Int) BX BY)) (σ := Nat × (Nat → Int) × (Nat → Int)) (qI (fun r u => r = (putS (ptsOf nb BX BY) x y).1 ∧ ptsOf u.1 u.2.1 u.2.2 = (putS (ptsOf nb BX BY) x y).2 ∧ OkB (ptsOf u.1 u.2.1 u.2.2))) (fun u => (padO a g w gap :: (trW kI (a 1) (a 2) (a 3) (u.1 : Int) u.2.1 u.2.2))) := by
  refine Con.of (cc := cX7_put) (maxL := 3) (ret := (some .int)) (by decide +kernel) rfl (List.forall_mem_cons.mpr ⟨rfl, List.forall_mem_cons.mpr ⟨rfl, List.forall_mem_cons.mpr ⟨rfl, fun _ h => absurd h List.not_mem_nil⟩⟩⟩) (Nat.le_of_ble_eq_true rfl) ?_
  intro pV eV sV mV bV tV cV AV XC hrV
  have XC : Cx pV _ sV mV _ tV cV cX7_put 3 RX7 wsX7_put AV D kI kC := XC
  change VV _ _ _ _ _ _ _ _ _ _ _ _ _ _ _ _ _ [some (.ref (a 0)), some (.int (iI x)), some (.int (iI y))] _ _
  dsimp only [padO, trW, shW, txW, hiW, liW, woW, taW, List.cons_append, List.nil_append]
  have hb := OkB_at hB
  refine V_iload_n XC 1 rfl dX7_put_0 rfl ?_
  refine V_callS (rest := _) XC (c_X7_isCoordinate l D kI kC _ (by first | assumption | (unfold IR; omega))) gX7_put_X7_isCoordinate rfl kmX7_isCoordinate ⟨⟨Nat.le_of_ble_eq_true rfl, Nat.le_of_ble_eq_true rfl⟩, Nat.le_of_ble_eq_true rfl, Nat.le_of_ble_eq_true rfl⟩ ⟨rfl, rfl⟩ rfl rfl (Nat.le_of_ble_eq_true rfl) [] rfl rfl (fun _ => rfl) dX7_put_1 (kR_of rfl (fun r1 hq1 => ?_))
  subst hq1
  refine V_bif_eq XC 14 dX7_put_4 (by decide) (fun h4 => ?_) (fun h4 => ?_)
  · skip
    have hp : putS (ptsOf nb BX BY) x y = (-2, ptsOf nb BX BY) := if_pos (Or.inl h4)
    refine V_bipush XC dX7_put_14 (by decide) ?_
    refine V_iret XC (nb, BX, BY) hrV rfl dX7_put_16 ?_
    rw [hp]
    exact ⟨rfl, rfl, hB⟩
  refine V_iload_n XC 2 rfl dX7_put_7 rfl ?_
  refine V_callS (rest := _) XC (c_X7_isCoordinate l D kI kC _ (by first | assumption | (unfold IR; omega))) gX7_put_X7_isCoordinate rfl kmX7_isCoordinate ⟨⟨Nat.le_of_ble_eq_true rfl, Nat.le_of_ble_eq_true rfl⟩, Nat.le_of_ble_eq_true rfl, Nat.le_of_ble_eq_true rfl⟩ ⟨rfl, rfl⟩ rfl rfl (Nat.le_of_ble_eq_true rfl) [] rfl rfl (fun _ => rfl) dX7_put_8 (kR_of rfl (fun r8 hq8 => ?_))
  subst hq8
  refine V_bif_ne XC 17 dX7_put_11 (by decide) (fun h11 => ?_) (fun h11 => ?_)
  · skip
    have hg : ¬ (inR x 0 1000 = false ∨ inR y 0 1000 = false) := by
      unfold inR
      rw [h4, h11]
      simp
    refine V_aload_n XC 0 rfl dX7_put_17 rfl ?_
    refine V_get XC 0 flX7_put_12 0 rfl rfl dX7_put_18 ?_
    refine V_get XC 0 flX7_put_72 1 rfl rfl dX7_put_21 ?_
    refine V_bipush XC dX7_put_24 (by decide) ?_
    refine V_icmp_lt XC 32 dX7_put_26 (by decide) ⟨by omega, by omega⟩ ⟨by omega, by omega⟩ (fun h26 => ?_) (fun h26 => ?_)
    · skip
      have hx2 := of_decide_eq_true h4
      have hy2 := of_decide_eq_true h11
      refine V_aload_n XC 0 rfl dX7_put_32 rfl ?_
      refine V_get XC 0 flX7_put_12 0 rfl rfl dX7_put_33 ?_
      refine V_iload_n XC 1 rfl dX7_put_36 rfl ?_
      refine V_iload_n XC 2 rfl dX7_put_37 rfl ?_
      refine V_callV (rest := _) (q0 := 1) XC (c_X5_append l D kI kC _ _ _ _ _ _ (by omega) hb.2 _ _ (by omega)) gX7_put_X5_append rfl kmX5_append ⟨⟨Nat.le_of_ble_eq_true rfl, Nat.le_of_ble_eq_true rfl⟩, Nat.le_of_ble_eq_true rfl, Nat.le_of_ble_eq_true rfl⟩ ⟨rfl, rfl⟩ rfl rfl (Nat.le_of_ble_eq_true rfl) [1, 2, 3] rfl rfl (fun _ => rfl) rfl rfl dX7_put_38 (kV_of (fun u38 hq38 => ?_))
      obtain ⟨n38, F38, G38⟩ := u38
      dsimp only [putW, List.set, Option.toList, List.cons_append, List.nil_append, padO, mdO, shW, trW, txW, hiW, liW, woW, taW]
      try dsimp only at hq38
      obtain ⟨hn38, hp38, hC38, hu38⟩ := hq38
      refine V_aload_n XC 0 rfl dX7_put_41 rfl ?_
      refine V_get XC 0 flX7_put_12 0 rfl rfl dX7_put_42 ?_
      refine V_get XC 0 flX7_put_72 1 rfl rfl dX7_put_45 ?_
      refine V_iret XC (_, _, _) hrV rfl dX7_put_48 ?_
      have hp : putS (ptsOf nb BX BY) x y = (((addP (ptsOf nb BX BY) (x, y)).length : Int), addP (ptsOf nb BX BY) (x, y)) := by
        unfold putS
        rw [if_neg hg, if_neg (by rw [ptsOf_len]; omega)]
      rw [hp]
      dsimp only
      rw [← hp38, ptsOf_len]
      exact ⟨rfl, rfl, by rw [hp38]; exact OkB_addP hB ⟨by omega, by omega, by omega, by omega⟩ (by rw [ptsOf_len]; omega)⟩
    refine V_bipush XC dX7_put_29 (by decide) ?_
    refine V_iret XC (nb, BX, BY) hrV rfl dX7_put_31 ?_
    have hp : putS (ptsOf nb BX BY) x y = (-3, ptsOf nb BX BY) := by
      unfold putS
      rw [if_neg hg, if_pos (by rw [ptsOf_len]; omega)]
    rw [hp]
    exact ⟨rfl, rfl, hB⟩
  have hp : putS (ptsOf nb BX BY) x y = (-2, ptsOf nb BX BY) := if_pos (Or.inr h11)
  refine V_bipush XC dX7_put_14 (by decide) ?_
  refine V_iret XC (nb, BX, BY) hrV rfl dX7_put_16 ?_
  rw [hp]
  exact ⟨rfl, rfl, hB⟩

set_option maxRecDepth 100000 in
set_option maxHeartbeats 4000000 in
theorem c_X7_clearPoints (l : Launch) (D : va_G) (kI kC : ClassId) (a g w : Nat → Nat) (gap : Int) (nb : Nat) (BX BY : Nat → Int)  : Con l yX7_clearPoints wsX7_clearPoints { frames := 1, cells := 0, slots := 0, locals := 20 } D kI kC [.ref (a 0)] (padO a g w gap :: (trW kI (a 1) (a 2) (a 3) (nb : Int) BX BY)) (σ := Unit) (qI (fun r u => r = nb)) (fun u => (padO a g w gap :: (trW kI (a 1) (a 2) (a 3) 0 BX BY))) := by
  refine Con.of (cc := cX7_clearPoints) (maxL := 2) (ret := (some .int)) (by decide +kernel) rfl (List.forall_mem_cons.mpr ⟨rfl, fun _ h => absurd h List.not_mem_nil⟩) (Nat.le_of_ble_eq_true rfl) ?_
  intro pV eV sV mV bV tV cV AV XC hrV
  have XC : Cx pV _ sV mV _ tV cV cX7_clearPoints 2 RX7 wsX7_clearPoints AV D kI kC := XC
  change VV _ _ _ _ _ _ _ _ _ _ _ _ _ _ _ _ _ [some (.ref (a 0)), none] _ _
  dsimp only [padO, trW, shW, txW, hiW, liW, woW, taW, List.cons_append, List.nil_append]
  refine V_aload_n XC 0 rfl dX7_clearPoints_0 rfl ?_
  refine V_get XC 0 flX7_clearPoints_12 0 rfl rfl dX7_clearPoints_1 ?_
  refine V_get XC 0 flX7_clearPoints_72 1 rfl rfl dX7_clearPoints_4 ?_
  refine V_istore_n XC 1 rfl dX7_clearPoints_7 (by decide) ?_
  dsimp only [List.set]
  refine V_aload_n XC 0 rfl dX7_clearPoints_8 rfl ?_
  refine V_get XC 0 flX7_clearPoints_12 0 rfl rfl dX7_clearPoints_9 ?_
  refine V_callV (rest := _) (q0 := 1) XC (c_X5_empty l D kI kC _ _ _ _ _ _ ) gX7_clearPoints_X5_empty rfl kmX5_empty ⟨⟨Nat.le_of_ble_eq_true rfl, Nat.le_of_ble_eq_true rfl⟩, Nat.le_of_ble_eq_true rfl, Nat.le_of_ble_eq_true rfl⟩ ⟨rfl, rfl⟩ rfl rfl (Nat.le_of_ble_eq_true rfl) [1, 2, 3] rfl rfl (fun _ => rfl) rfl rfl dX7_clearPoints_12 (kV_of (fun u12 hq12 => ?_))
  dsimp only [putW, List.set, Option.toList, List.cons_append, List.nil_append, padO, mdO, shW, trW, txW, hiW, liW, woW, taW]
  try dsimp only at hq12
  refine V_iload_n XC 1 rfl dX7_clearPoints_15 rfl ?_
  refine V_iret XC (()) hrV rfl dX7_clearPoints_16 ?_
  rfl

set_option maxRecDepth 100000 in
set_option maxHeartbeats 4000000 in
theorem c_X7_type (l : Launch) (D : va_G) (kI kC : ClassId) (a g w : Nat → Nat) (gap : Int) (nt : Nat) (T : Nat → Int) (hn : nt ≤ 100) (c : Int) (hc : 0 ≤ c ∧ c < 65536) : Con l yX7_type wsX7_type { frames := 1, cells := 0, slots := 0, locals := 21 } D kI kC [.ref (a 0), .int (iI c)] (padO a g w gap :: (txW kC (a 4) (a 5) (nt : Int) T)) (σ := Nat × (Nat → Int)) (qI (fun r u => (nt = 100 ∧ r = -3 ∧ u = (nt, T)) ∨ (nt < 100 ∧ r = (nt : Int) + 1 ∧ u = (nt + 1, upz T nt c)))) (fun u => (padO a g w gap :: (txW kC (a 4) (a 5) (u.1 : Int) u.2))) := by
  refine Con.of (cc := cX7_type) (maxL := 2) (ret := (some .int)) (by decide +kernel) rfl (List.forall_mem_cons.mpr ⟨rfl, List.forall_mem_cons.mpr ⟨rfl, fun _ h => absurd h List.not_mem_nil⟩⟩) (Nat.le_of_ble_eq_true rfl) ?_
  intro pV eV sV mV bV tV cV AV XC hrV
  have XC : Cx pV _ sV mV _ tV cV cX7_type 2 RX7 wsX7_type AV D kI kC := XC
  change VV _ _ _ _ _ _ _ _ _ _ _ _ _ _ _ _ _ [some (.ref (a 0)), some (.int (iI c))] _ _
  dsimp only [padO, trW, shW, txW, hiW, liW, woW, taW, List.cons_append, List.nil_append]
  refine V_aload_n XC 0 rfl dX7_type_0 rfl ?_
  refine V_get XC 1 flX7_type_19 0 rfl rfl dX7_type_1 ?_
  refine V_get XC 0 flX7_type_82 1 rfl rfl dX7_type_4 ?_
  refine V_bipush XC dX7_type_7 (by decide) ?_
  refine V_icmp_lt XC 15 dX7_type_9 (by decide) ⟨by omega, by omega⟩ ⟨by omega, by omega⟩ (fun h9 => ?_) (fun h9 => ?_)
  · skip
    refine V_aload_n XC 0 rfl dX7_type_15 rfl ?_
    refine V_get XC 1 flX7_type_19 0 rfl rfl dX7_type_16 ?_
    refine V_iload_n XC 1 rfl dX7_type_19 rfl ?_
    refine V_callV (rest := _) (q0 := 1) XC (c_X4_append l D kI kC _ _ _ _ _ (by omega) (by omega)) gX7_type_X4_append rfl kmX4_append ⟨⟨Nat.le_of_ble_eq_true rfl, Nat.le_of_ble_eq_true rfl⟩, Nat.le_of_ble_eq_true rfl, Nat.le_of_ble_eq_true rfl⟩ ⟨rfl, rfl⟩ rfl rfl (Nat.le_of_ble_eq_true rfl) [1, 2] rfl rfl (fun _ => rfl) rfl rfl dX7_type_20 (kV_of (fun u20 hq20 => ?_))
    dsimp only [putW, List.set, Option.toList, List.cons_append, List.nil_append, padO, mdO, shW, trW, txW, hiW, liW, woW, taW]
    try dsimp only at hq20
    refine V_aload_n XC 0 rfl dX7_type_23 rfl ?_
    refine V_get XC 1 flX7_type_19 0 rfl rfl dX7_type_24 ?_
    refine V_get XC 0 flX7_type_82 1 rfl rfl dX7_type_27 ?_
    refine V_iret XC (nt + 1, upz T nt c) hrV rfl dX7_type_30 ?_
    exact Or.inr ⟨by omega, by (try dsimp only); omega, rfl⟩
  refine V_bipush XC dX7_type_12 (by decide) ?_
  refine V_iret XC (nt, T) hrV rfl dX7_type_14 ?_
  exact Or.inl ⟨by omega, rfl, rfl⟩

set_option maxRecDepth 100000 in
set_option maxHeartbeats 4000000 in
theorem c_X7_clearText (l : Launch) (D : va_G) (kI kC : ClassId) (a g w : Nat → Nat) (gap : Int) (nt : Nat) (T : Nat → Int)  : Con l yX7_clearText wsX7_clearText { frames := 1, cells := 0, slots := 0, locals := 20 } D kI kC [.ref (a 0)] (padO a g w gap :: (txW kC (a 4) (a 5) (nt : Int) T)) (σ := Unit) (qI (fun r u => r = nt)) (fun u => (padO a g w gap :: (txW kC (a 4) (a 5) 0 T))) := by
  refine Con.of (cc := cX7_clearText) (maxL := 2) (ret := (some .int)) (by decide +kernel) rfl (List.forall_mem_cons.mpr ⟨rfl, fun _ h => absurd h List.not_mem_nil⟩) (Nat.le_of_ble_eq_true rfl) ?_
  intro pV eV sV mV bV tV cV AV XC hrV
  have XC : Cx pV _ sV mV _ tV cV cX7_clearText 2 RX7 wsX7_clearText AV D kI kC := XC
  change VV _ _ _ _ _ _ _ _ _ _ _ _ _ _ _ _ _ [some (.ref (a 0)), none] _ _
  dsimp only [padO, trW, shW, txW, hiW, liW, woW, taW, List.cons_append, List.nil_append]
  refine V_aload_n XC 0 rfl dX7_clearText_0 rfl ?_
  refine V_get XC 1 flX7_clearText_19 0 rfl rfl dX7_clearText_1 ?_
  refine V_get XC 0 flX7_clearText_82 1 rfl rfl dX7_clearText_4 ?_
  refine V_istore_n XC 1 rfl dX7_clearText_7 (by decide) ?_
  dsimp only [List.set]
  refine V_aload_n XC 0 rfl dX7_clearText_8 rfl ?_
  refine V_get XC 1 flX7_clearText_19 0 rfl rfl dX7_clearText_9 ?_
  refine V_callV (rest := _) (q0 := 1) XC (c_X4_empty l D kI kC _ _ _ _) gX7_clearText_X4_empty rfl kmX4_empty ⟨⟨Nat.le_of_ble_eq_true rfl, Nat.le_of_ble_eq_true rfl⟩, Nat.le_of_ble_eq_true rfl, Nat.le_of_ble_eq_true rfl⟩ ⟨rfl, rfl⟩ rfl rfl (Nat.le_of_ble_eq_true rfl) [1, 2] rfl rfl (fun _ => rfl) rfl rfl dX7_clearText_12 (kV_of (fun u12 hq12 => ?_))
  dsimp only [putW, List.set, Option.toList, List.cons_append, List.nil_append, padO, mdO, shW, trW, txW, hiW, liW, woW, taW]
  try dsimp only at hq12
  refine V_iload_n XC 1 rfl dX7_clearText_15 rfl ?_
  refine V_iret XC (()) hrV rfl dX7_clearText_16 ?_
  rfl

set_option maxRecDepth 100000 in
set_option maxHeartbeats 4000000 in
theorem c_X7_setGap (l : Launch) (D : va_G) (kI kC : ClassId) (a g w : Nat → Nat) (gap : Int) (hg : 0 ≤ gap ∧ gap ≤ 500) (z : Int) (hz : IR z) : Con l yX7_setGap wsX7_setGap { frames := 1, cells := 0, slots := 0, locals := 22 } D kI kC [.ref (a 0), .int (iI z)] [padO a g w gap] (σ := Int) (qI (fun r u => r = (if inR z 0 500 = false then -2 else gap) ∧ u = (if inR z 0 500 = false then gap else z))) (fun u => [padO a g w u]) := by
  refine Con.of (cc := cX7_setGap) (maxL := 3) (ret := (some .int)) (by decide +kernel) rfl (List.forall_mem_cons.mpr ⟨rfl, List.forall_mem_cons.mpr ⟨rfl, fun _ h => absurd h List.not_mem_nil⟩⟩) (Nat.le_of_ble_eq_true rfl) ?_
  intro pV eV sV mV bV tV cV AV XC hrV
  have XC : Cx pV _ sV mV _ tV cV cX7_setGap 3 RX7 wsX7_setGap AV D kI kC := XC
  change VV _ _ _ _ _ _ _ _ _ _ _ _ _ _ _ _ _ [some (.ref (a 0)), some (.int (iI z)), none] _ _
  dsimp only [padO, trW, shW, txW, hiW, liW, woW, taW, List.cons_append, List.nil_append]
  refine V_iload_n XC 1 rfl dX7_setGap_0 rfl ?_
  refine V_iconst XC dX7_setGap_1 ?_
  refine V_sipush XC dX7_setGap_2 (by decide) ?_
  refine V_callS (rest := _) XC (c_X7_isWithin l D kI kC _ _ _ (by first | assumption | (unfold IR; omega)) (by first | assumption | (unfold IR; omega)) (by first | assumption | (unfold IR; omega))) gX7_setGap_X7_isWithin rfl kmX7_isWithin ⟨⟨Nat.le_of_ble_eq_true rfl, Nat.le_of_ble_eq_true rfl⟩, Nat.le_of_ble_eq_true rfl, Nat.le_of_ble_eq_true rfl⟩ ⟨rfl, rfl⟩ rfl rfl (Nat.le_of_ble_eq_true rfl) [] rfl rfl (fun _ => rfl) dX7_setGap_5 (kR_of rfl (fun r5 hq5 => ?_))
  subst hq5
  refine V_bif_ne XC 14 dX7_setGap_8 (by decide) (fun h8 => ?_) (fun h8 => ?_)
  · skip
    refine V_aload_n XC 0 rfl dX7_setGap_14 rfl ?_
    refine V_get XC 9 flX7_setGap_64 0 rfl rfl dX7_setGap_15 ?_
    refine V_istore_n XC 2 rfl dX7_setGap_18 (by decide) ?_
    dsimp only [List.set]
    refine V_aload_n XC 0 rfl dX7_setGap_19 rfl ?_
    refine V_iload_n XC 1 rfl dX7_setGap_20 rfl ?_
    refine V_putI XC 9 flX7_setGap_64 fpX7 pdX7_9 rfl 0 rfl (Nat.le_of_ble_eq_true rfl) dX7_setGap_21 ?_
    dsimp only [List.set]
    refine V_iload_n XC 2 rfl dX7_setGap_24 rfl ?_
    refine V_iret XC (_) hrV rfl dX7_setGap_25 ?_
    first | exact ⟨(if_pos h8).symm, (if_pos h8).symm⟩ | exact ⟨(if_neg (by unfold inR; rw [h8]; decide)).symm, (if_neg (by unfold inR; rw [h8]; decide)).symm⟩
  refine V_bipush XC dX7_setGap_11 (by decide) ?_
  refine V_iret XC (_) hrV rfl dX7_setGap_13 ?_
  first | exact ⟨(if_pos h8).symm, (if_pos h8).symm⟩ | exact ⟨(if_neg (by unfold inR; rw [h8]; decide)).symm, (if_neg (by unfold inR; rw [h8]; decide)).symm⟩

theorem prs_r (T : Nat → Int) : ∀ (f i : Nat) (K : List Pt) (cnt : Nat) (x : Int) (b : Bool) (num : Int) (dig : Nat), dig ≤ i → NR K → NR (prs T f i K cnt x b num dig).2 ∧ -1 ≤ (prs T f i K cnt x b num dig).1 ∧ (prs T f i K cnt x b num dig).1 ≤ (i : Int) + f
  | 0, i, K, cnt, x, b, num, dig, hd, hK => by
    unfold prs
    split
    · exact ⟨hK, by dsimp only; omega, by dsimp only; omega⟩
    · split
      · exact ⟨hK, by dsimp only; omega, by dsimp only; omega⟩
      · exact ⟨NR_addP hK, by dsimp only; omega, by dsimp only; omega⟩
  | f + 1, i, K, cnt, x, b, num, dig, hd, hK => by
    rw [prs_s]
    split
    · split
      · exact ⟨hK, by dsimp only; omega, by dsimp only; omega⟩
      · have := prs_r T f (i + 1) K cnt x b (num * 10 + (T i - 48)) (dig + 1) (by omega) hK
        exact ⟨this.1, this.2.1, by have := this.2.2; omega⟩
    · split
      · exact ⟨hK, by dsimp only; omega, by dsimp only; omega⟩
      · split
        · split
          · have := prs_r T f (i + 1) (addP K (x, num)) (cnt + 1) x false 0 0 (by omega) (NR_addP hK)
            exact ⟨this.1, this.2.1, by have := this.2.2; omega⟩
          · exact ⟨hK, by dsimp only; omega, by dsimp only; omega⟩
        · split
          · have := prs_r T f (i + 1) K cnt num true 0 0 (by omega) hK
            exact ⟨this.1, this.2.1, by have := this.2.2; omega⟩
          · exact ⟨hK, by dsimp only; omega, by dsimp only; omega⟩
theorem prs_NR (T : Nat → Int) (n : Nat) : NR (prs T n 0 [] 0 0 false 0 0).2 := (prs_r T n 0 [] 0 0 false 0 0 (Nat.le_refl 0) trivial).1
theorem prs_rng (T : Nat → Int) (n : Nat) (hn : n ≤ 100) : -1 ≤ (prs T n 0 [] 0 0 false 0 0).1 ∧ (prs T n 0 [] 0 0 false 0 0).1 ≤ 100 := by
  have := (prs_r T n 0 [] 0 0 false 0 0 (Nat.le_refl 0) trivial).2
  omega

set_option maxRecDepth 100000 in
set_option maxHeartbeats 4000000 in
theorem c_X7_readPoints (l : Launch) (D : va_G) (kI kC : ClassId) (a g w : Nat → Nat) (gap : Int) (nb : Nat) (BX BY : Nat → Int) (nt : Nat) (T : Nat → Int) (wn : Int) (WX WY : Nat → Int) (hB : OkB (ptsOf nb BX BY)) (hn : nt ≤ 100) (hT : ∀ i, i < nt → 0 ≤ T i ∧ T i < 65536) : Con l yX7_readPoints wsX7_readPoints { frames := 3, cells := 0, slots := 0, locals := 73 } D kI kC [.ref (a 0)] (padO a g w gap :: (trW kI (a 1) (a 2) (a 3) (nb : Int) BX BY ++ (txW kC (a 4) (a 5) (nt : Int) T ++ (trW kI (a 10) (a 11) (a 12) wn WX WY)))) (σ := Nat × (Nat → Int) × (Nat → Int) × Int × (Nat → Int) × (Nat → Int)) (qI (fun r u => r = (if (prs T nt 0 [] 0 0 false 0 0).1 = -1 then ((prs T nt 0 [] 0 0 false 0 0).2.length : Int) else -100 - (prs T nt 0 [] 0 0 false 0 0).1) ∧ ptsOf u.1 u.2.1 u.2.2.1 = (if (prs T nt 0 [] 0 0 false 0 0).1 = -1 then (prs T nt 0 [] 0 0 false 0 0).2 else ptsOf nb BX BY) ∧ OkB (ptsOf u.1 u.2.1 u.2.2.1))) (fun u => (padO a g w gap :: (trW kI (a 1) (a 2) (a 3) (u.1 : Int) u.2.1 u.2.2.1 ++ (txW kC (a 4) (a 5) (nt : Int) T ++ (trW kI (a 10) (a 11) (a 12) u.2.2.2.1 u.2.2.2.2.1 u.2.2.2.2.2))))) := by
  refine Con.of (cc := cX7_readPoints) (maxL := 2) (ret := (some .int)) (by decide +kernel) rfl (List.forall_mem_cons.mpr ⟨rfl, fun _ h => absurd h List.not_mem_nil⟩) (Nat.le_of_ble_eq_true rfl) ?_
  intro pV eV sV mV bV tV cV AV XC hrV
  have XC : Cx pV _ sV mV _ tV cV cX7_readPoints 2 RX7 wsX7_readPoints AV D kI kC := XC
  change VV _ _ _ _ _ _ _ _ _ _ _ _ _ _ _ _ _ [some (.ref (a 0)), none] _ _
  dsimp only [padO, trW, shW, txW, hiW, liW, woW, taW, List.cons_append, List.nil_append]
  refine V_aload_n XC 0 rfl dX7_readPoints_0 rfl ?_
  refine V_get XC 1 flX7_readPoints_19 0 rfl rfl dX7_readPoints_1 ?_
  refine V_aload_n XC 0 rfl dX7_readPoints_4 rfl ?_
  refine V_get XC 4 flX7_readPoints_33 0 rfl rfl dX7_readPoints_5 ?_
  refine V_callV (rest := _) (q0 := 4) XC (c_X4_parse l D kI kC _ _ _ _ _ _ _ _ _ _ (by omega) (by assumption)) gX7_readPoints_X4_parse rfl kmX4_parse ⟨⟨Nat.le_of_ble_eq_true rfl, Nat.le_of_ble_eq_true rfl⟩, Nat.le_of_ble_eq_true rfl, Nat.le_of_ble_eq_true rfl⟩ ⟨rfl, rfl⟩ rfl rfl (Nat.le_of_ble_eq_true rfl) [4, 5, 6, 7, 8] rfl rfl (fun _ => rfl) rfl rfl dX7_readPoints_8 (kI_of (fun r8 u8 hq8 => ?_))
  obtain ⟨m8, X8, Y8⟩ := u8
  dsimp only [putW, List.set, Option.toList, List.cons_append, List.nil_append, padO, mdO, shW, trW, txW, hiW, liW, woW, taW]
  try dsimp only at hq8
  obtain ⟨hr8, hu8⟩ := hq8
  rw [hr8]
  refine V_istore_n XC 1 rfl dX7_readPoints_11 (by decide) ?_
  dsimp only [List.set]
  refine V_iload_n XC 1 rfl dX7_readPoints_12 rfl ?_
  refine V_iconst XC dX7_readPoints_13 ?_
  refine V_icmp_eq XC 22 dX7_readPoints_14 (by decide) (by unfold IR; have := prs_rng T nt hn; omega) ⟨by decide, by decide⟩ (fun h14 => ?_) (fun h14 => ?_)
  · skip
    obtain ⟨h24, hp, hC⟩ := hu8 (by rw [hr8]; exact h14)
    refine V_aload_n XC 0 rfl dX7_readPoints_22 rfl ?_
    refine V_get XC 0 flX7_readPoints_12 0 rfl rfl dX7_readPoints_23 ?_
    refine V_aload_n XC 0 rfl dX7_readPoints_26 rfl ?_
    refine V_get XC 4 flX7_readPoints_33 0 rfl rfl dX7_readPoints_27 ?_
    refine V_callV (rest := _) (q0 := 1) XC (c_X5_copy l D kI kC _ _ _ _ _ _ _ _ _ _ _ _) gX7_readPoints_X5_copy rfl kmX5_copy ⟨⟨Nat.le_of_ble_eq_true rfl, Nat.le_of_ble_eq_true rfl⟩, Nat.le_of_ble_eq_true rfl, Nat.le_of_ble_eq_true rfl⟩ ⟨rfl, rfl⟩ rfl rfl (Nat.le_of_ble_eq_true rfl) [1, 2, 3, 6, 7, 8] rfl rfl (fun _ => rfl) rfl rfl dX7_readPoints_30 (kV_of (fun u30 hq30 => ?_))
    dsimp only [putW, List.set, Option.toList, List.cons_append, List.nil_append, padO, mdO, shW, trW, txW, hiW, liW, woW, taW]
    try dsimp only at hq30
    refine V_aload_n XC 0 rfl dX7_readPoints_33 rfl ?_
    refine V_get XC 0 flX7_readPoints_12 0 rfl rfl dX7_readPoints_34 ?_
    refine V_get XC 0 flX7_readPoints_72 1 rfl rfl dX7_readPoints_37 ?_
    refine V_iret XC (m8, cpz X8 BX 0 0 24, cpz Y8 BY 0 0 24, (m8 : Int), X8, Y8) hrV rfl dX7_readPoints_40 ?_
    rw [if_pos h14, if_pos h14]
    have e : ptsOf m8 (cpz X8 BX 0 0 24) (cpz Y8 BY 0 0 24) = ptsOf m8 X8 Y8 := ptsOf_congr (fun i hi => by
      unfold cpz
      rw [if_pos (by omega), if_pos (by omega)]
      simp)
    try dsimp only
    rw [e, ← hp, ptsOf_len]
    refine ⟨rfl, rfl, by rw [ptsOf_len]; exact h24, fun q hq => ?_, by rw [hp]; exact prs_NR T nt⟩
    obtain ⟨i, hi, rfl⟩ := ptsOf_mem.mp hq
    exact hC i hi
  refine V_bipush XC dX7_readPoints_17 (by decide) ?_
  refine V_iload_n XC 1 rfl dX7_readPoints_19 rfl ?_
  refine V_isub XC dX7_readPoints_20 ?_
  refine V_iret XC (nb, BX, BY, (m8 : Int), X8, Y8) hrV rfl dX7_readPoints_21 ?_
  rw [if_neg h14, if_neg h14]
  exact ⟨rfl, rfl, hB⟩

end PADA
