/-! the class's Text -/
section TEXT

set_option maxRecDepth 100000 in
set_option maxHeartbeats 4000000 in
theorem c_X4_empty (l : Launch) (D : va_G) (kI kC : ClassId) (h0 h1 : Nat) (n : Int) (T : Nat → Int)  : Con l yX4_empty wsX4_empty { frames := 0, cells := 0, slots := 0, locals := 0 } D kI kC [.ref h0] (txW kC h0 h1 n T) (σ := Unit) (qV (fun u => True)) (fun u => txW kC h0 h1 0 T) := by
  refine Con.of (cc := cX4_empty) (maxL := 1) (ret := none) (by decide +kernel) rfl (List.forall_mem_cons.mpr ⟨rfl, fun _ h => absurd h List.not_mem_nil⟩) (Nat.le_of_ble_eq_true rfl) ?_
  intro pV eV sV mV bV tV cV AV XC hrV
  have XC : Cx pV _ sV mV _ tV cV cX4_empty 1 RX4 wsX4_empty AV D kI kC := XC
  change VV _ _ _ _ _ _ _ _ _ _ _ _ _ _ _ _ _ [some (.ref h0)] _ _
  dsimp only [txW]
  refine V_aload_n XC 0 rfl dX4_empty_0 rfl ?_
  refine V_iconst XC dX4_empty_1 ?_
  refine V_putI XC 0 flX4_empty_15 fpX4 pdX4_0 rfl 0 rfl (Nat.le_of_ble_eq_true rfl) dX4_empty_2 ?_
  dsimp only [List.set]
  refine V_vret XC (()) hrV rfl dX4_empty_5 ?_
  trivial

set_option maxRecDepth 100000 in
set_option maxHeartbeats 4000000 in
theorem c_X4_append (l : Launch) (D : va_G) (kI kC : ClassId) (h0 h1 : Nat) (n : Nat) (T : Nat → Int) (c : Int) (hn : n < 100) (hc : 0 ≤ c ∧ c < 65536) : Con l yX4_append wsX4_append { frames := 0, cells := 0, slots := 0, locals := 0 } D kI kC [.ref h0, .int (iI c)] (txW kC h0 h1 (n : Int) T) (σ := Unit) (qV (fun u => True)) (fun u => txW kC h0 h1 ((n + 1 : Nat) : Int) (upz T n c)) := by
  refine Con.of (cc := cX4_append) (maxL := 2) (ret := none) (by decide +kernel) rfl (List.forall_mem_cons.mpr ⟨rfl, List.forall_mem_cons.mpr ⟨rfl, fun _ h => absurd h List.not_mem_nil⟩⟩) (Nat.le_of_ble_eq_true rfl) ?_
  intro pV eV sV mV bV tV cV AV XC hrV
  have XC : Cx pV _ sV mV _ tV cV cX4_append 2 RX4 wsX4_append AV D kI kC := XC
  change VV _ _ _ _ _ _ _ _ _ _ _ _ _ _ _ _ _ [some (.ref h0), some (.int (iI c))] _ _
  dsimp only [txW]
  refine V_aload_n XC 0 rfl dX4_append_0 rfl ?_
  refine V_get XC 0 flX4_append_15 0 rfl rfl dX4_append_1 ?_
  refine V_bipush XC dX4_append_4 (by decide) ?_
  refine V_icmp_ge XC 29 dX4_append_6 (by decide) (by first | assumption | (unfold IR; omega)) (by first | assumption | (unfold IR; omega)) (fun h6 => ?_) (fun h6 => ?_)
  · skip
    omega
  refine V_aload_n XC 0 rfl dX4_append_9 rfl ?_
  refine V_get XC 1 flX4_append_9 0 rfl rfl dX4_append_10 ?_
  refine V_aload_n XC 0 rfl dX4_append_13 rfl ?_
  refine V_get XC 0 flX4_append_15 0 rfl rfl dX4_append_14 ?_
  refine V_iload_n XC 1 rfl dX4_append_17 rfl ?_
  refine V_cast XC (_) 1 rfl rfl (by omega) (by decide) (by omega) (by omega) dX4_append_18 ?_
  dsimp only [List.set]
  refine V_aload_n XC 0 rfl dX4_append_19 rfl ?_
  refine V_dup XC dX4_append_20 rfl ?_
  refine V_get XC 0 flX4_append_15 0 rfl rfl dX4_append_21 ?_
  refine V_iconst XC dX4_append_24 ?_
  refine V_iadd XC dX4_append_25 ?_
  refine V_top (y := ((n + 1 : Nat) : Int)) (by omega) ?_
  refine V_putI XC 0 flX4_append_15 fpX4 pdX4_0 rfl 0 rfl (Nat.le_of_ble_eq_true rfl) dX4_append_26 ?_
  dsimp only [List.set]
  refine V_vret XC (()) hrV rfl dX4_append_29 ?_
  trivial

set_option maxRecDepth 100000 in
set_option maxHeartbeats 4000000 in
theorem c_X4_isDigit (l : Launch) (D : va_G) (kI kC : ClassId) (c : Int) (hc : 0 ≤ c ∧ c < 65536) : ConR l yX4_isDigit wsX4_isDigit { frames := 0, cells := 0, slots := 0, locals := 0 } D kI kC [.int (iI c)] [] (fun r => r = bI (decide (48 ≤ c ∧ c ≤ 57))) := by
  refine Con.of (cc := cX4_isDigit) (maxL := 1) (ret := (some .boolean)) (by decide +kernel) rfl (List.forall_mem_cons.mpr ⟨rfl, fun _ h => absurd h List.not_mem_nil⟩) (Nat.le_of_ble_eq_true rfl) ?_
  intro pV eV sV mV bV tV cV AV XC hrV
  have XC : Cx pV _ sV mV _ tV cV cX4_isDigit 1 RX4 wsX4_isDigit AV D kI kC := XC
  change VV _ _ _ _ _ _ _ _ _ _ _ _ _ _ _ _ _ [some (.int (iI c))] _ _
  refine V_iload_n XC 0 rfl dX4_isDigit_0 rfl ?_
  refine V_bipush XC dX4_isDigit_1 (by decide) ?_
  refine V_icmp_lt XC 16 dX4_isDigit_3 (by decide) ⟨by omega, by omega⟩ ⟨by decide, by decide⟩ (fun h3 => ?_) (fun h3 => ?_)
  · skip
    refine V_iconst XC dX4_isDigit_16 ?_
    refine V_zret (r := false) XC () hrV rfl dX4_isDigit_17 ?_
    try dsimp only
    first | rfl | exact congrArg bI (decide_eq_true (by omega)).symm | exact congrArg bI (decide_eq_false (by omega)).symm
  refine V_iload_n XC 0 rfl dX4_isDigit_6 rfl ?_
  refine V_bipush XC dX4_isDigit_7 (by decide) ?_
  refine V_icmp_gt XC 16 dX4_isDigit_9 (by decide) ⟨by omega, by omega⟩ ⟨by decide, by decide⟩ (fun h9 => ?_) (fun h9 => ?_)
  · skip
    refine V_iconst XC dX4_isDigit_16 ?_
    refine V_zret (r := false) XC () hrV rfl dX4_isDigit_17 ?_
    try dsimp only
    first | rfl | exact congrArg bI (decide_eq_true (by omega)).symm | exact congrArg bI (decide_eq_false (by omega)).symm
  refine V_iconst XC dX4_isDigit_12 ?_
  refine V_goto XC 17 dX4_isDigit_13 (by decide) ?_
  refine V_zret (r := true) XC () hrV rfl dX4_isDigit_17 ?_
  try dsimp only
  first | rfl | exact congrArg bI (decide_eq_true (by omega)).symm | exact congrArg bI (decide_eq_false (by omega)).symm

/-- reading points: the fault (or -1), and the points -/
def prs (T : Nat → Int) : Nat → Nat → List Pt → Nat → Int → Bool → Int → Nat → Int × List Pt
  | 0, i, K, _, x, b, num, dig => if 1000 < num then ((i : Int) - (dig : Int), K) else if dig = 0 ∨ b = false then ((i : Int), K) else (-1, addP K (x, num))
  | f + 1, i, K, cnt, x, b, num, dig =>
    if 48 ≤ T i ∧ T i ≤ 57 then (if dig = 4 then ((i : Int), K) else prs T f (i + 1) K cnt x b (num * 10 + (T i - 48)) (dig + 1))
    else if 1000 < num then ((i : Int) - (dig : Int), K)
    else if b = true then (if dig ≠ 0 ∧ T i = 32 ∧ cnt < 23 then prs T f (i + 1) (addP K (x, num)) (cnt + 1) x false 0 0 else ((i : Int), K))
    else (if dig ≠ 0 ∧ T i = 44 then prs T f (i + 1) K cnt num true 0 0 else ((i : Int), K))

theorem prs_s (T : Nat → Int) (f i : Nat) (K : List Pt) (cnt : Nat) (x : Int) (b : Bool) (num : Int) (dig : Nat) : prs T (f + 1) i K cnt x b num dig =
    if 48 ≤ T i ∧ T i ≤ 57 then (if dig = 4 then ((i : Int), K) else prs T f (i + 1) K cnt x b (num * 10 + (T i - 48)) (dig + 1))
    else if 1000 < num then ((i : Int) - (dig : Int), K)
    else if b = true then (if dig ≠ 0 ∧ T i = 32 ∧ cnt < 23 then prs T f (i + 1) (addP K (x, num)) (cnt + 1) x false 0 0 else ((i : Int), K))
    else (if dig ≠ 0 ∧ T i = 44 then prs T f (i + 1) K cnt num true 0 0 else ((i : Int), K)) := rfl

set_option maxRecDepth 100000 in
set_option maxHeartbeats 4000000 in
theorem c_X4_parse (l : Launch) (D : va_G) (kI kC : ClassId) (h0 h1 t0 t1 t2 : Nat) (n : Nat) (T : Nat → Int) (m0 : Int) (F G : Nat → Int) (hn : n ≤ 100) (hT : ∀ i, i < n → 0 ≤ T i ∧ T i < 65536)  : Con l yX4_parse wsX4_parse { frames := 2, cells := 0, slots := 0, locals := 44 } D kI kC [.ref h0, .ref t0] (txW kC h0 h1 (n : Int) T ++ trW kI t0 t1 t2 m0 F G) (σ := Nat × (Nat → Int) × (Nat → Int)) (qI (fun r u => r = (prs T n 0 [] 0 0 false 0 0).1 ∧ (r = -1 → u.1 ≤ 24 ∧ ptsOf u.1 u.2.1 u.2.2 = (prs T n 0 [] 0 0 false 0 0).2 ∧ (∀ i, i < u.1 → 0 ≤ u.2.1 i ∧ u.2.1 i ≤ 1000 ∧ 0 ≤ u.2.2 i ∧ u.2.2 i ≤ 1000)))) (fun u => txW kC h0 h1 (n : Int) T ++ trW kI t0 t1 t2 (u.1 : Int) u.2.1 u.2.2) := by
  refine Con.of (cc := cX4_parse) (maxL := 10) (ret := (some .int)) (by decide +kernel) rfl (List.forall_mem_cons.mpr ⟨rfl, List.forall_mem_cons.mpr ⟨rfl, fun _ h => absurd h List.not_mem_nil⟩⟩) (Nat.le_of_ble_eq_true rfl) ?_
  intro pV eV sV mV bV tV cV AV XC hrV
  have XC : Cx pV _ sV mV _ tV cV cX4_parse 10 RX4 wsX4_parse AV D kI kC := XC
  change VV _ _ _ _ _ _ _ _ _ _ _ _ _ _ _ _ _ [some (.ref h0), some (.ref t0), none, none, none, none, none, none, none, none] _ _
  dsimp only [txW, trW, List.cons_append, List.nil_append]
  refine V_aload_n XC 1 rfl dX4_parse_0 rfl ?_
  refine V_callV (rest := _) (q0 := 2) XC (c_X5_empty l D kI kC _ _ _ _ _ _) gX4_parse_X5_empty rfl kmX5_empty ⟨⟨Nat.le_of_ble_eq_true rfl, Nat.le_of_ble_eq_true rfl⟩, Nat.le_of_ble_eq_true rfl, Nat.le_of_ble_eq_true rfl⟩ ⟨rfl, rfl⟩ rfl rfl (Nat.le_of_ble_eq_true rfl) [2, 3, 4] rfl rfl (fun _ => rfl) rfl rfl dX4_parse_1 (kV_of (fun u1 hq1 => ?_))
  dsimp only [putW, List.set, Option.toList, List.cons_append, List.nil_append, padO, mdO, shW, trW, txW, hiW, liW, woW, taW]
  try dsimp only at hq1
  refine V_iconst XC dX4_parse_4 ?_
  refine V_istore_n XC 2 rfl dX4_parse_5 (by decide) ?_
  dsimp only [List.set]
  refine V_iconst XC dX4_parse_6 ?_
  refine V_istore_n XC 3 rfl dX4_parse_7 (by decide) ?_
  dsimp only [List.set]
  refine V_iconst XC dX4_parse_8 ?_
  refine V_istore XC dX4_parse_9 (by decide) ?_
  dsimp only [List.set]
  refine V_iconst XC dX4_parse_11 ?_
  refine V_istore XC dX4_parse_12 (by decide) ?_
  dsimp only [List.set]
  refine V_iconst XC dX4_parse_14 ?_
  refine V_istore XC dX4_parse_15 (by decide) ?_
  dsimp only [List.set]
  refine V_iconst XC dX4_parse_17 ?_
  refine V_istore XC dX4_parse_18 (by decide) ?_
  dsimp only [List.set]
  refine V_loop (σ := Nat × Nat × Int × Bool × Int × Nat × Nat × (Nat → Int) × (Nat → Int) × Nat) (fun u => u.2.2.2.2.2.2.2.2.2) (fun u => u.1 + u.2.2.2.2.2.2.2.2.2 = n ∧ u.2.1 ≤ 23 ∧ u.2.2.2.2.2.2.1 ≤ u.2.1 ∧ (∀ i, i < u.2.2.2.2.2.2.1 → 0 ≤ u.2.2.2.2.2.2.2.1 i ∧ u.2.2.2.2.2.2.2.1 i ≤ 1000 ∧ 0 ≤ u.2.2.2.2.2.2.2.2.1 i ∧ u.2.2.2.2.2.2.2.2.1 i ≤ 1000) ∧ (u.2.2.2.1 = true → 0 ≤ u.2.2.1 ∧ u.2.2.1 ≤ 1000) ∧ (0 ≤ u.2.2.2.2.1 ∧ u.2.2.2.2.1 ≤ 9999 ∧ (u.2.2.2.2.2.1 = 0 → u.2.2.2.2.1 = 0) ∧ (u.2.2.2.2.2.1 = 1 → u.2.2.2.2.1 ≤ 9) ∧ (u.2.2.2.2.2.1 = 2 → u.2.2.2.2.1 ≤ 99) ∧ (u.2.2.2.2.2.1 = 3 → u.2.2.2.2.1 ≤ 999) ∧ u.2.2.2.2.2.1 ≤ 4 ∧ u.2.2.2.2.2.1 ≤ u.1) ∧ prs T u.2.2.2.2.2.2.2.2.2 u.1 (ptsOf u.2.2.2.2.2.2.1 u.2.2.2.2.2.2.2.1 u.2.2.2.2.2.2.2.2.1) u.2.1 u.2.2.1 u.2.2.2.1 u.2.2.2.2.1 u.2.2.2.2.2.1 = prs T n 0 [] 0 0 false 0 0) (fun u => [some (.ref h0), some (.ref t0), some (.int (iI (u.2.1 : Int))), some (.int (iI u.2.2.1)), some (.int (iI (bI u.2.2.2.1))), some (.int (iI u.2.2.2.2.1)), some (.int (iI (u.2.2.2.2.2.1 : Int))), some (.int (iI (u.1 : Int))), none, none]) (fun u => txW kC h0 h1 (n : Int) T ++ trW kI t0 t1 t2 (u.2.2.2.2.2.2.1 : Int) u.2.2.2.2.2.2.2.1 u.2.2.2.2.2.2.2.2.1) (0, 0, 0, false, 0, 0, 0, F, G, n) ?_ rfl rfl (fun u hJ ih20 => ?_)
  · dsimp only
    exact ⟨Nat.zero_add n, by decide, Nat.le_refl _, fun i hi => absurd hi (Nat.not_lt_zero i), fun z => absurd z (by decide), ⟨by decide, by decide, fun _ => rfl, fun _ => by decide, fun _ => by decide, fun _ => by decide, by decide, by decide⟩, rfl⟩
  obtain ⟨i, cnt, x, b, num, dig, m, X, Y, f⟩ := u
  try dsimp only at hJ ih20 ⊢
  try dsimp only [List.cons_append, List.nil_append, padO, mdO, shW, trW, txW, hiW, liW, woW, taW]
  obtain ⟨hi, hcnt, hm, hC, hx, hnum, hE⟩ := hJ
  refine V_iload XC dX4_parse_20 rfl ?_
  refine V_aload_n XC 0 rfl dX4_parse_22 rfl ?_
  refine V_get XC 0 flX4_parse_15 0 rfl rfl dX4_parse_23 ?_
  refine V_icmp_ge XC 186 dX4_parse_26 (by decide) ⟨by omega, by omega⟩ ⟨by omega, by omega⟩ (fun h26 => ?_) (fun h26 => ?_)
  · skip
    obtain rfl : f = 0 := by omega
    refine V_iload XC dX4_parse_186 rfl ?_
    refine V_sipush XC dX4_parse_188 (by decide) ?_
    refine V_icmp_le XC 202 dX4_parse_191 (by decide) ⟨by omega, by omega⟩ ⟨by decide, by decide⟩ (fun h191 => ?_) (fun h191 => ?_)
    · skip
      refine V_iload XC dX4_parse_202 rfl ?_
      refine V_if_eq XC 212 dX4_parse_204 (by decide) ⟨by omega, by omega⟩ (fun h204 => ?_) (fun h204 => ?_)
      · skip
        refine V_aload_n XC 0 rfl dX4_parse_212 rfl ?_
        refine V_get XC 0 flX4_parse_15 0 rfl rfl dX4_parse_213 ?_
        refine V_iret XC ((m, X, Y)) hrV rfl dX4_parse_216 ?_
        refine ⟨?_, fun z => absurd z (by (try dsimp only); omega)⟩
        try dsimp only
        rw [← hE]
        unfold prs
        rw [if_neg (by omega), if_pos (by first | exact Or.inl (by omega) | exact Or.inr rfl)]
        try dsimp only
        omega
      refine V_iload XC dX4_parse_207 rfl ?_
      refine V_bif_ne XC 217 dX4_parse_209 (by decide) (fun h209 => ?_) (fun h209 => ?_)
      · skip
        subst h209
        have hx2 := hx rfl
        refine V_aload_n XC 1 rfl dX4_parse_217 rfl ?_
        refine V_iload_n XC 3 rfl dX4_parse_218 rfl ?_
        refine V_iload XC dX4_parse_219 rfl ?_
        refine V_callV (rest := _) (q0 := 2) XC (c_X5_append l D kI kC _ _ _ _ _ _ (by omega) (by assumption) _ _ (by first | assumption | omega)) gX4_parse_X5_append rfl kmX5_append ⟨⟨Nat.le_of_ble_eq_true rfl, Nat.le_of_ble_eq_true rfl⟩, Nat.le_of_ble_eq_true rfl, Nat.le_of_ble_eq_true rfl⟩ ⟨rfl, rfl⟩ rfl rfl (Nat.le_of_ble_eq_true rfl) [2, 3, 4] rfl rfl (fun _ => rfl) rfl rfl dX4_parse_221 (kV_of (fun u221 hq221 => ?_))
        obtain ⟨n221, F221, G221⟩ := u221
        dsimp only [putW, List.set, Option.toList, List.cons_append, List.nil_append, padO, mdO, shW, trW, txW, hiW, liW, woW, taW]
        try dsimp only at hq221
        obtain ⟨hn221, hp221, hC221, hu221⟩ := hq221
        refine V_iconst XC dX4_parse_224 ?_
        refine V_iret XC (_, _, _) hrV rfl dX4_parse_225 ?_
        refine ⟨?_, fun _ => ⟨hn221, ?_, hC221⟩⟩
        · try dsimp only
          rw [← hE]
          unfold prs
          rw [if_neg (by omega), if_neg (by rintro (z | z); · omega
                                            · cases z)]
        · rw [hp221, ← hE]
          unfold prs
          rw [if_neg (by omega), if_neg (by rintro (z | z); · omega
                                            · cases z)]
      subst h209
      refine V_aload_n XC 0 rfl dX4_parse_212 rfl ?_
      refine V_get XC 0 flX4_parse_15 0 rfl rfl dX4_parse_213 ?_
      refine V_iret XC ((m, X, Y)) hrV rfl dX4_parse_216 ?_
      refine ⟨?_, fun z => absurd z (by (try dsimp only); omega)⟩
      try dsimp only
      rw [← hE]
      unfold prs
      rw [if_neg (by omega), if_pos (by first | exact Or.inl (by omega) | exact Or.inr rfl)]
      try dsimp only
      omega
    refine V_aload_n XC 0 rfl dX4_parse_194 rfl ?_
    refine V_get XC 0 flX4_parse_15 0 rfl rfl dX4_parse_195 ?_
    refine V_iload XC dX4_parse_198 rfl ?_
    refine V_isub XC dX4_parse_200 ?_
    refine V_iret XC ((m, X, Y)) hrV rfl dX4_parse_201 ?_
    refine ⟨?_, fun z => absurd z (by (try dsimp only); omega)⟩
    try dsimp only
    rw [← hE]
    unfold prs
    rw [if_pos (by omega)]
    try dsimp only
    omega
  obtain ⟨f, rfl⟩ : ∃ k, f = k + 1 := ⟨f - 1, by omega⟩
  have hTi := hT i (by omega)
  refine V_aload_n XC 0 rfl dX4_parse_29 rfl ?_
  refine V_get XC 1 flX4_parse_9 0 rfl rfl dX4_parse_30 ?_
  refine V_iload XC dX4_parse_33 rfl ?_
  refine V_cald XC (_) 1 rfl rfl (by omega) (by decide) dX4_parse_35 ?_
  refine V_istore XC dX4_parse_36 (by decide) ?_
  dsimp only [List.set]
  refine V_iload XC dX4_parse_38 rfl ?_
  refine V_callS (rest := _) XC (c_X4_isDigit l D kI kC _ (by omega)) gX4_parse_X4_isDigit rfl kmX4_isDigit ⟨⟨Nat.le_of_ble_eq_true rfl, Nat.le_of_ble_eq_true rfl⟩, Nat.le_of_ble_eq_true rfl, Nat.le_of_ble_eq_true rfl⟩ ⟨rfl, rfl⟩ rfl rfl (Nat.le_of_ble_eq_true rfl) [] rfl rfl (fun _ => rfl) dX4_parse_40 (kR_of rfl (fun r40 hq40 => ?_))
  subst hq40
  refine V_bif_eq XC 74 dX4_parse_43 (by decide) (fun h43 => ?_) (fun h43 => ?_)
  · skip
    have hd43 : ¬ (48 ≤ T i ∧ T i ≤ 57) := of_decide_eq_false h43
    refine V_iload XC dX4_parse_74 rfl ?_
    refine V_sipush XC dX4_parse_76 (by decide) ?_
    refine V_icmp_le XC 88 dX4_parse_79 (by decide) ⟨by omega, by omega⟩ ⟨by decide, by decide⟩ (fun h79 => ?_) (fun h79 => ?_)
    · skip
      refine V_iload XC dX4_parse_88 rfl ?_
      refine V_bif_eq XC 114 dX4_parse_90 (by decide) (fun h90 => ?_) (fun h90 => ?_)
      · skip
        subst h90
        refine V_iload XC dX4_parse_114 rfl ?_
        refine V_bipush XC dX4_parse_116 (by decide) ?_
        refine V_icmp_ne XC 125 dX4_parse_118 (by decide) ⟨by omega, by omega⟩ ⟨by decide, by decide⟩ (fun h118 => ?_) (fun h118 => ?_)
        · skip
          refine V_iconst XC dX4_parse_125 ?_
          refine V_istore XC dX4_parse_126 (by decide) ?_
          dsimp only [List.set]
          refine V_iload XC dX4_parse_128 rfl ?_
          refine V_if_eq XC 138 dX4_parse_130 (by decide) ⟨by omega, by omega⟩ (fun h130 => ?_) (fun h130 => ?_)
          · skip
            refine V_iload XC dX4_parse_138 rfl ?_
            refine V_iret XC ((m, X, Y)) hrV rfl dX4_parse_140 ?_
            refine ⟨?_, fun z => absurd z (by (try dsimp only); omega)⟩
            try dsimp only
            rw [← hE]
            unfold prs
            first
            | rw [if_pos hd43, if_pos (by omega)]
            | rw [if_neg hd43, if_pos (by omega)]
            | rw [if_neg hd43, if_neg (by omega), if_pos rfl, if_neg (by omega)]
            | rw [if_neg hd43, if_neg (by omega), if_neg (by decide), if_neg (by omega)]
          refine V_iload XC dX4_parse_133 rfl ?_
          refine V_if_ne XC 141 dX4_parse_135 (by decide) ⟨by decide, by decide⟩ (fun h135 => absurd h135 (by decide)) (fun h135 => ?_)
          refine V_iload XC dX4_parse_138 rfl ?_
          refine V_iret XC ((m, X, Y)) hrV rfl dX4_parse_140 ?_
          refine ⟨?_, fun z => absurd z (by (try dsimp only); omega)⟩
          try dsimp only
          rw [← hE]
          unfold prs
          first
          | rw [if_pos hd43, if_pos (by omega)]
          | rw [if_neg hd43, if_pos (by omega)]
          | rw [if_neg hd43, if_neg (by omega), if_pos rfl, if_neg (by omega)]
          | rw [if_neg hd43, if_neg (by omega), if_neg (by decide), if_neg (by omega)]
        refine V_iconst XC dX4_parse_121 ?_
        refine V_goto XC 126 dX4_parse_122 (by decide) ?_
        refine V_istore XC dX4_parse_126 (by decide) ?_
        dsimp only [List.set]
        refine V_iload XC dX4_parse_128 rfl ?_
        refine V_if_eq XC 138 dX4_parse_130 (by decide) ⟨by omega, by omega⟩ (fun h130 => ?_) (fun h130 => ?_)
        · skip
          refine V_iload XC dX4_parse_138 rfl ?_
          refine V_iret XC ((m, X, Y)) hrV rfl dX4_parse_140 ?_
          refine ⟨?_, fun z => absurd z (by (try dsimp only); omega)⟩
          try dsimp only
          rw [← hE]
          unfold prs
          first
          | rw [if_pos hd43, if_pos (by omega)]
          | rw [if_neg hd43, if_pos (by omega)]
          | rw [if_neg hd43, if_neg (by omega), if_pos rfl, if_neg (by omega)]
          | rw [if_neg hd43, if_neg (by omega), if_neg (by decide), if_neg (by omega)]
        refine V_iload XC dX4_parse_133 rfl ?_
        refine V_if_ne XC 141 dX4_parse_135 (by decide) ⟨by decide, by decide⟩ (fun h135 => ?_) (fun h135 => absurd h135 (by decide))
        refine V_iload XC dX4_parse_141 rfl ?_
        refine V_if_eq XC 159 dX4_parse_143 (by decide) ⟨by decide, by decide⟩ (fun h143 => ?_) (fun h143 => absurd h143 (by decide))
        refine V_iload XC dX4_parse_159 rfl ?_
        refine V_istore_n XC 3 rfl dX4_parse_161 (by decide) ?_
        dsimp only [List.set]
        refine V_iload XC dX4_parse_162 rfl ?_
        refine V_if_ne XC 171 dX4_parse_164 (by decide) ⟨by decide, by decide⟩ (fun h164 => absurd h164 (by decide)) (fun h164 => ?_)
        refine V_iconst XC dX4_parse_167 ?_
        refine V_goto XC 172 dX4_parse_168 (by decide) ?_
        refine V_istore XC dX4_parse_172 (by decide) ?_
        dsimp only [List.set]
        refine V_iconst XC dX4_parse_174 ?_
        refine V_istore XC dX4_parse_175 (by decide) ?_
        dsimp only [List.set]
        refine V_iconst XC dX4_parse_177 ?_
        refine V_istore XC dX4_parse_178 (by decide) ?_
        dsimp only [List.set]
        refine V_iinc XC dX4_parse_180 rfl (by decide) ?_
        dsimp only [List.set]
        refine V_goto XC 20 dX4_parse_183 (by decide) ?_
        refine V_kill 8 ?_
        dsimp only [List.set]
        refine V_kill 9 ?_
        dsimp only [List.set]
        first
        | (refine ih20 (i + 1, cnt, x, b, _, dig + 1, m, X, Y, f) ⟨by (try dsimp only); omega, by (try dsimp only); omega, hm, hC, hx, by (try dsimp only); omega, ?_⟩ (by (try dsimp only); omega)
           dsimp only
           rw [prs_s] at hE
           rw [if_pos hd43, if_neg (by omega)] at hE
           exact hE)
        | (refine ih20 (i + 1, cnt + 1, x, false, 0, 0, n150, F150, G150, f) ⟨by (try dsimp only); omega, by (try dsimp only); omega, ?_, hC150, fun z => absurd z (by simp), by (try dsimp only); omega, ?_⟩ (by (try dsimp only); omega)
           · rcases hu150 with ⟨_, e⟩ | ⟨_, e⟩ <;> cases e <;> (try dsimp only) <;> omega
           · dsimp only
             rw [prs_s] at hE
             rw [if_neg hd43, if_neg (by omega), if_pos rfl, if_pos (by omega), ← hp150] at hE
             exact hE)
        | (refine ih20 (i + 1, cnt, num, true, 0, 0, m, X, Y, f) ⟨by (try dsimp only); omega, by (try dsimp only); omega, hm, hC, fun _ => (by (try dsimp only); omega), by (try dsimp only); omega, ?_⟩ (by (try dsimp only); omega)
           dsimp only
           rw [prs_s] at hE
           rw [if_neg hd43, if_neg (by omega), if_neg (by decide), if_pos (by omega)] at hE
           exact hE)
      subst h90
      have hx2 := hx rfl
      refine V_iload XC dX4_parse_93 rfl ?_
      refine V_bipush XC dX4_parse_95 (by decide) ?_
      refine V_icmp_ne XC 110 dX4_parse_97 (by decide) ⟨by omega, by omega⟩ ⟨by decide, by decide⟩ (fun h97 => ?_) (fun h97 => ?_)
      · skip
        refine V_iconst XC dX4_parse_110 ?_
        refine V_goto XC 126 dX4_parse_111 (by decide) ?_
        refine V_istore XC dX4_parse_126 (by decide) ?_
        dsimp only [List.set]
        refine V_iload XC dX4_parse_128 rfl ?_
        refine V_if_eq XC 138 dX4_parse_130 (by decide) ⟨by omega, by omega⟩ (fun h130 => ?_) (fun h130 => ?_)
        · skip
          refine V_iload XC dX4_parse_138 rfl ?_
          refine V_iret XC ((m, X, Y)) hrV rfl dX4_parse_140 ?_
          refine ⟨?_, fun z => absurd z (by (try dsimp only); omega)⟩
          try dsimp only
          rw [← hE]
          unfold prs
          first
          | rw [if_pos hd43, if_pos (by omega)]
          | rw [if_neg hd43, if_pos (by omega)]
          | rw [if_neg hd43, if_neg (by omega), if_pos rfl, if_neg (by omega)]
          | rw [if_neg hd43, if_neg (by omega), if_neg (by decide), if_neg (by omega)]
        refine V_iload XC dX4_parse_133 rfl ?_
        refine V_if_ne XC 141 dX4_parse_135 (by decide) ⟨by decide, by decide⟩ (fun h135 => absurd h135 (by decide)) (fun h135 => ?_)
        refine V_iload XC dX4_parse_138 rfl ?_
        refine V_iret XC ((m, X, Y)) hrV rfl dX4_parse_140 ?_
        refine ⟨?_, fun z => absurd z (by (try dsimp only); omega)⟩
        try dsimp only
        rw [← hE]
        unfold prs
        first
        | rw [if_pos hd43, if_pos (by omega)]
        | rw [if_neg hd43, if_pos (by omega)]
        | rw [if_neg hd43, if_neg (by omega), if_pos rfl, if_neg (by omega)]
        | rw [if_neg hd43, if_neg (by omega), if_neg (by decide), if_neg (by omega)]
      refine V_iload_n XC 2 rfl dX4_parse_100 rfl ?_
      refine V_bipush XC dX4_parse_101 (by decide) ?_
      refine V_icmp_ge XC 110 dX4_parse_103 (by decide) ⟨by omega, by omega⟩ ⟨by decide, by decide⟩ (fun h103 => ?_) (fun h103 => ?_)
      · skip
        refine V_iconst XC dX4_parse_110 ?_
        refine V_goto XC 126 dX4_parse_111 (by decide) ?_
        refine V_istore XC dX4_parse_126 (by decide) ?_
        dsimp only [List.set]
        refine V_iload XC dX4_parse_128 rfl ?_
        refine V_if_eq XC 138 dX4_parse_130 (by decide) ⟨by omega, by omega⟩ (fun h130 => ?_) (fun h130 => ?_)
        · skip
          refine V_iload XC dX4_parse_138 rfl ?_
          refine V_iret XC ((m, X, Y)) hrV rfl dX4_parse_140 ?_
          refine ⟨?_, fun z => absurd z (by (try dsimp only); omega)⟩
          try dsimp only
          rw [← hE]
          unfold prs
          first
          | rw [if_pos hd43, if_pos (by omega)]
          | rw [if_neg hd43, if_pos (by omega)]
          | rw [if_neg hd43, if_neg (by omega), if_pos rfl, if_neg (by omega)]
          | rw [if_neg hd43, if_neg (by omega), if_neg (by decide), if_neg (by omega)]
        refine V_iload XC dX4_parse_133 rfl ?_
        refine V_if_ne XC 141 dX4_parse_135 (by decide) ⟨by decide, by decide⟩ (fun h135 => absurd h135 (by decide)) (fun h135 => ?_)
        refine V_iload XC dX4_parse_138 rfl ?_
        refine V_iret XC ((m, X, Y)) hrV rfl dX4_parse_140 ?_
        refine ⟨?_, fun z => absurd z (by (try dsimp only); omega)⟩
        try dsimp only
        rw [← hE]
        unfold prs
        first
        | rw [if_pos hd43, if_pos (by omega)]
        | rw [if_neg hd43, if_pos (by omega)]
        | rw [if_neg hd43, if_neg (by omega), if_pos rfl, if_neg (by omega)]
        | rw [if_neg hd43, if_neg (by omega), if_neg (by decide), if_neg (by omega)]
      refine V_iconst XC dX4_parse_106 ?_
      refine V_goto XC 126 dX4_parse_107 (by decide) ?_
      refine V_istore XC dX4_parse_126 (by decide) ?_
      dsimp only [List.set]
      refine V_iload XC dX4_parse_128 rfl ?_
      refine V_if_eq XC 138 dX4_parse_130 (by decide) ⟨by omega, by omega⟩ (fun h130 => ?_) (fun h130 => ?_)
      · skip
        refine V_iload XC dX4_parse_138 rfl ?_
        refine V_iret XC ((m, X, Y)) hrV rfl dX4_parse_140 ?_
        refine ⟨?_, fun z => absurd z (by (try dsimp only); omega)⟩
        try dsimp only
        rw [← hE]
        unfold prs
        first
        | rw [if_pos hd43, if_pos (by omega)]
        | rw [if_neg hd43, if_pos (by omega)]
        | rw [if_neg hd43, if_neg (by omega), if_pos rfl, if_neg (by omega)]
        | rw [if_neg hd43, if_neg (by omega), if_neg (by decide), if_neg (by omega)]
      refine V_iload XC dX4_parse_133 rfl ?_
      refine V_if_ne XC 141 dX4_parse_135 (by decide) ⟨by decide, by decide⟩ (fun h135 => ?_) (fun h135 => absurd h135 (by decide))
      refine V_iload XC dX4_parse_141 rfl ?_
      refine V_if_eq XC 159 dX4_parse_143 (by decide) ⟨by decide, by decide⟩ (fun h143 => absurd h143 (by decide)) (fun h143 => ?_)
      refine V_aload_n XC 1 rfl dX4_parse_146 rfl ?_
      refine V_iload_n XC 3 rfl dX4_parse_147 rfl ?_
      refine V_iload XC dX4_parse_148 rfl ?_
      refine V_callV (rest := _) (q0 := 2) XC (c_X5_append l D kI kC _ _ _ _ _ _ (by omega) (by assumption) _ _ (by first | assumption | omega)) gX4_parse_X5_append rfl kmX5_append ⟨⟨Nat.le_of_ble_eq_true rfl, Nat.le_of_ble_eq_true rfl⟩, Nat.le_of_ble_eq_true rfl, Nat.le_of_ble_eq_true rfl⟩ ⟨rfl, rfl⟩ rfl rfl (Nat.le_of_ble_eq_true rfl) [2, 3, 4] rfl rfl (fun _ => rfl) rfl rfl dX4_parse_150 (kV_of (fun u150 hq150 => ?_))
      obtain ⟨n150, F150, G150⟩ := u150
      dsimp only [putW, List.set, Option.toList, List.cons_append, List.nil_append, padO, mdO, shW, trW, txW, hiW, liW, woW, taW]
      try dsimp only at hq150
      obtain ⟨hn150, hp150, hC150, hu150⟩ := hq150
      refine V_iinc XC dX4_parse_153 rfl (by decide) ?_
      dsimp only [List.set]
      refine V_goto XC 162 dX4_parse_156 (by decide) ?_
      refine V_iload XC dX4_parse_162 rfl ?_
      refine V_if_ne XC 171 dX4_parse_164 (by decide) ⟨by decide, by decide⟩ (fun h164 => ?_) (fun h164 => absurd h164 (by decide))
      refine V_iconst XC dX4_parse_171 ?_
      refine V_istore XC dX4_parse_172 (by decide) ?_
      dsimp only [List.set]
      refine V_iconst XC dX4_parse_174 ?_
      refine V_istore XC dX4_parse_175 (by decide) ?_
      dsimp only [List.set]
      refine V_iconst XC dX4_parse_177 ?_
      refine V_istore XC dX4_parse_178 (by decide) ?_
      dsimp only [List.set]
      refine V_iinc XC dX4_parse_180 rfl (by decide) ?_
      dsimp only [List.set]
      refine V_goto XC 20 dX4_parse_183 (by decide) ?_
      refine V_kill 8 ?_
      dsimp only [List.set]
      refine V_kill 9 ?_
      dsimp only [List.set]
      first
      | (refine ih20 (i + 1, cnt, x, b, _, dig + 1, m, X, Y, f) ⟨by (try dsimp only); omega, by (try dsimp only); omega, hm, hC, hx, by (try dsimp only); omega, ?_⟩ (by (try dsimp only); omega)
         dsimp only
         rw [prs_s] at hE
         rw [if_pos hd43, if_neg (by omega)] at hE
         exact hE)
      | (refine ih20 (i + 1, cnt + 1, x, false, 0, 0, n150, F150, G150, f) ⟨by (try dsimp only); omega, by (try dsimp only); omega, ?_, hC150, fun z => absurd z (by simp), by (try dsimp only); omega, ?_⟩ (by (try dsimp only); omega)
         · rcases hu150 with ⟨_, e⟩ | ⟨_, e⟩ <;> cases e <;> (try dsimp only) <;> omega
         · dsimp only
           rw [prs_s] at hE
           rw [if_neg hd43, if_neg (by omega), if_pos rfl, if_pos (by omega), ← hp150] at hE
           exact hE)
      | (refine ih20 (i + 1, cnt, num, true, 0, 0, m, X, Y, f) ⟨by (try dsimp only); omega, by (try dsimp only); omega, hm, hC, fun _ => (by (try dsimp only); omega), by (try dsimp only); omega, ?_⟩ (by (try dsimp only); omega)
         dsimp only
         rw [prs_s] at hE
         rw [if_neg hd43, if_neg (by omega), if_neg (by decide), if_pos (by omega)] at hE
         exact hE)
    refine V_iload XC dX4_parse_82 rfl ?_
    refine V_iload XC dX4_parse_84 rfl ?_
    refine V_isub XC dX4_parse_86 ?_
    refine V_iret XC ((m, X, Y)) hrV rfl dX4_parse_87 ?_
    refine ⟨?_, fun z => absurd z (by (try dsimp only); omega)⟩
    try dsimp only
    rw [← hE]
    unfold prs
    first
    | rw [if_pos hd43, if_pos (by omega)]
    | rw [if_neg hd43, if_pos (by omega)]
    | rw [if_neg hd43, if_neg (by omega), if_pos rfl, if_neg (by omega)]
    | rw [if_neg hd43, if_neg (by omega), if_neg (by decide), if_neg (by omega)]
  have hd43 : 48 ≤ T i ∧ T i ≤ 57 := of_decide_eq_true h43
  refine V_iload XC dX4_parse_46 rfl ?_
  refine V_iconst XC dX4_parse_48 ?_
  refine V_icmp_ne XC 55 dX4_parse_49 (by decide) ⟨by omega, by omega⟩ ⟨by decide, by decide⟩ (fun h49 => ?_) (fun h49 => ?_)
  · skip
    refine V_iload XC dX4_parse_55 rfl ?_
    refine V_bipush XC dX4_parse_57 (by decide) ?_
    refine V_imul XC dX4_parse_59 ?_
    refine V_iload XC dX4_parse_60 rfl ?_
    refine V_bipush XC dX4_parse_62 (by decide) ?_
    refine V_isub XC dX4_parse_64 ?_
    refine V_iadd XC dX4_parse_65 ?_
    refine V_istore XC dX4_parse_66 (by decide) ?_
    dsimp only [List.set]
    refine V_iinc XC dX4_parse_68 rfl (by decide) ?_
    dsimp only [List.set]
    refine V_goto XC 180 dX4_parse_71 (by decide) ?_
    refine V_iinc XC dX4_parse_180 rfl (by decide) ?_
    dsimp only [List.set]
    refine V_goto XC 20 dX4_parse_183 (by decide) ?_
    refine V_kill 8 ?_
    dsimp only [List.set]
    first
    | (refine ih20 (i + 1, cnt, x, b, _, dig + 1, m, X, Y, f) ⟨by (try dsimp only); omega, by (try dsimp only); omega, hm, hC, hx, by (try dsimp only); omega, ?_⟩ (by (try dsimp only); omega)
       dsimp only
       rw [prs_s] at hE
       rw [if_pos hd43, if_neg (by omega)] at hE
       exact hE)
    | (refine ih20 (i + 1, cnt + 1, x, false, 0, 0, n150, F150, G150, f) ⟨by (try dsimp only); omega, by (try dsimp only); omega, ?_, hC150, fun z => absurd z (by simp), by (try dsimp only); omega, ?_⟩ (by (try dsimp only); omega)
       · rcases hu150 with ⟨_, e⟩ | ⟨_, e⟩ <;> cases e <;> (try dsimp only) <;> omega
       · dsimp only
         rw [prs_s] at hE
         rw [if_neg hd43, if_neg (by omega), if_pos rfl, if_pos (by omega), ← hp150] at hE
         exact hE)
    | (refine ih20 (i + 1, cnt, num, true, 0, 0, m, X, Y, f) ⟨by (try dsimp only); omega, by (try dsimp only); omega, hm, hC, fun _ => (by (try dsimp only); omega), by (try dsimp only); omega, ?_⟩ (by (try dsimp only); omega)
       dsimp only
       rw [prs_s] at hE
       rw [if_neg hd43, if_neg (by omega), if_neg (by decide), if_pos (by omega)] at hE
       exact hE)
  refine V_iload XC dX4_parse_52 rfl ?_
  refine V_iret XC ((m, X, Y)) hrV rfl dX4_parse_54 ?_
  refine ⟨?_, fun z => absurd z (by (try dsimp only); omega)⟩
  try dsimp only
  rw [← hE]
  unfold prs
  first
  | rw [if_pos hd43, if_pos (by omega)]
  | rw [if_neg hd43, if_pos (by omega)]
  | rw [if_neg hd43, if_neg (by omega), if_pos rfl, if_neg (by omega)]
  | rw [if_neg hd43, if_neg (by omega), if_neg (by decide), if_neg (by omega)]

end TEXT
