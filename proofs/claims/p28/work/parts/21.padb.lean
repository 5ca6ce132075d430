/-! the class's pad: acts -/
section PADB
theorem act_end {S : List Stk} {past fut : List (List Stk)} {p f a n2 : Nat} {N HS F2 : Nat → Int} {S2 : List Stk} (h3 : Ok3 (S, past, fut)) (hH : HR (S, past, fut) p f a N HS) (e : shC n2 F2 = S2) (h2 : OkS S2) : shC n2 F2 = (actS (S, past, fut) (some S2)).1 ∧ HR (actS (S, past, fut) (some S2)) (min (p + 1) 6) 0 (nx a) (upz N (nx a) (n2 : Int)) (cpz F2 HS 0 (800 * nx a) 800) ∧ Ok3 (actS (S, past, fut) (some S2)) := by
  subst e
  have hn : n2 ≤ 16 := by have := h2.1; rwa [shC_len] at this
  exact ⟨rfl, HR_record h3 hH hn h2, Ok3_act h3 h2⟩
theorem hasS_C {n : Nat} {F : Nat → Int} {z : Int} : hasS (shC n F) z = decide (0 ≤ z ∧ z < (n : Int)) := by unfold hasS; rw [shC_len]
theorem OkP_of {m : Nat} {X Y : Nat → Int} (h0 : 1 ≤ m) (h24 : m ≤ 24) (hC : ∀ i, i < m → 0 ≤ X i ∧ X i ≤ 1000 ∧ 0 ≤ Y i ∧ Y i ≤ 1000) (hN : NR (ptsOf m X Y)) : OkP (ptsOf m X Y) := by
  refine ⟨by rw [ptsOf_len]; exact h0, by rw [ptsOf_len]; exact h24, fun q hq => ?_, hN⟩
  obtain ⟨i, hi, rfl⟩ := ptsOf_mem.mp hq
  exact hC i hi

set_option maxRecDepth 100000 in
set_option maxHeartbeats 4000000 in
theorem c_X7_paint (l : Launch) (D : va_G) (kI kC : ClassId) (a g w : Nat → Nat) (gap : Int) (n : Nat) (F : Nat → Int) (p f ha : Nat) (N HS : Nat → Int) (past fut : List (List Stk)) (h3 : Ok3 (shC n F, past, fut)) (hH : HR (shC n F, past, fut) p f ha N HS) (z c : Int) (hz : IR z) (hc : IR c) : Con l yX7_paint wsX7_paint { frames := 2, cells := 0, slots := 0, locals := 61 } D kI kC [.ref (a 0), .int (iI z), .int (iI c)] (padO a g w gap :: (shW kI (a 6) (a 7) (n : Int) F ++ (hiW kI (a 13) (a 14) (a 15) (p : Int) (f : Int) (ha : Int) N HS))) (σ := Nat × (Nat → Int) × Nat × Nat × Nat × (Nat → Int) × (Nat → Int)) (qI (fun r u => r = (paintS (shC n F) z c).1 ∧ shC u.1 u.2.1 = (actS (shC n F, past, fut) (paintS (shC n F) z c).2).1 ∧ HR (actS (shC n F, past, fut) (paintS (shC n F) z c).2) u.2.2.1 u.2.2.2.1 u.2.2.2.2.1 u.2.2.2.2.2.1 u.2.2.2.2.2.2 ∧ Ok3 (actS (shC n F, past, fut) (paintS (shC n F) z c).2))) (fun u => (padO a g w gap :: (shW kI (a 6) (a 7) (u.1 : Int) u.2.1 ++ (hiW kI (a 13) (a 14) (a 15) (u.2.2.1 : Int) (u.2.2.2.1 : Int) (u.2.2.2.2.1 : Int) u.2.2.2.2.2.1 u.2.2.2.2.2.2)))) := by
  refine Con.of (cc := cX7_paint) (maxL := 4) (ret := (some .int)) (by decide +kernel) rfl (List.forall_mem_cons.mpr ⟨rfl, List.forall_mem_cons.mpr ⟨rfl, List.forall_mem_cons.mpr ⟨rfl, fun _ h => absurd h List.not_mem_nil⟩⟩⟩) (Nat.le_of_ble_eq_true rfl) ?_
  intro pV eV sV mV bV tV cV AV XC hrV
  have XC : Cx pV _ sV mV _ tV cV cX7_paint 4 RX7 wsX7_paint AV D kI kC := XC
  change VV _ _ _ _ _ _ _ _ _ _ _ _ _ _ _ _ _ [some (.ref (a 0)), some (.int (iI z)), some (.int (iI c)), none] _ _
  dsimp only [padO, trW, shW, txW, hiW, liW, woW, taW, List.cons_append, List.nil_append]
  have hn16 : n ≤ 16 := by have h9 := h3.1.1; rwa [shC_len] at h9
  have hS : OkS (shC n F) := h3.1
  have hp6 : p ≤ 6 := by rw [hH.1]; exact h3.2.1.1
  have ha7 : ha < 7 := hH.2.2.1
  refine V_aload_n XC 0 rfl dX7_paint_0 rfl ?_
  refine V_get XC 2 flX7_paint_26 0 rfl rfl dX7_paint_1 ?_
  refine V_iload_n XC 1 rfl dX7_paint_4 rfl ?_
  refine V_callV (rest := _) (q0 := 1) XC (c_X2_has l D kI kC _ _ _ _ _ (by first | assumption | (unfold IR; omega)) (by first | assumption | (unfold IR; omega))) gX7_paint_X2_has rfl kmX2_has ⟨⟨Nat.le_of_ble_eq_true rfl, Nat.le_of_ble_eq_true rfl⟩, Nat.le_of_ble_eq_true rfl, Nat.le_of_ble_eq_true rfl⟩ ⟨rfl, rfl⟩ rfl rfl (Nat.le_of_ble_eq_true rfl) [1, 2] rfl rfl (fun _ => rfl) rfl rfl dX7_paint_5 (kR_of rfl (fun r5 hq5 => ?_))
  subst hq5
  refine V_bif_ne XC 13 dX7_paint_8 (by decide) (fun h8 => ?_) (fun h8 => ?_)
  · skip
    have hz2 := of_decide_eq_true h8
    obtain ⟨k, rfl⟩ : ∃ k : Nat, z = (k : Int) := ⟨z.toNat, by omega⟩
    have hkn : k < n := by omega
    have hok := shC_in hS hkn
    have hat := shC_at (F := F) hkn
    have hf := skC_ok hok
    have hsz := skC_sz hok
    have hz3 := OkK_sz hok
    have hh : ¬ hasS (shC n F) (k : Int) = false := by rw [hasS_C, h8]; decide
    refine V_iload_n XC 2 rfl dX7_paint_13 rfl ?_
    refine V_callS (rest := _) XC (c_X7_isColor l D kI kC _ (by first | assumption | (unfold IR; omega))) gX7_paint_X7_isColor rfl kmX7_isColor ⟨⟨Nat.le_of_ble_eq_true rfl, Nat.le_of_ble_eq_true rfl⟩, Nat.le_of_ble_eq_true rfl, Nat.le_of_ble_eq_true rfl⟩ ⟨rfl, rfl⟩ rfl rfl (Nat.le_of_ble_eq_true rfl) [] rfl rfl (fun _ => rfl) dX7_paint_14 (kR_of rfl (fun r14 hq14 => ?_))
    subst hq14
    refine V_bif_ne XC 23 dX7_paint_17 (by decide) (fun h17 => ?_) (fun h17 => ?_)
    · skip
      have hc2 := of_decide_eq_true h17
      have hcc : ¬ inR c 0 3 = false := by unfold inR; rw [h17]; decide
      refine V_aload_n XC 0 rfl dX7_paint_23 rfl ?_
      refine V_get XC 2 flX7_paint_26 0 rfl rfl dX7_paint_24 ?_
      refine V_iload_n XC 1 rfl dX7_paint_27 rfl ?_
      refine V_callV (rest := _) (q0 := 1) XC (c_X2_colorOf l D kI kC _ _ _ _ _ (by omega)) gX7_paint_X2_colorOf rfl kmX2_colorOf ⟨⟨Nat.le_of_ble_eq_true rfl, Nat.le_of_ble_eq_true rfl⟩, Nat.le_of_ble_eq_true rfl, Nat.le_of_ble_eq_true rfl⟩ ⟨rfl, rfl⟩ rfl rfl (Nat.le_of_ble_eq_true rfl) [1, 2] rfl rfl (fun _ => rfl) rfl rfl dX7_paint_28 (kR_of rfl (fun r28 hq28 => ?_))
      subst hq28
      refine V_istore_n XC 3 rfl dX7_paint_31 (by decide) ?_
      dsimp only [List.set]
      refine V_iload_n XC 3 rfl dX7_paint_32 rfl ?_
      refine V_iload_n XC 2 rfl dX7_paint_33 rfl ?_
      refine V_icmp_ne XC 40 dX7_paint_34 (by decide) (by first | assumption | (unfold IR at *; omega)) (by first | assumption | (unfold IR at *; omega)) (fun h34 => ?_) (fun h34 => ?_)
      · skip
        have hp : paintS (shC n F) (k : Int) c = (F (50 * k), some ((shC n F).set k (c, (skC F k).2))) := by
          unfold paintS
          rw [if_neg hh, if_neg hcc, Int.toNat_natCast, hat, if_neg (by exact h34)]
          rfl
        refine V_aload_n XC 0 rfl dX7_paint_40 rfl ?_
        refine V_get XC 2 flX7_paint_26 0 rfl rfl dX7_paint_41 ?_
        refine V_iload_n XC 1 rfl dX7_paint_44 rfl ?_
        refine V_iload_n XC 2 rfl dX7_paint_45 rfl ?_
        refine V_callV (rest := _) (q0 := 1) XC (c_X2_setColor l D kI kC _ _ _ _ _ _ (by omega)) gX7_paint_X2_setColor rfl kmX2_setColor ⟨⟨Nat.le_of_ble_eq_true rfl, Nat.le_of_ble_eq_true rfl⟩, Nat.le_of_ble_eq_true rfl, Nat.le_of_ble_eq_true rfl⟩ ⟨rfl, rfl⟩ rfl rfl (Nat.le_of_ble_eq_true rfl) [1, 2] rfl rfl (fun _ => rfl) rfl rfl dX7_paint_46 (kV_of (fun u46 hq46 => ?_))
        dsimp only [putW, List.set, Option.toList, List.cons_append, List.nil_append, padO, mdO, shW, trW, txW, hiW, liW, woW, taW]
        try dsimp only at hq46
        refine V_aload_n XC 0 rfl dX7_paint_49 rfl ?_
        refine V_get XC 5 flX7_paint_39 0 rfl rfl dX7_paint_50 ?_
        refine V_aload_n XC 0 rfl dX7_paint_53 rfl ?_
        refine V_get XC 2 flX7_paint_26 0 rfl rfl dX7_paint_54 ?_
        refine V_callV (rest := _) (q0 := 3) XC (c_X0_record l D kI kC _ _ _ _ _ _ _ _ _ _ _ _ (by omega) (by omega) ) gX7_paint_X0_record rfl kmX0_record ⟨⟨Nat.le_of_ble_eq_true rfl, Nat.le_of_ble_eq_true rfl⟩, Nat.le_of_ble_eq_true rfl, Nat.le_of_ble_eq_true rfl⟩ ⟨rfl, rfl⟩ rfl rfl (Nat.le_of_ble_eq_true rfl) [3, 4, 5, 1, 2] rfl rfl (fun _ => rfl) rfl rfl dX7_paint_57 (kV_of (fun u57 hq57 => ?_))
        dsimp only [putW, List.set, Option.toList, List.cons_append, List.nil_append, padO, mdO, shW, trW, txW, hiW, liW, woW, taW]
        try dsimp only at hq57
        refine V_iload_n XC 3 rfl dX7_paint_60 rfl ?_
        refine V_iret XC (n, upz F (50 * k) c, min (p + 1) 6, 0, nx ha, upz N (nx ha) ((n : Nat) : Int), cpz (upz F (50 * k) c) HS 0 (800 * nx ha) 800) hrV rfl dX7_paint_61 ?_
        rw [hp]
        exact ⟨rfl, act_end h3 hH (shC_color hS hkn) (OkS_set hS ⟨hc2.1, hc2.2, hok.2.2⟩)⟩
      have hp : paintS (shC n F) (k : Int) c = (-5, none) := by
        unfold paintS
        rw [if_neg hh, if_neg hcc, Int.toNat_natCast, hat, if_pos (by exact h34)]
      refine V_bipush XC dX7_paint_37 (by decide) ?_
      refine V_iret XC (n, F, p, f, ha, N, HS) hrV rfl dX7_paint_39 ?_
      rw [hp]
      exact ⟨rfl, rfl, hH, h3⟩
    have hp : paintS (shC n F) (k : Int) c = (-2, none) := by
      unfold paintS
      rw [if_neg hh]
      exact if_pos h17
    refine V_bipush XC dX7_paint_20 (by decide) ?_
    refine V_iret XC (n, F, p, f, ha, N, HS) hrV rfl dX7_paint_22 ?_
    rw [hp]
    exact ⟨rfl, rfl, hH, h3⟩
  have hp : paintS (shC n F) z c = (-1, none) := if_pos (by rw [hasS_C]; exact h8)
  refine V_iconst XC dX7_paint_11 ?_
  refine V_iret XC (n, F, p, f, ha, N, HS) hrV rfl dX7_paint_12 ?_
  rw [hp]
  exact ⟨rfl, rfl, hH, h3⟩

set_option maxRecDepth 100000 in
set_option maxHeartbeats 4000000 in
theorem c_X7_remove (l : Launch) (D : va_G) (kI kC : ClassId) (a g w : Nat → Nat) (gap : Int) (n : Nat) (F : Nat → Int) (p f ha : Nat) (N HS : Nat → Int) (past fut : List (List Stk)) (h3 : Ok3 (shC n F, past, fut)) (hH : HR (shC n F, past, fut) p f ha N HS) (z : Int) (hz : IR z) : Con l yX7_remove wsX7_remove { frames := 2, cells := 0, slots := 0, locals := 62 } D kI kC [.ref (a 0), .int (iI z)] (padO a g w gap :: (shW kI (a 6) (a 7) (n : Int) F ++ (hiW kI (a 13) (a 14) (a 15) (p : Int) (f : Int) (ha : Int) N HS))) (σ := Nat × (Nat → Int) × Nat × Nat × Nat × (Nat → Int) × (Nat → Int)) (qI (fun r u => r = (removeS (shC n F) z).1 ∧ shC u.1 u.2.1 = (actS (shC n F, past, fut) (removeS (shC n F) z).2).1 ∧ HR (actS (shC n F, past, fut) (removeS (shC n F) z).2) u.2.2.1 u.2.2.2.1 u.2.2.2.2.1 u.2.2.2.2.2.1 u.2.2.2.2.2.2 ∧ Ok3 (actS (shC n F, past, fut) (removeS (shC n F) z).2))) (fun u => (padO a g w gap :: (shW kI (a 6) (a 7) (u.1 : Int) u.2.1 ++ (hiW kI (a 13) (a 14) (a 15) (u.2.2.1 : Int) (u.2.2.2.1 : Int) (u.2.2.2.2.1 : Int) u.2.2.2.2.2.1 u.2.2.2.2.2.2)))) := by
  refine Con.of (cc := cX7_remove) (maxL := 2) (ret := (some .int)) (by decide +kernel) rfl (List.forall_mem_cons.mpr ⟨rfl, List.forall_mem_cons.mpr ⟨rfl, fun _ h => absurd h List.not_mem_nil⟩⟩) (Nat.le_of_ble_eq_true rfl) ?_
  intro pV eV sV mV bV tV cV AV XC hrV
  have XC : Cx pV _ sV mV _ tV cV cX7_remove 2 RX7 wsX7_remove AV D kI kC := XC
  change VV _ _ _ _ _ _ _ _ _ _ _ _ _ _ _ _ _ [some (.ref (a 0)), some (.int (iI z))] _ _
  dsimp only [padO, trW, shW, txW, hiW, liW, woW, taW, List.cons_append, List.nil_append]
  have hn16 : n ≤ 16 := by have h9 := h3.1.1; rwa [shC_len] at h9
  have hS : OkS (shC n F) := h3.1
  have hp6 : p ≤ 6 := by rw [hH.1]; exact h3.2.1.1
  have ha7 : ha < 7 := hH.2.2.1
  refine V_aload_n XC 0 rfl dX7_remove_0 rfl ?_
  refine V_get XC 2 flX7_remove_26 0 rfl rfl dX7_remove_1 ?_
  refine V_iload_n XC 1 rfl dX7_remove_4 rfl ?_
  refine V_callV (rest := _) (q0 := 1) XC (c_X2_has l D kI kC _ _ _ _ _ (by first | assumption | (unfold IR; omega)) (by first | assumption | (unfold IR; omega))) gX7_remove_X2_has rfl kmX2_has ⟨⟨Nat.le_of_ble_eq_true rfl, Nat.le_of_ble_eq_true rfl⟩, Nat.le_of_ble_eq_true rfl, Nat.le_of_ble_eq_true rfl⟩ ⟨rfl, rfl⟩ rfl rfl (Nat.le_of_ble_eq_true rfl) [1, 2] rfl rfl (fun _ => rfl) rfl rfl dX7_remove_5 (kR_of rfl (fun r5 hq5 => ?_))
  subst hq5
  refine V_bif_ne XC 13 dX7_remove_8 (by decide) (fun h8 => ?_) (fun h8 => ?_)
  · skip
    have hz2 := of_decide_eq_true h8
    obtain ⟨k, rfl⟩ : ∃ k : Nat, z = (k : Int) := ⟨z.toNat, by omega⟩
    have hkn : k < n := by omega
    have hok := shC_in hS hkn
    have hat := shC_at (F := F) hkn
    have hf := skC_ok hok
    have hsz := skC_sz hok
    have hz3 := OkK_sz hok
    have hh : ¬ hasS (shC n F) (k : Int) = false := by rw [hasS_C, h8]; decide
    refine V_aload_n XC 0 rfl dX7_remove_13 rfl ?_
    refine V_get XC 2 flX7_remove_26 0 rfl rfl dX7_remove_14 ?_
    refine V_iload_n XC 1 rfl dX7_remove_17 rfl ?_
    refine V_callV (rest := _) (q0 := 1) XC (c_X2_drop l D kI kC _ _ _ _ _ hkn hn16) gX7_remove_X2_drop rfl kmX2_drop ⟨⟨Nat.le_of_ble_eq_true rfl, Nat.le_of_ble_eq_true rfl⟩, Nat.le_of_ble_eq_true rfl, Nat.le_of_ble_eq_true rfl⟩ ⟨rfl, rfl⟩ rfl rfl (Nat.le_of_ble_eq_true rfl) [1, 2] rfl rfl (fun _ => rfl) rfl rfl dX7_remove_18 (kV_of (fun u18 hq18 => ?_))
    dsimp only [putW, List.set, Option.toList, List.cons_append, List.nil_append, padO, mdO, shW, trW, txW, hiW, liW, woW, taW]
    try dsimp only at hq18
    refine V_aload_n XC 0 rfl dX7_remove_21 rfl ?_
    refine V_get XC 5 flX7_remove_39 0 rfl rfl dX7_remove_22 ?_
    refine V_aload_n XC 0 rfl dX7_remove_25 rfl ?_
    refine V_get XC 2 flX7_remove_26 0 rfl rfl dX7_remove_26 ?_
    refine V_callV (rest := _) (q0 := 3) XC (c_X0_record l D kI kC _ _ _ _ _ _ _ _ _ _ _ _ (by omega) (by omega) ) gX7_remove_X0_record rfl kmX0_record ⟨⟨Nat.le_of_ble_eq_true rfl, Nat.le_of_ble_eq_true rfl⟩, Nat.le_of_ble_eq_true rfl, Nat.le_of_ble_eq_true rfl⟩ ⟨rfl, rfl⟩ rfl rfl (Nat.le_of_ble_eq_true rfl) [3, 4, 5, 1, 2] rfl rfl (fun _ => rfl) rfl rfl dX7_remove_29 (kV_of (fun u29 hq29 => ?_))
    dsimp only [putW, List.set, Option.toList, List.cons_append, List.nil_append, padO, mdO, shW, trW, txW, hiW, liW, woW, taW]
    try dsimp only at hq29
    refine V_aload_n XC 0 rfl dX7_remove_32 rfl ?_
    refine V_get XC 2 flX7_remove_26 0 rfl rfl dX7_remove_33 ?_
    refine V_get XC 0 flX7_remove_107 1 rfl rfl dX7_remove_36 ?_
    refine V_iret XC (n - 1, dropF F k n, min (p + 1) 6, 0, nx ha, upz N (nx ha) ((n - 1 : Nat) : Int), cpz (dropF F k n) HS 0 (800 * nx ha) 800) hrV rfl dX7_remove_39 ?_
    have hp : removeS (shC n F) (k : Int) = ((n : Int) - 1, some ((shC n F).eraseIdx k)) := by
      unfold removeS
      rw [if_neg hh, shC_len, Int.toNat_natCast]
    rw [hp]
    exact ⟨by (try dsimp only); omega, act_end h3 hH (shC_drop hS hkn) (OkS_erase hS)⟩
  have hp : removeS (shC n F) z = (-1, none) := if_pos (by rw [hasS_C]; exact h8)
  refine V_iconst XC dX7_remove_11 ?_
  refine V_iret XC (n, F, p, f, ha, N, HS) hrV rfl dX7_remove_12 ?_
  rw [hp]
  exact ⟨rfl, rfl, hH, h3⟩

set_option maxRecDepth 100000 in
set_option maxHeartbeats 4000000 in
theorem c_X7_undo (l : Launch) (D : va_G) (kI kC : ClassId) (a g w : Nat → Nat) (gap : Int) (n : Nat) (F : Nat → Int) (p f ha : Nat) (N HS : Nat → Int) (past fut : List (List Stk)) (h3 : Ok3 (shC n F, past, fut)) (hH : HR (shC n F, past, fut) p f ha N HS)  : Con l yX7_undo wsX7_undo { frames := 3, cells := 0, slots := 0, locals := 82 } D kI kC [.ref (a 0)] (padO a g w gap :: (shW kI (a 6) (a 7) (n : Int) F ++ (hiW kI (a 13) (a 14) (a 15) (p : Int) (f : Int) (ha : Int) N HS))) (σ := Nat × (Nat → Int) × Nat × Nat × Nat × (Nat → Int) × (Nat → Int)) (qI (fun r u => r = (undoS (shC n F, past, fut)).1 ∧ shC u.1 u.2.1 = (undoS (shC n F, past, fut)).2.1 ∧ HR (undoS (shC n F, past, fut)).2 u.2.2.1 u.2.2.2.1 u.2.2.2.2.1 u.2.2.2.2.2.1 u.2.2.2.2.2.2 ∧ Ok3 (undoS (shC n F, past, fut)).2)) (fun u => (padO a g w gap :: (shW kI (a 6) (a 7) (u.1 : Int) u.2.1 ++ (hiW kI (a 13) (a 14) (a 15) (u.2.2.1 : Int) (u.2.2.2.1 : Int) (u.2.2.2.2.1 : Int) u.2.2.2.2.2.1 u.2.2.2.2.2.2)))) := by
  refine Con.of (cc := cX7_undo) (maxL := 1) (ret := (some .int)) (by decide +kernel) rfl (List.forall_mem_cons.mpr ⟨rfl, fun _ h => absurd h List.not_mem_nil⟩) (Nat.le_of_ble_eq_true rfl) ?_
  intro pV eV sV mV bV tV cV AV XC hrV
  have XC : Cx pV _ sV mV _ tV cV cX7_undo 1 RX7 wsX7_undo AV D kI kC := XC
  change VV _ _ _ _ _ _ _ _ _ _ _ _ _ _ _ _ _ [some (.ref (a 0))] _ _
  dsimp only [padO, trW, shW, txW, hiW, liW, woW, taW, List.cons_append, List.nil_append]
  have hn16 : n ≤ 16 := by have h9 := h3.1.1; rwa [shC_len] at h9
  have hS : OkS (shC n F) := h3.1
  have hp6 : p ≤ 6 := by rw [hH.1]; exact h3.2.1.1
  have ha7 : ha < 7 := hH.2.2.1
  have hpl : p = past.length := hH.1
  refine V_aload_n XC 0 rfl dX7_undo_0 rfl ?_
  refine V_get XC 5 flX7_undo_39 0 rfl rfl dX7_undo_1 ?_
  refine V_get XC 0 flX7_undo_182 3 rfl rfl dX7_undo_4 ?_
  refine V_if_ne XC 13 dX7_undo_7 (by decide) ⟨by omega, by omega⟩ (fun h7 => ?_) (fun h7 => ?_)
  · skip
    obtain ⟨X, q, rfl⟩ : ∃ X q, past = X :: q := by
      cases past with
      | nil => exact absurd hpl (by simp; omega)
      | cons X q => exact ⟨X, q, rfl⟩
    obtain ⟨hb, hsl⟩ := HR_back (by exact h3.2.1.1) hH rfl
    have hX : OkS X := h3.2.2.1 X List.mem_cons_self
    refine V_aload_n XC 0 rfl dX7_undo_13 rfl ?_
    refine V_get XC 5 flX7_undo_39 0 rfl rfl dX7_undo_14 ?_
    refine V_aload_n XC 0 rfl dX7_undo_17 rfl ?_
    refine V_get XC 2 flX7_undo_26 0 rfl rfl dX7_undo_18 ?_
    refine V_callV (rest := _) (q0 := 3) XC (c_X0_stepBack l D kI kC _ _ _ _ _ _ _ _ _ _ _ _ ha7 hp6 (by omega)) gX7_undo_X0_stepBack rfl kmX0_stepBack ⟨⟨Nat.le_of_ble_eq_true rfl, Nat.le_of_ble_eq_true rfl⟩, Nat.le_of_ble_eq_true rfl, Nat.le_of_ble_eq_true rfl⟩ ⟨rfl, rfl⟩ rfl rfl (Nat.le_of_ble_eq_true rfl) [3, 4, 5, 1, 2] rfl rfl (fun _ => rfl) rfl rfl dX7_undo_21 (kV_of (fun u21 hq21 => ?_))
    dsimp only [putW, List.set, Option.toList, List.cons_append, List.nil_append, padO, mdO, shW, trW, txW, hiW, liW, woW, taW]
    try dsimp only at hq21
    rw [hsl.1]
    refine V_aload_n XC 0 rfl dX7_undo_24 rfl ?_
    refine V_get XC 5 flX7_undo_39 0 rfl rfl dX7_undo_25 ?_
    refine V_get XC 0 flX7_undo_182 3 rfl rfl dX7_undo_28 ?_
    refine V_iret XC (X.length, cpz HS F (800 * pv ha) 0 800, p - 1, f + 1, pv ha, N, HS) hrV rfl dX7_undo_31 ?_
    rw [List.length_cons] at hpl
    refine ⟨?_, shC_shift hX.1 hX hsl.2, hb, hX, ⟨?_, ?_⟩, fun S hS2 => h3.2.2.1 S (List.mem_cons_of_mem _ hS2), fun S hS2 => ?_⟩
    · show ((p - 1 : Nat) : Int) = (q.length : Int)
      omega
    · show q.length ≤ 6
      omega
    · have := h3.2.1.2
      show q.length + (fut.length + 1) ≤ 6
      have e : (X :: q).length + fut.length ≤ 6 := this
      rw [List.length_cons] at e
      omega
    · rcases List.mem_cons.mp hS2 with z | z
      · rw [z]; exact hS
      · exact h3.2.2.2 S z
  obtain rfl : past = [] := by
    cases past with
    | nil => rfl
    | cons X q => exact absurd hpl (by simp; omega)
  refine V_bipush XC dX7_undo_10 (by decide) ?_
  refine V_iret XC (n, F, p, f, ha, N, HS) hrV rfl dX7_undo_12 ?_
  exact ⟨rfl, rfl, hH, h3⟩

set_option maxRecDepth 100000 in
set_option maxHeartbeats 4000000 in
theorem c_X7_redo (l : Launch) (D : va_G) (kI kC : ClassId) (a g w : Nat → Nat) (gap : Int) (n : Nat) (F : Nat → Int) (p f ha : Nat) (N HS : Nat → Int) (past fut : List (List Stk)) (h3 : Ok3 (shC n F, past, fut)) (hH : HR (shC n F, past, fut) p f ha N HS)  : Con l yX7_redo wsX7_redo { frames := 3, cells := 0, slots := 0, locals := 82 } D kI kC [.ref (a 0)] (padO a g w gap :: (shW kI (a 6) (a 7) (n : Int) F ++ (hiW kI (a 13) (a 14) (a 15) (p : Int) (f : Int) (ha : Int) N HS))) (σ := Nat × (Nat → Int) × Nat × Nat × Nat × (Nat → Int) × (Nat → Int)) (qI (fun r u => r = (redoS (shC n F, past, fut)).1 ∧ shC u.1 u.2.1 = (redoS (shC n F, past, fut)).2.1 ∧ HR (redoS (shC n F, past, fut)).2 u.2.2.1 u.2.2.2.1 u.2.2.2.2.1 u.2.2.2.2.2.1 u.2.2.2.2.2.2 ∧ Ok3 (redoS (shC n F, past, fut)).2)) (fun u => (padO a g w gap :: (shW kI (a 6) (a 7) (u.1 : Int) u.2.1 ++ (hiW kI (a 13) (a 14) (a 15) (u.2.2.1 : Int) (u.2.2.2.1 : Int) (u.2.2.2.2.1 : Int) u.2.2.2.2.2.1 u.2.2.2.2.2.2)))) := by
  refine Con.of (cc := cX7_redo) (maxL := 1) (ret := (some .int)) (by decide +kernel) rfl (List.forall_mem_cons.mpr ⟨rfl, fun _ h => absurd h List.not_mem_nil⟩) (Nat.le_of_ble_eq_true rfl) ?_
  intro pV eV sV mV bV tV cV AV XC hrV
  have XC : Cx pV _ sV mV _ tV cV cX7_redo 1 RX7 wsX7_redo AV D kI kC := XC
  change VV _ _ _ _ _ _ _ _ _ _ _ _ _ _ _ _ _ [some (.ref (a 0))] _ _
  dsimp only [padO, trW, shW, txW, hiW, liW, woW, taW, List.cons_append, List.nil_append]
  have hn16 : n ≤ 16 := by have h9 := h3.1.1; rwa [shC_len] at h9
  have hS : OkS (shC n F) := h3.1
  have hp6 : p ≤ 6 := by rw [hH.1]; exact h3.2.1.1
  have ha7 : ha < 7 := hH.2.2.1
  have hpl : p = past.length := hH.1
  have hfl : f = fut.length := hH.2.1
  have hpf : past.length + fut.length ≤ 6 := h3.2.1.2
  refine V_aload_n XC 0 rfl dX7_redo_0 rfl ?_
  refine V_get XC 5 flX7_redo_39 0 rfl rfl dX7_redo_1 ?_
  refine V_get XC 1 flX7_redo_188 3 rfl rfl dX7_redo_4 ?_
  refine V_if_ne XC 13 dX7_redo_7 (by decide) ⟨by omega, by omega⟩ (fun h7 => ?_) (fun h7 => ?_)
  · skip
    obtain ⟨X, q, rfl⟩ : ∃ X q, fut = X :: q := by
      cases fut with
      | nil => exact absurd hfl (by simp; omega)
      | cons X q => exact ⟨X, q, rfl⟩
    obtain ⟨hb, hsl⟩ := HR_on (by exact h3.2.1.1) hH rfl
    have hX : OkS X := h3.2.2.2 X List.mem_cons_self
    rw [List.length_cons] at hfl hpf
    refine V_aload_n XC 0 rfl dX7_redo_13 rfl ?_
    refine V_get XC 5 flX7_redo_39 0 rfl rfl dX7_redo_14 ?_
    refine V_aload_n XC 0 rfl dX7_redo_17 rfl ?_
    refine V_get XC 2 flX7_redo_26 0 rfl rfl dX7_redo_18 ?_
    refine V_callV (rest := _) (q0 := 3) XC (c_X0_stepOn l D kI kC _ _ _ _ _ _ _ _ _ _ _ _ ha7 (by omega) (by omega) (by omega)) gX7_redo_X0_stepOn rfl kmX0_stepOn ⟨⟨Nat.le_of_ble_eq_true rfl, Nat.le_of_ble_eq_true rfl⟩, Nat.le_of_ble_eq_true rfl, Nat.le_of_ble_eq_true rfl⟩ ⟨rfl, rfl⟩ rfl rfl (Nat.le_of_ble_eq_true rfl) [3, 4, 5, 1, 2] rfl rfl (fun _ => rfl) rfl rfl dX7_redo_21 (kV_of (fun u21 hq21 => ?_))
    dsimp only [putW, List.set, Option.toList, List.cons_append, List.nil_append, padO, mdO, shW, trW, txW, hiW, liW, woW, taW]
    try dsimp only at hq21
    rw [hsl.1]
    refine V_aload_n XC 0 rfl dX7_redo_24 rfl ?_
    refine V_get XC 5 flX7_redo_39 0 rfl rfl dX7_redo_25 ?_
    refine V_get XC 1 flX7_redo_188 3 rfl rfl dX7_redo_28 ?_
    refine V_iret XC (X.length, cpz HS F (800 * nx ha) 0 800, p + 1, f - 1, nx ha, N, HS) hrV rfl dX7_redo_31 ?_
    refine ⟨?_, shC_shift hX.1 hX hsl.2, hb, hX, ⟨?_, ?_⟩, fun S hS2 => ?_, fun S hS2 => h3.2.2.2 S (List.mem_cons_of_mem _ hS2)⟩
    · show ((f - 1 : Nat) : Int) = (q.length : Int)
      omega
    · show past.length + 1 ≤ 6
      omega
    · show past.length + 1 + q.length ≤ 6
      omega
    · rcases List.mem_cons.mp hS2 with z | z
      · rw [z]; exact hS
      · exact h3.2.2.1 S z
  obtain rfl : fut = [] := by
    cases fut with
    | nil => rfl
    | cons X q => exact absurd hfl (by simp; omega)
  refine V_bipush XC dX7_redo_10 (by decide) ?_
  refine V_iret XC (n, F, p, f, ha, N, HS) hrV rfl dX7_redo_12 ?_
  exact ⟨rfl, rfl, hH, h3⟩

set_option maxRecDepth 100000 in
set_option maxHeartbeats 4000000 in
theorem c_X7_replace (l : Launch) (D : va_G) (kI kC : ClassId) (a g w : Nat → Nat) (gap : Int) (n : Nat) (F : Nat → Int) (wm : Nat) (WX WY : Nat → Int) (p f ha : Nat) (N HS : Nat → Int) (past fut : List (List Stk)) (h3 : Ok3 (shC n F, past, fut)) (hH : HR (shC n F, past, fut) p f ha N HS) (k : Nat) (hk : k < n) (hW : OkP (ptsOf wm WX WY)) : Con l yX7_replace wsX7_replace { frames := 2, cells := 0, slots := 0, locals := 64 } D kI kC [.ref (a 0), .int (iI (k : Int))] (padO a g w gap :: (shW kI (a 6) (a 7) (n : Int) F ++ (trW kI (a 10) (a 11) (a 12) (wm : Int) WX WY ++ (hiW kI (a 13) (a 14) (a 15) (p : Int) (f : Int) (ha : Int) N HS)))) (σ := Nat × (Nat → Int) × Nat × Nat × Nat × (Nat → Int) × (Nat → Int)) (qI (fun r u => r = (repS (shC n F) k (ptsOf wm WX WY)).1 ∧ shC u.1 u.2.1 = (actS (shC n F, past, fut) (repS (shC n F) k (ptsOf wm WX WY)).2).1 ∧ HR (actS (shC n F, past, fut) (repS (shC n F) k (ptsOf wm WX WY)).2) u.2.2.1 u.2.2.2.1 u.2.2.2.2.1 u.2.2.2.2.2.1 u.2.2.2.2.2.2 ∧ Ok3 (actS (shC n F, past, fut) (repS (shC n F) k (ptsOf wm WX WY)).2))) (fun u => (padO a g w gap :: (shW kI (a 6) (a 7) (u.1 : Int) u.2.1 ++ (trW kI (a 10) (a 11) (a 12) (wm : Int) WX WY ++ (hiW kI (a 13) (a 14) (a 15) (u.2.2.1 : Int) (u.2.2.2.1 : Int) (u.2.2.2.2.1 : Int) u.2.2.2.2.2.1 u.2.2.2.2.2.2))))) := by
  refine Con.of (cc := cX7_replace) (maxL := 2) (ret := (some .int)) (by decide +kernel) rfl (List.forall_mem_cons.mpr ⟨rfl, List.forall_mem_cons.mpr ⟨rfl, fun _ h => absurd h List.not_mem_nil⟩⟩) (Nat.le_of_ble_eq_true rfl) ?_
  intro pV eV sV mV bV tV cV AV XC hrV
  have XC : Cx pV _ sV mV _ tV cV cX7_replace 2 RX7 wsX7_replace AV D kI kC := XC
  change VV _ _ _ _ _ _ _ _ _ _ _ _ _ _ _ _ _ [some (.ref (a 0)), some (.int (iI (k : Int)))] _ _
  dsimp only [padO, trW, shW, txW, hiW, liW, woW, taW, List.cons_append, List.nil_append]
  have hn16 : n ≤ 16 := by have h9 := h3.1.1; rwa [shC_len] at h9
  have hS : OkS (shC n F) := h3.1
  have hp6 : p ≤ 6 := by rw [hH.1]; exact h3.2.1.1
  have ha7 : ha < 7 := hH.2.2.1
  have hok := shC_in hS hk
  have hat := shC_at (F := F) hk
  have hm24 : wm ≤ 24 := by have := hW.2.1; rwa [ptsOf_len] at this
  have hWC : ∀ i, i < wm → 0 ≤ WX i ∧ WX i ≤ 1000 ∧ 0 ≤ WY i ∧ WY i ≤ 1000 := fun i hi => hW.2.2.1 _ (ptsOf_mem.mpr ⟨i, hi, rfl⟩)
  refine V_aload_n XC 0 rfl dX7_replace_0 rfl ?_
  refine V_get XC 2 flX7_replace_26 0 rfl rfl dX7_replace_1 ?_
  refine V_iload_n XC 1 rfl dX7_replace_4 rfl ?_
  refine V_aload_n XC 0 rfl dX7_replace_5 rfl ?_
  refine V_get XC 4 flX7_replace_33 0 rfl rfl dX7_replace_6 ?_
  refine V_callV (rest := _) (q0 := 1) XC (c_X2_isSame l D kI kC _ _ _ _ _ _ _ _ _ _ _ (by omega) hok hm24 (fun i hi => by have := hWC i hi; exact ⟨⟨by omega, by omega⟩, ⟨by omega, by omega⟩⟩)) gX7_replace_X2_isSame rfl kmX2_isSame ⟨⟨Nat.le_of_ble_eq_true rfl, Nat.le_of_ble_eq_true rfl⟩, Nat.le_of_ble_eq_true rfl, Nat.le_of_ble_eq_true rfl⟩ ⟨rfl, rfl⟩ rfl rfl (Nat.le_of_ble_eq_true rfl) [1, 2, 3, 4, 5] rfl rfl (fun _ => rfl) rfl rfl dX7_replace_9 (kR_of rfl (fun r9 hq9 => ?_))
  subst hq9
  refine V_bif_eq XC 18 dX7_replace_12 (by decide) (fun h12 => ?_) (fun h12 => ?_)
  · skip
    have hne := of_decide_eq_false h12
    refine V_aload_n XC 0 rfl dX7_replace_18 rfl ?_
    refine V_get XC 2 flX7_replace_26 0 rfl rfl dX7_replace_19 ?_
    refine V_iload_n XC 1 rfl dX7_replace_22 rfl ?_
    refine V_aload_n XC 0 rfl dX7_replace_23 rfl ?_
    refine V_get XC 2 flX7_replace_26 0 rfl rfl dX7_replace_24 ?_
    refine V_iload_n XC 1 rfl dX7_replace_27 rfl ?_
    refine V_callV (rest := _) (q0 := 1) XC (c_X2_colorOf l D kI kC _ _ _ _ _ (by omega)) gX7_replace_X2_colorOf rfl kmX2_colorOf ⟨⟨Nat.le_of_ble_eq_true rfl, Nat.le_of_ble_eq_true rfl⟩, Nat.le_of_ble_eq_true rfl, Nat.le_of_ble_eq_true rfl⟩ ⟨rfl, rfl⟩ rfl rfl (Nat.le_of_ble_eq_true rfl) [1, 2] rfl rfl (fun _ => rfl) rfl rfl dX7_replace_28 (kR_of rfl (fun r28 hq28 => ?_))
    subst hq28
    refine V_aload_n XC 0 rfl dX7_replace_31 rfl ?_
    refine V_get XC 4 flX7_replace_33 0 rfl rfl dX7_replace_32 ?_
    refine V_callV (rest := _) (q0 := 1) XC (c_X2_set l D kI kC _ _ _ _ _ _ _ _ _ _ _ _ (by omega)) gX7_replace_X2_set rfl kmX2_set ⟨⟨Nat.le_of_ble_eq_true rfl, Nat.le_of_ble_eq_true rfl⟩, Nat.le_of_ble_eq_true rfl, Nat.le_of_ble_eq_true rfl⟩ ⟨rfl, rfl⟩ rfl rfl (Nat.le_of_ble_eq_true rfl) [1, 2, 3, 4, 5] rfl rfl (fun _ => rfl) rfl rfl dX7_replace_35 (kV_of (fun u35 hq35 => ?_))
    dsimp only [putW, List.set, Option.toList, List.cons_append, List.nil_append, padO, mdO, shW, trW, txW, hiW, liW, woW, taW]
    try dsimp only at hq35
    refine V_aload_n XC 0 rfl dX7_replace_38 rfl ?_
    refine V_get XC 5 flX7_replace_39 0 rfl rfl dX7_replace_39 ?_
    refine V_aload_n XC 0 rfl dX7_replace_42 rfl ?_
    refine V_get XC 2 flX7_replace_26 0 rfl rfl dX7_replace_43 ?_
    refine V_callV (rest := _) (q0 := 6) XC (c_X0_record l D kI kC _ _ _ _ _ _ _ _ _ _ _ _ (by omega) (by omega) ) gX7_replace_X0_record rfl kmX0_record ⟨⟨Nat.le_of_ble_eq_true rfl, Nat.le_of_ble_eq_true rfl⟩, Nat.le_of_ble_eq_true rfl, Nat.le_of_ble_eq_true rfl⟩ ⟨rfl, rfl⟩ rfl rfl (Nat.le_of_ble_eq_true rfl) [6, 7, 8, 1, 2] rfl rfl (fun _ => rfl) rfl rfl dX7_replace_46 (kV_of (fun u46 hq46 => ?_))
    dsimp only [putW, List.set, Option.toList, List.cons_append, List.nil_append, padO, mdO, shW, trW, txW, hiW, liW, woW, taW]
    try dsimp only at hq46
    refine V_aload_n XC 0 rfl dX7_replace_49 rfl ?_
    refine V_get XC 4 flX7_replace_33 0 rfl rfl dX7_replace_50 ?_
    refine V_get XC 0 flX7_replace_72 3 rfl rfl dX7_replace_53 ?_
    refine V_iret XC (n, setF F k (F (50 * k)) wm WX WY, min (p + 1) 6, 0, nx ha, upz N (nx ha) ((n : Nat) : Int), cpz (setF F k (F (50 * k)) wm WX WY) HS 0 (800 * nx ha) 800) hrV rfl dX7_replace_56 ?_
    have hp : repS (shC n F) k (ptsOf wm WX WY) = ((wm : Int), some ((shC n F).set k (F (50 * k), ptsOf wm WX WY))) := by
      unfold repS
      rw [hat, if_neg hne, ptsOf_len]
      rfl
    rw [hp]
    exact ⟨rfl, act_end h3 hH (shC_put hS hk hm24) (OkS_set hS ⟨(skC_ok hok).1, (skC_ok hok).2.1, hW⟩)⟩
  have hse := of_decide_eq_true h12
  refine V_bipush XC dX7_replace_15 (by decide) ?_
  refine V_iret XC (n, F, p, f, ha, N, HS) hrV rfl dX7_replace_17 ?_
  have hp : repS (shC n F) k (ptsOf wm WX WY) = (-5, none) := if_pos (by rw [hat]; exact hse)
  rw [hp]
  exact ⟨rfl, rfl, hH, h3⟩

set_option maxRecDepth 100000 in
set_option maxHeartbeats 4000000 in
theorem c_X7_draw (l : Launch) (D : va_G) (kI kC : ClassId) (a g w : Nat → Nat) (gap : Int) (nb : Nat) (BX BY : Nat → Int) (n : Nat) (F : Nat → Int) (p f ha : Nat) (N HS : Nat → Int) (past fut : List (List Stk)) (h3 : Ok3 (shC n F, past, fut)) (hH : HR (shC n F, past, fut) p f ha N HS) (hB : OkB (ptsOf nb BX BY)) (c : Int) (hc : IR c) : Con l yX7_draw wsX7_draw { frames := 3, cells := 0, slots := 0, locals := 86 } D kI kC [.ref (a 0), .int (iI c)] (padO a g w gap :: (trW kI (a 1) (a 2) (a 3) (nb : Int) BX BY ++ (shW kI (a 6) (a 7) (n : Int) F ++ (hiW kI (a 13) (a 14) (a 15) (p : Int) (f : Int) (ha : Int) N HS)))) (σ := Nat × (Nat → Int) × Nat × Nat × Nat × (Nat → Int) × (Nat → Int) × Nat) (qI (fun r u => r = (drawS (shC n F) (ptsOf nb BX BY) c).1 ∧ u.2.2.2.2.2.2.2 = (if (drawS (shC n F) (ptsOf nb BX BY) c).2 = none then nb else 0) ∧ shC u.1 u.2.1 = (actS (shC n F, past, fut) (drawS (shC n F) (ptsOf nb BX BY) c).2).1 ∧ HR (actS (shC n F, past, fut) (drawS (shC n F) (ptsOf nb BX BY) c).2) u.2.2.1 u.2.2.2.1 u.2.2.2.2.1 u.2.2.2.2.2.1 u.2.2.2.2.2.2.1 ∧ Ok3 (actS (shC n F, past, fut) (drawS (shC n F) (ptsOf nb BX BY) c).2))) (fun u => (padO a g w gap :: (trW kI (a 1) (a 2) (a 3) (u.2.2.2.2.2.2.2 : Int) BX BY ++ (shW kI (a 6) (a 7) (u.1 : Int) u.2.1 ++ (hiW kI (a 13) (a 14) (a 15) (u.2.2.1 : Int) (u.2.2.2.1 : Int) (u.2.2.2.2.1 : Int) u.2.2.2.2.2.1 u.2.2.2.2.2.2.1))))) := by
  refine Con.of (cc := cX7_draw) (maxL := 2) (ret := (some .int)) (by decide +kernel) rfl (List.forall_mem_cons.mpr ⟨rfl, List.forall_mem_cons.mpr ⟨rfl, fun _ h => absurd h List.not_mem_nil⟩⟩) (Nat.le_of_ble_eq_true rfl) ?_
  intro pV eV sV mV bV tV cV AV XC hrV
  have XC : Cx pV _ sV mV _ tV cV cX7_draw 2 RX7 wsX7_draw AV D kI kC := XC
  change VV _ _ _ _ _ _ _ _ _ _ _ _ _ _ _ _ _ [some (.ref (a 0)), some (.int (iI c))] _ _
  dsimp only [padO, trW, shW, txW, hiW, liW, woW, taW, List.cons_append, List.nil_append]
  have hn16 : n ≤ 16 := by have h9 := h3.1.1; rwa [shC_len] at h9
  have hS : OkS (shC n F) := h3.1
  have hp6 : p ≤ 6 := by rw [hH.1]; exact h3.2.1.1
  have ha7 : ha < 7 := hH.2.2.1
  have hb := OkB_at hB
  refine V_iload_n XC 1 rfl dX7_draw_0 rfl ?_
  refine V_callS (rest := _) XC (c_X7_isColor l D kI kC _ (by first | assumption | (unfold IR; omega))) gX7_draw_X7_isColor rfl kmX7_isColor ⟨⟨Nat.le_of_ble_eq_true rfl, Nat.le_of_ble_eq_true rfl⟩, Nat.le_of_ble_eq_true rfl, Nat.le_of_ble_eq_true rfl⟩ ⟨rfl, rfl⟩ rfl rfl (Nat.le_of_ble_eq_true rfl) [] rfl rfl (fun _ => rfl) dX7_draw_1 (kR_of rfl (fun r1 hq1 => ?_))
  subst hq1
  refine V_bif_ne XC 10 dX7_draw_4 (by decide) (fun h4 => ?_) (fun h4 => ?_)
  · skip
    have hc2 := of_decide_eq_true h4
    have hcc : ¬ inR c 0 3 = false := by unfold inR; rw [h4]; decide
    refine V_aload_n XC 0 rfl dX7_draw_10 rfl ?_
    refine V_get XC 0 flX7_draw_12 0 rfl rfl dX7_draw_11 ?_
    refine V_get XC 0 flX7_draw_72 1 rfl rfl dX7_draw_14 ?_
    refine V_if_ne XC 23 dX7_draw_17 (by decide) ⟨by omega, by omega⟩ (fun h17 => ?_) (fun h17 => ?_)
    · skip
      refine V_aload_n XC 0 rfl dX7_draw_23 rfl ?_
      refine V_get XC 2 flX7_draw_26 0 rfl rfl dX7_draw_24 ?_
      refine V_iload_n XC 1 rfl dX7_draw_27 rfl ?_
      refine V_aload_n XC 0 rfl dX7_draw_28 rfl ?_
      refine V_get XC 0 flX7_draw_12 0 rfl rfl dX7_draw_29 ?_
      refine V_callV (rest := _) (q0 := 4) XC (c_X2_append l D kI kC _ _ _ _ _ _ _ _ _ _ _ hn16) gX7_draw_X2_append rfl kmX2_append ⟨⟨Nat.le_of_ble_eq_true rfl, Nat.le_of_ble_eq_true rfl⟩, Nat.le_of_ble_eq_true rfl, Nat.le_of_ble_eq_true rfl⟩ ⟨rfl, rfl⟩ rfl rfl (Nat.le_of_ble_eq_true rfl) [4, 5, 1, 2, 3] rfl rfl (fun _ => rfl) rfl rfl dX7_draw_32 (kI_of (fun r32 u32 hq32 => ?_))
      obtain ⟨n32, F32⟩ := u32
      dsimp only [putW, List.set, Option.toList, List.cons_append, List.nil_append, padO, mdO, shW, trW, txW, hiW, liW, woW, taW]
      try dsimp only at hq32
      obtain ⟨hr32, hu32⟩ := hq32
      obtain rfl := hr32
      refine V_bif_ne XC 41 dX7_draw_35 (by decide) (fun h35 => ?_) (fun h35 => ?_)
      · skip
        have hlt := of_decide_eq_true h35
        rw [if_pos hlt] at hu32
        obtain ⟨rfl, rfl⟩ : n32 = (n : Int) + 1 ∧ F32 = setF F n c nb BX BY := ⟨congrArg Prod.fst hu32, congrArg Prod.snd hu32⟩
        rw [show ((n : Int) + 1) = ((n + 1 : Nat) : Int) by omega]
        refine V_aload_n XC 0 rfl dX7_draw_41 rfl ?_
        refine V_get XC 0 flX7_draw_12 0 rfl rfl dX7_draw_42 ?_
        refine V_callV (rest := _) (q0 := 1) XC (c_X5_empty l D kI kC _ _ _ _ _ _ ) gX7_draw_X5_empty rfl kmX5_empty ⟨⟨Nat.le_of_ble_eq_true rfl, Nat.le_of_ble_eq_true rfl⟩, Nat.le_of_ble_eq_true rfl, Nat.le_of_ble_eq_true rfl⟩ ⟨rfl, rfl⟩ rfl rfl (Nat.le_of_ble_eq_true rfl) [1, 2, 3] rfl rfl (fun _ => rfl) rfl rfl dX7_draw_45 (kV_of (fun u45 hq45 => ?_))
        dsimp only [putW, List.set, Option.toList, List.cons_append, List.nil_append, padO, mdO, shW, trW, txW, hiW, liW, woW, taW]
        try dsimp only at hq45
        refine V_aload_n XC 0 rfl dX7_draw_48 rfl ?_
        refine V_get XC 5 flX7_draw_39 0 rfl rfl dX7_draw_49 ?_
        refine V_aload_n XC 0 rfl dX7_draw_52 rfl ?_
        refine V_get XC 2 flX7_draw_26 0 rfl rfl dX7_draw_53 ?_
        refine V_callV (rest := _) (q0 := 6) XC (c_X0_record l D kI kC _ _ _ _ _ _ _ _ _ _ _ _ (by omega) (by omega) ) gX7_draw_X0_record rfl kmX0_record ⟨⟨Nat.le_of_ble_eq_true rfl, Nat.le_of_ble_eq_true rfl⟩, Nat.le_of_ble_eq_true rfl, Nat.le_of_ble_eq_true rfl⟩ ⟨rfl, rfl⟩ rfl rfl (Nat.le_of_ble_eq_true rfl) [6, 7, 8, 4, 5] rfl rfl (fun _ => rfl) rfl rfl dX7_draw_56 (kV_of (fun u56 hq56 => ?_))
        dsimp only [putW, List.set, Option.toList, List.cons_append, List.nil_append, padO, mdO, shW, trW, txW, hiW, liW, woW, taW]
        try dsimp only at hq56
        refine V_aload_n XC 0 rfl dX7_draw_59 rfl ?_
        refine V_get XC 2 flX7_draw_26 0 rfl rfl dX7_draw_60 ?_
        refine V_get XC 0 flX7_draw_107 4 rfl rfl dX7_draw_63 ?_
        refine V_iconst XC dX7_draw_66 ?_
        refine V_isub XC dX7_draw_67 ?_
        refine V_iret XC (n + 1, setF F n c nb BX BY, min (p + 1) 6, 0, nx ha, upz N (nx ha) ((n + 1 : Nat) : Int), cpz (setF F n c nb BX BY) HS 0 (800 * nx ha) 800, 0) hrV rfl dX7_draw_68 ?_
        have hp : drawS (shC n F) (ptsOf nb BX BY) c = ((n : Int), some (shC n F ++ [(c, ptsOf nb BX BY)])) := by
          unfold drawS
          rw [if_neg hcc, if_neg (by rw [ptsOf_len]; omega), if_neg (by rw [shC_len]; omega), shC_len]
        rw [hp]
        exact ⟨by (try dsimp only); omega, rfl, act_end h3 hH (shC_push hS hb.1) (OkS_push hS (by rw [shC_len]; omega) ⟨hc2.1, hc2.2, OkP_of (by omega) hb.1 hb.2 hB.2.2⟩)⟩
      have hlt := of_decide_eq_false h35
      rw [if_neg hlt] at hu32
      obtain ⟨e1, e2⟩ : n32 = (n : Int) ∧ F32 = F := ⟨congrArg Prod.fst hu32, congrArg Prod.snd hu32⟩
      rw [e1, e2]
      refine V_bipush XC dX7_draw_38 (by decide) ?_
      refine V_iret XC (n, F, p, f, ha, N, HS, nb) hrV rfl dX7_draw_40 ?_
      have hp : drawS (shC n F) (ptsOf nb BX BY) c = (-3, none) := by
        unfold drawS
        rw [if_neg hcc, if_neg (by rw [ptsOf_len]; omega), if_pos (by rw [shC_len]; omega)]
      rw [hp]
      exact ⟨rfl, rfl, rfl, hH, h3⟩
    refine V_bipush XC dX7_draw_20 (by decide) ?_
    refine V_iret XC (n, F, p, f, ha, N, HS, nb) hrV rfl dX7_draw_22 ?_
    have hp : drawS (shC n F) (ptsOf nb BX BY) c = (-4, none) := by
      unfold drawS
      rw [if_neg hcc, if_pos (by rw [ptsOf_len]; omega)]
    rw [hp]
    exact ⟨rfl, rfl, rfl, hH, h3⟩
  have hp : drawS (shC n F) (ptsOf nb BX BY) c = (-2, none) := if_pos h4
  refine V_bipush XC dX7_draw_7 (by decide) ?_
  refine V_iret XC (n, F, p, f, ha, N, HS, nb) hrV rfl dX7_draw_9 ?_
  rw [hp]
  exact ⟨rfl, rfl, rfl, hH, h3⟩

end PADB
