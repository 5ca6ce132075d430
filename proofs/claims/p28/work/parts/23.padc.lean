/-! the class's pad: smooth, thin, shift, join, rub -/
section PADC

set_option maxRecDepth 100000 in
set_option maxHeartbeats 4000000 in
theorem c_X7_thin (l : Launch) (D : va_G) (kI kC : ClassId) (a g w : Nat → Nat) (gap : Int) (n : Nat) (F : Nat → Int) (wn : Int) (WX WY : Nat → Int) (p f ha : Nat) (N HS : Nat → Int) (past fut : List (List Stk)) (h3 : Ok3 (shC n F, past, fut)) (hH : HR (shC n F, past, fut) p f ha N HS) (z d : Int) (hz : IR z) (hd : IR d) : Con l yX7_thin wsX7_thin { frames := 3, cells := 0, slots := 0, locals := 85 } D kI kC [.ref (a 0), .int (iI z), .int (iI d)] (padO a g w gap :: (shW kI (a 6) (a 7) (n : Int) F ++ (trW kI (a 10) (a 11) (a 12) wn WX WY ++ (hiW kI (a 13) (a 14) (a 15) (p : Int) (f : Int) (ha : Int) N HS)))) (σ := Nat × (Nat → Int) × Nat × Nat × Nat × (Nat → Int) × (Nat → Int) × Int × (Nat → Int) × (Nat → Int)) (qI (fun r u => r = (thinS (shC n F) z d).1 ∧ shC u.1 u.2.1 = (actS (shC n F, past, fut) (thinS (shC n F) z d).2).1 ∧ HR (actS (shC n F, past, fut) (thinS (shC n F) z d).2) u.2.2.1 u.2.2.2.1 u.2.2.2.2.1 u.2.2.2.2.2.1 u.2.2.2.2.2.2.1 ∧ Ok3 (actS (shC n F, past, fut) (thinS (shC n F) z d).2))) (fun u => (padO a g w gap :: (shW kI (a 6) (a 7) (u.1 : Int) u.2.1 ++ (trW kI (a 10) (a 11) (a 12) u.2.2.2.2.2.2.2.1 u.2.2.2.2.2.2.2.2.1 u.2.2.2.2.2.2.2.2.2 ++ (hiW kI (a 13) (a 14) (a 15) (u.2.2.1 : Int) (u.2.2.2.1 : Int) (u.2.2.2.2.1 : Int) u.2.2.2.2.2.1 u.2.2.2.2.2.2.1))))) := by
  refine Con.of (cc := cX7_thin) (maxL := 3) (ret := (some .int)) (by decide +kernel) rfl (List.forall_mem_cons.mpr ⟨rfl, List.forall_mem_cons.mpr ⟨rfl, List.forall_mem_cons.mpr ⟨rfl, fun _ h => absurd h List.not_mem_nil⟩⟩⟩) (Nat.le_of_ble_eq_true rfl) ?_
  intro pV eV sV mV bV tV cV AV XC hrV
  have XC : Cx pV _ sV mV _ tV cV cX7_thin 3 RX7 wsX7_thin AV D kI kC := XC
  change VV _ _ _ _ _ _ _ _ _ _ _ _ _ _ _ _ _ [some (.ref (a 0)), some (.int (iI z)), some (.int (iI d))] _ _
  dsimp only [padO, trW, shW, txW, hiW, liW, woW, taW, List.cons_append, List.nil_append]
  have hn16 : n ≤ 16 := by have h9 := h3.1.1; rwa [shC_len] at h9
  have hS : OkS (shC n F) := h3.1
  have hp6 : p ≤ 6 := by rw [hH.1]; exact h3.2.1.1
  have ha7 : ha < 7 := hH.2.2.1
  refine V_aload_n XC 0 rfl dX7_thin_0 rfl ?_
  refine V_get XC 2 flX7_thin_26 0 rfl rfl dX7_thin_1 ?_
  refine V_iload_n XC 1 rfl dX7_thin_4 rfl ?_
  refine V_callV (rest := _) (q0 := 1) XC (c_X2_has l D kI kC _ _ _ _ _ (by first | assumption | (unfold IR; omega)) (by first | assumption | (unfold IR; omega))) gX7_thin_X2_has rfl kmX2_has ⟨⟨Nat.le_of_ble_eq_true rfl, Nat.le_of_ble_eq_true rfl⟩, Nat.le_of_ble_eq_true rfl, Nat.le_of_ble_eq_true rfl⟩ ⟨rfl, rfl⟩ rfl rfl (Nat.le_of_ble_eq_true rfl) [1, 2] rfl rfl (fun _ => rfl) rfl rfl dX7_thin_5 (kR_of rfl (fun r5 hq5 => ?_))
  subst hq5
  refine V_bif_ne XC 13 dX7_thin_8 (by decide) (fun h8 => ?_) (fun h8 => ?_)
  · skip
    have hz2 := of_decide_eq_true h8
    obtain ⟨k, rfl⟩ : ∃ k : Nat, z = (k : Int) := ⟨z.toNat, by omega⟩
    have hkn : k < n := by omega
    have hok := shC_in hS hkn
    have hat := shC_at (F := F) hkn
    have hf := skC_ok hok
    have hsz := skC_sz hok
    have hz3 := OkK_sz hok
    have hh : ¬ hasS (shC n F) (k : Int) = false := by rw [hasS_C, h8]; decide
    refine V_iload_n XC 2 rfl dX7_thin_13 rfl ?_
    refine V_iconst XC dX7_thin_14 ?_
    refine V_sipush XC dX7_thin_15 (by decide) ?_
    refine V_callS (rest := _) XC (c_X7_isWithin l D kI kC _ _ _ (by first | assumption | (unfold IR; omega)) (by first | assumption | (unfold IR; omega)) (by first | assumption | (unfold IR; omega))) gX7_thin_X7_isWithin rfl kmX7_isWithin ⟨⟨Nat.le_of_ble_eq_true rfl, Nat.le_of_ble_eq_true rfl⟩, Nat.le_of_ble_eq_true rfl, Nat.le_of_ble_eq_true rfl⟩ ⟨rfl, rfl⟩ rfl rfl (Nat.le_of_ble_eq_true rfl) [] rfl rfl (fun _ => rfl) dX7_thin_18 (kR_of rfl (fun r18 hq18 => ?_))
    subst hq18
    refine V_bif_ne XC 27 dX7_thin_21 (by decide) (fun h21 => ?_) (fun h21 => ?_)
    · skip
      have hr2 := of_decide_eq_true h21
      have hrr : ¬ inR d 1 500 = false := by unfold inR; rw [h21]; decide
      refine V_aload_n XC 0 rfl dX7_thin_27 rfl ?_
      refine V_get XC 4 flX7_thin_33 0 rfl rfl dX7_thin_28 ?_
      refine V_aload_n XC 0 rfl dX7_thin_31 rfl ?_
      refine V_get XC 2 flX7_thin_26 0 rfl rfl dX7_thin_32 ?_
      refine V_iload_n XC 1 rfl dX7_thin_35 rfl ?_
      refine V_callV (rest := _) (q0 := 3) XC (c_X5_take l D kI kC _ _ _ _ _ _ _ _ _ _ _ (by omega) hok) gX7_thin_X5_take rfl kmX5_take ⟨⟨Nat.le_of_ble_eq_true rfl, Nat.le_of_ble_eq_true rfl⟩, Nat.le_of_ble_eq_true rfl, Nat.le_of_ble_eq_true rfl⟩ ⟨rfl, rfl⟩ rfl rfl (Nat.le_of_ble_eq_true rfl) [3, 4, 5, 1, 2] rfl rfl (fun _ => rfl) rfl rfl dX7_thin_36 (kV_of (fun u36 hq36 => ?_))
      obtain ⟨n36, F36, G36⟩ := u36
      dsimp only [putW, List.set, Option.toList, List.cons_append, List.nil_append, padO, mdO, shW, trW, txW, hiW, liW, woW, taW]
      try dsimp only at hq36
      obtain ⟨hs36, hn36, hp36, hC36⟩ := hq36
      have hP := pts_skC (F := F) (k := k)
      rw [hP] at hp36
      obtain ⟨-, hXY⟩ := ptsOf_inj hp36
      have hNR := NR_xy hok
      refine V_aload_n XC 0 rfl dX7_thin_39 rfl ?_
      refine V_get XC 4 flX7_thin_33 0 rfl rfl dX7_thin_40 ?_
      refine V_iload_n XC 2 rfl dX7_thin_43 rfl ?_
      refine V_callV (rest := _) (q0 := 3) XC (c_X5_dropNear l D kI kC _ _ _ _ _ _ (by omega) (by omega) hC36 _ (by omega)) gX7_thin_X5_dropNear rfl kmX5_dropNear ⟨⟨Nat.le_of_ble_eq_true rfl, Nat.le_of_ble_eq_true rfl⟩, Nat.le_of_ble_eq_true rfl, Nat.le_of_ble_eq_true rfl⟩ ⟨rfl, rfl⟩ rfl rfl (Nat.le_of_ble_eq_true rfl) [3, 4, 5] rfl rfl (fun _ => rfl) rfl rfl dX7_thin_44 (kV_of (fun u44 hq44 => ?_))
      obtain ⟨n44, F44, G44⟩ := u44
      dsimp only [putW, List.set, Option.toList, List.cons_append, List.nil_append, padO, mdO, shW, trW, txW, hiW, liW, woW, taW]
      try dsimp only at hq44
      obtain ⟨hn144, hn44, hp44, hC44⟩ := hq44
      have hsame : ptsOf n44 F44 G44 = thinC (szk (skC F k)) (px (skC F k)) (py (skC F k)) (d * d) := by
        rw [hp44, hs36]
        exact thinC_congr (fun i hi => hXY i (by omega))
      refine V_aload_n XC 0 rfl dX7_thin_47 rfl ?_
      refine V_iload_n XC 1 rfl dX7_thin_48 rfl ?_
      refine V_callV (rest := _) (q0 := 0) XC (c_X7_replace l D kI kC _ _ _ _ _ _ _ _ _ _ _ _ _ _ _ _ h3 hH k hkn (OkP_of hn144 (by omega) hC44 (by rw [hsame]; exact NR_thin))) gX7_thin_X7_replace rfl kmX7_replace ⟨⟨Nat.le_of_ble_eq_true rfl, Nat.le_of_ble_eq_true rfl⟩, Nat.le_of_ble_eq_true rfl, Nat.le_of_ble_eq_true rfl⟩ ⟨rfl, rfl⟩ rfl rfl (Nat.le_of_ble_eq_true rfl) [0, 1, 2, 3, 4, 5, 6, 7, 8] rfl rfl (fun _ => rfl) rfl rfl dX7_thin_49 (kI_of (fun r49 u49 hq49 => ?_))
      obtain ⟨n49, F49, p49, f49, ha49, N49, HS49⟩ := u49
      dsimp only [putW, List.set, Option.toList, List.cons_append, List.nil_append, padO, mdO, shW, trW, txW, hiW, liW, woW, taW]
      try dsimp only at hq49
      obtain ⟨hr49, hs49, hH49, h349⟩ := hq49
      refine V_iret XC (n49, F49, p49, f49, ha49, N49, HS49, _, _, _) hrV rfl dX7_thin_52 ?_
      have hp : thinS (shC n F) (k : Int) d = repS (shC n F) k (ptsOf n44 F44 G44) := by
        unfold thinS
        rw [if_neg hh, if_neg hrr, Int.toNat_natCast, hat, hsame]
      rw [hp]
      exact ⟨hr49, hs49, hH49, h349⟩
    have hp : thinS (shC n F) (k : Int) d = (-2, none) := by
      unfold thinS
      rw [if_neg hh]
      exact if_pos h21
    refine V_bipush XC dX7_thin_24 (by decide) ?_
    refine V_iret XC (n, F, p, f, ha, N, HS, wn, WX, WY) hrV rfl dX7_thin_26 ?_
    rw [hp]
    exact ⟨rfl, rfl, hH, h3⟩
  have hp : thinS (shC n F) z d = (-1, none) := if_pos (by rw [hasS_C]; exact h8)
  refine V_iconst XC dX7_thin_11 ?_
  refine V_iret XC (n, F, p, f, ha, N, HS, wn, WX, WY) hrV rfl dX7_thin_12 ?_
  rw [hp]
  exact ⟨rfl, rfl, hH, h3⟩

set_option maxRecDepth 100000 in
set_option maxHeartbeats 4000000 in
theorem c_X7_smooth (l : Launch) (D : va_G) (kI kC : ClassId) (a g w : Nat → Nat) (gap : Int) (n : Nat) (F : Nat → Int) (wn : Int) (WX WY : Nat → Int) (p f ha : Nat) (N HS : Nat → Int) (past fut : List (List Stk)) (h3 : Ok3 (shC n F, past, fut)) (hH : HR (shC n F, past, fut) p f ha N HS) (z d : Int) (hz : IR z) (hd : IR d) : Con l yX7_smooth wsX7_smooth { frames := 3, cells := 0, slots := 0, locals := 85 } D kI kC [.ref (a 0), .int (iI z), .int (iI d)] (padO a g w gap :: (shW kI (a 6) (a 7) (n : Int) F ++ (trW kI (a 10) (a 11) (a 12) wn WX WY ++ (hiW kI (a 13) (a 14) (a 15) (p : Int) (f : Int) (ha : Int) N HS)))) (σ := Nat × (Nat → Int) × Nat × Nat × Nat × (Nat → Int) × (Nat → Int) × Int × (Nat → Int) × (Nat → Int)) (qI (fun r u => r = (smoothS (shC n F) z d).1 ∧ shC u.1 u.2.1 = (actS (shC n F, past, fut) (smoothS (shC n F) z d).2).1 ∧ HR (actS (shC n F, past, fut) (smoothS (shC n F) z d).2) u.2.2.1 u.2.2.2.1 u.2.2.2.2.1 u.2.2.2.2.2.1 u.2.2.2.2.2.2.1 ∧ Ok3 (actS (shC n F, past, fut) (smoothS (shC n F) z d).2))) (fun u => (padO a g w gap :: (shW kI (a 6) (a 7) (u.1 : Int) u.2.1 ++ (trW kI (a 10) (a 11) (a 12) u.2.2.2.2.2.2.2.1 u.2.2.2.2.2.2.2.2.1 u.2.2.2.2.2.2.2.2.2 ++ (hiW kI (a 13) (a 14) (a 15) (u.2.2.1 : Int) (u.2.2.2.1 : Int) (u.2.2.2.2.1 : Int) u.2.2.2.2.2.1 u.2.2.2.2.2.2.1))))) := by
  refine Con.of (cc := cX7_smooth) (maxL := 4) (ret := (some .int)) (by decide +kernel) rfl (List.forall_mem_cons.mpr ⟨rfl, List.forall_mem_cons.mpr ⟨rfl, List.forall_mem_cons.mpr ⟨rfl, fun _ h => absurd h List.not_mem_nil⟩⟩⟩) (Nat.le_of_ble_eq_true rfl) ?_
  intro pV eV sV mV bV tV cV AV XC hrV
  have XC : Cx pV _ sV mV _ tV cV cX7_smooth 4 RX7 wsX7_smooth AV D kI kC := XC
  change VV _ _ _ _ _ _ _ _ _ _ _ _ _ _ _ _ _ [some (.ref (a 0)), some (.int (iI z)), some (.int (iI d)), none] _ _
  dsimp only [padO, trW, shW, txW, hiW, liW, woW, taW, List.cons_append, List.nil_append]
  have hn16 : n ≤ 16 := by have h9 := h3.1.1; rwa [shC_len] at h9
  have hS : OkS (shC n F) := h3.1
  have hp6 : p ≤ 6 := by rw [hH.1]; exact h3.2.1.1
  have ha7 : ha < 7 := hH.2.2.1
  refine V_aload_n XC 0 rfl dX7_smooth_0 rfl ?_
  refine V_get XC 2 flX7_smooth_26 0 rfl rfl dX7_smooth_1 ?_
  refine V_iload_n XC 1 rfl dX7_smooth_4 rfl ?_
  refine V_callV (rest := _) (q0 := 1) XC (c_X2_has l D kI kC _ _ _ _ _ (by first | assumption | (unfold IR; omega)) (by first | assumption | (unfold IR; omega))) gX7_smooth_X2_has rfl kmX2_has ⟨⟨Nat.le_of_ble_eq_true rfl, Nat.le_of_ble_eq_true rfl⟩, Nat.le_of_ble_eq_true rfl, Nat.le_of_ble_eq_true rfl⟩ ⟨rfl, rfl⟩ rfl rfl (Nat.le_of_ble_eq_true rfl) [1, 2] rfl rfl (fun _ => rfl) rfl rfl dX7_smooth_5 (kR_of rfl (fun r5 hq5 => ?_))
  subst hq5
  refine V_bif_ne XC 13 dX7_smooth_8 (by decide) (fun h8 => ?_) (fun h8 => ?_)
  · skip
    have hz2 := of_decide_eq_true h8
    obtain ⟨k, rfl⟩ : ∃ k : Nat, z = (k : Int) := ⟨z.toNat, by omega⟩
    have hkn : k < n := by omega
    have hok := shC_in hS hkn
    have hat := shC_at (F := F) hkn
    have hf := skC_ok hok
    have hsz := skC_sz hok
    have hz3 := OkK_sz hok
    have hh : ¬ hasS (shC n F) (k : Int) = false := by rw [hasS_C, h8]; decide
    refine V_iload_n XC 2 rfl dX7_smooth_13 rfl ?_
    refine V_iconst XC dX7_smooth_14 ?_
    refine V_bipush XC dX7_smooth_15 (by decide) ?_
    refine V_callS (rest := _) XC (c_X7_isWithin l D kI kC _ _ _ (by first | assumption | (unfold IR; omega)) (by first | assumption | (unfold IR; omega)) (by first | assumption | (unfold IR; omega))) gX7_smooth_X7_isWithin rfl kmX7_isWithin ⟨⟨Nat.le_of_ble_eq_true rfl, Nat.le_of_ble_eq_true rfl⟩, Nat.le_of_ble_eq_true rfl, Nat.le_of_ble_eq_true rfl⟩ ⟨rfl, rfl⟩ rfl rfl (Nat.le_of_ble_eq_true rfl) [] rfl rfl (fun _ => rfl) dX7_smooth_17 (kR_of rfl (fun r17 hq17 => ?_))
    subst hq17
    refine V_bif_ne XC 26 dX7_smooth_20 (by decide) (fun h20 => ?_) (fun h20 => ?_)
    · skip
      have hr2 := of_decide_eq_true h20
      have hrr : ¬ inR d 1 8 = false := by unfold inR; rw [h20]; decide
      refine V_aload_n XC 0 rfl dX7_smooth_26 rfl ?_
      refine V_get XC 4 flX7_smooth_33 0 rfl rfl dX7_smooth_27 ?_
      refine V_aload_n XC 0 rfl dX7_smooth_30 rfl ?_
      refine V_get XC 2 flX7_smooth_26 0 rfl rfl dX7_smooth_31 ?_
      refine V_iload_n XC 1 rfl dX7_smooth_34 rfl ?_
      refine V_callV (rest := _) (q0 := 3) XC (c_X5_take l D kI kC _ _ _ _ _ _ _ _ _ _ _ (by omega) hok) gX7_smooth_X5_take rfl kmX5_take ⟨⟨Nat.le_of_ble_eq_true rfl, Nat.le_of_ble_eq_true rfl⟩, Nat.le_of_ble_eq_true rfl, Nat.le_of_ble_eq_true rfl⟩ ⟨rfl, rfl⟩ rfl rfl (Nat.le_of_ble_eq_true rfl) [3, 4, 5, 1, 2] rfl rfl (fun _ => rfl) rfl rfl dX7_smooth_35 (kV_of (fun u35 hq35 => ?_))
      obtain ⟨n35, F35, G35⟩ := u35
      dsimp only [putW, List.set, Option.toList, List.cons_append, List.nil_append, padO, mdO, shW, trW, txW, hiW, liW, woW, taW]
      try dsimp only at hq35
      obtain ⟨hs35, hn35, hp35, hC35⟩ := hq35
      have hP := pts_skC (F := F) (k := k)
      rw [hP] at hp35
      obtain ⟨-, hXY⟩ := ptsOf_inj hp35
      have hNR := NR_xy hok
      obtain ⟨q, rfl⟩ : ∃ q : Nat, d = (q : Int) := ⟨d.toNat, by omega⟩
      refine V_iconst XC dX7_smooth_38 ?_
      refine V_istore_n XC 3 rfl dX7_smooth_39 (by decide) ?_
      dsimp only [List.set]
      refine V_loop (σ := Nat × (Nat → Int) × (Nat → Int)) (fun u => q - u.1) (fun u => u.1 ≤ q ∧ ∀ i, i < n35 → (u.2.1 i = smN n35 (px (skC F k)) u.1 i ∧ u.2.2 i = smN n35 (py (skC F k)) u.1 i) ∧ (0 ≤ u.2.1 i ∧ u.2.1 i ≤ 1000 ∧ 0 ≤ u.2.2 i ∧ u.2.2 i ≤ 1000)) (fun u => [some (.ref (a 0)), some (.int (iI (k : Int))), some (.int (iI (q : Int))), some (.int (iI (u.1 : Int)))]) (fun u => (padO a g w gap :: (shW kI (a 6) (a 7) (n : Int) F ++ (trW kI (a 10) (a 11) (a 12) (n35 : Int) u.2.1 u.2.2 ++ (hiW kI (a 13) (a 14) (a 15) (p : Int) (f : Int) (ha : Int) N HS))))) (0, F35, G35) ?_ rfl rfl (fun u hJ ih40 => ?_)
      · dsimp only
        exact ⟨Nat.zero_le _, fun i hi => ⟨hXY i hi, hC35 i hi⟩⟩
      obtain ⟨j, X2, Y2⟩ := u
      try dsimp only at hJ ih40 ⊢
      try dsimp only [List.cons_append, List.nil_append, padO, mdO, shW, trW, txW, hiW, liW, woW, taW]
      obtain ⟨hj, hall⟩ := hJ
      refine V_iload_n XC 3 rfl dX7_smooth_40 rfl ?_
      refine V_iload_n XC 2 rfl dX7_smooth_41 rfl ?_
      refine V_icmp_ge XC 58 dX7_smooth_42 (by decide) ⟨by omega, by omega⟩ ⟨by omega, by omega⟩ (fun h42 => ?_) (fun h42 => ?_)
      · skip
        refine V_aload_n XC 0 rfl dX7_smooth_58 rfl ?_
        refine V_get XC 4 flX7_smooth_33 0 rfl rfl dX7_smooth_59 ?_
        refine V_callV (rest := _) (q0 := 3) XC (c_X5_dropRepeats l D kI kC _ _ _ _ _ _ (by omega) (fun i hi => (hall i hi).2)) gX7_smooth_X5_dropRepeats rfl kmX5_dropRepeats ⟨⟨Nat.le_of_ble_eq_true rfl, Nat.le_of_ble_eq_true rfl⟩, Nat.le_of_ble_eq_true rfl, Nat.le_of_ble_eq_true rfl⟩ ⟨rfl, rfl⟩ rfl rfl (Nat.le_of_ble_eq_true rfl) [3, 4, 5] rfl rfl (fun _ => rfl) rfl rfl dX7_smooth_62 (kV_of (fun u62 hq62 => ?_))
        obtain ⟨n62, F62, G62⟩ := u62
        dsimp only [putW, List.set, Option.toList, List.cons_append, List.nil_append, padO, mdO, shW, trW, txW, hiW, liW, woW, taW]
        try dsimp only at hq62
        obtain ⟨hn62, hp62, hC62⟩ := hq62
        obtain rfl : q = j := by omega
        have hsame : ptsOf n62 F62 G62 = dd (ptsOf (szk (skC F k)) (smN (szk (skC F k)) (px (skC F k)) q) (smN (szk (skC F k)) (py (skC F k)) q)) := by
          rw [hp62, ← hs35]
          exact congrArg dd (ptsOf_congr (fun i hi => (hall i hi).1))
        have hpos : 1 ≤ n62 := by
          have h8 := pos_dd (l := ptsOf n35 X2 Y2) (by rw [ptsOf_len]; omega)
          rwa [← hp62, ptsOf_len] at h8
        refine V_aload_n XC 0 rfl dX7_smooth_65 rfl ?_
        refine V_iload_n XC 1 rfl dX7_smooth_66 rfl ?_
        refine V_callV (rest := _) (q0 := 0) XC (c_X7_replace l D kI kC _ _ _ _ _ _ _ _ _ _ _ _ _ _ _ _ h3 hH k hkn (OkP_of hpos (by omega) hC62 (by rw [hp62]; exact NR_dd _))) gX7_smooth_X7_replace rfl kmX7_replace ⟨⟨Nat.le_of_ble_eq_true rfl, Nat.le_of_ble_eq_true rfl⟩, Nat.le_of_ble_eq_true rfl, Nat.le_of_ble_eq_true rfl⟩ ⟨rfl, rfl⟩ rfl rfl (Nat.le_of_ble_eq_true rfl) [0, 1, 2, 3, 4, 5, 6, 7, 8] rfl rfl (fun _ => rfl) rfl rfl dX7_smooth_67 (kI_of (fun r67 u67 hq67 => ?_))
        obtain ⟨n67, F67, p67, f67, ha67, N67, HS67⟩ := u67
        dsimp only [putW, List.set, Option.toList, List.cons_append, List.nil_append, padO, mdO, shW, trW, txW, hiW, liW, woW, taW]
        try dsimp only at hq67
        obtain ⟨hr67, hs67, hH67, h367⟩ := hq67
        refine V_iret XC (n67, F67, p67, f67, ha67, N67, HS67, _, _, _) hrV rfl dX7_smooth_70 ?_
        have hp : smoothS (shC n F) (k : Int) (q : Int) = repS (shC n F) k (ptsOf n62 F62 G62) := by
          unfold smoothS
          rw [if_neg hh, if_neg hrr, Int.toNat_natCast, hat, hsame, Int.toNat_natCast]
        rw [hp]
        exact ⟨hr67, hs67, hH67, h367⟩
      refine V_aload_n XC 0 rfl dX7_smooth_45 rfl ?_
      refine V_get XC 4 flX7_smooth_33 0 rfl rfl dX7_smooth_46 ?_
      refine V_callV (rest := _) (q0 := 3) XC (c_X5_smoothOnce l D kI kC _ _ _ _ _ _ (by omega) (by omega) (fun i hi => (hall i hi).2)) gX7_smooth_X5_smoothOnce rfl kmX5_smoothOnce ⟨⟨Nat.le_of_ble_eq_true rfl, Nat.le_of_ble_eq_true rfl⟩, Nat.le_of_ble_eq_true rfl, Nat.le_of_ble_eq_true rfl⟩ ⟨rfl, rfl⟩ rfl rfl (Nat.le_of_ble_eq_true rfl) [3, 4, 5] rfl rfl (fun _ => rfl) rfl rfl dX7_smooth_49 (kV_of (fun u49 hq49 => ?_))
      obtain ⟨F49, G49⟩ := u49
      dsimp only [putW, List.set, Option.toList, List.cons_append, List.nil_append, padO, mdO, shW, trW, txW, hiW, liW, woW, taW]
      try dsimp only at hq49
      have hs49 := hq49
      refine V_iinc XC dX7_smooth_52 rfl (by decide) ?_
      dsimp only [List.set]
      refine V_goto XC 40 dX7_smooth_55 (by decide) ?_
      refine ih40 (j + 1, F49, G49) ⟨by (try dsimp only); omega, fun i hi => ?_⟩ (by (try dsimp only); omega)
      dsimp only at hi ⊢
      have h9 := hs49 i hi
      have e1 := smF_congr (n := n35) (X := X2) (Y := smN n35 (px (skC F k)) j) (fun i hi => (hall i hi).1.1) i hi
      have e2 := smF_congr (n := n35) (X := Y2) (Y := smN n35 (py (skC F k)) j) (fun i hi => (hall i hi).1.2) i hi
      have r1 := smF_rng (n := n35) (X := X2) (fun i hi => ⟨(hall i hi).2.1, (hall i hi).2.2.1⟩) i hi
      have r2 := smF_rng (n := n35) (X := Y2) (fun i hi => ⟨(hall i hi).2.2.2.1, (hall i hi).2.2.2.2⟩) i hi
      rw [h9.1, h9.2]
      exact ⟨⟨e1, e2⟩, r1.1, r1.2, r2.1, r2.2⟩
    have hp : smoothS (shC n F) (k : Int) d = (-2, none) := by
      unfold smoothS
      rw [if_neg hh]
      exact if_pos h20
    refine V_bipush XC dX7_smooth_23 (by decide) ?_
    refine V_iret XC (n, F, p, f, ha, N, HS, wn, WX, WY) hrV rfl dX7_smooth_25 ?_
    rw [hp]
    exact ⟨rfl, rfl, hH, h3⟩
  have hp : smoothS (shC n F) z d = (-1, none) := if_pos (by rw [hasS_C]; exact h8)
  refine V_iconst XC dX7_smooth_11 ?_
  refine V_iret XC (n, F, p, f, ha, N, HS, wn, WX, WY) hrV rfl dX7_smooth_12 ?_
  rw [hp]
  exact ⟨rfl, rfl, hH, h3⟩

set_option maxRecDepth 100000 in
set_option maxHeartbeats 4000000 in
theorem c_X7_shift (l : Launch) (D : va_G) (kI kC : ClassId) (a g w : Nat → Nat) (gap : Int) (n : Nat) (F : Nat → Int) (wn : Int) (WX WY : Nat → Int) (p f ha : Nat) (N HS : Nat → Int) (past fut : List (List Stk)) (h3 : Ok3 (shC n F, past, fut)) (hH : HR (shC n F, past, fut) p f ha N HS) (z dx dy : Int) (hz : IR z) (hdx : IR dx) (hdy : IR dy) : Con l yX7_shift wsX7_shift { frames := 3, cells := 0, slots := 0, locals := 85 } D kI kC [.ref (a 0), .int (iI z), .int (iI dx), .int (iI dy)] (padO a g w gap :: (shW kI (a 6) (a 7) (n : Int) F ++ (trW kI (a 10) (a 11) (a 12) wn WX WY ++ (hiW kI (a 13) (a 14) (a 15) (p : Int) (f : Int) (ha : Int) N HS)))) (σ := Nat × (Nat → Int) × Nat × Nat × Nat × (Nat → Int) × (Nat → Int) × Int × (Nat → Int) × (Nat → Int)) (qI (fun r u => r = (shiftS (shC n F) z dx dy).1 ∧ shC u.1 u.2.1 = (actS (shC n F, past, fut) (shiftS (shC n F) z dx dy).2).1 ∧ HR (actS (shC n F, past, fut) (shiftS (shC n F) z dx dy).2) u.2.2.1 u.2.2.2.1 u.2.2.2.2.1 u.2.2.2.2.2.1 u.2.2.2.2.2.2.1 ∧ Ok3 (actS (shC n F, past, fut) (shiftS (shC n F) z dx dy).2))) (fun u => (padO a g w gap :: (shW kI (a 6) (a 7) (u.1 : Int) u.2.1 ++ (trW kI (a 10) (a 11) (a 12) u.2.2.2.2.2.2.2.1 u.2.2.2.2.2.2.2.2.1 u.2.2.2.2.2.2.2.2.2 ++ (hiW kI (a 13) (a 14) (a 15) (u.2.2.1 : Int) (u.2.2.2.1 : Int) (u.2.2.2.2.1 : Int) u.2.2.2.2.2.1 u.2.2.2.2.2.2.1))))) := by
  refine Con.of (cc := cX7_shift) (maxL := 5) (ret := (some .int)) (by decide +kernel) rfl (List.forall_mem_cons.mpr ⟨rfl, List.forall_mem_cons.mpr ⟨rfl, List.forall_mem_cons.mpr ⟨rfl, List.forall_mem_cons.mpr ⟨rfl, fun _ h => absurd h List.not_mem_nil⟩⟩⟩⟩) (Nat.le_of_ble_eq_true rfl) ?_
  intro pV eV sV mV bV tV cV AV XC hrV
  have XC : Cx pV _ sV mV _ tV cV cX7_shift 5 RX7 wsX7_shift AV D kI kC := XC
  change VV _ _ _ _ _ _ _ _ _ _ _ _ _ _ _ _ _ [some (.ref (a 0)), some (.int (iI z)), some (.int (iI dx)), some (.int (iI dy)), none] _ _
  dsimp only [padO, trW, shW, txW, hiW, liW, woW, taW, List.cons_append, List.nil_append]
  have hn16 : n ≤ 16 := by have h9 := h3.1.1; rwa [shC_len] at h9
  have hS : OkS (shC n F) := h3.1
  have hp6 : p ≤ 6 := by rw [hH.1]; exact h3.2.1.1
  have ha7 : ha < 7 := hH.2.2.1
  refine V_aload_n XC 0 rfl dX7_shift_0 rfl ?_
  refine V_get XC 2 flX7_shift_26 0 rfl rfl dX7_shift_1 ?_
  refine V_iload_n XC 1 rfl dX7_shift_4 rfl ?_
  refine V_callV (rest := _) (q0 := 1) XC (c_X2_has l D kI kC _ _ _ _ _ (by first | assumption | (unfold IR; omega)) (by first | assumption | (unfold IR; omega))) gX7_shift_X2_has rfl kmX2_has ⟨⟨Nat.le_of_ble_eq_true rfl, Nat.le_of_ble_eq_true rfl⟩, Nat.le_of_ble_eq_true rfl, Nat.le_of_ble_eq_true rfl⟩ ⟨rfl, rfl⟩ rfl rfl (Nat.le_of_ble_eq_true rfl) [1, 2] rfl rfl (fun _ => rfl) rfl rfl dX7_shift_5 (kR_of rfl (fun r5 hq5 => ?_))
  subst hq5
  refine V_bif_ne XC 13 dX7_shift_8 (by decide) (fun h8 => ?_) (fun h8 => ?_)
  · skip
    have hz2 := of_decide_eq_true h8
    obtain ⟨k, rfl⟩ : ∃ k : Nat, z = (k : Int) := ⟨z.toNat, by omega⟩
    have hkn : k < n := by omega
    have hok := shC_in hS hkn
    have hat := shC_at (F := F) hkn
    have hf := skC_ok hok
    have hsz := skC_sz hok
    have hz3 := OkK_sz hok
    have hh : ¬ hasS (shC n F) (k : Int) = false := by rw [hasS_C, h8]; decide
    refine V_iload_n XC 2 rfl dX7_shift_13 rfl ?_
    refine V_sipush XC dX7_shift_14 (by decide) ?_
    refine V_sipush XC dX7_shift_17 (by decide) ?_
    refine V_callS (rest := _) XC (c_X7_isWithin l D kI kC _ _ _ (by first | assumption | (unfold IR; omega)) (by first | assumption | (unfold IR; omega)) (by first | assumption | (unfold IR; omega))) gX7_shift_X7_isWithin rfl kmX7_isWithin ⟨⟨Nat.le_of_ble_eq_true rfl, Nat.le_of_ble_eq_true rfl⟩, Nat.le_of_ble_eq_true rfl, Nat.le_of_ble_eq_true rfl⟩ ⟨rfl, rfl⟩ rfl rfl (Nat.le_of_ble_eq_true rfl) [] rfl rfl (fun _ => rfl) dX7_shift_20 (kR_of rfl (fun r20 hq20 => ?_))
    subst hq20
    refine V_bif_eq XC 39 dX7_shift_23 (by decide) (fun h23 => ?_) (fun h23 => ?_)
    · skip
      have hp : shiftS (shC n F) (k : Int) dx dy = (-2, none) := by
        unfold shiftS
        rw [if_neg hh]
        exact if_pos (Or.inl h23)
      refine V_bipush XC dX7_shift_39 (by decide) ?_
      refine V_iret XC (n, F, p, f, ha, N, HS, wn, WX, WY) hrV rfl dX7_shift_41 ?_
      rw [hp]
      exact ⟨rfl, rfl, hH, h3⟩
    have hr1 := of_decide_eq_true h23
    refine V_iload_n XC 3 rfl dX7_shift_26 rfl ?_
    refine V_sipush XC dX7_shift_27 (by decide) ?_
    refine V_sipush XC dX7_shift_30 (by decide) ?_
    refine V_callS (rest := _) XC (c_X7_isWithin l D kI kC _ _ _ (by first | assumption | (unfold IR; omega)) (by first | assumption | (unfold IR; omega)) (by first | assumption | (unfold IR; omega))) gX7_shift_X7_isWithin rfl kmX7_isWithin ⟨⟨Nat.le_of_ble_eq_true rfl, Nat.le_of_ble_eq_true rfl⟩, Nat.le_of_ble_eq_true rfl, Nat.le_of_ble_eq_true rfl⟩ ⟨rfl, rfl⟩ rfl rfl (Nat.le_of_ble_eq_true rfl) [] rfl rfl (fun _ => rfl) dX7_shift_33 (kR_of rfl (fun r33 hq33 => ?_))
    subst hq33
    refine V_bif_ne XC 42 dX7_shift_36 (by decide) (fun h36 => ?_) (fun h36 => ?_)
    · skip
      have hr2 := of_decide_eq_true h36
      have hrr : ¬ (inR dx (-1000) 1000 = false ∨ inR dy (-1000) 1000 = false) := by unfold inR; rw [h23, h36]; simp
      have hlf : lfS (shC n F) k = mnF (px (skC F k)) (szk (skC F k) - 1) := by unfold lfS lfK; rw [hat]
      have hrt : rtS (shC n F) k = mxF (px (skC F k)) (szk (skC F k) - 1) := by unfold rtS rtK; rw [hat]
      have htp : tpS (shC n F) k = mnF (py (skC F k)) (szk (skC F k) - 1) := by unfold tpS tpK; rw [hat]
      have hbo : boS (shC n F) k = mxF (py (skC F k)) (szk (skC F k) - 1) := by unfold boS boK; rw [hat]
      have hbd := bdK hok
      unfold lfK rtK tpK boK at hbd
      refine V_aload_n XC 0 rfl dX7_shift_42 rfl ?_
      refine V_get XC 2 flX7_shift_26 0 rfl rfl dX7_shift_43 ?_
      refine V_iload_n XC 1 rfl dX7_shift_46 rfl ?_
      refine V_callV (rest := _) (q0 := 1) XC (c_X2_left l D kI kC _ _ _ _ _ (by omega) hok) gX7_shift_X2_left rfl kmX2_left ⟨⟨Nat.le_of_ble_eq_true rfl, Nat.le_of_ble_eq_true rfl⟩, Nat.le_of_ble_eq_true rfl, Nat.le_of_ble_eq_true rfl⟩ ⟨rfl, rfl⟩ rfl rfl (Nat.le_of_ble_eq_true rfl) [1, 2] rfl rfl (fun _ => rfl) rfl rfl dX7_shift_47 (kR_of rfl (fun r47 hq47 => ?_))
      subst hq47
      refine V_iload_n XC 2 rfl dX7_shift_50 rfl ?_
      refine V_iadd XC dX7_shift_51 ?_
      refine V_callS (rest := _) XC (c_X7_isCoordinate l D kI kC _ (by first | assumption | (unfold IR; omega))) gX7_shift_X7_isCoordinate rfl kmX7_isCoordinate ⟨⟨Nat.le_of_ble_eq_true rfl, Nat.le_of_ble_eq_true rfl⟩, Nat.le_of_ble_eq_true rfl, Nat.le_of_ble_eq_true rfl⟩ ⟨rfl, rfl⟩ rfl rfl (Nat.le_of_ble_eq_true rfl) [] rfl rfl (fun _ => rfl) dX7_shift_52 (kR_of rfl (fun r52 hq52 => ?_))
      subst hq52
      refine V_bif_eq XC 106 dX7_shift_55 (by decide) (fun h55 => ?_) (fun h55 => ?_)
      · skip
        have hp : shiftS (shC n F) (k : Int) dx dy = (-4, none) := by
          unfold shiftS
          rw [if_neg hh, if_neg hrr, Int.toNat_natCast, hlf, hrt, htp, hbo]
          exact if_pos (Or.inl h55)
        refine V_bipush XC dX7_shift_106 (by decide) ?_
        refine V_iret XC (n, F, p, f, ha, N, HS, wn, WX, WY) hrV rfl dX7_shift_108 ?_
        rw [hp]
        exact ⟨rfl, rfl, hH, h3⟩
      refine V_aload_n XC 0 rfl dX7_shift_58 rfl ?_
      refine V_get XC 2 flX7_shift_26 0 rfl rfl dX7_shift_59 ?_
      refine V_iload_n XC 1 rfl dX7_shift_62 rfl ?_
      refine V_callV (rest := _) (q0 := 1) XC (c_X2_right l D kI kC _ _ _ _ _ (by omega) hok) gX7_shift_X2_right rfl kmX2_right ⟨⟨Nat.le_of_ble_eq_true rfl, Nat.le_of_ble_eq_true rfl⟩, Nat.le_of_ble_eq_true rfl, Nat.le_of_ble_eq_true rfl⟩ ⟨rfl, rfl⟩ rfl rfl (Nat.le_of_ble_eq_true rfl) [1, 2] rfl rfl (fun _ => rfl) rfl rfl dX7_shift_63 (kR_of rfl (fun r63 hq63 => ?_))
      subst hq63
      refine V_iload_n XC 2 rfl dX7_shift_66 rfl ?_
      refine V_iadd XC dX7_shift_67 ?_
      refine V_callS (rest := _) XC (c_X7_isCoordinate l D kI kC _ (by first | assumption | (unfold IR; omega))) gX7_shift_X7_isCoordinate rfl kmX7_isCoordinate ⟨⟨Nat.le_of_ble_eq_true rfl, Nat.le_of_ble_eq_true rfl⟩, Nat.le_of_ble_eq_true rfl, Nat.le_of_ble_eq_true rfl⟩ ⟨rfl, rfl⟩ rfl rfl (Nat.le_of_ble_eq_true rfl) [] rfl rfl (fun _ => rfl) dX7_shift_68 (kR_of rfl (fun r68 hq68 => ?_))
      subst hq68
      refine V_bif_eq XC 106 dX7_shift_71 (by decide) (fun h71 => ?_) (fun h71 => ?_)
      · skip
        have hp : shiftS (shC n F) (k : Int) dx dy = (-4, none) := by
          unfold shiftS
          rw [if_neg hh, if_neg hrr, Int.toNat_natCast, hlf, hrt, htp, hbo]
          exact if_pos (Or.inr (Or.inl h71))
        refine V_bipush XC dX7_shift_106 (by decide) ?_
        refine V_iret XC (n, F, p, f, ha, N, HS, wn, WX, WY) hrV rfl dX7_shift_108 ?_
        rw [hp]
        exact ⟨rfl, rfl, hH, h3⟩
      refine V_aload_n XC 0 rfl dX7_shift_74 rfl ?_
      refine V_get XC 2 flX7_shift_26 0 rfl rfl dX7_shift_75 ?_
      refine V_iload_n XC 1 rfl dX7_shift_78 rfl ?_
      refine V_callV (rest := _) (q0 := 1) XC (c_X2_top l D kI kC _ _ _ _ _ (by omega) hok) gX7_shift_X2_top rfl kmX2_top ⟨⟨Nat.le_of_ble_eq_true rfl, Nat.le_of_ble_eq_true rfl⟩, Nat.le_of_ble_eq_true rfl, Nat.le_of_ble_eq_true rfl⟩ ⟨rfl, rfl⟩ rfl rfl (Nat.le_of_ble_eq_true rfl) [1, 2] rfl rfl (fun _ => rfl) rfl rfl dX7_shift_79 (kR_of rfl (fun r79 hq79 => ?_))
      subst hq79
      refine V_iload_n XC 3 rfl dX7_shift_82 rfl ?_
      refine V_iadd XC dX7_shift_83 ?_
      refine V_callS (rest := _) XC (c_X7_isCoordinate l D kI kC _ (by first | assumption | (unfold IR; omega))) gX7_shift_X7_isCoordinate rfl kmX7_isCoordinate ⟨⟨Nat.le_of_ble_eq_true rfl, Nat.le_of_ble_eq_true rfl⟩, Nat.le_of_ble_eq_true rfl, Nat.le_of_ble_eq_true rfl⟩ ⟨rfl, rfl⟩ rfl rfl (Nat.le_of_ble_eq_true rfl) [] rfl rfl (fun _ => rfl) dX7_shift_84 (kR_of rfl (fun r84 hq84 => ?_))
      subst hq84
      refine V_bif_eq XC 106 dX7_shift_87 (by decide) (fun h87 => ?_) (fun h87 => ?_)
      · skip
        have hp : shiftS (shC n F) (k : Int) dx dy = (-4, none) := by
          unfold shiftS
          rw [if_neg hh, if_neg hrr, Int.toNat_natCast, hlf, hrt, htp, hbo]
          exact if_pos (Or.inr (Or.inr (Or.inl h87)))
        refine V_bipush XC dX7_shift_106 (by decide) ?_
        refine V_iret XC (n, F, p, f, ha, N, HS, wn, WX, WY) hrV rfl dX7_shift_108 ?_
        rw [hp]
        exact ⟨rfl, rfl, hH, h3⟩
      refine V_aload_n XC 0 rfl dX7_shift_90 rfl ?_
      refine V_get XC 2 flX7_shift_26 0 rfl rfl dX7_shift_91 ?_
      refine V_iload_n XC 1 rfl dX7_shift_94 rfl ?_
      refine V_callV (rest := _) (q0 := 1) XC (c_X2_bottom l D kI kC _ _ _ _ _ (by omega) hok) gX7_shift_X2_bottom rfl kmX2_bottom ⟨⟨Nat.le_of_ble_eq_true rfl, Nat.le_of_ble_eq_true rfl⟩, Nat.le_of_ble_eq_true rfl, Nat.le_of_ble_eq_true rfl⟩ ⟨rfl, rfl⟩ rfl rfl (Nat.le_of_ble_eq_true rfl) [1, 2] rfl rfl (fun _ => rfl) rfl rfl dX7_shift_95 (kR_of rfl (fun r95 hq95 => ?_))
      subst hq95
      refine V_iload_n XC 3 rfl dX7_shift_98 rfl ?_
      refine V_iadd XC dX7_shift_99 ?_
      refine V_callS (rest := _) XC (c_X7_isCoordinate l D kI kC _ (by first | assumption | (unfold IR; omega))) gX7_shift_X7_isCoordinate rfl kmX7_isCoordinate ⟨⟨Nat.le_of_ble_eq_true rfl, Nat.le_of_ble_eq_true rfl⟩, Nat.le_of_ble_eq_true rfl, Nat.le_of_ble_eq_true rfl⟩ ⟨rfl, rfl⟩ rfl rfl (Nat.le_of_ble_eq_true rfl) [] rfl rfl (fun _ => rfl) dX7_shift_100 (kR_of rfl (fun r100 hq100 => ?_))
      subst hq100
      refine V_bif_ne XC 109 dX7_shift_103 (by decide) (fun h103 => ?_) (fun h103 => ?_)
      · skip
        have q1 := of_decide_eq_true h55
        have q2 := of_decide_eq_true h71
        have q3 := of_decide_eq_true h87
        have q4 := of_decide_eq_true h103
        have hin : ∀ i, i < szk (skC F k) → 0 ≤ px (skC F k) i + dx ∧ px (skC F k) i + dx ≤ 1000 ∧ 0 ≤ py (skC F k) i + dy ∧ py (skC F k) i + dy ≤ 1000 := fun i hi => by
          have g1 := mnF_le (X := px (skC F k)) (n := szk (skC F k) - 1) i (by omega)
          have g2 := le_mxF (X := px (skC F k)) (n := szk (skC F k) - 1) i (by omega)
          have g3 := mnF_le (X := py (skC F k)) (n := szk (skC F k) - 1) i (by omega)
          have g4 := le_mxF (X := py (skC F k)) (n := szk (skC F k) - 1) i (by omega)
          omega
        have hsp : shiftS (shC n F) (k : Int) dx dy = repS (shC n F) k (ptsOf (szk (skC F k)) (fun i => px (skC F k) i + dx) (fun i => py (skC F k) i + dy)) := by
          unfold shiftS
          rw [if_neg hh, if_neg hrr, Int.toNat_natCast, hlf, hrt, htp, hbo, hat]
          refine if_neg ?_
          unfold inR
          rw [h55, h71, h87, h103]
          simp
        have hNR := NR_shift (dx := dx) (dy := dy) (NR_xy hok)
        refine V_iload_n XC 2 rfl dX7_shift_109 rfl ?_
        refine V_if_ne XC 120 dX7_shift_110 (by decide) (by first | assumption | (unfold IR at *; omega)) (fun h110 => ?_) (fun h110 => ?_)
        · skip
          refine V_aload_n XC 0 rfl dX7_shift_120 rfl ?_
          refine V_get XC 4 flX7_shift_33 0 rfl rfl dX7_shift_121 ?_
          refine V_callV (rest := _) (q0 := 3) XC (c_X5_empty l D kI kC _ _ _ _ _ _ ) gX7_shift_X5_empty rfl kmX5_empty ⟨⟨Nat.le_of_ble_eq_true rfl, Nat.le_of_ble_eq_true rfl⟩, Nat.le_of_ble_eq_true rfl, Nat.le_of_ble_eq_true rfl⟩ ⟨rfl, rfl⟩ rfl rfl (Nat.le_of_ble_eq_true rfl) [3, 4, 5] rfl rfl (fun _ => rfl) rfl rfl dX7_shift_124 (kV_of (fun u124 hq124 => ?_))
          dsimp only [putW, List.set, Option.toList, List.cons_append, List.nil_append, padO, mdO, shW, trW, txW, hiW, liW, woW, taW]
          try dsimp only at hq124
          refine V_iconst XC dX7_shift_127 ?_
          refine V_istore XC dX7_shift_128 (by decide) ?_
          dsimp only [List.set]
          refine V_loop (σ := Nat × (Nat → Int) × (Nat → Int)) (fun u => szk (skC F k) - u.1) (fun u => u.1 ≤ szk (skC F k) ∧ ptsOf u.1 u.2.1 u.2.2 = ptsOf u.1 (fun i => px (skC F k) i + dx) (fun i => py (skC F k) i + dy) ∧ (∀ i, i < u.1 → 0 ≤ u.2.1 i ∧ u.2.1 i ≤ 1000 ∧ 0 ≤ u.2.2 i ∧ u.2.2 i ≤ 1000)) (fun u => [some (.ref (a 0)), some (.int (iI (k : Int))), some (.int (iI dx)), some (.int (iI dy)), some (.int (iI (u.1 : Int)))]) (fun u => (padO a g w gap :: (shW kI (a 6) (a 7) (n : Int) F ++ (trW kI (a 10) (a 11) (a 12) (u.1 : Int) u.2.1 u.2.2 ++ (hiW kI (a 13) (a 14) (a 15) (p : Int) (f : Int) (ha : Int) N HS))))) (0, WX, WY) ?_ rfl rfl (fun u hJ ih130 => ?_)
          · dsimp only
            exact ⟨Nat.zero_le _, rfl, fun i hi => absurd hi (Nat.not_lt_zero i)⟩
          obtain ⟨i, X2, Y2⟩ := u
          try dsimp only at hJ ih130 ⊢
          try dsimp only [List.cons_append, List.nil_append, padO, mdO, shW, trW, txW, hiW, liW, woW, taW]
          obtain ⟨hi, hpt, hC⟩ := hJ
          refine V_iload XC dX7_shift_130 rfl ?_
          refine V_aload_n XC 0 rfl dX7_shift_132 rfl ?_
          refine V_get XC 2 flX7_shift_26 0 rfl rfl dX7_shift_133 ?_
          refine V_iload_n XC 1 rfl dX7_shift_136 rfl ?_
          refine V_callV (rest := _) (q0 := 1) XC (c_X2_size l D kI kC _ _ _ _ _ (by omega)) gX7_shift_X2_size rfl kmX2_size ⟨⟨Nat.le_of_ble_eq_true rfl, Nat.le_of_ble_eq_true rfl⟩, Nat.le_of_ble_eq_true rfl, Nat.le_of_ble_eq_true rfl⟩ ⟨rfl, rfl⟩ rfl rfl (Nat.le_of_ble_eq_true rfl) [1, 2] rfl rfl (fun _ => rfl) rfl rfl dX7_shift_137 (kR_of rfl (fun r137 hq137 => ?_))
          subst hq137
          refine V_icmp_ge XC 180 dX7_shift_140 (by decide) ⟨by omega, by omega⟩ ⟨by omega, by omega⟩ (fun h140 => ?_) (fun h140 => ?_)
          · skip
            obtain rfl : i = szk (skC F k) := by omega
            refine V_aload_n XC 0 rfl dX7_shift_180 rfl ?_
            refine V_iload_n XC 1 rfl dX7_shift_181 rfl ?_
            refine V_callV (rest := _) (q0 := 0) XC (c_X7_replace l D kI kC _ _ _ _ _ _ _ _ _ _ _ _ _ _ _ _ h3 hH k hkn (OkP_of (by omega) (by omega) hC (by rw [hpt]; exact hNR))) gX7_shift_X7_replace rfl kmX7_replace ⟨⟨Nat.le_of_ble_eq_true rfl, Nat.le_of_ble_eq_true rfl⟩, Nat.le_of_ble_eq_true rfl, Nat.le_of_ble_eq_true rfl⟩ ⟨rfl, rfl⟩ rfl rfl (Nat.le_of_ble_eq_true rfl) [0, 1, 2, 3, 4, 5, 6, 7, 8] rfl rfl (fun _ => rfl) rfl rfl dX7_shift_182 (kI_of (fun r182 u182 hq182 => ?_))
            obtain ⟨n182, F182, p182, f182, ha182, N182, HS182⟩ := u182
            dsimp only [putW, List.set, Option.toList, List.cons_append, List.nil_append, padO, mdO, shW, trW, txW, hiW, liW, woW, taW]
            try dsimp only at hq182
            obtain ⟨hr182, hs182, hH182, h3182⟩ := hq182
            refine V_iret XC (n182, F182, p182, f182, ha182, N182, HS182, _, _, _) hrV rfl dX7_shift_185 ?_
            rw [hsp, ← hpt]
            exact ⟨hr182, hs182, hH182, h3182⟩
          have hxy := skC_xy (F := F) (k := k) (i := i) (by omega)
          have hini := hin i (by omega)
          refine V_aload_n XC 0 rfl dX7_shift_143 rfl ?_
          refine V_get XC 4 flX7_shift_33 0 rfl rfl dX7_shift_144 ?_
          refine V_aload_n XC 0 rfl dX7_shift_147 rfl ?_
          refine V_get XC 2 flX7_shift_26 0 rfl rfl dX7_shift_148 ?_
          refine V_iload_n XC 1 rfl dX7_shift_151 rfl ?_
          refine V_iload XC dX7_shift_152 rfl ?_
          refine V_callV (rest := _) (q0 := 1) XC (c_X2_x l D kI kC _ _ _ _ _ _ (by omega) (by omega)) gX7_shift_X2_x rfl kmX2_x ⟨⟨Nat.le_of_ble_eq_true rfl, Nat.le_of_ble_eq_true rfl⟩, Nat.le_of_ble_eq_true rfl, Nat.le_of_ble_eq_true rfl⟩ ⟨rfl, rfl⟩ rfl rfl (Nat.le_of_ble_eq_true rfl) [1, 2] rfl rfl (fun _ => rfl) rfl rfl dX7_shift_154 (kR_of rfl (fun r154 hq154 => ?_))
          subst hq154
          refine V_iload_n XC 2 rfl dX7_shift_157 rfl ?_
          refine V_iadd XC dX7_shift_158 ?_
          refine V_aload_n XC 0 rfl dX7_shift_159 rfl ?_
          refine V_get XC 2 flX7_shift_26 0 rfl rfl dX7_shift_160 ?_
          refine V_iload_n XC 1 rfl dX7_shift_163 rfl ?_
          refine V_iload XC dX7_shift_164 rfl ?_
          refine V_callV (rest := _) (q0 := 1) XC (c_X2_y l D kI kC _ _ _ _ _ _ (by omega) (by omega)) gX7_shift_X2_y rfl kmX2_y ⟨⟨Nat.le_of_ble_eq_true rfl, Nat.le_of_ble_eq_true rfl⟩, Nat.le_of_ble_eq_true rfl, Nat.le_of_ble_eq_true rfl⟩ ⟨rfl, rfl⟩ rfl rfl (Nat.le_of_ble_eq_true rfl) [1, 2] rfl rfl (fun _ => rfl) rfl rfl dX7_shift_166 (kR_of rfl (fun r166 hq166 => ?_))
          subst hq166
          refine V_iload_n XC 3 rfl dX7_shift_169 rfl ?_
          refine V_iadd XC dX7_shift_170 ?_
          rw [hxy.1, hxy.2]
          refine V_callV (rest := _) (q0 := 3) XC (c_X5_append l D kI kC _ _ _ _ _ _ (by omega) hC _ _ (by omega)) gX7_shift_X5_append rfl kmX5_append ⟨⟨Nat.le_of_ble_eq_true rfl, Nat.le_of_ble_eq_true rfl⟩, Nat.le_of_ble_eq_true rfl, Nat.le_of_ble_eq_true rfl⟩ ⟨rfl, rfl⟩ rfl rfl (Nat.le_of_ble_eq_true rfl) [3, 4, 5] rfl rfl (fun _ => rfl) rfl rfl dX7_shift_171 (kV_of (fun u171 hq171 => ?_))
          obtain ⟨n171, F171, G171⟩ := u171
          dsimp only [putW, List.set, Option.toList, List.cons_append, List.nil_append, padO, mdO, shW, trW, txW, hiW, liW, woW, taW]
          try dsimp only at hq171
          obtain ⟨hn171, hp171, hC171, hu171⟩ := hq171
          refine V_iinc XC dX7_shift_174 rfl (by decide) ?_
          dsimp only [List.set]
          refine V_goto XC 130 dX7_shift_177 (by decide) ?_
          have e9 : ptsOf n171 F171 G171 = ptsOf (i + 1) (fun i => px (skC F k) i + dx) (fun i => py (skC F k) i + dy) := by
            rw [hp171, hpt]
            exact addP_run hNR (by omega)
          obtain rfl : n171 = i + 1 := (ptsOf_inj e9).1
          exact ih130 (i + 1, F171, G171) ⟨by (try dsimp only); omega, e9, hC171⟩ (by (try dsimp only); omega)
        refine V_iload_n XC 3 rfl dX7_shift_113 rfl ?_
        refine V_if_ne XC 120 dX7_shift_114 (by decide) (by first | assumption | (unfold IR at *; omega)) (fun h114 => ?_) (fun h114 => ?_)
        · skip
          refine V_aload_n XC 0 rfl dX7_shift_120 rfl ?_
          refine V_get XC 4 flX7_shift_33 0 rfl rfl dX7_shift_121 ?_
          refine V_callV (rest := _) (q0 := 3) XC (c_X5_empty l D kI kC _ _ _ _ _ _ ) gX7_shift_X5_empty rfl kmX5_empty ⟨⟨Nat.le_of_ble_eq_true rfl, Nat.le_of_ble_eq_true rfl⟩, Nat.le_of_ble_eq_true rfl, Nat.le_of_ble_eq_true rfl⟩ ⟨rfl, rfl⟩ rfl rfl (Nat.le_of_ble_eq_true rfl) [3, 4, 5] rfl rfl (fun _ => rfl) rfl rfl dX7_shift_124 (kV_of (fun u124 hq124 => ?_))
          dsimp only [putW, List.set, Option.toList, List.cons_append, List.nil_append, padO, mdO, shW, trW, txW, hiW, liW, woW, taW]
          try dsimp only at hq124
          refine V_iconst XC dX7_shift_127 ?_
          refine V_istore XC dX7_shift_128 (by decide) ?_
          dsimp only [List.set]
          refine V_loop (σ := Nat × (Nat → Int) × (Nat → Int)) (fun u => szk (skC F k) - u.1) (fun u => u.1 ≤ szk (skC F k) ∧ ptsOf u.1 u.2.1 u.2.2 = ptsOf u.1 (fun i => px (skC F k) i + dx) (fun i => py (skC F k) i + dy) ∧ (∀ i, i < u.1 → 0 ≤ u.2.1 i ∧ u.2.1 i ≤ 1000 ∧ 0 ≤ u.2.2 i ∧ u.2.2 i ≤ 1000)) (fun u => [some (.ref (a 0)), some (.int (iI (k : Int))), some (.int (iI dx)), some (.int (iI dy)), some (.int (iI (u.1 : Int)))]) (fun u => (padO a g w gap :: (shW kI (a 6) (a 7) (n : Int) F ++ (trW kI (a 10) (a 11) (a 12) (u.1 : Int) u.2.1 u.2.2 ++ (hiW kI (a 13) (a 14) (a 15) (p : Int) (f : Int) (ha : Int) N HS))))) (0, WX, WY) ?_ rfl rfl (fun u hJ ih130 => ?_)
          · dsimp only
            exact ⟨Nat.zero_le _, rfl, fun i hi => absurd hi (Nat.not_lt_zero i)⟩
          obtain ⟨i, X2, Y2⟩ := u
          try dsimp only at hJ ih130 ⊢
          try dsimp only [List.cons_append, List.nil_append, padO, mdO, shW, trW, txW, hiW, liW, woW, taW]
          obtain ⟨hi, hpt, hC⟩ := hJ
          refine V_iload XC dX7_shift_130 rfl ?_
          refine V_aload_n XC 0 rfl dX7_shift_132 rfl ?_
          refine V_get XC 2 flX7_shift_26 0 rfl rfl dX7_shift_133 ?_
          refine V_iload_n XC 1 rfl dX7_shift_136 rfl ?_
          refine V_callV (rest := _) (q0 := 1) XC (c_X2_size l D kI kC _ _ _ _ _ (by omega)) gX7_shift_X2_size rfl kmX2_size ⟨⟨Nat.le_of_ble_eq_true rfl, Nat.le_of_ble_eq_true rfl⟩, Nat.le_of_ble_eq_true rfl, Nat.le_of_ble_eq_true rfl⟩ ⟨rfl, rfl⟩ rfl rfl (Nat.le_of_ble_eq_true rfl) [1, 2] rfl rfl (fun _ => rfl) rfl rfl dX7_shift_137 (kR_of rfl (fun r137 hq137 => ?_))
          subst hq137
          refine V_icmp_ge XC 180 dX7_shift_140 (by decide) ⟨by omega, by omega⟩ ⟨by omega, by omega⟩ (fun h140 => ?_) (fun h140 => ?_)
          · skip
            obtain rfl : i = szk (skC F k) := by omega
            refine V_aload_n XC 0 rfl dX7_shift_180 rfl ?_
            refine V_iload_n XC 1 rfl dX7_shift_181 rfl ?_
            refine V_callV (rest := _) (q0 := 0) XC (c_X7_replace l D kI kC _ _ _ _ _ _ _ _ _ _ _ _ _ _ _ _ h3 hH k hkn (OkP_of (by omega) (by omega) hC (by rw [hpt]; exact hNR))) gX7_shift_X7_replace rfl kmX7_replace ⟨⟨Nat.le_of_ble_eq_true rfl, Nat.le_of_ble_eq_true rfl⟩, Nat.le_of_ble_eq_true rfl, Nat.le_of_ble_eq_true rfl⟩ ⟨rfl, rfl⟩ rfl rfl (Nat.le_of_ble_eq_true rfl) [0, 1, 2, 3, 4, 5, 6, 7, 8] rfl rfl (fun _ => rfl) rfl rfl dX7_shift_182 (kI_of (fun r182 u182 hq182 => ?_))
            obtain ⟨n182, F182, p182, f182, ha182, N182, HS182⟩ := u182
            dsimp only [putW, List.set, Option.toList, List.cons_append, List.nil_append, padO, mdO, shW, trW, txW, hiW, liW, woW, taW]
            try dsimp only at hq182
            obtain ⟨hr182, hs182, hH182, h3182⟩ := hq182
            refine V_iret XC (n182, F182, p182, f182, ha182, N182, HS182, _, _, _) hrV rfl dX7_shift_185 ?_
            rw [hsp, ← hpt]
            exact ⟨hr182, hs182, hH182, h3182⟩
          have hxy := skC_xy (F := F) (k := k) (i := i) (by omega)
          have hini := hin i (by omega)
          refine V_aload_n XC 0 rfl dX7_shift_143 rfl ?_
          refine V_get XC 4 flX7_shift_33 0 rfl rfl dX7_shift_144 ?_
          refine V_aload_n XC 0 rfl dX7_shift_147 rfl ?_
          refine V_get XC 2 flX7_shift_26 0 rfl rfl dX7_shift_148 ?_
          refine V_iload_n XC 1 rfl dX7_shift_151 rfl ?_
          refine V_iload XC dX7_shift_152 rfl ?_
          refine V_callV (rest := _) (q0 := 1) XC (c_X2_x l D kI kC _ _ _ _ _ _ (by omega) (by omega)) gX7_shift_X2_x rfl kmX2_x ⟨⟨Nat.le_of_ble_eq_true rfl, Nat.le_of_ble_eq_true rfl⟩, Nat.le_of_ble_eq_true rfl, Nat.le_of_ble_eq_true rfl⟩ ⟨rfl, rfl⟩ rfl rfl (Nat.le_of_ble_eq_true rfl) [1, 2] rfl rfl (fun _ => rfl) rfl rfl dX7_shift_154 (kR_of rfl (fun r154 hq154 => ?_))
          subst hq154
          refine V_iload_n XC 2 rfl dX7_shift_157 rfl ?_
          refine V_iadd XC dX7_shift_158 ?_
          refine V_aload_n XC 0 rfl dX7_shift_159 rfl ?_
          refine V_get XC 2 flX7_shift_26 0 rfl rfl dX7_shift_160 ?_
          refine V_iload_n XC 1 rfl dX7_shift_163 rfl ?_
          refine V_iload XC dX7_shift_164 rfl ?_
          refine V_callV (rest := _) (q0 := 1) XC (c_X2_y l D kI kC _ _ _ _ _ _ (by omega) (by omega)) gX7_shift_X2_y rfl kmX2_y ⟨⟨Nat.le_of_ble_eq_true rfl, Nat.le_of_ble_eq_true rfl⟩, Nat.le_of_ble_eq_true rfl, Nat.le_of_ble_eq_true rfl⟩ ⟨rfl, rfl⟩ rfl rfl (Nat.le_of_ble_eq_true rfl) [1, 2] rfl rfl (fun _ => rfl) rfl rfl dX7_shift_166 (kR_of rfl (fun r166 hq166 => ?_))
          subst hq166
          refine V_iload_n XC 3 rfl dX7_shift_169 rfl ?_
          refine V_iadd XC dX7_shift_170 ?_
          rw [hxy.1, hxy.2]
          refine V_callV (rest := _) (q0 := 3) XC (c_X5_append l D kI kC _ _ _ _ _ _ (by omega) hC _ _ (by omega)) gX7_shift_X5_append rfl kmX5_append ⟨⟨Nat.le_of_ble_eq_true rfl, Nat.le_of_ble_eq_true rfl⟩, Nat.le_of_ble_eq_true rfl, Nat.le_of_ble_eq_true rfl⟩ ⟨rfl, rfl⟩ rfl rfl (Nat.le_of_ble_eq_true rfl) [3, 4, 5] rfl rfl (fun _ => rfl) rfl rfl dX7_shift_171 (kV_of (fun u171 hq171 => ?_))
          obtain ⟨n171, F171, G171⟩ := u171
          dsimp only [putW, List.set, Option.toList, List.cons_append, List.nil_append, padO, mdO, shW, trW, txW, hiW, liW, woW, taW]
          try dsimp only at hq171
          obtain ⟨hn171, hp171, hC171, hu171⟩ := hq171
          refine V_iinc XC dX7_shift_174 rfl (by decide) ?_
          dsimp only [List.set]
          refine V_goto XC 130 dX7_shift_177 (by decide) ?_
          have e9 : ptsOf n171 F171 G171 = ptsOf (i + 1) (fun i => px (skC F k) i + dx) (fun i => py (skC F k) i + dy) := by
            rw [hp171, hpt]
            exact addP_run hNR (by omega)
          obtain rfl : n171 = i + 1 := (ptsOf_inj e9).1
          exact ih130 (i + 1, F171, G171) ⟨by (try dsimp only); omega, e9, hC171⟩ (by (try dsimp only); omega)
        refine V_bipush XC dX7_shift_117 (by decide) ?_
        refine V_iret XC (n, F, p, f, ha, N, HS, wn, WX, WY) hrV rfl dX7_shift_119 ?_
        have e : (gk (shC n F) k).2 = ptsOf (szk (skC F k)) (fun i => px (skC F k) i + dx) (fun i => py (skC F k) i + dy) := by
          rw [hat, pts_skC]
          exact ptsOf_congr (fun i _ => ⟨by omega, by omega⟩)
        have hp : shiftS (shC n F) (k : Int) dx dy = (-5, none) := by
          rw [hsp]
          exact if_pos e
        rw [hp]
        exact ⟨rfl, rfl, hH, h3⟩
      have hp : shiftS (shC n F) (k : Int) dx dy = (-4, none) := by
        unfold shiftS
        rw [if_neg hh, if_neg hrr, Int.toNat_natCast, hlf, hrt, htp, hbo]
        exact if_pos (Or.inr (Or.inr (Or.inr h103)))
      refine V_bipush XC dX7_shift_106 (by decide) ?_
      refine V_iret XC (n, F, p, f, ha, N, HS, wn, WX, WY) hrV rfl dX7_shift_108 ?_
      rw [hp]
      exact ⟨rfl, rfl, hH, h3⟩
    have hp : shiftS (shC n F) (k : Int) dx dy = (-2, none) := by
      unfold shiftS
      rw [if_neg hh]
      exact if_pos (Or.inr h36)
    refine V_bipush XC dX7_shift_39 (by decide) ?_
    refine V_iret XC (n, F, p, f, ha, N, HS, wn, WX, WY) hrV rfl dX7_shift_41 ?_
    rw [hp]
    exact ⟨rfl, rfl, hH, h3⟩
  have hp : shiftS (shC n F) z dx dy = (-1, none) := if_pos (by rw [hasS_C]; exact h8)
  refine V_iconst XC dX7_shift_11 ?_
  refine V_iret XC (n, F, p, f, ha, N, HS, wn, WX, WY) hrV rfl dX7_shift_12 ?_
  rw [hp]
  exact ⟨rfl, rfl, hH, h3⟩

set_option maxRecDepth 100000 in
set_option maxHeartbeats 4000000 in
theorem c_X7_endPart (l : Launch) (D : va_G) (kI kC : ClassId) (a g w : Nat → Nat) (gap : Int) (dn : Int) (DF : Nat → Int) (wm : Nat) (WX WY : Nat → Int) (dk : Nat) (hdk : dn = (dk : Int)) (hd16 : dk ≤ 16) (hm24 : wm ≤ 24) (c : Int) : Con l yX7_endPart wsX7_endPart { frames := 3, cells := 0, slots := 0, locals := 86 } D kI kC [.ref (a 0), .int (iI c)] (padO a g w gap :: (shW kI (a 8) (a 9) dn DF ++ (trW kI (a 10) (a 11) (a 12) (wm : Int) WX WY))) (σ := Nat × (Nat → Int) × Int) (qI (fun r u => ∃ b : Bool, r = bI b ∧ EpR wm dk DF WX WY c b u.1 u.2.1 ∧ u.2.2 = 0)) (fun u => (padO a g w gap :: (shW kI (a 8) (a 9) (u.1 : Int) u.2.1 ++ (trW kI (a 10) (a 11) (a 12) u.2.2 WX WY)))) := by
  refine Con.of (cc := cX7_endPart) (maxL := 3) (ret := (some .boolean)) (by decide +kernel) rfl (List.forall_mem_cons.mpr ⟨rfl, List.forall_mem_cons.mpr ⟨rfl, fun _ h => absurd h List.not_mem_nil⟩⟩) (Nat.le_of_ble_eq_true rfl) ?_
  intro pV eV sV mV bV tV cV AV XC hrV
  have XC : Cx pV _ sV mV _ tV cV cX7_endPart 3 RX7 wsX7_endPart AV D kI kC := XC
  change VV _ _ _ _ _ _ _ _ _ _ _ _ _ _ _ _ _ [some (.ref (a 0)), some (.int (iI c)), none] _ _
  dsimp only [padO, trW, shW, txW, hiW, liW, woW, taW, List.cons_append, List.nil_append]
  subst hdk
  refine V_aload_n XC 0 rfl dX7_endPart_0 rfl ?_
  refine V_get XC 4 flX7_endPart_33 0 rfl rfl dX7_endPart_1 ?_
  refine V_get XC 0 flX7_endPart_72 3 rfl rfl dX7_endPart_4 ?_
  refine V_if_ne XC 12 dX7_endPart_7 (by decide) ⟨by omega, by omega⟩ (fun h7 => ?_) (fun h7 => ?_)
  · skip
    refine V_aload_n XC 0 rfl dX7_endPart_12 rfl ?_
    refine V_get XC 3 flX7_endPart_30 0 rfl rfl dX7_endPart_13 ?_
    refine V_iload_n XC 1 rfl dX7_endPart_16 rfl ?_
    refine V_aload_n XC 0 rfl dX7_endPart_17 rfl ?_
    refine V_get XC 4 flX7_endPart_33 0 rfl rfl dX7_endPart_18 ?_
    refine V_callV (rest := _) (q0 := 1) XC (c_X2_append l D kI kC _ _ _ _ _ dk _ _ _ _ _ hd16) gX7_endPart_X2_append rfl kmX2_append ⟨⟨Nat.le_of_ble_eq_true rfl, Nat.le_of_ble_eq_true rfl⟩, Nat.le_of_ble_eq_true rfl, Nat.le_of_ble_eq_true rfl⟩ ⟨rfl, rfl⟩ rfl rfl (Nat.le_of_ble_eq_true rfl) [1, 2, 3, 4, 5] rfl rfl (fun _ => rfl) rfl rfl dX7_endPart_21 (kI_of (fun r21 u21 hq21 => ?_))
    obtain ⟨n21, F21⟩ := u21
    dsimp only [putW, List.set, Option.toList, List.cons_append, List.nil_append, padO, mdO, shW, trW, txW, hiW, liW, woW, taW]
    try dsimp only at hq21
    obtain ⟨hr21, hu21⟩ := hq21
    obtain rfl := hr21
    refine V_istore_n XC 2 rfl dX7_endPart_24 (by decide) ?_
    dsimp only [List.set]
    refine V_aload_n XC 0 rfl dX7_endPart_25 rfl ?_
    refine V_get XC 4 flX7_endPart_33 0 rfl rfl dX7_endPart_26 ?_
    refine V_callV (rest := _) (q0 := 3) XC (c_X5_empty l D kI kC _ _ _ _ _ _ ) gX7_endPart_X5_empty rfl kmX5_empty ⟨⟨Nat.le_of_ble_eq_true rfl, Nat.le_of_ble_eq_true rfl⟩, Nat.le_of_ble_eq_true rfl, Nat.le_of_ble_eq_true rfl⟩ ⟨rfl, rfl⟩ rfl rfl (Nat.le_of_ble_eq_true rfl) [3, 4, 5] rfl rfl (fun _ => rfl) rfl rfl dX7_endPart_29 (kV_of (fun u29 hq29 => ?_))
    dsimp only [putW, List.set, Option.toList, List.cons_append, List.nil_append, padO, mdO, shW, trW, txW, hiW, liW, woW, taW]
    try dsimp only at hq29
    refine V_iload_n XC 2 rfl dX7_endPart_32 rfl ?_
    by_cases hlt : dk < 16
    · rw [if_pos hlt] at hu21
      obtain ⟨rfl, rfl⟩ : n21 = (dk : Int) + 1 ∧ F21 = setF DF dk c wm WX WY := ⟨congrArg Prod.fst hu21, congrArg Prod.snd hu21⟩
      refine V_zret XC (dk + 1, setF DF dk c wm WX WY, 0) hrV rfl dX7_endPart_33 ?_
      try dsimp only
      exact ⟨true, by rw [decide_eq_true hlt], Or.inr (Or.inl ⟨by omega, hlt, rfl, rfl, rfl⟩), rfl⟩
    · rw [if_neg hlt] at hu21
      obtain ⟨e1, e2⟩ : n21 = (dk : Int) ∧ F21 = DF := ⟨congrArg Prod.fst hu21, congrArg Prod.snd hu21⟩
      rw [e1, e2]
      refine V_zret XC (dk, DF, 0) hrV rfl dX7_endPart_33 ?_
      try dsimp only
      exact ⟨false, by rw [decide_eq_false hlt], Or.inr (Or.inr ⟨by omega, by omega, rfl, rfl, rfl⟩), rfl⟩
    skip
  refine V_iconst XC dX7_endPart_10 ?_
  refine V_zret (r := true) XC (dk, DF, 0) hrV (by rw [show wm = 0 by omega]; rfl) dX7_endPart_11 ?_
  exact ⟨true, rfl, Or.inl ⟨by omega, rfl, rfl, rfl⟩, rfl⟩

set_option maxRecDepth 100000 in
set_option maxHeartbeats 4000000 in
theorem c_X7_join (l : Launch) (D : va_G) (kI kC : ClassId) (a g w : Nat → Nat) (gap : Int) (n : Nat) (F : Nat → Int) (wn : Int) (WX WY : Nat → Int) (p f ha : Nat) (N HS : Nat → Int) (past fut : List (List Stk)) (h3 : Ok3 (shC n F, past, fut)) (hH : HR (shC n F, past, fut) p f ha N HS) (z y : Int) (hz : IR z) (hy : IR y) : Con l yX7_join wsX7_join { frames := 3, cells := 0, slots := 0, locals := 67 } D kI kC [.ref (a 0), .int (iI z), .int (iI y)] (padO a g w gap :: (shW kI (a 6) (a 7) (n : Int) F ++ (trW kI (a 10) (a 11) (a 12) wn WX WY ++ (hiW kI (a 13) (a 14) (a 15) (p : Int) (f : Int) (ha : Int) N HS)))) (σ := Nat × (Nat → Int) × Nat × Nat × Nat × (Nat → Int) × (Nat → Int) × Int × (Nat → Int) × (Nat → Int)) (qI (fun r u => r = (joinS (shC n F) z y).1 ∧ shC u.1 u.2.1 = (actS (shC n F, past, fut) (joinS (shC n F) z y).2).1 ∧ HR (actS (shC n F, past, fut) (joinS (shC n F) z y).2) u.2.2.1 u.2.2.2.1 u.2.2.2.2.1 u.2.2.2.2.2.1 u.2.2.2.2.2.2.1 ∧ Ok3 (actS (shC n F, past, fut) (joinS (shC n F) z y).2))) (fun u => (padO a g w gap :: (shW kI (a 6) (a 7) (u.1 : Int) u.2.1 ++ (trW kI (a 10) (a 11) (a 12) u.2.2.2.2.2.2.2.1 u.2.2.2.2.2.2.2.2.1 u.2.2.2.2.2.2.2.2.2 ++ (hiW kI (a 13) (a 14) (a 15) (u.2.2.1 : Int) (u.2.2.2.1 : Int) (u.2.2.2.2.1 : Int) u.2.2.2.2.2.1 u.2.2.2.2.2.2.1))))) := by
  refine Con.of (cc := cX7_join) (maxL := 6) (ret := (some .int)) (by decide +kernel) rfl (List.forall_mem_cons.mpr ⟨rfl, List.forall_mem_cons.mpr ⟨rfl, List.forall_mem_cons.mpr ⟨rfl, fun _ h => absurd h List.not_mem_nil⟩⟩⟩) (Nat.le_of_ble_eq_true rfl) ?_
  intro pV eV sV mV bV tV cV AV XC hrV
  have XC : Cx pV _ sV mV _ tV cV cX7_join 6 RX7 wsX7_join AV D kI kC := XC
  change VV _ _ _ _ _ _ _ _ _ _ _ _ _ _ _ _ _ [some (.ref (a 0)), some (.int (iI z)), some (.int (iI y)), none, none, none] _ _
  dsimp only [padO, trW, shW, txW, hiW, liW, woW, taW, List.cons_append, List.nil_append]
  have hn16 : n ≤ 16 := by have h9 := h3.1.1; rwa [shC_len] at h9
  have hS : OkS (shC n F) := h3.1
  have hp6 : p ≤ 6 := by rw [hH.1]; exact h3.2.1.1
  have ha7 : ha < 7 := hH.2.2.1
  refine V_aload_n XC 0 rfl dX7_join_0 rfl ?_
  refine V_get XC 2 flX7_join_26 0 rfl rfl dX7_join_1 ?_
  refine V_iload_n XC 1 rfl dX7_join_4 rfl ?_
  refine V_callV (rest := _) (q0 := 1) XC (c_X2_has l D kI kC _ _ _ _ _ (by first | assumption | (unfold IR; omega)) (by first | assumption | (unfold IR; omega))) gX7_join_X2_has rfl kmX2_has ⟨⟨Nat.le_of_ble_eq_true rfl, Nat.le_of_ble_eq_true rfl⟩, Nat.le_of_ble_eq_true rfl, Nat.le_of_ble_eq_true rfl⟩ ⟨rfl, rfl⟩ rfl rfl (Nat.le_of_ble_eq_true rfl) [1, 2] rfl rfl (fun _ => rfl) rfl rfl dX7_join_5 (kR_of rfl (fun r5 hq5 => ?_))
  subst hq5
  refine V_bif_eq XC 22 dX7_join_8 (by decide) (fun h8 => ?_) (fun h8 => ?_)
  · skip
    have hp : joinS (shC n F) z y = (-1, none) := if_pos (Or.inl (by rw [hasS_C]; exact h8))
    refine V_iconst XC dX7_join_22 ?_
    refine V_iret XC (n, F, p, f, ha, N, HS, wn, WX, WY) hrV rfl dX7_join_23 ?_
    rw [hp]
    exact ⟨rfl, rfl, hH, h3⟩
  have hz2 := of_decide_eq_true h8
  obtain ⟨k, rfl⟩ : ∃ k : Nat, z = (k : Int) := ⟨z.toNat, by omega⟩
  have hkn : k < n := by omega
  have hok := shC_in hS hkn
  have hat := shC_at (F := F) hkn
  have hf := skC_ok hok
  have hsz := skC_sz hok
  have hz3 := OkK_sz hok
  refine V_aload_n XC 0 rfl dX7_join_11 rfl ?_
  refine V_get XC 2 flX7_join_26 0 rfl rfl dX7_join_12 ?_
  refine V_iload_n XC 2 rfl dX7_join_15 rfl ?_
  refine V_callV (rest := _) (q0 := 1) XC (c_X2_has l D kI kC _ _ _ _ _ (by first | assumption | (unfold IR; omega)) (by first | assumption | (unfold IR; omega))) gX7_join_X2_has rfl kmX2_has ⟨⟨Nat.le_of_ble_eq_true rfl, Nat.le_of_ble_eq_true rfl⟩, Nat.le_of_ble_eq_true rfl, Nat.le_of_ble_eq_true rfl⟩ ⟨rfl, rfl⟩ rfl rfl (Nat.le_of_ble_eq_true rfl) [1, 2] rfl rfl (fun _ => rfl) rfl rfl dX7_join_16 (kR_of rfl (fun r16 hq16 => ?_))
  subst hq16
  refine V_bif_ne XC 24 dX7_join_19 (by decide) (fun h19 => ?_) (fun h19 => ?_)
  · skip
    have hz4 := of_decide_eq_true h19
    obtain ⟨v, rfl⟩ : ∃ v : Nat, y = (v : Int) := ⟨y.toNat, by omega⟩
    have hvn : v < n := by omega
    have hokv := shC_in hS hvn
    have hatv := shC_at (F := F) hvn
    have hfv := skC_ok hokv
    have hszv := skC_sz hokv
    have hz5 := OkK_sz hokv
    have hh : ¬ (hasS (shC n F) (k : Int) = false ∨ hasS (shC n F) (v : Int) = false) := by rw [hasS_C, hasS_C, h8, h19]; simp
    refine V_iload_n XC 1 rfl dX7_join_24 rfl ?_
    refine V_iload_n XC 2 rfl dX7_join_25 rfl ?_
    refine V_icmp_ne XC 32 dX7_join_26 (by decide) ⟨by omega, by omega⟩ ⟨by omega, by omega⟩ (fun h26 => ?_) (fun h26 => ?_)
    · skip
      have hkv : k ≠ v := fun e => h26 (by rw [e])
      refine V_aload_n XC 0 rfl dX7_join_32 rfl ?_
      refine V_get XC 4 flX7_join_33 0 rfl rfl dX7_join_33 ?_
      refine V_aload_n XC 0 rfl dX7_join_36 rfl ?_
      refine V_get XC 2 flX7_join_26 0 rfl rfl dX7_join_37 ?_
      refine V_iload_n XC 1 rfl dX7_join_40 rfl ?_
      refine V_callV (rest := _) (q0 := 3) XC (c_X5_take l D kI kC _ _ _ _ _ _ _ _ _ _ _ (by omega) hok) gX7_join_X5_take rfl kmX5_take ⟨⟨Nat.le_of_ble_eq_true rfl, Nat.le_of_ble_eq_true rfl⟩, Nat.le_of_ble_eq_true rfl, Nat.le_of_ble_eq_true rfl⟩ ⟨rfl, rfl⟩ rfl rfl (Nat.le_of_ble_eq_true rfl) [3, 4, 5, 1, 2] rfl rfl (fun _ => rfl) rfl rfl dX7_join_41 (kV_of (fun u41 hq41 => ?_))
      obtain ⟨n41, F41, G41⟩ := u41
      dsimp only [putW, List.set, Option.toList, List.cons_append, List.nil_append, padO, mdO, shW, trW, txW, hiW, liW, woW, taW]
      try dsimp only at hq41
      obtain ⟨hs41, hn41, hp41, hC41⟩ := hq41
      have hP := pts_skC (F := F) (k := k)
      rw [hP] at hp41
      obtain ⟨-, hXY⟩ := ptsOf_inj hp41
      have hNR := NR_xy hok
      have hlx := hXY (n41 - 1) (by omega)
      have hvx := skC_xy (F := F) (k := v) (i := 0) (by omega)
      have hv0 := hfv.2.2.2.2 0 (by omega)
      have hjF : ∀ b : Bool, isL n41 F41 G41 (F (50 * v + 2 + 0)) (F (50 * v + 26 + 0)) = b → joinF (skC F k) (skC F v) = (if b = true then 1 else 0) := fun b hb => by
        subst hb
        unfold joinF isL
        rw [hvx.1, hvx.2, ← hs41, ← hlx.1, ← hlx.2]
        by_cases q : F41 (n41 - 1) = px (skC F v) 0 ∧ G41 (n41 - 1) = py (skC F v) 0
        · rw [if_pos q, if_pos (decide_eq_true ⟨by omega, q⟩)]
        · rw [if_neg q, if_neg (by simp only [decide_eq_true_eq]; exact fun w => q w.2)]
      refine V_aload_n XC 0 rfl dX7_join_44 rfl ?_
      refine V_get XC 4 flX7_join_33 0 rfl rfl dX7_join_45 ?_
      refine V_aload_n XC 0 rfl dX7_join_48 rfl ?_
      refine V_get XC 2 flX7_join_26 0 rfl rfl dX7_join_49 ?_
      refine V_iload_n XC 2 rfl dX7_join_52 rfl ?_
      refine V_iconst XC dX7_join_53 ?_
      refine V_callV (rest := _) (q0 := 1) XC (c_X2_x l D kI kC _ _ _ _ v 0 (by omega) (by omega)) gX7_join_X2_x rfl kmX2_x ⟨⟨Nat.le_of_ble_eq_true rfl, Nat.le_of_ble_eq_true rfl⟩, Nat.le_of_ble_eq_true rfl, Nat.le_of_ble_eq_true rfl⟩ ⟨rfl, rfl⟩ rfl rfl (Nat.le_of_ble_eq_true rfl) [1, 2] rfl rfl (fun _ => rfl) rfl rfl dX7_join_54 (kR_of rfl (fun r54 hq54 => ?_))
      subst hq54
      refine V_aload_n XC 0 rfl dX7_join_57 rfl ?_
      refine V_get XC 2 flX7_join_26 0 rfl rfl dX7_join_58 ?_
      refine V_iload_n XC 2 rfl dX7_join_61 rfl ?_
      refine V_iconst XC dX7_join_62 ?_
      refine V_callV (rest := _) (q0 := 1) XC (c_X2_y l D kI kC _ _ _ _ v 0 (by omega) (by omega)) gX7_join_X2_y rfl kmX2_y ⟨⟨Nat.le_of_ble_eq_true rfl, Nat.le_of_ble_eq_true rfl⟩, Nat.le_of_ble_eq_true rfl, Nat.le_of_ble_eq_true rfl⟩ ⟨rfl, rfl⟩ rfl rfl (Nat.le_of_ble_eq_true rfl) [1, 2] rfl rfl (fun _ => rfl) rfl rfl dX7_join_63 (kR_of rfl (fun r63 hq63 => ?_))
      subst hq63
      refine V_callV (rest := _) (q0 := 3) XC (c_X5_isLast l D kI kC _ _ _ _ _ _ (by omega) hC41 _ _ ⟨by omega, by omega⟩ ⟨by omega, by omega⟩) gX7_join_X5_isLast rfl kmX5_isLast ⟨⟨Nat.le_of_ble_eq_true rfl, Nat.le_of_ble_eq_true rfl⟩, Nat.le_of_ble_eq_true rfl, Nat.le_of_ble_eq_true rfl⟩ ⟨rfl, rfl⟩ rfl rfl (Nat.le_of_ble_eq_true rfl) [3, 4, 5] rfl rfl (fun _ => rfl) rfl rfl dX7_join_66 (kR_of rfl (fun r66 hq66 => ?_))
      subst hq66
      refine V_bif_eq XC 76 dX7_join_69 (by decide) (fun h69 => ?_) (fun h69 => ?_)
      · skip
        have hj2 := hjF false h69
        rw [if_neg (by decide)] at hj2
        refine V_iconst XC dX7_join_76 ?_
        refine V_top (y := (joinF (skC F k) (skC F v) : Nat)) (by rw [hj2]; rfl) ?_
        have hj1 : joinF (skC F k) (skC F v) ≤ 1 := by omega
        clear hj2
        generalize hjj : joinF (skC F k) (skC F v) = jf at hj1 ⊢
        refine V_istore_n XC 3 rfl dX7_join_77 (by decide) ?_
        dsimp only [List.set]
        refine V_aload_n XC 0 rfl dX7_join_78 rfl ?_
        refine V_get XC 2 flX7_join_26 0 rfl rfl dX7_join_79 ?_
        refine V_iload_n XC 2 rfl dX7_join_82 rfl ?_
        refine V_callV (rest := _) (q0 := 1) XC (c_X2_size l D kI kC _ _ _ _ _ (by omega)) gX7_join_X2_size rfl kmX2_size ⟨⟨Nat.le_of_ble_eq_true rfl, Nat.le_of_ble_eq_true rfl⟩, Nat.le_of_ble_eq_true rfl, Nat.le_of_ble_eq_true rfl⟩ ⟨rfl, rfl⟩ rfl rfl (Nat.le_of_ble_eq_true rfl) [1, 2] rfl rfl (fun _ => rfl) rfl rfl dX7_join_83 (kR_of rfl (fun r83 hq83 => ?_))
        subst hq83
        refine V_iload_n XC 3 rfl dX7_join_86 rfl ?_
        refine V_isub XC dX7_join_87 ?_
        refine V_istore XC dX7_join_88 (by decide) ?_
        dsimp only [List.set]
        refine V_aload_n XC 0 rfl dX7_join_90 rfl ?_
        refine V_get XC 4 flX7_join_33 0 rfl rfl dX7_join_91 ?_
        refine V_get XC 0 flX7_join_72 3 rfl rfl dX7_join_94 ?_
        refine V_iload XC dX7_join_97 rfl ?_
        refine V_iadd XC dX7_join_99 ?_
        refine V_bipush XC dX7_join_100 (by decide) ?_
        refine V_icmp_le XC 108 dX7_join_102 (by decide) ⟨by omega, by omega⟩ ⟨by omega, by omega⟩ (fun h102 => ?_) (fun h102 => ?_)
        · skip
          have hle : ¬ 24 < szk (skC F k) + szk (skC F v) - jf := by omega
          have hNL : NR ((skC F k).2 ++ (skC F v).2.drop jf) := by
            have hd : NR ((skC F v).2.drop jf) := by
              rcases Nat.lt_or_ge 0 jf with q | q
              · rw [show jf = 1 by omega]
                cases hv : (skC F v).2 with
                | nil => simp [NR]
                | cons b r =>
                  have := hokv.2.2.2.2.2
                  rw [hv] at this
                  exact NR_tail this
              · rw [show jf = 0 by omega]
                exact hokv.2.2.2.2.2
            refine NR_cat hok.2.2.2.2.2 hd (fun x hx => ?_)
            rw [List.getElem?_drop] at hx
            rw [hP, ptsOf_last (by omega)]
            intro e
            have e2 := Option.some.inj e
            subst e2
            rcases Nat.lt_or_ge 0 jf with q | q
            · rw [show jf + 0 = 0 + 1 by omega] at hx
              have h3 := NR_at (l := (skC F v).2) (i := 0) hokv.2.2.2.2.2 (by have := (List.getElem?_eq_some_iff.mp hx).1; exact this)
              rw [hx, pxy_at (by omega)] at h3
              unfold joinF at hjj
              by_cases w : px (skC F k) (szk (skC F k) - 1) = px (skC F v) 0 ∧ py (skC F k) (szk (skC F k) - 1) = py (skC F v) 0
              · rw [w.1, w.2] at h3
                exact h3 rfl
              · rw [if_neg w] at hjj
                omega
            · rw [show jf + 0 = 0 by omega, pxy_at (by omega)] at hx
              have h3 := Option.some.inj hx
              unfold joinF at hjj
              rw [if_pos ⟨(congrArg Prod.fst h3).symm, (congrArg Prod.snd h3).symm⟩] at hjj
              omega
          have hLl : ((skC F k).2 ++ (skC F v).2.drop jf).length = szk (skC F k) + (szk (skC F v) - jf) := by
            rw [List.length_append, List.length_drop]
            rfl
          refine V_iload_n XC 3 rfl dX7_join_108 rfl ?_
          refine V_istore XC dX7_join_109 (by decide) ?_
          dsimp only [List.set]
          refine V_kill 3 ?_
          dsimp only [List.set]
          refine V_kill 4 ?_
          dsimp only [List.set]
          refine V_loop (σ := Nat × Nat × (Nat → Int) × (Nat → Int)) (fun u => 24 - u.1) (fun u => jf ≤ u.1 ∧ u.1 ≤ szk (skC F v) ∧ u.2.1 = szk (skC F k) + (u.1 - jf) ∧ ptsOf u.2.1 u.2.2.1 u.2.2.2 = ((skC F k).2 ++ (skC F v).2.drop jf).take u.2.1 ∧ (∀ i, i < u.2.1 → 0 ≤ u.2.2.1 i ∧ u.2.2.1 i ≤ 1000 ∧ 0 ≤ u.2.2.2 i ∧ u.2.2.2 i ≤ 1000)) (fun u => [some (.ref (a 0)), some (.int (iI (k : Int))), some (.int (iI (v : Int))), none, none, some (.int (iI (u.1 : Int)))]) (fun u => (padO a g w gap :: (shW kI (a 6) (a 7) (n : Int) F ++ (trW kI (a 10) (a 11) (a 12) (u.2.1 : Int) u.2.2.1 u.2.2.2 ++ (hiW kI (a 13) (a 14) (a 15) (p : Int) (f : Int) (ha : Int) N HS))))) (jf, n41, F41, G41) ?_ rfl rfl (fun u hJ ih111 => ?_)
          · dsimp only
            refine ⟨Nat.le_refl _, by omega, by omega, ?_, hC41⟩
            rw [hp41, ← hP, hs41, List.take_append_of_le_length (by exact Nat.le_refl _), List.take_of_length_le (by exact Nat.le_refl _)]
          obtain ⟨i, m2, X2, Y2⟩ := u
          try dsimp only at hJ ih111 ⊢
          try dsimp only [List.cons_append, List.nil_append, padO, mdO, shW, trW, txW, hiW, liW, woW, taW]
          obtain ⟨hi0, hi, hm2, hpt, hC⟩ := hJ
          refine V_iload XC dX7_join_111 rfl ?_
          refine V_aload_n XC 0 rfl dX7_join_113 rfl ?_
          refine V_get XC 2 flX7_join_26 0 rfl rfl dX7_join_114 ?_
          refine V_iload_n XC 2 rfl dX7_join_117 rfl ?_
          refine V_callV (rest := _) (q0 := 1) XC (c_X2_size l D kI kC _ _ _ _ _ (by omega)) gX7_join_X2_size rfl kmX2_size ⟨⟨Nat.le_of_ble_eq_true rfl, Nat.le_of_ble_eq_true rfl⟩, Nat.le_of_ble_eq_true rfl, Nat.le_of_ble_eq_true rfl⟩ ⟨rfl, rfl⟩ rfl rfl (Nat.le_of_ble_eq_true rfl) [1, 2] rfl rfl (fun _ => rfl) rfl rfl dX7_join_118 (kR_of rfl (fun r118 hq118 => ?_))
          subst hq118
          refine V_icmp_ge XC 157 dX7_join_121 (by decide) ⟨by omega, by omega⟩ ⟨by omega, by omega⟩ (fun h121 => ?_) (fun h121 => ?_)
          · skip
            obtain rfl : i = szk (skC F v) := by omega
            have hfull : ptsOf m2 X2 Y2 = (skC F k).2 ++ (skC F v).2.drop jf := by
              rw [hpt, List.take_of_length_le (by rw [hLl]; omega)]
            have hOkP : OkP (ptsOf m2 X2 Y2) := OkP_of (by omega) (by omega) hC (by rw [hfull]; exact hNL)
            have hset := shC_put (X := X2) (Y := Y2) (c := F (50 * k)) hS hkn (show m2 ≤ 24 by omega)
            have hS9 : OkS (shC n (setF F k (F (50 * k)) m2 X2 Y2)) := by
              rw [hset]
              exact OkS_set hS ⟨hf.1, hf.2.1, hOkP⟩
            have hdr := shC_drop hS9 hvn
            rw [hset] at hdr
            have hp : joinS (shC n F) (k : Int) (v : Int) = (if (v : Int) < (k : Int) then (k : Int) - 1 else (k : Int), some (((shC n F).set k (F (50 * k), ptsOf m2 X2 Y2)).eraseIdx v)) := by
              unfold joinS
              rw [if_neg hh, if_neg (by omega), Int.toNat_natCast, Int.toNat_natCast, hat, hatv, hjj, if_neg hle, hfull]
              rfl
            refine V_aload_n XC 0 rfl dX7_join_157 rfl ?_
            refine V_get XC 2 flX7_join_26 0 rfl rfl dX7_join_158 ?_
            refine V_iload_n XC 1 rfl dX7_join_161 rfl ?_
            refine V_aload_n XC 0 rfl dX7_join_162 rfl ?_
            refine V_get XC 2 flX7_join_26 0 rfl rfl dX7_join_163 ?_
            refine V_iload_n XC 1 rfl dX7_join_166 rfl ?_
            refine V_callV (rest := _) (q0 := 1) XC (c_X2_colorOf l D kI kC _ _ _ _ _ (by omega)) gX7_join_X2_colorOf rfl kmX2_colorOf ⟨⟨Nat.le_of_ble_eq_true rfl, Nat.le_of_ble_eq_true rfl⟩, Nat.le_of_ble_eq_true rfl, Nat.le_of_ble_eq_true rfl⟩ ⟨rfl, rfl⟩ rfl rfl (Nat.le_of_ble_eq_true rfl) [1, 2] rfl rfl (fun _ => rfl) rfl rfl dX7_join_167 (kR_of rfl (fun r167 hq167 => ?_))
            subst hq167
            refine V_aload_n XC 0 rfl dX7_join_170 rfl ?_
            refine V_get XC 4 flX7_join_33 0 rfl rfl dX7_join_171 ?_
            refine V_callV (rest := _) (q0 := 1) XC (c_X2_set l D kI kC _ _ _ _ _ _ _ _ _ _ _ _ (by omega)) gX7_join_X2_set rfl kmX2_set ⟨⟨Nat.le_of_ble_eq_true rfl, Nat.le_of_ble_eq_true rfl⟩, Nat.le_of_ble_eq_true rfl, Nat.le_of_ble_eq_true rfl⟩ ⟨rfl, rfl⟩ rfl rfl (Nat.le_of_ble_eq_true rfl) [1, 2, 3, 4, 5] rfl rfl (fun _ => rfl) rfl rfl dX7_join_174 (kV_of (fun u174 hq174 => ?_))
            dsimp only [putW, List.set, Option.toList, List.cons_append, List.nil_append, padO, mdO, shW, trW, txW, hiW, liW, woW, taW]
            try dsimp only at hq174
            refine V_aload_n XC 0 rfl dX7_join_177 rfl ?_
            refine V_get XC 2 flX7_join_26 0 rfl rfl dX7_join_178 ?_
            refine V_iload_n XC 2 rfl dX7_join_181 rfl ?_
            refine V_callV (rest := _) (q0 := 1) XC (c_X2_drop l D kI kC _ _ _ _ v hvn hn16) gX7_join_X2_drop rfl kmX2_drop ⟨⟨Nat.le_of_ble_eq_true rfl, Nat.le_of_ble_eq_true rfl⟩, Nat.le_of_ble_eq_true rfl, Nat.le_of_ble_eq_true rfl⟩ ⟨rfl, rfl⟩ rfl rfl (Nat.le_of_ble_eq_true rfl) [1, 2] rfl rfl (fun _ => rfl) rfl rfl dX7_join_182 (kV_of (fun u182 hq182 => ?_))
            dsimp only [putW, List.set, Option.toList, List.cons_append, List.nil_append, padO, mdO, shW, trW, txW, hiW, liW, woW, taW]
            try dsimp only at hq182
            refine V_aload_n XC 0 rfl dX7_join_185 rfl ?_
            refine V_get XC 5 flX7_join_39 0 rfl rfl dX7_join_186 ?_
            refine V_aload_n XC 0 rfl dX7_join_189 rfl ?_
            refine V_get XC 2 flX7_join_26 0 rfl rfl dX7_join_190 ?_
            refine V_callV (rest := _) (q0 := 6) XC (c_X0_record l D kI kC _ _ _ _ _ _ _ _ _ _ _ _ (by omega) (by omega) ) gX7_join_X0_record rfl kmX0_record ⟨⟨Nat.le_of_ble_eq_true rfl, Nat.le_of_ble_eq_true rfl⟩, Nat.le_of_ble_eq_true rfl, Nat.le_of_ble_eq_true rfl⟩ ⟨rfl, rfl⟩ rfl rfl (Nat.le_of_ble_eq_true rfl) [6, 7, 8, 1, 2] rfl rfl (fun _ => rfl) rfl rfl dX7_join_193 (kV_of (fun u193 hq193 => ?_))
            dsimp only [putW, List.set, Option.toList, List.cons_append, List.nil_append, padO, mdO, shW, trW, txW, hiW, liW, woW, taW]
            try dsimp only at hq193
            refine V_iload_n XC 2 rfl dX7_join_196 rfl ?_
            refine V_iload_n XC 1 rfl dX7_join_197 rfl ?_
            refine V_icmp_ge XC 207 dX7_join_198 (by decide) ⟨by omega, by omega⟩ ⟨by omega, by omega⟩ (fun h198 => ?_) (fun h198 => ?_)
            · skip
              refine V_iload_n XC 1 rfl dX7_join_207 rfl ?_
              refine V_iret XC (n - 1, dropF (setF F k (F (50 * k)) m2 X2 Y2) v n, min (p + 1) 6, 0, nx ha, upz N (nx ha) ((n - 1 : Nat) : Int), cpz (dropF (setF F k (F (50 * k)) m2 X2 Y2) v n) HS 0 (800 * nx ha) 800, (m2 : Int), X2, Y2) hrV rfl dX7_join_208 ?_
              rw [hp]
              first
              | exact ⟨(if_pos h198).symm, act_end h3 hH hdr (OkS_erase (by rw [← hset]; exact hS9))⟩
              | exact ⟨(if_neg (by omega)).symm, act_end h3 hH hdr (OkS_erase (by rw [← hset]; exact hS9))⟩
            refine V_iload_n XC 1 rfl dX7_join_201 rfl ?_
            refine V_iconst XC dX7_join_202 ?_
            refine V_isub XC dX7_join_203 ?_
            refine V_goto XC 208 dX7_join_204 (by decide) ?_
            refine V_iret XC (n - 1, dropF (setF F k (F (50 * k)) m2 X2 Y2) v n, min (p + 1) 6, 0, nx ha, upz N (nx ha) ((n - 1 : Nat) : Int), cpz (dropF (setF F k (F (50 * k)) m2 X2 Y2) v n) HS 0 (800 * nx ha) 800, (m2 : Int), X2, Y2) hrV rfl dX7_join_208 ?_
            rw [hp]
            first
            | exact ⟨(if_pos h198).symm, act_end h3 hH hdr (OkS_erase (by rw [← hset]; exact hS9))⟩
            | exact ⟨(if_neg (by omega)).symm, act_end h3 hH hdr (OkS_erase (by rw [← hset]; exact hS9))⟩
          have hxy := skC_xy (F := F) (k := v) (i := i) (by omega)
          have hfi := hfv.2.2.2.2 i (by omega)
          refine V_aload_n XC 0 rfl dX7_join_124 rfl ?_
          refine V_get XC 4 flX7_join_33 0 rfl rfl dX7_join_125 ?_
          refine V_aload_n XC 0 rfl dX7_join_128 rfl ?_
          refine V_get XC 2 flX7_join_26 0 rfl rfl dX7_join_129 ?_
          refine V_iload_n XC 2 rfl dX7_join_132 rfl ?_
          refine V_iload XC dX7_join_133 rfl ?_
          refine V_callV (rest := _) (q0 := 1) XC (c_X2_x l D kI kC _ _ _ _ v i (by omega) (by omega)) gX7_join_X2_x rfl kmX2_x ⟨⟨Nat.le_of_ble_eq_true rfl, Nat.le_of_ble_eq_true rfl⟩, Nat.le_of_ble_eq_true rfl, Nat.le_of_ble_eq_true rfl⟩ ⟨rfl, rfl⟩ rfl rfl (Nat.le_of_ble_eq_true rfl) [1, 2] rfl rfl (fun _ => rfl) rfl rfl dX7_join_135 (kR_of rfl (fun r135 hq135 => ?_))
          subst hq135
          refine V_aload_n XC 0 rfl dX7_join_138 rfl ?_
          refine V_get XC 2 flX7_join_26 0 rfl rfl dX7_join_139 ?_
          refine V_iload_n XC 2 rfl dX7_join_142 rfl ?_
          refine V_iload XC dX7_join_143 rfl ?_
          refine V_callV (rest := _) (q0 := 1) XC (c_X2_y l D kI kC _ _ _ _ v i (by omega) (by omega)) gX7_join_X2_y rfl kmX2_y ⟨⟨Nat.le_of_ble_eq_true rfl, Nat.le_of_ble_eq_true rfl⟩, Nat.le_of_ble_eq_true rfl, Nat.le_of_ble_eq_true rfl⟩ ⟨rfl, rfl⟩ rfl rfl (Nat.le_of_ble_eq_true rfl) [1, 2] rfl rfl (fun _ => rfl) rfl rfl dX7_join_145 (kR_of rfl (fun r145 hq145 => ?_))
          subst hq145
          rw [hxy.1, hxy.2]
          refine V_callV (rest := _) (q0 := 3) XC (c_X5_append l D kI kC _ _ _ _ _ _ (by omega) hC _ _ (by rw [← hxy.1, ← hxy.2]; exact hfi)) gX7_join_X5_append rfl kmX5_append ⟨⟨Nat.le_of_ble_eq_true rfl, Nat.le_of_ble_eq_true rfl⟩, Nat.le_of_ble_eq_true rfl, Nat.le_of_ble_eq_true rfl⟩ ⟨rfl, rfl⟩ rfl rfl (Nat.le_of_ble_eq_true rfl) [3, 4, 5] rfl rfl (fun _ => rfl) rfl rfl dX7_join_148 (kV_of (fun u148 hq148 => ?_))
          obtain ⟨n148, F148, G148⟩ := u148
          dsimp only [putW, List.set, Option.toList, List.cons_append, List.nil_append, padO, mdO, shW, trW, txW, hiW, liW, woW, taW]
          try dsimp only at hq148
          obtain ⟨hn148, hp148, hC148, hu148⟩ := hq148
          refine V_iinc XC dX7_join_151 rfl (by decide) ?_
          dsimp only [List.set]
          refine V_goto XC 111 dX7_join_154 (by decide) ?_
          have hget : ((skC F k).2 ++ (skC F v).2.drop jf)[m2]? = some (px (skC F v) i, py (skC F v) i) := by
            rw [List.getElem?_append_right (by show szk (skC F k) ≤ m2; omega), List.getElem?_drop]
            rw [show jf + (m2 - (skC F k).2.length) = i by show jf + (m2 - szk (skC F k)) = i; omega]
            exact pxy_at (by omega)
          have e9 : ptsOf n148 F148 G148 = ((skC F k).2 ++ (skC F v).2.drop jf).take (m2 + 1) := by
            rw [hp148, hpt, addP_pre hNL (by rw [hLl]; omega) hget]
          have e8 : n148 = m2 + 1 := by
            have h7 := congrArg List.length e9
            rw [ptsOf_len, List.length_take, hLl] at h7
            omega
          subst e8
          exact ih111 (i + 1, m2 + 1, F148, G148) ⟨by (try dsimp only); omega, by (try dsimp only); omega, by (try dsimp only); omega, e9, hC148⟩ (by (try dsimp only); omega)
        have hp : joinS (shC n F) (k : Int) (v : Int) = (-3, none) := by
          unfold joinS
          rw [if_neg hh, if_neg (by omega), Int.toNat_natCast, Int.toNat_natCast, hat, hatv, hjj, if_pos (by omega)]
        refine V_bipush XC dX7_join_105 (by decide) ?_
        refine V_iret XC (n, F, p, f, ha, N, HS, _, _, _) hrV rfl dX7_join_107 ?_
        rw [hp]
        exact ⟨rfl, rfl, hH, h3⟩
      have hj2 := hjF true h69
      rw [if_pos rfl] at hj2
      refine V_iconst XC dX7_join_72 ?_
      refine V_goto XC 77 dX7_join_73 (by decide) ?_
      refine V_top (y := (joinF (skC F k) (skC F v) : Nat)) (by rw [hj2]; rfl) ?_
      have hj1 : joinF (skC F k) (skC F v) ≤ 1 := by omega
      clear hj2
      generalize hjj : joinF (skC F k) (skC F v) = jf at hj1 ⊢
      refine V_istore_n XC 3 rfl dX7_join_77 (by decide) ?_
      dsimp only [List.set]
      refine V_aload_n XC 0 rfl dX7_join_78 rfl ?_
      refine V_get XC 2 flX7_join_26 0 rfl rfl dX7_join_79 ?_
      refine V_iload_n XC 2 rfl dX7_join_82 rfl ?_
      refine V_callV (rest := _) (q0 := 1) XC (c_X2_size l D kI kC _ _ _ _ _ (by omega)) gX7_join_X2_size rfl kmX2_size ⟨⟨Nat.le_of_ble_eq_true rfl, Nat.le_of_ble_eq_true rfl⟩, Nat.le_of_ble_eq_true rfl, Nat.le_of_ble_eq_true rfl⟩ ⟨rfl, rfl⟩ rfl rfl (Nat.le_of_ble_eq_true rfl) [1, 2] rfl rfl (fun _ => rfl) rfl rfl dX7_join_83 (kR_of rfl (fun r83 hq83 => ?_))
      subst hq83
      refine V_iload_n XC 3 rfl dX7_join_86 rfl ?_
      refine V_isub XC dX7_join_87 ?_
      refine V_istore XC dX7_join_88 (by decide) ?_
      dsimp only [List.set]
      refine V_aload_n XC 0 rfl dX7_join_90 rfl ?_
      refine V_get XC 4 flX7_join_33 0 rfl rfl dX7_join_91 ?_
      refine V_get XC 0 flX7_join_72 3 rfl rfl dX7_join_94 ?_
      refine V_iload XC dX7_join_97 rfl ?_
      refine V_iadd XC dX7_join_99 ?_
      refine V_bipush XC dX7_join_100 (by decide) ?_
      refine V_icmp_le XC 108 dX7_join_102 (by decide) ⟨by omega, by omega⟩ ⟨by omega, by omega⟩ (fun h102 => ?_) (fun h102 => ?_)
      · skip
        have hle : ¬ 24 < szk (skC F k) + szk (skC F v) - jf := by omega
        have hNL : NR ((skC F k).2 ++ (skC F v).2.drop jf) := by
          have hd : NR ((skC F v).2.drop jf) := by
            rcases Nat.lt_or_ge 0 jf with q | q
            · rw [show jf = 1 by omega]
              cases hv : (skC F v).2 with
              | nil => simp [NR]
              | cons b r =>
                have := hokv.2.2.2.2.2
                rw [hv] at this
                exact NR_tail this
            · rw [show jf = 0 by omega]
              exact hokv.2.2.2.2.2
          refine NR_cat hok.2.2.2.2.2 hd (fun x hx => ?_)
          rw [List.getElem?_drop] at hx
          rw [hP, ptsOf_last (by omega)]
          intro e
          have e2 := Option.some.inj e
          subst e2
          rcases Nat.lt_or_ge 0 jf with q | q
          · rw [show jf + 0 = 0 + 1 by omega] at hx
            have h3 := NR_at (l := (skC F v).2) (i := 0) hokv.2.2.2.2.2 (by have := (List.getElem?_eq_some_iff.mp hx).1; exact this)
            rw [hx, pxy_at (by omega)] at h3
            unfold joinF at hjj
            by_cases w : px (skC F k) (szk (skC F k) - 1) = px (skC F v) 0 ∧ py (skC F k) (szk (skC F k) - 1) = py (skC F v) 0
            · rw [w.1, w.2] at h3
              exact h3 rfl
            · rw [if_neg w] at hjj
              omega
          · rw [show jf + 0 = 0 by omega, pxy_at (by omega)] at hx
            have h3 := Option.some.inj hx
            unfold joinF at hjj
            rw [if_pos ⟨(congrArg Prod.fst h3).symm, (congrArg Prod.snd h3).symm⟩] at hjj
            omega
        have hLl : ((skC F k).2 ++ (skC F v).2.drop jf).length = szk (skC F k) + (szk (skC F v) - jf) := by
          rw [List.length_append, List.length_drop]
          rfl
        refine V_iload_n XC 3 rfl dX7_join_108 rfl ?_
        refine V_istore XC dX7_join_109 (by decide) ?_
        dsimp only [List.set]
        refine V_kill 3 ?_
        dsimp only [List.set]
        refine V_kill 4 ?_
        dsimp only [List.set]
        refine V_loop (σ := Nat × Nat × (Nat → Int) × (Nat → Int)) (fun u => 24 - u.1) (fun u => jf ≤ u.1 ∧ u.1 ≤ szk (skC F v) ∧ u.2.1 = szk (skC F k) + (u.1 - jf) ∧ ptsOf u.2.1 u.2.2.1 u.2.2.2 = ((skC F k).2 ++ (skC F v).2.drop jf).take u.2.1 ∧ (∀ i, i < u.2.1 → 0 ≤ u.2.2.1 i ∧ u.2.2.1 i ≤ 1000 ∧ 0 ≤ u.2.2.2 i ∧ u.2.2.2 i ≤ 1000)) (fun u => [some (.ref (a 0)), some (.int (iI (k : Int))), some (.int (iI (v : Int))), none, none, some (.int (iI (u.1 : Int)))]) (fun u => (padO a g w gap :: (shW kI (a 6) (a 7) (n : Int) F ++ (trW kI (a 10) (a 11) (a 12) (u.2.1 : Int) u.2.2.1 u.2.2.2 ++ (hiW kI (a 13) (a 14) (a 15) (p : Int) (f : Int) (ha : Int) N HS))))) (jf, n41, F41, G41) ?_ rfl rfl (fun u hJ ih111 => ?_)
        · dsimp only
          refine ⟨Nat.le_refl _, by omega, by omega, ?_, hC41⟩
          rw [hp41, ← hP, hs41, List.take_append_of_le_length (by exact Nat.le_refl _), List.take_of_length_le (by exact Nat.le_refl _)]
        obtain ⟨i, m2, X2, Y2⟩ := u
        try dsimp only at hJ ih111 ⊢
        try dsimp only [List.cons_append, List.nil_append, padO, mdO, shW, trW, txW, hiW, liW, woW, taW]
        obtain ⟨hi0, hi, hm2, hpt, hC⟩ := hJ
        refine V_iload XC dX7_join_111 rfl ?_
        refine V_aload_n XC 0 rfl dX7_join_113 rfl ?_
        refine V_get XC 2 flX7_join_26 0 rfl rfl dX7_join_114 ?_
        refine V_iload_n XC 2 rfl dX7_join_117 rfl ?_
        refine V_callV (rest := _) (q0 := 1) XC (c_X2_size l D kI kC _ _ _ _ _ (by omega)) gX7_join_X2_size rfl kmX2_size ⟨⟨Nat.le_of_ble_eq_true rfl, Nat.le_of_ble_eq_true rfl⟩, Nat.le_of_ble_eq_true rfl, Nat.le_of_ble_eq_true rfl⟩ ⟨rfl, rfl⟩ rfl rfl (Nat.le_of_ble_eq_true rfl) [1, 2] rfl rfl (fun _ => rfl) rfl rfl dX7_join_118 (kR_of rfl (fun r118 hq118 => ?_))
        subst hq118
        refine V_icmp_ge XC 157 dX7_join_121 (by decide) ⟨by omega, by omega⟩ ⟨by omega, by omega⟩ (fun h121 => ?_) (fun h121 => ?_)
        · skip
          obtain rfl : i = szk (skC F v) := by omega
          have hfull : ptsOf m2 X2 Y2 = (skC F k).2 ++ (skC F v).2.drop jf := by
            rw [hpt, List.take_of_length_le (by rw [hLl]; omega)]
          have hOkP : OkP (ptsOf m2 X2 Y2) := OkP_of (by omega) (by omega) hC (by rw [hfull]; exact hNL)
          have hset := shC_put (X := X2) (Y := Y2) (c := F (50 * k)) hS hkn (show m2 ≤ 24 by omega)
          have hS9 : OkS (shC n (setF F k (F (50 * k)) m2 X2 Y2)) := by
            rw [hset]
            exact OkS_set hS ⟨hf.1, hf.2.1, hOkP⟩
          have hdr := shC_drop hS9 hvn
          rw [hset] at hdr
          have hp : joinS (shC n F) (k : Int) (v : Int) = (if (v : Int) < (k : Int) then (k : Int) - 1 else (k : Int), some (((shC n F).set k (F (50 * k), ptsOf m2 X2 Y2)).eraseIdx v)) := by
            unfold joinS
            rw [if_neg hh, if_neg (by omega), Int.toNat_natCast, Int.toNat_natCast, hat, hatv, hjj, if_neg hle, hfull]
            rfl
          refine V_aload_n XC 0 rfl dX7_join_157 rfl ?_
          refine V_get XC 2 flX7_join_26 0 rfl rfl dX7_join_158 ?_
          refine V_iload_n XC 1 rfl dX7_join_161 rfl ?_
          refine V_aload_n XC 0 rfl dX7_join_162 rfl ?_
          refine V_get XC 2 flX7_join_26 0 rfl rfl dX7_join_163 ?_
          refine V_iload_n XC 1 rfl dX7_join_166 rfl ?_
          refine V_callV (rest := _) (q0 := 1) XC (c_X2_colorOf l D kI kC _ _ _ _ _ (by omega)) gX7_join_X2_colorOf rfl kmX2_colorOf ⟨⟨Nat.le_of_ble_eq_true rfl, Nat.le_of_ble_eq_true rfl⟩, Nat.le_of_ble_eq_true rfl, Nat.le_of_ble_eq_true rfl⟩ ⟨rfl, rfl⟩ rfl rfl (Nat.le_of_ble_eq_true rfl) [1, 2] rfl rfl (fun _ => rfl) rfl rfl dX7_join_167 (kR_of rfl (fun r167 hq167 => ?_))
          subst hq167
          refine V_aload_n XC 0 rfl dX7_join_170 rfl ?_
          refine V_get XC 4 flX7_join_33 0 rfl rfl dX7_join_171 ?_
          refine V_callV (rest := _) (q0 := 1) XC (c_X2_set l D kI kC _ _ _ _ _ _ _ _ _ _ _ _ (by omega)) gX7_join_X2_set rfl kmX2_set ⟨⟨Nat.le_of_ble_eq_true rfl, Nat.le_of_ble_eq_true rfl⟩, Nat.le_of_ble_eq_true rfl, Nat.le_of_ble_eq_true rfl⟩ ⟨rfl, rfl⟩ rfl rfl (Nat.le_of_ble_eq_true rfl) [1, 2, 3, 4, 5] rfl rfl (fun _ => rfl) rfl rfl dX7_join_174 (kV_of (fun u174 hq174 => ?_))
          dsimp only [putW, List.set, Option.toList, List.cons_append, List.nil_append, padO, mdO, shW, trW, txW, hiW, liW, woW, taW]
          try dsimp only at hq174
          refine V_aload_n XC 0 rfl dX7_join_177 rfl ?_
          refine V_get XC 2 flX7_join_26 0 rfl rfl dX7_join_178 ?_
          refine V_iload_n XC 2 rfl dX7_join_181 rfl ?_
          refine V_callV (rest := _) (q0 := 1) XC (c_X2_drop l D kI kC _ _ _ _ v hvn hn16) gX7_join_X2_drop rfl kmX2_drop ⟨⟨Nat.le_of_ble_eq_true rfl, Nat.le_of_ble_eq_true rfl⟩, Nat.le_of_ble_eq_true rfl, Nat.le_of_ble_eq_true rfl⟩ ⟨rfl, rfl⟩ rfl rfl (Nat.le_of_ble_eq_true rfl) [1, 2] rfl rfl (fun _ => rfl) rfl rfl dX7_join_182 (kV_of (fun u182 hq182 => ?_))
          dsimp only [putW, List.set, Option.toList, List.cons_append, List.nil_append, padO, mdO, shW, trW, txW, hiW, liW, woW, taW]
          try dsimp only at hq182
          refine V_aload_n XC 0 rfl dX7_join_185 rfl ?_
          refine V_get XC 5 flX7_join_39 0 rfl rfl dX7_join_186 ?_
          refine V_aload_n XC 0 rfl dX7_join_189 rfl ?_
          refine V_get XC 2 flX7_join_26 0 rfl rfl dX7_join_190 ?_
          refine V_callV (rest := _) (q0 := 6) XC (c_X0_record l D kI kC _ _ _ _ _ _ _ _ _ _ _ _ (by omega) (by omega) ) gX7_join_X0_record rfl kmX0_record ⟨⟨Nat.le_of_ble_eq_true rfl, Nat.le_of_ble_eq_true rfl⟩, Nat.le_of_ble_eq_true rfl, Nat.le_of_ble_eq_true rfl⟩ ⟨rfl, rfl⟩ rfl rfl (Nat.le_of_ble_eq_true rfl) [6, 7, 8, 1, 2] rfl rfl (fun _ => rfl) rfl rfl dX7_join_193 (kV_of (fun u193 hq193 => ?_))
          dsimp only [putW, List.set, Option.toList, List.cons_append, List.nil_append, padO, mdO, shW, trW, txW, hiW, liW, woW, taW]
          try dsimp only at hq193
          refine V_iload_n XC 2 rfl dX7_join_196 rfl ?_
          refine V_iload_n XC 1 rfl dX7_join_197 rfl ?_
          refine V_icmp_ge XC 207 dX7_join_198 (by decide) ⟨by omega, by omega⟩ ⟨by omega, by omega⟩ (fun h198 => ?_) (fun h198 => ?_)
          · skip
            refine V_iload_n XC 1 rfl dX7_join_207 rfl ?_
            refine V_iret XC (n - 1, dropF (setF F k (F (50 * k)) m2 X2 Y2) v n, min (p + 1) 6, 0, nx ha, upz N (nx ha) ((n - 1 : Nat) : Int), cpz (dropF (setF F k (F (50 * k)) m2 X2 Y2) v n) HS 0 (800 * nx ha) 800, (m2 : Int), X2, Y2) hrV rfl dX7_join_208 ?_
            rw [hp]
            first
            | exact ⟨(if_pos h198).symm, act_end h3 hH hdr (OkS_erase (by rw [← hset]; exact hS9))⟩
            | exact ⟨(if_neg (by omega)).symm, act_end h3 hH hdr (OkS_erase (by rw [← hset]; exact hS9))⟩
          refine V_iload_n XC 1 rfl dX7_join_201 rfl ?_
          refine V_iconst XC dX7_join_202 ?_
          refine V_isub XC dX7_join_203 ?_
          refine V_goto XC 208 dX7_join_204 (by decide) ?_
          refine V_iret XC (n - 1, dropF (setF F k (F (50 * k)) m2 X2 Y2) v n, min (p + 1) 6, 0, nx ha, upz N (nx ha) ((n - 1 : Nat) : Int), cpz (dropF (setF F k (F (50 * k)) m2 X2 Y2) v n) HS 0 (800 * nx ha) 800, (m2 : Int), X2, Y2) hrV rfl dX7_join_208 ?_
          rw [hp]
          first
          | exact ⟨(if_pos h198).symm, act_end h3 hH hdr (OkS_erase (by rw [← hset]; exact hS9))⟩
          | exact ⟨(if_neg (by omega)).symm, act_end h3 hH hdr (OkS_erase (by rw [← hset]; exact hS9))⟩
        have hxy := skC_xy (F := F) (k := v) (i := i) (by omega)
        have hfi := hfv.2.2.2.2 i (by omega)
        refine V_aload_n XC 0 rfl dX7_join_124 rfl ?_
        refine V_get XC 4 flX7_join_33 0 rfl rfl dX7_join_125 ?_
        refine V_aload_n XC 0 rfl dX7_join_128 rfl ?_
        refine V_get XC 2 flX7_join_26 0 rfl rfl dX7_join_129 ?_
        refine V_iload_n XC 2 rfl dX7_join_132 rfl ?_
        refine V_iload XC dX7_join_133 rfl ?_
        refine V_callV (rest := _) (q0 := 1) XC (c_X2_x l D kI kC _ _ _ _ v i (by omega) (by omega)) gX7_join_X2_x rfl kmX2_x ⟨⟨Nat.le_of_ble_eq_true rfl, Nat.le_of_ble_eq_true rfl⟩, Nat.le_of_ble_eq_true rfl, Nat.le_of_ble_eq_true rfl⟩ ⟨rfl, rfl⟩ rfl rfl (Nat.le_of_ble_eq_true rfl) [1, 2] rfl rfl (fun _ => rfl) rfl rfl dX7_join_135 (kR_of rfl (fun r135 hq135 => ?_))
        subst hq135
        refine V_aload_n XC 0 rfl dX7_join_138 rfl ?_
        refine V_get XC 2 flX7_join_26 0 rfl rfl dX7_join_139 ?_
        refine V_iload_n XC 2 rfl dX7_join_142 rfl ?_
        refine V_iload XC dX7_join_143 rfl ?_
        refine V_callV (rest := _) (q0 := 1) XC (c_X2_y l D kI kC _ _ _ _ v i (by omega) (by omega)) gX7_join_X2_y rfl kmX2_y ⟨⟨Nat.le_of_ble_eq_true rfl, Nat.le_of_ble_eq_true rfl⟩, Nat.le_of_ble_eq_true rfl, Nat.le_of_ble_eq_true rfl⟩ ⟨rfl, rfl⟩ rfl rfl (Nat.le_of_ble_eq_true rfl) [1, 2] rfl rfl (fun _ => rfl) rfl rfl dX7_join_145 (kR_of rfl (fun r145 hq145 => ?_))
        subst hq145
        rw [hxy.1, hxy.2]
        refine V_callV (rest := _) (q0 := 3) XC (c_X5_append l D kI kC _ _ _ _ _ _ (by omega) hC _ _ (by rw [← hxy.1, ← hxy.2]; exact hfi)) gX7_join_X5_append rfl kmX5_append ⟨⟨Nat.le_of_ble_eq_true rfl, Nat.le_of_ble_eq_true rfl⟩, Nat.le_of_ble_eq_true rfl, Nat.le_of_ble_eq_true rfl⟩ ⟨rfl, rfl⟩ rfl rfl (Nat.le_of_ble_eq_true rfl) [3, 4, 5] rfl rfl (fun _ => rfl) rfl rfl dX7_join_148 (kV_of (fun u148 hq148 => ?_))
        obtain ⟨n148, F148, G148⟩ := u148
        dsimp only [putW, List.set, Option.toList, List.cons_append, List.nil_append, padO, mdO, shW, trW, txW, hiW, liW, woW, taW]
        try dsimp only at hq148
        obtain ⟨hn148, hp148, hC148, hu148⟩ := hq148
        refine V_iinc XC dX7_join_151 rfl (by decide) ?_
        dsimp only [List.set]
        refine V_goto XC 111 dX7_join_154 (by decide) ?_
        have hget : ((skC F k).2 ++ (skC F v).2.drop jf)[m2]? = some (px (skC F v) i, py (skC F v) i) := by
          rw [List.getElem?_append_right (by show szk (skC F k) ≤ m2; omega), List.getElem?_drop]
          rw [show jf + (m2 - (skC F k).2.length) = i by show jf + (m2 - szk (skC F k)) = i; omega]
          exact pxy_at (by omega)
        have e9 : ptsOf n148 F148 G148 = ((skC F k).2 ++ (skC F v).2.drop jf).take (m2 + 1) := by
          rw [hp148, hpt, addP_pre hNL (by rw [hLl]; omega) hget]
        have e8 : n148 = m2 + 1 := by
          have h7 := congrArg List.length e9
          rw [ptsOf_len, List.length_take, hLl] at h7
          omega
        subst e8
        exact ih111 (i + 1, m2 + 1, F148, G148) ⟨by (try dsimp only); omega, by (try dsimp only); omega, by (try dsimp only); omega, e9, hC148⟩ (by (try dsimp only); omega)
      have hp : joinS (shC n F) (k : Int) (v : Int) = (-3, none) := by
        unfold joinS
        rw [if_neg hh, if_neg (by omega), Int.toNat_natCast, Int.toNat_natCast, hat, hatv, hjj, if_pos (by omega)]
      refine V_bipush XC dX7_join_105 (by decide) ?_
      refine V_iret XC (n, F, p, f, ha, N, HS, _, _, _) hrV rfl dX7_join_107 ?_
      rw [hp]
      exact ⟨rfl, rfl, hH, h3⟩
    have hp : joinS (shC n F) (k : Int) (v : Int) = (-2, none) := by
      unfold joinS
      rw [if_neg hh, if_pos h26]
    refine V_bipush XC dX7_join_29 (by decide) ?_
    refine V_iret XC (n, F, p, f, ha, N, HS, wn, WX, WY) hrV rfl dX7_join_31 ?_
    rw [hp]
    exact ⟨rfl, rfl, hH, h3⟩
  have hp : joinS (shC n F) (k : Int) y = (-1, none) := if_pos (Or.inr (by rw [hasS_C]; exact h19))
  refine V_iconst XC dX7_join_22 ?_
  refine V_iret XC (n, F, p, f, ha, N, HS, wn, WX, WY) hrV rfl dX7_join_23 ?_
  rw [hp]
  exact ⟨rfl, rfl, hH, h3⟩

end PADC
