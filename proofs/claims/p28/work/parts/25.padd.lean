/-! the class's pad: rub -/
section PADD
theorem rubC_no {gone : Pt → Bool} {col : Int} {st : List Stk × List Pt} {q : Pt} (h : gone q = false) : rubC gone col st q = (st.1, st.2 ++ [q]) := if_neg (by rw [h]; decide)

set_option maxRecDepth 100000 in
set_option maxHeartbeats 4000000 in
theorem c_X7_rub (l : Launch) (D : va_G) (kI kC : ClassId) (a g w : Nat → Nat) (gap : Int) (n : Nat) (F : Nat → Int) (dn : Int) (DF : Nat → Int) (wn : Int) (WX WY : Nat → Int) (p f ha : Nat) (N HS : Nat → Int) (past fut : List (List Stk)) (h3 : Ok3 (shC n F, past, fut)) (hH : HR (shC n F, past, fut) p f ha N HS) (x y rad : Int) (hx : IR x) (hy : IR y) (hr : IR rad) : Con l yX7_rub wsX7_rub { frames := 4, cells := 0, slots := 0, locals := 108 } D kI kC [.ref (a 0), .int (iI x), .int (iI y), .int (iI rad)] (padO a g w gap :: (shW kI (a 6) (a 7) (n : Int) F ++ (shW kI (a 8) (a 9) dn DF ++ (trW kI (a 10) (a 11) (a 12) wn WX WY ++ (hiW kI (a 13) (a 14) (a 15) (p : Int) (f : Int) (ha : Int) N HS))))) (σ := Nat × (Nat → Int) × Nat × Nat × Nat × (Nat → Int) × (Nat → Int) × Int × (Nat → Int) × (Nat → Int) × Int × (Nat → Int)) (qI (fun r u => r = (rubS (shC n F) x y rad).1 ∧ shC u.1 u.2.1 = (actS (shC n F, past, fut) (rubS (shC n F) x y rad).2).1 ∧ HR (actS (shC n F, past, fut) (rubS (shC n F) x y rad).2) u.2.2.1 u.2.2.2.1 u.2.2.2.2.1 u.2.2.2.2.2.1 u.2.2.2.2.2.2.1 ∧ Ok3 (actS (shC n F, past, fut) (rubS (shC n F) x y rad).2))) (fun u => (padO a g w gap :: (shW kI (a 6) (a 7) (u.1 : Int) u.2.1 ++ (shW kI (a 8) (a 9) u.2.2.2.2.2.2.2.2.2.2.1 u.2.2.2.2.2.2.2.2.2.2.2 ++ (trW kI (a 10) (a 11) (a 12) u.2.2.2.2.2.2.2.1 u.2.2.2.2.2.2.2.2.1 u.2.2.2.2.2.2.2.2.2.1 ++ (hiW kI (a 13) (a 14) (a 15) (u.2.2.1 : Int) (u.2.2.2.1 : Int) (u.2.2.2.2.1 : Int) u.2.2.2.2.2.1 u.2.2.2.2.2.2.1)))))) := by
  refine Con.of (cc := cX7_rub) (maxL := 10) (ret := (some .int)) (by decide +kernel) rfl (List.forall_mem_cons.mpr ⟨rfl, List.forall_mem_cons.mpr ⟨rfl, List.forall_mem_cons.mpr ⟨rfl, List.forall_mem_cons.mpr ⟨rfl, fun _ h => absurd h List.not_mem_nil⟩⟩⟩⟩) (Nat.le_of_ble_eq_true rfl) ?_
  intro pV eV sV mV bV tV cV AV XC hrV
  have XC : Cx pV _ sV mV _ tV cV cX7_rub 10 RX7 wsX7_rub AV D kI kC := XC
  change VV _ _ _ _ _ _ _ _ _ _ _ _ _ _ _ _ _ [some (.ref (a 0)), some (.int (iI x)), some (.int (iI y)), some (.int (iI rad)), none, none, none, none, none, none] _ _
  dsimp only [padO, trW, shW, txW, hiW, liW, woW, taW, List.cons_append, List.nil_append]
  have hn16 : n ≤ 16 := by have h9 := h3.1.1; rwa [shC_len] at h9
  have hS : OkS (shC n F) := h3.1
  have hp6 : p ≤ 6 := by rw [hH.1]; exact h3.2.1.1
  have ha7 : ha < 7 := hH.2.2.1
  have hlen := shC_len n F
  refine V_iload_n XC 1 rfl dX7_rub_0 rfl ?_
  refine V_callS (rest := _) XC (c_X7_isCoordinate l D kI kC _ (by first | assumption | (unfold IR; omega))) gX7_rub_X7_isCoordinate rfl kmX7_isCoordinate ⟨⟨Nat.le_of_ble_eq_true rfl, Nat.le_of_ble_eq_true rfl⟩, Nat.le_of_ble_eq_true rfl, Nat.le_of_ble_eq_true rfl⟩ ⟨rfl, rfl⟩ rfl rfl (Nat.le_of_ble_eq_true rfl) [] rfl rfl (fun _ => rfl) dX7_rub_1 (kR_of rfl (fun r1 hq1 => ?_))
  subst hq1
  refine V_bif_eq XC 25 dX7_rub_4 (by decide) (fun h4 => ?_) (fun h4 => ?_)
  · skip
    have hp : rubS (shC n F) x y rad = (-2, none) := if_pos (Or.inl h4)
    refine V_bipush XC dX7_rub_25 (by decide) ?_
    refine V_iret XC (n, F, p, f, ha, N, HS, wn, WX, WY, dn, DF) hrV rfl dX7_rub_27 ?_
    rw [hp]
    exact ⟨rfl, rfl, hH, h3⟩
  refine V_iload_n XC 2 rfl dX7_rub_7 rfl ?_
  refine V_callS (rest := _) XC (c_X7_isCoordinate l D kI kC _ (by first | assumption | (unfold IR; omega))) gX7_rub_X7_isCoordinate rfl kmX7_isCoordinate ⟨⟨Nat.le_of_ble_eq_true rfl, Nat.le_of_ble_eq_true rfl⟩, Nat.le_of_ble_eq_true rfl, Nat.le_of_ble_eq_true rfl⟩ ⟨rfl, rfl⟩ rfl rfl (Nat.le_of_ble_eq_true rfl) [] rfl rfl (fun _ => rfl) dX7_rub_8 (kR_of rfl (fun r8 hq8 => ?_))
  subst hq8
  refine V_bif_eq XC 25 dX7_rub_11 (by decide) (fun h11 => ?_) (fun h11 => ?_)
  · skip
    have hp : rubS (shC n F) x y rad = (-2, none) := if_pos (Or.inr (Or.inl h11))
    refine V_bipush XC dX7_rub_25 (by decide) ?_
    refine V_iret XC (n, F, p, f, ha, N, HS, wn, WX, WY, dn, DF) hrV rfl dX7_rub_27 ?_
    rw [hp]
    exact ⟨rfl, rfl, hH, h3⟩
  refine V_iload_n XC 3 rfl dX7_rub_14 rfl ?_
  refine V_iconst XC dX7_rub_15 ?_
  refine V_sipush XC dX7_rub_16 (by decide) ?_
  refine V_callS (rest := _) XC (c_X7_isWithin l D kI kC _ _ _ (by first | assumption | (unfold IR; omega)) (by first | assumption | (unfold IR; omega)) (by first | assumption | (unfold IR; omega))) gX7_rub_X7_isWithin rfl kmX7_isWithin ⟨⟨Nat.le_of_ble_eq_true rfl, Nat.le_of_ble_eq_true rfl⟩, Nat.le_of_ble_eq_true rfl, Nat.le_of_ble_eq_true rfl⟩ ⟨rfl, rfl⟩ rfl rfl (Nat.le_of_ble_eq_true rfl) [] rfl rfl (fun _ => rfl) dX7_rub_19 (kR_of rfl (fun r19 hq19 => ?_))
  subst hq19
  refine V_bif_ne XC 28 dX7_rub_22 (by decide) (fun h22 => ?_) (fun h22 => ?_)
  · skip
    have hx2 := of_decide_eq_true h4
    have hy2 := of_decide_eq_true h11
    have hr2 := of_decide_eq_true h22
    have hrr : ¬ (inR x 0 1000 = false ∨ inR y 0 1000 = false ∨ inR rad 0 500 = false) := by unfold inR; rw [h4, h11, h22]; simp
    have hrad := sqb (x := rad) (B := 500) (by omega) (by omega)
    refine V_aload_n XC 0 rfl dX7_rub_28 rfl ?_
    refine V_get XC 3 flX7_rub_30 0 rfl rfl dX7_rub_29 ?_
    refine V_callV (rest := _) (q0 := 3) XC (c_X2_empty l D kI kC _ _ _ _ ) gX7_rub_X2_empty rfl kmX2_empty ⟨⟨Nat.le_of_ble_eq_true rfl, Nat.le_of_ble_eq_true rfl⟩, Nat.le_of_ble_eq_true rfl, Nat.le_of_ble_eq_true rfl⟩ ⟨rfl, rfl⟩ rfl rfl (Nat.le_of_ble_eq_true rfl) [3, 4] rfl rfl (fun _ => rfl) rfl rfl dX7_rub_32 (kV_of (fun u32 hq32 => ?_))
    dsimp only [putW, List.set, Option.toList, List.cons_append, List.nil_append, padO, mdO, shW, trW, txW, hiW, liW, woW, taW]
    try dsimp only at hq32
    refine V_iconst XC dX7_rub_35 ?_
    refine V_istore XC dX7_rub_36 (by decide) ?_
    dsimp only [List.set]
    refine V_iconst XC dX7_rub_38 ?_
    refine V_istore XC dX7_rub_39 (by decide) ?_
    dsimp only [List.set]
    refine V_iconst XC dX7_rub_41 ?_
    refine V_istore XC dX7_rub_42 (by decide) ?_
    dsimp only [List.set]
    refine V_loop (σ := Nat × Bool × Nat × Nat × (Nat → Int) × Int × (Nat → Int) × (Nat → Int)) (fun u => n - u.1) (fun u => u.1 ≤ n ∧ DrR (rubL (goneB x y rad) ((shC n F).take u.1)) u.2.2.2.1 u.2.2.2.2.1 u.2.1 ∧ u.2.2.1 = goneN (goneB x y rad) ((shC n F).take u.1) ∧ u.2.2.1 ≤ 24 * u.1) (fun u => [some (.ref (a 0)), some (.int (iI x)), some (.int (iI y)), some (.int (iI rad)), some (.int (iI (bI u.2.1))), some (.int (iI (u.2.2.1 : Int))), some (.int (iI (u.1 : Int))), none, none, none]) (fun u => (padO a g w gap :: (shW kI (a 6) (a 7) (n : Int) F ++ (shW kI (a 8) (a 9) (u.2.2.2.1 : Int) u.2.2.2.2.1 ++ (trW kI (a 10) (a 11) (a 12) u.2.2.2.2.2.1 u.2.2.2.2.2.2.1 u.2.2.2.2.2.2.2 ++ (hiW kI (a 13) (a 14) (a 15) (p : Int) (f : Int) (ha : Int) N HS)))))) (0, true, 0, 0, DF, wn, WX, WY) ?_ rfl rfl (fun u hJ ih44 => ?_)
    · dsimp only
      rw [show rubL (goneB x y rad) ((shC n F).take 0) = [] from rfl]
      exact ⟨Nat.zero_le _, ⟨fun _ => ⟨rfl, rfl, ⟨by decide, fun t ht => absurd ht List.not_mem_nil⟩, rfl⟩, fun q => absurd q (by decide)⟩, rfl, Nat.le_refl _⟩
    obtain ⟨k, fits, cnt, dk, DF2, wn2, WX2, WY2⟩ := u
    try dsimp only at hJ ih44 ⊢
    try dsimp only [List.cons_append, List.nil_append, padO, mdO, shW, trW, txW, hiW, liW, woW, taW]
    obtain ⟨hk, hD, hcnt, hc24⟩ := hJ
    refine V_iload XC dX7_rub_44 rfl ?_
    refine V_aload_n XC 0 rfl dX7_rub_46 rfl ?_
    refine V_get XC 2 flX7_rub_26 0 rfl rfl dX7_rub_47 ?_
    refine V_get XC 0 flX7_rub_107 1 rfl rfl dX7_rub_50 ?_
    refine V_icmp_ge XC 208 dX7_rub_53 (by decide) ⟨by omega, by omega⟩ ⟨by omega, by omega⟩ (fun h53 => ?_) (fun h53 => ?_)
    · skip
      obtain rfl : k = n := by omega
      have htl : (shC k F).take k = shC k F := List.take_of_length_le (by rw [shC_len]; exact Nat.le_refl _)
      rw [htl] at hD hcnt
      have hd16 := DrR_le hD
      refine V_iload XC dX7_rub_208 rfl ?_
      refine V_bif_ne XC 216 dX7_rub_210 (by decide) (fun h210 => ?_) (fun h210 => ?_)
      · skip
        subst h210
        have hle : (rubL (goneB x y rad) (shC k F)).length ≤ 16 := by
          rcases Nat.lt_or_ge 16 (rubL (goneB x y rad) (shC k F)).length with q | q
          · have := (hD.2 q).2; cases this
          · exact q
        obtain ⟨e1, e2, e3, -⟩ := hD.1 hle
        have hcp : shC dk (cpz DF2 F 0 0 800) = shC dk DF2 := shC_congr (fun j hj => (skC_congr (F := DF2) (fun i hi => by
          unfold cpz
          rw [if_pos (by omega)]
          congr 1
          omega) (skC_24 (shC_in (by rw [e2]; exact e3) hj))).symm)
        refine V_iload XC dX7_rub_216 rfl ?_
        refine V_if_ne XC 224 dX7_rub_218 (by decide) ⟨by omega, by omega⟩ (fun h218 => ?_) (fun h218 => ?_)
        · skip
          have hp : rubS (shC k F) x y rad = ((cnt : Int), some (rubL (goneB x y rad) (shC k F))) := by
            unfold rubS
            rw [if_neg hrr, if_neg (by omega), if_neg (by omega), ← hcnt]
          refine V_aload_n XC 0 rfl dX7_rub_224 rfl ?_
          refine V_get XC 2 flX7_rub_26 0 rfl rfl dX7_rub_225 ?_
          refine V_aload_n XC 0 rfl dX7_rub_228 rfl ?_
          refine V_get XC 3 flX7_rub_30 0 rfl rfl dX7_rub_229 ?_
          refine V_callV (rest := _) (q0 := 1) XC (c_X2_copy l D kI kC _ _ _ _ _ _ _ _) gX7_rub_X2_copy rfl kmX2_copy ⟨⟨Nat.le_of_ble_eq_true rfl, Nat.le_of_ble_eq_true rfl⟩, Nat.le_of_ble_eq_true rfl, Nat.le_of_ble_eq_true rfl⟩ ⟨rfl, rfl⟩ rfl rfl (Nat.le_of_ble_eq_true rfl) [1, 2, 3, 4] rfl rfl (fun _ => rfl) rfl rfl dX7_rub_232 (kV_of (fun u232 hq232 => ?_))
          dsimp only [putW, List.set, Option.toList, List.cons_append, List.nil_append, padO, mdO, shW, trW, txW, hiW, liW, woW, taW]
          try dsimp only at hq232
          refine V_aload_n XC 0 rfl dX7_rub_235 rfl ?_
          refine V_get XC 5 flX7_rub_39 0 rfl rfl dX7_rub_236 ?_
          refine V_aload_n XC 0 rfl dX7_rub_239 rfl ?_
          refine V_get XC 2 flX7_rub_26 0 rfl rfl dX7_rub_240 ?_
          refine V_callV (rest := _) (q0 := 8) XC (c_X0_record l D kI kC _ _ _ _ _ _ _ _ _ _ _ _ (by omega) (by omega) ) gX7_rub_X0_record rfl kmX0_record ⟨⟨Nat.le_of_ble_eq_true rfl, Nat.le_of_ble_eq_true rfl⟩, Nat.le_of_ble_eq_true rfl, Nat.le_of_ble_eq_true rfl⟩ ⟨rfl, rfl⟩ rfl rfl (Nat.le_of_ble_eq_true rfl) [8, 9, 10, 1, 2] rfl rfl (fun _ => rfl) rfl rfl dX7_rub_243 (kV_of (fun u243 hq243 => ?_))
          dsimp only [putW, List.set, Option.toList, List.cons_append, List.nil_append, padO, mdO, shW, trW, txW, hiW, liW, woW, taW]
          try dsimp only at hq243
          refine V_iload XC dX7_rub_246 rfl ?_
          refine V_iret XC (dk, cpz DF2 F 0 0 800, min (p + 1) 6, 0, nx ha, upz N (nx ha) ((dk : Nat) : Int), cpz (cpz DF2 F 0 0 800) HS 0 (800 * nx ha) 800, _, _, _, _, _) hrV rfl dX7_rub_248 ?_
          rw [hp]
          exact ⟨rfl, act_end h3 hH (hcp.trans e2) e3⟩
        have hp : rubS (shC k F) x y rad = (-5, none) := by
          unfold rubS
          rw [if_neg hrr, if_neg (by omega), if_pos (by omega)]
        refine V_bipush XC dX7_rub_221 (by decide) ?_
        refine V_iret XC (k, F, p, f, ha, N, HS, _, _, _, _, _) hrV rfl dX7_rub_223 ?_
        rw [hp]
        exact ⟨rfl, rfl, hH, h3⟩
      have hlt : 16 < (rubL (goneB x y rad) (shC k F)).length := by
        rcases Nat.lt_or_ge 16 (rubL (goneB x y rad) (shC k F)).length with q | q
        · exact q
        · have := (hD.1 q).2.2.2; rw [h210] at this; cases this
      have hp : rubS (shC k F) x y rad = (-3, none) := by
        unfold rubS
        rw [if_neg hrr, if_pos hlt]
      refine V_bipush XC dX7_rub_213 (by decide) ?_
      refine V_iret XC (k, F, p, f, ha, N, HS, _, _, _, _, _) hrV rfl dX7_rub_215 ?_
      rw [hp]
      exact ⟨rfl, rfl, hH, h3⟩
    have hkn : k < n := by omega
    have hok := shC_in hS hkn
    have hSk : (shC n F)[k]? = some (skC F k) := shC_get hkn
    have hf := skC_ok hok
    have hsz := skC_sz hok
    have hz3 := OkK_sz hok
    have hd16 := DrR_le hD
    refine V_aload_n XC 0 rfl dX7_rub_56 rfl ?_
    refine V_get XC 4 flX7_rub_33 0 rfl rfl dX7_rub_57 ?_
    refine V_callV (rest := _) (q0 := 5) XC (c_X5_empty l D kI kC _ _ _ _ _ _) gX7_rub_X5_empty rfl kmX5_empty ⟨⟨Nat.le_of_ble_eq_true rfl, Nat.le_of_ble_eq_true rfl⟩, Nat.le_of_ble_eq_true rfl, Nat.le_of_ble_eq_true rfl⟩ ⟨rfl, rfl⟩ rfl rfl (Nat.le_of_ble_eq_true rfl) [5, 6, 7] rfl rfl (fun _ => rfl) rfl rfl dX7_rub_60 (kV_of (fun u60 hq60 => ?_))
    dsimp only [putW, List.set, Option.toList, List.cons_append, List.nil_append, padO, mdO, shW, trW, txW, hiW, liW, woW, taW]
    try dsimp only at hq60
    refine V_iconst XC dX7_rub_63 ?_
    refine V_istore XC dX7_rub_64 (by decide) ?_
    dsimp only [List.set]
    refine V_loop (σ := Nat × Bool × Nat × Nat × (Nat → Int) × Nat × (Nat → Int) × (Nat → Int)) (fun u => 24 - u.1) (fun u => u.1 ≤ szk (skC F k) ∧ DrR (((skC F k).2.take u.1).foldl (rubC (goneB x y rad) (skC F k).1) (rubL (goneB x y rad) ((shC n F).take k), [])).1 u.2.2.2.1 u.2.2.2.2.1 u.2.1 ∧ ptsOf u.2.2.2.2.2.1 u.2.2.2.2.2.2.1 u.2.2.2.2.2.2.2 = (((skC F k).2.take u.1).foldl (rubC (goneB x y rad) (skC F k).1) (rubL (goneB x y rad) ((shC n F).take k), [])).2 ∧ u.2.2.1 = cnt + ((skC F k).2.take u.1).countP (goneB x y rad) ∧ (∀ i, i < u.2.2.2.2.2.1 → 0 ≤ u.2.2.2.2.2.2.1 i ∧ u.2.2.2.2.2.2.1 i ≤ 1000 ∧ 0 ≤ u.2.2.2.2.2.2.2 i ∧ u.2.2.2.2.2.2.2 i ≤ 1000)) (fun u => [some (.ref (a 0)), some (.int (iI x)), some (.int (iI y)), some (.int (iI rad)), some (.int (iI (bI u.2.1))), some (.int (iI (u.2.2.1 : Int))), some (.int (iI (k : Int))), some (.int (iI (u.1 : Int))), none, none]) (fun u => (padO a g w gap :: (shW kI (a 6) (a 7) (n : Int) F ++ (shW kI (a 8) (a 9) (u.2.2.2.1 : Int) u.2.2.2.2.1 ++ (trW kI (a 10) (a 11) (a 12) (u.2.2.2.2.2.1 : Int) u.2.2.2.2.2.2.1 u.2.2.2.2.2.2.2 ++ (hiW kI (a 13) (a 14) (a 15) (p : Int) (f : Int) (ha : Int) N HS)))))) (0, fits, cnt, dk, DF2, 0, WX2, WY2) ?_ rfl rfl (fun u hJ ih66 => ?_)
    · dsimp only
      exact ⟨Nat.zero_le _, hD, rfl, rfl, fun i hi => absurd hi (Nat.not_lt_zero i)⟩
    obtain ⟨i, fi2, cnt2, dk2, DF3, wm, WX3, WY3⟩ := u
    try dsimp only at hJ ih66 ⊢
    try dsimp only [List.cons_append, List.nil_append, padO, mdO, shW, trW, txW, hiW, liW, woW, taW]
    obtain ⟨hi, hD2, hpt, hcn2, hC⟩ := hJ
    have hcur := rub_cur (gone := goneB x y rad) (col := (skC F k).1) (Dl := rubL (goneB x y rad) ((shC n F).take k)) hok.2.2.2.2.2 i hi
    have hd162 := DrR_le hD2
    have hwm : wm ≤ i := by have h9 := hcur.2.1; rwa [← hpt, ptsOf_len] at h9
    have hcp : ((skC F k).2.take i).countP (goneB x y rad) ≤ i := Nat.le_trans List.countP_le_length (by rw [List.length_take]; omega)
    have hPP : 0 < wm → OkP (ptsOf wm WX3 WY3) := fun h0 => OkP_of h0 (by omega) hC (by rw [hpt]; exact hcur.1)
    refine V_iload XC dX7_rub_66 rfl ?_
    refine V_aload_n XC 0 rfl dX7_rub_68 rfl ?_
    refine V_get XC 2 flX7_rub_26 0 rfl rfl dX7_rub_69 ?_
    refine V_iload XC dX7_rub_72 rfl ?_
    refine V_callV (rest := _) (q0 := 1) XC (c_X2_size l D kI kC _ _ _ _ _ (by omega)) gX7_rub_X2_size rfl kmX2_size ⟨⟨Nat.le_of_ble_eq_true rfl, Nat.le_of_ble_eq_true rfl⟩, Nat.le_of_ble_eq_true rfl, Nat.le_of_ble_eq_true rfl⟩ ⟨rfl, rfl⟩ rfl rfl (Nat.le_of_ble_eq_true rfl) [1, 2] rfl rfl (fun _ => rfl) rfl rfl dX7_rub_74 (kR_of rfl (fun r74 hq74 => ?_))
    subst hq74
    refine V_icmp_ge XC 174 dX7_rub_77 (by decide) ⟨by omega, by omega⟩ ⟨by omega, by omega⟩ (fun h77 => ?_) (fun h77 => ?_)
    · skip
      obtain rfl : i = szk (skC F k) := by omega
      have htl : (skC F k).2.take (szk (skC F k)) = (skC F k).2 := List.take_of_length_le (Nat.le_refl _)
      rw [htl] at hD2 hpt hcn2 hcp
      have hcn9 := hcn2
      have hP9 := hPP
      have hD9 := hD2
      have hL9 : endC (skC F k).1 (((skC F k).2.foldl (rubC (goneB x y rad) (skC F k).1) (rubL (goneB x y rad) ((shC n F).take k), [])).1, ptsOf wm WX3 WY3) = rubK (goneB x y rad) (rubL (goneB x y rad) ((shC n F).take k)) (skC F k) := by
        rw [hpt]
        rfl
      refine V_aload_n XC 0 rfl dX7_rub_174 rfl ?_
      refine V_aload_n XC 0 rfl dX7_rub_175 rfl ?_
      refine V_get XC 2 flX7_rub_26 0 rfl rfl dX7_rub_176 ?_
      refine V_iload XC dX7_rub_179 rfl ?_
      refine V_callV (rest := _) (q0 := 1) XC (c_X2_colorOf l D kI kC _ _ _ _ _ (by omega)) gX7_rub_X2_colorOf rfl kmX2_colorOf ⟨⟨Nat.le_of_ble_eq_true rfl, Nat.le_of_ble_eq_true rfl⟩, Nat.le_of_ble_eq_true rfl, Nat.le_of_ble_eq_true rfl⟩ ⟨rfl, rfl⟩ rfl rfl (Nat.le_of_ble_eq_true rfl) [1, 2] rfl rfl (fun _ => rfl) rfl rfl dX7_rub_181 (kR_of rfl (fun r181 hq181 => ?_))
      subst hq181
      refine V_callV (rest := _) (q0 := 0) XC (c_X7_endPart l D kI kC _ _ _ _ _ _ _ _ _ dk2 rfl hd162 (by omega) _) gX7_rub_X7_endPart rfl kmX7_endPart ⟨⟨Nat.le_of_ble_eq_true rfl, Nat.le_of_ble_eq_true rfl⟩, Nat.le_of_ble_eq_true rfl, Nat.le_of_ble_eq_true rfl⟩ ⟨rfl, rfl⟩ rfl rfl (Nat.le_of_ble_eq_true rfl) [0, 3, 4, 5, 6, 7] rfl rfl (fun _ => rfl) rfl rfl dX7_rub_184 (kI_of (fun r184 u184 hq184 => ?_))
      obtain ⟨dn184, DF184, wn184⟩ := u184
      dsimp only [putW, List.set, Option.toList, List.cons_append, List.nil_append, padO, mdO, shW, trW, txW, hiW, liW, woW, taW]
      try dsimp only at hq184
      obtain ⟨b184, hr184, hE184, hw184⟩ := hq184
      obtain rfl := hr184
      rw [hw184]
      refine V_bif_eq XC 199 dX7_rub_187 (by decide) (fun h187 => ?_) (fun h187 => ?_)
      · skip
        refine V_iconst XC dX7_rub_199 ?_
        refine V_istore XC dX7_rub_200 (by decide) ?_
        dsimp only [List.set]
        refine V_iinc XC dX7_rub_202 rfl (by decide) ?_
        dsimp only [List.set]
        refine V_goto XC 44 dX7_rub_205 (by decide) ?_
        refine V_kill 7 ?_
        dsimp only [List.set]
        have hDn := DrR_end (c := (skC F k).1) hD9 ⟨hf.1, hf.2.1⟩ hP9 hE184
        have hcn := goneN_s (gone := goneB x y rad) hSk
        rw [hL9] at hDn
        first
        | (refine ih44 (k + 1, true, cnt2, _, _, _, _, _) ⟨by (try dsimp only); omega, ?_, ?_, by (try dsimp only); omega⟩ (by (try dsimp only); omega)
           · dsimp only
             rw [rubL_s hSk]
             rwa [h187, h192] at hDn
           · dsimp only
             rw [hcn, ← hcnt, hcn9])
        | (refine ih44 (k + 1, false, cnt2, _, _, _, _, _) ⟨by (try dsimp only); omega, ?_, ?_, by (try dsimp only); omega⟩ (by (try dsimp only); omega)
           · dsimp only
             rw [rubL_s hSk]
             first
             | rwa [h187, h192] at hDn
             | (rw [h187, Bool.false_and] at hDn; exact hDn)
           · dsimp only
             rw [hcn, ← hcnt, hcn9])
      refine V_iload XC dX7_rub_190 rfl ?_
      refine V_bif_eq XC 199 dX7_rub_192 (by decide) (fun h192 => ?_) (fun h192 => ?_)
      · skip
        refine V_iconst XC dX7_rub_199 ?_
        refine V_istore XC dX7_rub_200 (by decide) ?_
        dsimp only [List.set]
        refine V_iinc XC dX7_rub_202 rfl (by decide) ?_
        dsimp only [List.set]
        refine V_goto XC 44 dX7_rub_205 (by decide) ?_
        refine V_kill 7 ?_
        dsimp only [List.set]
        have hDn := DrR_end (c := (skC F k).1) hD9 ⟨hf.1, hf.2.1⟩ hP9 hE184
        have hcn := goneN_s (gone := goneB x y rad) hSk
        rw [hL9] at hDn
        first
        | (refine ih44 (k + 1, true, cnt2, _, _, _, _, _) ⟨by (try dsimp only); omega, ?_, ?_, by (try dsimp only); omega⟩ (by (try dsimp only); omega)
           · dsimp only
             rw [rubL_s hSk]
             rwa [h187, h192] at hDn
           · dsimp only
             rw [hcn, ← hcnt, hcn9])
        | (refine ih44 (k + 1, false, cnt2, _, _, _, _, _) ⟨by (try dsimp only); omega, ?_, ?_, by (try dsimp only); omega⟩ (by (try dsimp only); omega)
           · dsimp only
             rw [rubL_s hSk]
             first
             | rwa [h187, h192] at hDn
             | (rw [h187, Bool.false_and] at hDn; exact hDn)
           · dsimp only
             rw [hcn, ← hcnt, hcn9])
      refine V_iconst XC dX7_rub_195 ?_
      refine V_goto XC 200 dX7_rub_196 (by decide) ?_
      refine V_istore XC dX7_rub_200 (by decide) ?_
      dsimp only [List.set]
      refine V_iinc XC dX7_rub_202 rfl (by decide) ?_
      dsimp only [List.set]
      refine V_goto XC 44 dX7_rub_205 (by decide) ?_
      refine V_kill 7 ?_
      dsimp only [List.set]
      have hDn := DrR_end (c := (skC F k).1) hD9 ⟨hf.1, hf.2.1⟩ hP9 hE184
      have hcn := goneN_s (gone := goneB x y rad) hSk
      rw [hL9] at hDn
      first
      | (refine ih44 (k + 1, true, cnt2, _, _, _, _, _) ⟨by (try dsimp only); omega, ?_, ?_, by (try dsimp only); omega⟩ (by (try dsimp only); omega)
         · dsimp only
           rw [rubL_s hSk]
           rwa [h187, h192] at hDn
         · dsimp only
           rw [hcn, ← hcnt, hcn9])
      | (refine ih44 (k + 1, false, cnt2, _, _, _, _, _) ⟨by (try dsimp only); omega, ?_, ?_, by (try dsimp only); omega⟩ (by (try dsimp only); omega)
         · dsimp only
           rw [rubL_s hSk]
           first
           | rwa [h187, h192] at hDn
           | (rw [h187, Bool.false_and] at hDn; exact hDn)
         · dsimp only
           rw [hcn, ← hcnt, hcn9])
    have hxy := skC_xy (F := F) (k := k) (i := i) (by omega)
    have hfi := hf.2.2.2.2 i (by omega)
    have hq9 : (skC F k).2[i]? = some (px (skC F k) i, py (skC F k) i) := pxy_at (by omega)
    refine V_aload_n XC 0 rfl dX7_rub_80 rfl ?_
    refine V_get XC 2 flX7_rub_26 0 rfl rfl dX7_rub_81 ?_
    refine V_iload XC dX7_rub_84 rfl ?_
    refine V_iload XC dX7_rub_86 rfl ?_
    refine V_callV (rest := _) (q0 := 1) XC (c_X2_x l D kI kC _ _ _ _ k i (by omega) (by omega)) gX7_rub_X2_x rfl kmX2_x ⟨⟨Nat.le_of_ble_eq_true rfl, Nat.le_of_ble_eq_true rfl⟩, Nat.le_of_ble_eq_true rfl, Nat.le_of_ble_eq_true rfl⟩ ⟨rfl, rfl⟩ rfl rfl (Nat.le_of_ble_eq_true rfl) [1, 2] rfl rfl (fun _ => rfl) rfl rfl dX7_rub_88 (kR_of rfl (fun r88 hq88 => ?_))
    subst hq88
    rw [hxy.1]
    rw [hxy.1, hxy.2] at hfi
    refine V_istore XC dX7_rub_91 (by decide) ?_
    dsimp only [List.set]
    refine V_aload_n XC 0 rfl dX7_rub_93 rfl ?_
    refine V_get XC 2 flX7_rub_26 0 rfl rfl dX7_rub_94 ?_
    refine V_iload XC dX7_rub_97 rfl ?_
    refine V_iload XC dX7_rub_99 rfl ?_
    refine V_callV (rest := _) (q0 := 1) XC (c_X2_y l D kI kC _ _ _ _ k i (by omega) (by omega)) gX7_rub_X2_y rfl kmX2_y ⟨⟨Nat.le_of_ble_eq_true rfl, Nat.le_of_ble_eq_true rfl⟩, Nat.le_of_ble_eq_true rfl, Nat.le_of_ble_eq_true rfl⟩ ⟨rfl, rfl⟩ rfl rfl (Nat.le_of_ble_eq_true rfl) [1, 2] rfl rfl (fun _ => rfl) rfl rfl dX7_rub_101 (kR_of rfl (fun r101 hq101 => ?_))
    subst hq101
    rw [hxy.2]
    refine V_istore XC dX7_rub_104 (by decide) ?_
    dsimp only [List.set]
    refine V_iload XC dX7_rub_106 rfl ?_
    refine V_iload_n XC 1 rfl dX7_rub_108 rfl ?_
    refine V_isub XC dX7_rub_109 ?_
    refine V_iload XC dX7_rub_110 rfl ?_
    refine V_iload_n XC 2 rfl dX7_rub_112 rfl ?_
    refine V_isub XC dX7_rub_113 ?_
    refine V_callS (rest := _) XC (c_X7_square l D kI kC _ _) gX7_rub_X7_square rfl kmX7_square ⟨⟨Nat.le_of_ble_eq_true rfl, Nat.le_of_ble_eq_true rfl⟩, Nat.le_of_ble_eq_true rfl, Nat.le_of_ble_eq_true rfl⟩ ⟨rfl, rfl⟩ rfl rfl (Nat.le_of_ble_eq_true rfl) [] rfl rfl (fun _ => rfl) dX7_rub_114 (kR_of rfl (fun r114 hq114 => ?_))
    subst hq114
    have q1 := sqb (x := px (skC F k) i - x) (B := 1000) (by omega) (by omega)
    have q2 := sqb (x := py (skC F k) i - y) (B := 1000) (by omega) (by omega)
    refine V_iload_n XC 3 rfl dX7_rub_117 rfl ?_
    refine V_iload_n XC 3 rfl dX7_rub_118 rfl ?_
    refine V_imul XC dX7_rub_119 ?_
    refine V_icmp_gt XC 157 dX7_rub_120 (by decide) ⟨by omega, by omega⟩ ⟨by omega, by omega⟩ (fun h120 => ?_) (fun h120 => ?_)
    · skip
      have hg9 : goneB x y rad (px (skC F k) i, py (skC F k) i) = false := decide_eq_false (by (try dsimp only); omega)
      refine V_aload_n XC 0 rfl dX7_rub_157 rfl ?_
      refine V_get XC 4 flX7_rub_33 0 rfl rfl dX7_rub_158 ?_
      refine V_iload XC dX7_rub_161 rfl ?_
      refine V_iload XC dX7_rub_163 rfl ?_
      refine V_callV (rest := _) (q0 := 5) XC (c_X5_append l D kI kC _ _ _ _ _ _ (by omega) hC _ _ (by omega)) gX7_rub_X5_append rfl kmX5_append ⟨⟨Nat.le_of_ble_eq_true rfl, Nat.le_of_ble_eq_true rfl⟩, Nat.le_of_ble_eq_true rfl, Nat.le_of_ble_eq_true rfl⟩ ⟨rfl, rfl⟩ rfl rfl (Nat.le_of_ble_eq_true rfl) [5, 6, 7] rfl rfl (fun _ => rfl) rfl rfl dX7_rub_165 (kV_of (fun u165 hq165 => ?_))
      obtain ⟨n165, F165, G165⟩ := u165
      dsimp only [putW, List.set, Option.toList, List.cons_append, List.nil_append, padO, mdO, shW, trW, txW, hiW, liW, woW, taW]
      try dsimp only at hq165
      obtain ⟨hn165, hp165, hC165, hu165⟩ := hq165
      refine V_iinc XC dX7_rub_168 rfl (by decide) ?_
      dsimp only [List.set]
      refine V_goto XC 66 dX7_rub_171 (by decide) ?_
      refine V_kill 8 ?_
      dsimp only [List.set]
      refine V_kill 9 ?_
      dsimp only [List.set]
      have htk := take_s hq9
      have hfold : ∀ st, ((skC F k).2.take (i + 1)).foldl (rubC (goneB x y rad) (skC F k).1) st = rubC (goneB x y rad) (skC F k).1 (((skC F k).2.take i).foldl (rubC (goneB x y rad) (skC F k).1) st) (px (skC F k) i, py (skC F k) i) := fun st => by rw [htk, List.foldl_append]; rfl
      first
      | (have hDn := DrR_end (c := (skC F k).1) hD2 ⟨hf.1, hf.2.1⟩ hPP hE136
         have hcx : (rubC (goneB x y rad) (skC F k).1 (((skC F k).2.take i).foldl (rubC (goneB x y rad) (skC F k).1) (rubL (goneB x y rad) ((shC n F).take k), [])) (px (skC F k) i, py (skC F k) i)) = (endC (skC F k).1 (((skC F k).2.take i).foldl (rubC (goneB x y rad) (skC F k).1) (rubL (goneB x y rad) ((shC n F).take k), [])), []) := if_pos hg9
         rw [hpt] at hDn
         first
         | (refine ih66 (i + 1, true, cnt2 + 1, _, _, 0, _, _) ⟨by (try dsimp only); omega, ?_, ?_, ?_, fun j hj => absurd hj (Nat.not_lt_zero j)⟩ (by (try dsimp only); omega)
            · dsimp only
              rw [hfold, hcx]
              rwa [h139, h144] at hDn
            · dsimp only
              rw [hfold, hcx]
              rfl
            · dsimp only
              rw [htk, List.countP_append, hcn2]
              simp [List.countP_cons, hg9]
              omega)
         | (refine ih66 (i + 1, false, cnt2 + 1, _, _, 0, _, _) ⟨by (try dsimp only); omega, ?_, ?_, ?_, fun j hj => absurd hj (Nat.not_lt_zero j)⟩ (by (try dsimp only); omega)
            · dsimp only
              rw [hfold, hcx]
              first
              | rwa [h139, h144] at hDn
              | (rw [h139, Bool.false_and] at hDn; exact hDn)
            · dsimp only
              rw [hfold, hcx]
              rfl
            · dsimp only
              rw [htk, List.countP_append, hcn2]
              simp [List.countP_cons, hg9]
              omega))
      | (refine ih66 (i + 1, fi2, cnt2, dk2, DF3, n165, F165, G165) ⟨by (try dsimp only); omega, ?_, ?_, ?_, hC165⟩ (by (try dsimp only); omega)
         · dsimp only
           rw [hfold, rubC_no hg9]
           exact hD2
         · dsimp only
           rw [hfold, rubC_no hg9, hp165, hpt]
           refine if_neg ?_
           rcases hcur.2.2 with w | ⟨w0, w⟩
           · rw [w]; intro e; cases e
           · rw [w]
             have h8 := NR_at (l := (skC F k).2) (i := i - 1) hok.2.2.2.2.2 (by show _ < szk (skC F k); omega)
             rw [show i - 1 + 1 = i by omega, hq9] at h8
             exact h8
         · dsimp only
           rw [htk, List.countP_append, hcn2]
           simp [List.countP_cons, hg9])
    have hg9 : goneB x y rad (px (skC F k) i, py (skC F k) i) = true := decide_eq_true (by (try dsimp only); omega)
    refine V_iinc XC dX7_rub_123 rfl (by decide) ?_
    dsimp only [List.set]
    refine V_aload_n XC 0 rfl dX7_rub_126 rfl ?_
    refine V_aload_n XC 0 rfl dX7_rub_127 rfl ?_
    refine V_get XC 2 flX7_rub_26 0 rfl rfl dX7_rub_128 ?_
    refine V_iload XC dX7_rub_131 rfl ?_
    refine V_callV (rest := _) (q0 := 1) XC (c_X2_colorOf l D kI kC _ _ _ _ _ (by omega)) gX7_rub_X2_colorOf rfl kmX2_colorOf ⟨⟨Nat.le_of_ble_eq_true rfl, Nat.le_of_ble_eq_true rfl⟩, Nat.le_of_ble_eq_true rfl, Nat.le_of_ble_eq_true rfl⟩ ⟨rfl, rfl⟩ rfl rfl (Nat.le_of_ble_eq_true rfl) [1, 2] rfl rfl (fun _ => rfl) rfl rfl dX7_rub_133 (kR_of rfl (fun r133 hq133 => ?_))
    subst hq133
    refine V_callV (rest := _) (q0 := 0) XC (c_X7_endPart l D kI kC _ _ _ _ _ _ _ _ _ dk2 rfl hd162 (by omega) _) gX7_rub_X7_endPart rfl kmX7_endPart ⟨⟨Nat.le_of_ble_eq_true rfl, Nat.le_of_ble_eq_true rfl⟩, Nat.le_of_ble_eq_true rfl, Nat.le_of_ble_eq_true rfl⟩ ⟨rfl, rfl⟩ rfl rfl (Nat.le_of_ble_eq_true rfl) [0, 3, 4, 5, 6, 7] rfl rfl (fun _ => rfl) rfl rfl dX7_rub_136 (kI_of (fun r136 u136 hq136 => ?_))
    obtain ⟨dn136, DF136, wn136⟩ := u136
    dsimp only [putW, List.set, Option.toList, List.cons_append, List.nil_append, padO, mdO, shW, trW, txW, hiW, liW, woW, taW]
    try dsimp only at hq136
    obtain ⟨b136, hr136, hE136, hw136⟩ := hq136
    obtain rfl := hr136
    rw [hw136]
    refine V_bif_eq XC 151 dX7_rub_139 (by decide) (fun h139 => ?_) (fun h139 => ?_)
    · skip
      refine V_iconst XC dX7_rub_151 ?_
      refine V_istore XC dX7_rub_152 (by decide) ?_
      dsimp only [List.set]
      refine V_goto XC 168 dX7_rub_154 (by decide) ?_
      refine V_iinc XC dX7_rub_168 rfl (by decide) ?_
      dsimp only [List.set]
      refine V_goto XC 66 dX7_rub_171 (by decide) ?_
      refine V_kill 8 ?_
      dsimp only [List.set]
      refine V_kill 9 ?_
      dsimp only [List.set]
      have htk := take_s hq9
      have hfold : ∀ st, ((skC F k).2.take (i + 1)).foldl (rubC (goneB x y rad) (skC F k).1) st = rubC (goneB x y rad) (skC F k).1 (((skC F k).2.take i).foldl (rubC (goneB x y rad) (skC F k).1) st) (px (skC F k) i, py (skC F k) i) := fun st => by rw [htk, List.foldl_append]; rfl
      first
      | (have hDn := DrR_end (c := (skC F k).1) hD2 ⟨hf.1, hf.2.1⟩ hPP hE136
         have hcx : (rubC (goneB x y rad) (skC F k).1 (((skC F k).2.take i).foldl (rubC (goneB x y rad) (skC F k).1) (rubL (goneB x y rad) ((shC n F).take k), [])) (px (skC F k) i, py (skC F k) i)) = (endC (skC F k).1 (((skC F k).2.take i).foldl (rubC (goneB x y rad) (skC F k).1) (rubL (goneB x y rad) ((shC n F).take k), [])), []) := if_pos hg9
         rw [hpt] at hDn
         first
         | (refine ih66 (i + 1, true, cnt2 + 1, _, _, 0, _, _) ⟨by (try dsimp only); omega, ?_, ?_, ?_, fun j hj => absurd hj (Nat.not_lt_zero j)⟩ (by (try dsimp only); omega)
            · dsimp only
              rw [hfold, hcx]
              rwa [h139, h144] at hDn
            · dsimp only
              rw [hfold, hcx]
              rfl
            · dsimp only
              rw [htk, List.countP_append, hcn2]
              simp [List.countP_cons, hg9]
              omega)
         | (refine ih66 (i + 1, false, cnt2 + 1, _, _, 0, _, _) ⟨by (try dsimp only); omega, ?_, ?_, ?_, fun j hj => absurd hj (Nat.not_lt_zero j)⟩ (by (try dsimp only); omega)
            · dsimp only
              rw [hfold, hcx]
              first
              | rwa [h139, h144] at hDn
              | (rw [h139, Bool.false_and] at hDn; exact hDn)
            · dsimp only
              rw [hfold, hcx]
              rfl
            · dsimp only
              rw [htk, List.countP_append, hcn2]
              simp [List.countP_cons, hg9]
              omega))
      | (refine ih66 (i + 1, fi2, cnt2, dk2, DF3, n165, F165, G165) ⟨by (try dsimp only); omega, ?_, ?_, ?_, hC165⟩ (by (try dsimp only); omega)
         · dsimp only
           rw [hfold, rubC_no hg9]
           exact hD2
         · dsimp only
           rw [hfold, rubC_no hg9, hp165, hpt]
           refine if_neg ?_
           rcases hcur.2.2 with w | ⟨w0, w⟩
           · rw [w]; intro e; cases e
           · rw [w]
             have h8 := NR_at (l := (skC F k).2) (i := i - 1) hok.2.2.2.2.2 (by show _ < szk (skC F k); omega)
             rw [show i - 1 + 1 = i by omega, hq9] at h8
             exact h8
         · dsimp only
           rw [htk, List.countP_append, hcn2]
           simp [List.countP_cons, hg9])
    refine V_iload XC dX7_rub_142 rfl ?_
    refine V_bif_eq XC 151 dX7_rub_144 (by decide) (fun h144 => ?_) (fun h144 => ?_)
    · skip
      refine V_iconst XC dX7_rub_151 ?_
      refine V_istore XC dX7_rub_152 (by decide) ?_
      dsimp only [List.set]
      refine V_goto XC 168 dX7_rub_154 (by decide) ?_
      refine V_iinc XC dX7_rub_168 rfl (by decide) ?_
      dsimp only [List.set]
      refine V_goto XC 66 dX7_rub_171 (by decide) ?_
      refine V_kill 8 ?_
      dsimp only [List.set]
      refine V_kill 9 ?_
      dsimp only [List.set]
      have htk := take_s hq9
      have hfold : ∀ st, ((skC F k).2.take (i + 1)).foldl (rubC (goneB x y rad) (skC F k).1) st = rubC (goneB x y rad) (skC F k).1 (((skC F k).2.take i).foldl (rubC (goneB x y rad) (skC F k).1) st) (px (skC F k) i, py (skC F k) i) := fun st => by rw [htk, List.foldl_append]; rfl
      first
      | (have hDn := DrR_end (c := (skC F k).1) hD2 ⟨hf.1, hf.2.1⟩ hPP hE136
         have hcx : (rubC (goneB x y rad) (skC F k).1 (((skC F k).2.take i).foldl (rubC (goneB x y rad) (skC F k).1) (rubL (goneB x y rad) ((shC n F).take k), [])) (px (skC F k) i, py (skC F k) i)) = (endC (skC F k).1 (((skC F k).2.take i).foldl (rubC (goneB x y rad) (skC F k).1) (rubL (goneB x y rad) ((shC n F).take k), [])), []) := if_pos hg9
         rw [hpt] at hDn
         first
         | (refine ih66 (i + 1, true, cnt2 + 1, _, _, 0, _, _) ⟨by (try dsimp only); omega, ?_, ?_, ?_, fun j hj => absurd hj (Nat.not_lt_zero j)⟩ (by (try dsimp only); omega)
            · dsimp only
              rw [hfold, hcx]
              rwa [h139, h144] at hDn
            · dsimp only
              rw [hfold, hcx]
              rfl
            · dsimp only
              rw [htk, List.countP_append, hcn2]
              simp [List.countP_cons, hg9]
              omega)
         | (refine ih66 (i + 1, false, cnt2 + 1, _, _, 0, _, _) ⟨by (try dsimp only); omega, ?_, ?_, ?_, fun j hj => absurd hj (Nat.not_lt_zero j)⟩ (by (try dsimp only); omega)
            · dsimp only
              rw [hfold, hcx]
              first
              | rwa [h139, h144] at hDn
              | (rw [h139, Bool.false_and] at hDn; exact hDn)
            · dsimp only
              rw [hfold, hcx]
              rfl
            · dsimp only
              rw [htk, List.countP_append, hcn2]
              simp [List.countP_cons, hg9]
              omega))
      | (refine ih66 (i + 1, fi2, cnt2, dk2, DF3, n165, F165, G165) ⟨by (try dsimp only); omega, ?_, ?_, ?_, hC165⟩ (by (try dsimp only); omega)
         · dsimp only
           rw [hfold, rubC_no hg9]
           exact hD2
         · dsimp only
           rw [hfold, rubC_no hg9, hp165, hpt]
           refine if_neg ?_
           rcases hcur.2.2 with w | ⟨w0, w⟩
           · rw [w]; intro e; cases e
           · rw [w]
             have h8 := NR_at (l := (skC F k).2) (i := i - 1) hok.2.2.2.2.2 (by show _ < szk (skC F k); omega)
             rw [show i - 1 + 1 = i by omega, hq9] at h8
             exact h8
         · dsimp only
           rw [htk, List.countP_append, hcn2]
           simp [List.countP_cons, hg9])
    refine V_iconst XC dX7_rub_147 ?_
    refine V_goto XC 152 dX7_rub_148 (by decide) ?_
    refine V_istore XC dX7_rub_152 (by decide) ?_
    dsimp only [List.set]
    refine V_goto XC 168 dX7_rub_154 (by decide) ?_
    refine V_iinc XC dX7_rub_168 rfl (by decide) ?_
    dsimp only [List.set]
    refine V_goto XC 66 dX7_rub_171 (by decide) ?_
    refine V_kill 8 ?_
    dsimp only [List.set]
    refine V_kill 9 ?_
    dsimp only [List.set]
    have htk := take_s hq9
    have hfold : ∀ st, ((skC F k).2.take (i + 1)).foldl (rubC (goneB x y rad) (skC F k).1) st = rubC (goneB x y rad) (skC F k).1 (((skC F k).2.take i).foldl (rubC (goneB x y rad) (skC F k).1) st) (px (skC F k) i, py (skC F k) i) := fun st => by rw [htk, List.foldl_append]; rfl
    first
    | (have hDn := DrR_end (c := (skC F k).1) hD2 ⟨hf.1, hf.2.1⟩ hPP hE136
       have hcx : (rubC (goneB x y rad) (skC F k).1 (((skC F k).2.take i).foldl (rubC (goneB x y rad) (skC F k).1) (rubL (goneB x y rad) ((shC n F).take k), [])) (px (skC F k) i, py (skC F k) i)) = (endC (skC F k).1 (((skC F k).2.take i).foldl (rubC (goneB x y rad) (skC F k).1) (rubL (goneB x y rad) ((shC n F).take k), [])), []) := if_pos hg9
       rw [hpt] at hDn
       first
       | (refine ih66 (i + 1, true, cnt2 + 1, _, _, 0, _, _) ⟨by (try dsimp only); omega, ?_, ?_, ?_, fun j hj => absurd hj (Nat.not_lt_zero j)⟩ (by (try dsimp only); omega)
          · dsimp only
            rw [hfold, hcx]
            rwa [h139, h144] at hDn
          · dsimp only
            rw [hfold, hcx]
            rfl
          · dsimp only
            rw [htk, List.countP_append, hcn2]
            simp [List.countP_cons, hg9]
            omega)
       | (refine ih66 (i + 1, false, cnt2 + 1, _, _, 0, _, _) ⟨by (try dsimp only); omega, ?_, ?_, ?_, fun j hj => absurd hj (Nat.not_lt_zero j)⟩ (by (try dsimp only); omega)
          · dsimp only
            rw [hfold, hcx]
            first
            | rwa [h139, h144] at hDn
            | (rw [h139, Bool.false_and] at hDn; exact hDn)
          · dsimp only
            rw [hfold, hcx]
            rfl
          · dsimp only
            rw [htk, List.countP_append, hcn2]
            simp [List.countP_cons, hg9]
            omega))
    | (refine ih66 (i + 1, fi2, cnt2, dk2, DF3, n165, F165, G165) ⟨by (try dsimp only); omega, ?_, ?_, ?_, hC165⟩ (by (try dsimp only); omega)
       · dsimp only
         rw [hfold, rubC_no hg9]
         exact hD2
       · dsimp only
         rw [hfold, rubC_no hg9, hp165, hpt]
         refine if_neg ?_
         rcases hcur.2.2 with w | ⟨w0, w⟩
         · rw [w]; intro e; cases e
         · rw [w]
           have h8 := NR_at (l := (skC F k).2) (i := i - 1) hok.2.2.2.2.2 (by show _ < szk (skC F k); omega)
           rw [show i - 1 + 1 = i by omega, hq9] at h8
           exact h8
       · dsimp only
         rw [htk, List.countP_append, hcn2]
         simp [List.countP_cons, hg9])
  have hp : rubS (shC n F) x y rad = (-2, none) := if_pos (Or.inr (Or.inr h22))
  refine V_bipush XC dX7_rub_25 (by decide) ?_
  refine V_iret XC (n, F, p, f, ha, N, HS, wn, WX, WY, dn, DF) hrV rfl dX7_rub_27 ?_
  rw [hp]
  exact ⟨rfl, rfl, hH, h3⟩

end PADD
