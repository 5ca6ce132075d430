/-! the reference: smooth, shift -/
section REFF

set_option maxRecDepth 100000 in
set_option maxHeartbeats 4000000 in
theorem c_X8_smooth (l : Launch) (D : va_G) (kI kC : ClassId) (b : Nat → Nat) (gp : Int) (ke : Nat) (un : Nat) (bu : Nat) (ty : Nat) (pc : Int) (gd : Bool) (rd : Int) (po : Int) (ln : Int) (wd : Int) (G : Nat → Int) (H : Nat → Int) (X : Nat → Int) (PX : Nat → Int) (PY : Nat → Int) (QX : Nat → Int) (QY : Nat → Int) (A : Nat → Int) (S : List Stk) (past fut : List (List Stk)) (h3 : Ok3 (S, past, fut)) (hN : NowR G S) (hH : RH (S, past, fut) ke un H A) (z n : Int) (hz : IR z) (hn : IR n) : Con l yX8_smooth wsX8_smooth { frames := 5, cells := 0, slots := 0, locals := 109 } D kI kC [.ref (b 0), .int (iI z), .int (iI n)] (mdO b gp (ke : Int) (un : Int) (bu : Int) (ty : Int) pc gd rd po ln wd :: [(b 1, IA kI 801 G), (b 2, IA kI 4806 H), (b 9, IA kI 801 X), (b 10, IA kI 24 PX), (b 11, IA kI 24 PY), (b 12, IA kI 24 QX), (b 13, IA kI 24 QY)]) (σ := (Nat → Int) × Nat × Nat × (Nat → Int) × (Nat → Int) × (Nat → Int) × (Nat → Int) × (Nat → Int) × (Nat → Int) × Int) (qI (fun r u => r = (smoothS S z n).1 ∧ NowR u.1 (actS (S, past, fut) (smoothS S z n).2).1 ∧ RH (actS (S, past, fut) (smoothS S z n).2) u.2.1 u.2.2.1 u.2.2.2.1 A ∧ Ok3 (actS (S, past, fut) (smoothS S z n).2))) (fun u => (mdO b gp (u.2.1 : Int) (u.2.2.1 : Int) (bu : Int) (ty : Int) pc gd rd u.2.2.2.2.2.2.2.2.2 ln wd :: [(b 1, IA kI 801 u.1), (b 2, IA kI 4806 u.2.2.2.1), (b 9, IA kI 801 u.2.2.2.2.1), (b 10, IA kI 24 u.2.2.2.2.2.1), (b 11, IA kI 24 u.2.2.2.2.2.2.1), (b 12, IA kI 24 u.2.2.2.2.2.2.2.1), (b 13, IA kI 24 u.2.2.2.2.2.2.2.2.1)])) := by
  refine Con.of (cc := cX8_smooth) (maxL := 4) (ret := (some .int)) (by decide +kernel) rfl (List.forall_mem_cons.mpr ⟨rfl, List.forall_mem_cons.mpr ⟨rfl, List.forall_mem_cons.mpr ⟨rfl, fun _ h => absurd h List.not_mem_nil⟩⟩⟩) (Nat.le_of_ble_eq_true rfl) ?_
  intro pV eV sV mV bV tV cV AV XC hrV
  have XC : Cx pV _ sV mV _ tV cV cX8_smooth 4 RX8 wsX8_smooth AV D kI kC := XC
  change VV _ _ _ _ _ _ _ _ _ _ _ _ _ _ _ _ _ [some (.ref (b 0)), some (.int (iI z)), some (.int (iI n)), none] _ _
  dsimp only [mdO, List.cons_append, List.nil_append]
  have hn16 : S.length ≤ 16 := h3.1.1
  have hS : OkS S := h3.1
  have hk6 : ke ≤ 6 := by rw [hH.1]; exact h3.2.1.1
  have hN0 : G 0 = (S.length : Int) := hN.1
  refine V_aload_n XC 0 rfl dX8_smooth_0 rfl ?_
  refine V_iload_n XC 1 rfl dX8_smooth_1 rfl ?_
  refine V_callV (rest := _) (q0 := 0) XC (c_X8_noStroke l D kI kC _ _ _ _ _ _ _ _ _ _ _ _ _ S.length hn16 hN0 _ hz) gX8_smooth_X8_noStroke rfl kmX8_noStroke ⟨⟨Nat.le_of_ble_eq_true rfl, Nat.le_of_ble_eq_true rfl⟩, Nat.le_of_ble_eq_true rfl, Nat.le_of_ble_eq_true rfl⟩ ⟨rfl, rfl⟩ rfl rfl (Nat.le_of_ble_eq_true rfl) [0, 1] rfl rfl (fun _ => rfl) rfl rfl dX8_smooth_2 (kR_of rfl (fun r2 hq2 => ?_))
  subst hq2
  refine V_bif_eq XC 10 dX8_smooth_5 (by decide) (fun h5 => ?_) (fun h5 => ?_)
  · skip
    have hz2 : 0 ≤ z ∧ z < (S.length : Int) := by simpa using h5
    obtain ⟨k, rfl⟩ : ∃ k : Nat, z = (k : Int) := ⟨z.toNat, by omega⟩
    have hkn : k < S.length := by omega
    have hok := NowR_ok hN hS hkn
    have hat := NowR_at hN hkn
    have hf := skR_ok hok
    have hsz := skR_sz hok
    have hz3 := OkK_sz hok
    have hh : ¬ hasS S (k : Int) = false := by unfold hasS; rw [decide_eq_true hz2]; decide
    refine V_iload_n XC 2 rfl dX8_smooth_10 rfl ?_
    refine V_iconst XC dX8_smooth_11 ?_
    refine V_bipush XC dX8_smooth_12 (by decide) ?_
    refine V_callS (rest := _) XC (c_X8_in l D kI kC _ _ _ (by first | assumption | (unfold IR; omega)) (by first | assumption | (unfold IR; omega)) (by first | assumption | (unfold IR; omega))) gX8_smooth_X8_in rfl kmX8_in ⟨⟨Nat.le_of_ble_eq_true rfl, Nat.le_of_ble_eq_true rfl⟩, Nat.le_of_ble_eq_true rfl, Nat.le_of_ble_eq_true rfl⟩ ⟨rfl, rfl⟩ rfl rfl (Nat.le_of_ble_eq_true rfl) [] rfl rfl (fun _ => rfl) dX8_smooth_14 (kR_of rfl (fun r14 hq14 => ?_))
    subst hq14
    refine V_bif_ne XC 23 dX8_smooth_17 (by decide) (fun h17 => ?_) (fun h17 => ?_)
    · skip
      have hn2 := of_decide_eq_true h17
      have hcc : ¬ inR n 1 8 = false := by unfold inR; rw [h17]; decide
      obtain ⟨q, rfl⟩ : ∃ q : Nat, n = (q : Int) := ⟨n.toNat, by omega⟩
      refine V_aload_n XC 0 rfl dX8_smooth_23 rfl ?_
      refine V_iload_n XC 1 rfl dX8_smooth_24 rfl ?_
      refine V_callV (rest := _) (q0 := 0) XC (c_X8_take l D kI kC _ _ _ _ _ _ _ _ _ _ _ _ _ _ _ k (by omega) hok) gX8_smooth_X8_take rfl kmX8_take ⟨⟨Nat.le_of_ble_eq_true rfl, Nat.le_of_ble_eq_true rfl⟩, Nat.le_of_ble_eq_true rfl, Nat.le_of_ble_eq_true rfl⟩ ⟨rfl, rfl⟩ rfl rfl (Nat.le_of_ble_eq_true rfl) [0, 1, 4, 5] rfl rfl (fun _ => rfl) rfl rfl dX8_smooth_25 (kV_of (fun u25 hq25 => ?_))
      obtain ⟨PX25, PY25⟩ := u25
      dsimp only [putW, List.set, Option.toList, List.cons_append, List.nil_append, padO, mdO, shW, trW, txW, hiW, liW, woW, taW]
      try dsimp only at hq25
      have hP25 := hq25
      have hxc := fun i hi => OkK_xy (t := skR G k) (i := i) hok hi
      refine V_iconst XC dX8_smooth_28 ?_
      refine V_istore_n XC 3 rfl dX8_smooth_29 (by decide) ?_
      dsimp only [List.set]
      refine V_loop (σ := Nat × (Nat → Int) × (Nat → Int) × (Nat → Int) × (Nat → Int)) (fun u => q - u.1) (fun u => u.1 ≤ q ∧ ∀ i, i < szk (skR G k) → u.2.1 i = smN (szk (skR G k)) (px (skR G k)) u.1 i ∧ u.2.2.1 i = smN (szk (skR G k)) (py (skR G k)) u.1 i) (fun u => [some (.ref (b 0)), some (.int (iI (k : Int))), some (.int (iI (q : Int))), some (.int (iI (u.1 : Int)))]) (fun u => (mdO b gp (ke : Int) (un : Int) (bu : Int) (ty : Int) pc gd rd (szk (skR G k) : Int) ln wd :: [(b 1, IA kI 801 G), (b 2, IA kI 4806 H), (b 9, IA kI 801 X), (b 10, IA kI 24 u.2.1), (b 11, IA kI 24 u.2.2.1), (b 12, IA kI 24 u.2.2.2.1), (b 13, IA kI 24 u.2.2.2.2)])) (0, PX25, PY25, QX, QY) ?_ rfl rfl (fun u hJ ih30 => ?_)
      · dsimp only
        exact ⟨Nat.zero_le _, hP25⟩
      obtain ⟨j, X2, Y2, QX2, QY2⟩ := u
      try dsimp only at hJ ih30 ⊢
      try dsimp only [List.cons_append, List.nil_append, padO, mdO, shW, trW, txW, hiW, liW, woW, taW]
      obtain ⟨hj, hall⟩ := hJ
      have hrX := smN_rngR (fun i hi => ⟨(hxc i hi).1, (hxc i hi).2.1⟩) j
      have hrY := smN_rngR (fun i hi => ⟨(hxc i hi).2.2.1, (hxc i hi).2.2.2⟩) j
      have hC2 : ∀ i, i < szk (skR G k) → 0 ≤ X2 i ∧ X2 i ≤ 1000 ∧ 0 ≤ Y2 i ∧ Y2 i ≤ 1000 := fun i hi => by
        rw [(hall i hi).1, (hall i hi).2]
        exact ⟨(hrX i hi).1, (hrX i hi).2, (hrY i hi).1, (hrY i hi).2⟩
      refine V_iload_n XC 3 rfl dX8_smooth_30 rfl ?_
      refine V_iload_n XC 2 rfl dX8_smooth_31 rfl ?_
      refine V_icmp_ge XC 45 dX8_smooth_32 (by decide) ⟨by omega, by omega⟩ ⟨by omega, by omega⟩ (fun h32 => ?_) (fun h32 => ?_)
      · skip
        refine V_aload_n XC 0 rfl dX8_smooth_45 rfl ?_
        refine V_callV (rest := _) (q0 := 0) XC (c_X8_dropSame l D kI kC _ _ _ _ _ _ _ _ _ _ _ _ _ _ (by omega) hC2) gX8_smooth_X8_dropSame rfl kmX8_dropSame ⟨⟨Nat.le_of_ble_eq_true rfl, Nat.le_of_ble_eq_true rfl⟩, Nat.le_of_ble_eq_true rfl, Nat.le_of_ble_eq_true rfl⟩ ⟨rfl, rfl⟩ rfl rfl (Nat.le_of_ble_eq_true rfl) [0, 4, 5] rfl rfl (fun _ => rfl) rfl rfl dX8_smooth_46 (kV_of (fun u46 hq46 => ?_))
        obtain ⟨po46, PX46, PY46⟩ := u46
        dsimp only [putW, List.set, Option.toList, List.cons_append, List.nil_append, padO, mdO, shW, trW, txW, hiW, liW, woW, taW]
        try dsimp only at hq46
        obtain ⟨hpo46, hD46⟩ := hq46
        obtain rfl : j = q := by omega
        have hsame : ptsOf (szk (skR G k)) X2 Y2 = ptsOf (szk (skR G k)) (smN (szk (skR G k)) (px (skR G k)) j) (smN (szk (skR G k)) (py (skR G k)) j) := ptsOf_congr hall
        have hok2 : OkP (ptsOf po46 PX46 PY46) := by rw [hD46]; exact OkP_dd (by omega) (by omega) hC2
        refine V_aload_n XC 0 rfl dX8_smooth_49 rfl ?_
        refine V_iload_n XC 1 rfl dX8_smooth_50 rfl ?_
        refine V_callV (rest := _) (q0 := 0) XC (c_X8_putBack l D kI kC _ _ _ _ _ _ _ _ _ _ _ _ _ _ _ _ _ _ _ _ _ h3 hN hH k hkn hok2) gX8_smooth_X8_putBack rfl kmX8_putBack ⟨⟨Nat.le_of_ble_eq_true rfl, Nat.le_of_ble_eq_true rfl⟩, Nat.le_of_ble_eq_true rfl, Nat.le_of_ble_eq_true rfl⟩ ⟨rfl, rfl⟩ rfl rfl (Nat.le_of_ble_eq_true rfl) [0, 1, 2, 3, 4, 5] rfl rfl (fun _ => rfl) rfl rfl dX8_smooth_51 (kI_of (fun r51 u51 hq51 => ?_))
        obtain ⟨G5, k5, u5, H5, X5⟩ := u51
        dsimp only [putW, List.set, Option.toList, List.cons_append, List.nil_append, padO, mdO, shW, trW, txW, hiW, liW, woW, taW]
        try dsimp only at hq51
        have h51 := hq51
        refine V_iret XC (G5, k5, u5, H5, X5, PX46, PY46, QX2, QY2, _) hrV rfl dX8_smooth_54 ?_
        have hp : smoothS S (k : Int) (j : Int) = repS S k (ptsOf po46 PX46 PY46) := by
          unfold smoothS
          rw [if_neg hh, if_neg hcc, Int.toNat_natCast, Int.toNat_natCast, hat, hD46, hsame]
        rw [hp]
        exact h51
      refine V_aload_n XC 0 rfl dX8_smooth_35 rfl ?_
      refine V_callV (rest := _) (q0 := 0) XC (c_X8_smoothOnce l D kI kC _ _ _ _ _ _ _ _ _ _ _ _ _ _ _ _ (by omega) (by omega) hC2) gX8_smooth_X8_smoothOnce rfl kmX8_smoothOnce ⟨⟨Nat.le_of_ble_eq_true rfl, Nat.le_of_ble_eq_true rfl⟩, Nat.le_of_ble_eq_true rfl, Nat.le_of_ble_eq_true rfl⟩ ⟨rfl, rfl⟩ rfl rfl (Nat.le_of_ble_eq_true rfl) [0, 4, 5, 6, 7] rfl rfl (fun _ => rfl) rfl rfl dX8_smooth_36 (kV_of (fun u36 hq36 => ?_))
      obtain ⟨PX36, PY36, QX36, QY36⟩ := u36
      dsimp only [putW, List.set, Option.toList, List.cons_append, List.nil_append, padO, mdO, shW, trW, txW, hiW, liW, woW, taW]
      try dsimp only at hq36
      have hS36 := hq36
      refine V_iinc XC dX8_smooth_39 rfl (by decide) ?_
      dsimp only [List.set]
      refine V_goto XC 30 dX8_smooth_42 (by decide) ?_
      refine ih30 (j + 1, PX36, PY36, QX36, QY36) ⟨by (try dsimp only); omega, fun i hi => ?_⟩ (by (try dsimp only); omega)
      dsimp only at hi ⊢
      have e1 := smF_congr (n := szk (skR G k)) (X := X2) (Y := smN (szk (skR G k)) (px (skR G k)) j) (fun i hi => (hall i hi).1) i hi
      have e2 := smF_congr (n := szk (skR G k)) (X := Y2) (Y := smN (szk (skR G k)) (py (skR G k)) j) (fun i hi => (hall i hi).2) i hi
      rw [(hS36 i hi).1, (hS36 i hi).2]
      exact ⟨e1, e2⟩
    have hp : smoothS S (k : Int) n = (-2, none) := by
      unfold smoothS
      rw [if_neg hh]
      exact if_pos h17
    refine V_bipush XC dX8_smooth_20 (by decide) ?_
    refine V_iret XC (G, ke, un, H, X, PX, PY, QX, QY, po) hrV rfl dX8_smooth_22 ?_
    rw [hp]
    exact ⟨rfl, hN, hH, h3⟩
  have hp : smoothS S z n = (-1, none) := if_pos (by have h9 := h5; simp at h9; unfold hasS; exact decide_eq_false (by omega))
  refine V_iconst XC dX8_smooth_8 ?_
  refine V_iret XC (G, ke, un, H, X, PX, PY, QX, QY, po) hrV rfl dX8_smooth_9 ?_
  rw [hp]
  exact ⟨rfl, hN, hH, h3⟩

set_option maxRecDepth 100000 in
set_option maxHeartbeats 4000000 in
theorem c_X8_shift (l : Launch) (D : va_G) (kI kC : ClassId) (b : Nat → Nat) (gp : Int) (ke : Nat) (un : Nat) (bu : Nat) (ty : Nat) (pc : Int) (gd : Bool) (rd : Int) (po : Int) (ln : Int) (wd : Int) (G : Nat → Int) (H : Nat → Int) (X : Nat → Int) (PX : Nat → Int) (PY : Nat → Int) (A : Nat → Int) (S : List Stk) (past fut : List (List Stk)) (h3 : Ok3 (S, past, fut)) (hN : NowR G S) (hH : RH (S, past, fut) ke un H A) (z dx dy : Int) (hz : IR z) (hdx : IR dx) (hdy : IR dy) : Con l yX8_shift wsX8_shift { frames := 5, cells := 0, slots := 0, locals := 109 } D kI kC [.ref (b 0), .int (iI z), .int (iI dx), .int (iI dy)] (mdO b gp (ke : Int) (un : Int) (bu : Int) (ty : Int) pc gd rd po ln wd :: [(b 1, IA kI 801 G), (b 2, IA kI 4806 H), (b 9, IA kI 801 X), (b 10, IA kI 24 PX), (b 11, IA kI 24 PY)]) (σ := (Nat → Int) × Nat × Nat × (Nat → Int) × (Nat → Int) × (Nat → Int) × (Nat → Int) × Int) (qI (fun r u => r = (shiftS S z dx dy).1 ∧ NowR u.1 (actS (S, past, fut) (shiftS S z dx dy).2).1 ∧ RH (actS (S, past, fut) (shiftS S z dx dy).2) u.2.1 u.2.2.1 u.2.2.2.1 A ∧ Ok3 (actS (S, past, fut) (shiftS S z dx dy).2))) (fun u => (mdO b gp (u.2.1 : Int) (u.2.2.1 : Int) (bu : Int) (ty : Int) pc gd rd u.2.2.2.2.2.2.2 ln wd :: [(b 1, IA kI 801 u.1), (b 2, IA kI 4806 u.2.2.2.1), (b 9, IA kI 801 u.2.2.2.2.1), (b 10, IA kI 24 u.2.2.2.2.2.1), (b 11, IA kI 24 u.2.2.2.2.2.2.1)])) := by
  refine Con.of (cc := cX8_shift) (maxL := 5) (ret := (some .int)) (by decide +kernel) rfl (List.forall_mem_cons.mpr ⟨rfl, List.forall_mem_cons.mpr ⟨rfl, List.forall_mem_cons.mpr ⟨rfl, List.forall_mem_cons.mpr ⟨rfl, fun _ h => absurd h List.not_mem_nil⟩⟩⟩⟩) (Nat.le_of_ble_eq_true rfl) ?_
  intro pV eV sV mV bV tV cV AV XC hrV
  have XC : Cx pV _ sV mV _ tV cV cX8_shift 5 RX8 wsX8_shift AV D kI kC := XC
  change VV _ _ _ _ _ _ _ _ _ _ _ _ _ _ _ _ _ [some (.ref (b 0)), some (.int (iI z)), some (.int (iI dx)), some (.int (iI dy)), none] _ _
  dsimp only [mdO, List.cons_append, List.nil_append]
  have hn16 : S.length ≤ 16 := h3.1.1
  have hS : OkS S := h3.1
  have hk6 : ke ≤ 6 := by rw [hH.1]; exact h3.2.1.1
  have hN0 : G 0 = (S.length : Int) := hN.1
  refine V_aload_n XC 0 rfl dX8_shift_0 rfl ?_
  refine V_iload_n XC 1 rfl dX8_shift_1 rfl ?_
  refine V_callV (rest := _) (q0 := 0) XC (c_X8_noStroke l D kI kC _ _ _ _ _ _ _ _ _ _ _ _ _ S.length hn16 hN0 _ hz) gX8_shift_X8_noStroke rfl kmX8_noStroke ⟨⟨Nat.le_of_ble_eq_true rfl, Nat.le_of_ble_eq_true rfl⟩, Nat.le_of_ble_eq_true rfl, Nat.le_of_ble_eq_true rfl⟩ ⟨rfl, rfl⟩ rfl rfl (Nat.le_of_ble_eq_true rfl) [0, 1] rfl rfl (fun _ => rfl) rfl rfl dX8_shift_2 (kR_of rfl (fun r2 hq2 => ?_))
  subst hq2
  refine V_bif_eq XC 10 dX8_shift_5 (by decide) (fun h5 => ?_) (fun h5 => ?_)
  · skip
    have hz2 : 0 ≤ z ∧ z < (S.length : Int) := by simpa using h5
    obtain ⟨k, rfl⟩ : ∃ k : Nat, z = (k : Int) := ⟨z.toNat, by omega⟩
    have hkn : k < S.length := by omega
    have hok := NowR_ok hN hS hkn
    have hat := NowR_at hN hkn
    have hf := skR_ok hok
    have hsz := skR_sz hok
    have hz3 := OkK_sz hok
    have hh : ¬ hasS S (k : Int) = false := by unfold hasS; rw [decide_eq_true hz2]; decide
    refine V_iload_n XC 2 rfl dX8_shift_10 rfl ?_
    refine V_sipush XC dX8_shift_11 (by decide) ?_
    refine V_sipush XC dX8_shift_14 (by decide) ?_
    refine V_callS (rest := _) XC (c_X8_in l D kI kC _ _ _ (by first | assumption | (unfold IR; omega)) (by first | assumption | (unfold IR; omega)) (by first | assumption | (unfold IR; omega))) gX8_shift_X8_in rfl kmX8_in ⟨⟨Nat.le_of_ble_eq_true rfl, Nat.le_of_ble_eq_true rfl⟩, Nat.le_of_ble_eq_true rfl, Nat.le_of_ble_eq_true rfl⟩ ⟨rfl, rfl⟩ rfl rfl (Nat.le_of_ble_eq_true rfl) [] rfl rfl (fun _ => rfl) dX8_shift_17 (kR_of rfl (fun r17 hq17 => ?_))
    subst hq17
    refine V_bif_eq XC 36 dX8_shift_20 (by decide) (fun h20 => ?_) (fun h20 => ?_)
    · skip
      have hp : shiftS S (k : Int) dx dy = (-2, none) := by
        unfold shiftS
        rw [if_neg hh]
        exact if_pos (Or.inl h20)
      refine V_bipush XC dX8_shift_36 (by decide) ?_
      refine V_iret XC (G, ke, un, H, X, PX, PY, po) hrV rfl dX8_shift_38 ?_
      rw [hp]
      exact ⟨rfl, hN, hH, h3⟩
    have hx2 := of_decide_eq_true h20
    refine V_iload_n XC 3 rfl dX8_shift_23 rfl ?_
    refine V_sipush XC dX8_shift_24 (by decide) ?_
    refine V_sipush XC dX8_shift_27 (by decide) ?_
    refine V_callS (rest := _) XC (c_X8_in l D kI kC _ _ _ (by first | assumption | (unfold IR; omega)) (by first | assumption | (unfold IR; omega)) (by first | assumption | (unfold IR; omega))) gX8_shift_X8_in rfl kmX8_in ⟨⟨Nat.le_of_ble_eq_true rfl, Nat.le_of_ble_eq_true rfl⟩, Nat.le_of_ble_eq_true rfl, Nat.le_of_ble_eq_true rfl⟩ ⟨rfl, rfl⟩ rfl rfl (Nat.le_of_ble_eq_true rfl) [] rfl rfl (fun _ => rfl) dX8_shift_30 (kR_of rfl (fun r30 hq30 => ?_))
    subst hq30
    refine V_bif_ne XC 39 dX8_shift_33 (by decide) (fun h33 => ?_) (fun h33 => ?_)
    · skip
      have hy2 := of_decide_eq_true h33
      have hcc : ¬ (inR dx (-1000) 1000 = false ∨ inR dy (-1000) 1000 = false) := by
        unfold inR
        rw [h20, h33]
        simp
      refine V_aload_n XC 0 rfl dX8_shift_39 rfl ?_
      refine V_iload_n XC 1 rfl dX8_shift_40 rfl ?_
      refine V_callV (rest := _) (q0 := 0) XC (c_X8_take l D kI kC _ _ _ _ _ _ _ _ _ _ _ _ _ _ _ k (by omega) hok) gX8_shift_X8_take rfl kmX8_take ⟨⟨Nat.le_of_ble_eq_true rfl, Nat.le_of_ble_eq_true rfl⟩, Nat.le_of_ble_eq_true rfl, Nat.le_of_ble_eq_true rfl⟩ ⟨rfl, rfl⟩ rfl rfl (Nat.le_of_ble_eq_true rfl) [0, 1, 4, 5] rfl rfl (fun _ => rfl) rfl rfl dX8_shift_41 (kV_of (fun u41 hq41 => ?_))
      obtain ⟨PX41, PY41⟩ := u41
      dsimp only [putW, List.set, Option.toList, List.cons_append, List.nil_append, padO, mdO, shW, trW, txW, hiW, liW, woW, taW]
      try dsimp only at hq41
      have hP41 := hq41
      have hxc := fun i hi => OkK_xy (t := skR G k) (i := i) hok hi
      have hL : lfS S k = mnF (px (skR G k)) (szk (skR G k) - 1) ∧ rtS S k = mxF (px (skR G k)) (szk (skR G k) - 1) ∧ tpS S k = mnF (py (skR G k)) (szk (skR G k) - 1) ∧ boS S k = mxF (py (skR G k)) (szk (skR G k) - 1) := by
        unfold lfS rtS tpS boS
        rw [hat]
        exact ⟨rfl, rfl, rfl, rfl⟩
      refine V_iconst XC dX8_shift_44 ?_
      refine V_istore XC dX8_shift_45 (by decide) ?_
      dsimp only [List.set]
      refine V_loop (σ := Nat × (Nat → Int) × (Nat → Int)) (fun u => szk (skR G k) - u.1) (fun u => u.1 ≤ szk (skR G k) ∧ (∀ i, i < szk (skR G k) → (i < u.1 → u.2.1 i = px (skR G k) i + dx ∧ u.2.2 i = py (skR G k) i + dy) ∧ (u.1 ≤ i → u.2.1 i = px (skR G k) i ∧ u.2.2 i = py (skR G k) i)) ∧ ∀ i, i < u.1 → (0 ≤ px (skR G k) i + dx ∧ px (skR G k) i + dx ≤ 1000) ∧ 0 ≤ py (skR G k) i + dy ∧ py (skR G k) i + dy ≤ 1000) (fun u => [some (.ref (b 0)), some (.int (iI (k : Int))), some (.int (iI dx)), some (.int (iI dy)), some (.int (iI (u.1 : Int)))]) (fun u => (mdO b gp (ke : Int) (un : Int) (bu : Int) (ty : Int) pc gd rd (szk (skR G k) : Int) ln wd :: [(b 1, IA kI 801 G), (b 2, IA kI 4806 H), (b 9, IA kI 801 X), (b 10, IA kI 24 u.2.1), (b 11, IA kI 24 u.2.2)])) (0, PX41, PY41) ?_ rfl rfl (fun u hJ ih47 => ?_)
      · dsimp only
        exact ⟨Nat.zero_le _, fun i hi => ⟨fun h => absurd h (Nat.not_lt_zero i), fun _ => hP41 i hi⟩, fun i h => absurd h (Nat.not_lt_zero i)⟩
      obtain ⟨i, X2, Y2⟩ := u
      try dsimp only at hJ ih47 ⊢
      try dsimp only [List.cons_append, List.nil_append, padO, mdO, shW, trW, txW, hiW, liW, woW, taW]
      obtain ⟨hi, hI, hRg⟩ := hJ
      refine V_iload XC dX8_shift_47 rfl ?_
      refine V_aload_n XC 0 rfl dX8_shift_49 rfl ?_
      refine V_get XC 17 flX8_shift_167 0 rfl rfl dX8_shift_50 ?_
      refine V_icmp_ge XC 113 dX8_shift_53 (by decide) ⟨by omega, by omega⟩ ⟨by omega, by omega⟩ (fun h53 => ?_) (fun h53 => ?_)
      · skip
        have hcong : ptsOf (szk (skR G k)) X2 Y2 = ptsOf (szk (skR G k)) (fun i => px (skR G k) i + dx) (fun i => py (skR G k) i + dy) := ptsOf_congr (fun m hm => (hI m hm).1 (by omega))
        have hok2 : OkP (ptsOf (szk (skR G k)) X2 Y2) := by
          rw [hcong]
          exact OkP_of (by omega) (by omega) (fun m hm => ⟨(hRg m (by omega)).1.1, (hRg m (by omega)).1.2, (hRg m (by omega)).2.1, (hRg m (by omega)).2.2⟩) (NR_shift (NR_xy hok))
        refine V_aload_n XC 0 rfl dX8_shift_113 rfl ?_
        refine V_iload_n XC 1 rfl dX8_shift_114 rfl ?_
        refine V_callV (rest := _) (q0 := 0) XC (c_X8_putBack l D kI kC _ _ _ _ _ _ _ _ _ _ _ _ _ _ _ _ _ _ _ _ _ h3 hN hH k hkn hok2) gX8_shift_X8_putBack rfl kmX8_putBack ⟨⟨Nat.le_of_ble_eq_true rfl, Nat.le_of_ble_eq_true rfl⟩, Nat.le_of_ble_eq_true rfl, Nat.le_of_ble_eq_true rfl⟩ ⟨rfl, rfl⟩ rfl rfl (Nat.le_of_ble_eq_true rfl) [0, 1, 2, 3, 4, 5] rfl rfl (fun _ => rfl) rfl rfl dX8_shift_115 (kI_of (fun r115 u115 hq115 => ?_))
        obtain ⟨G5, k5, u5, H5, X5⟩ := u115
        dsimp only [putW, List.set, Option.toList, List.cons_append, List.nil_append, padO, mdO, shW, trW, txW, hiW, liW, woW, taW]
        try dsimp only at hq115
        have h51 := hq115
        refine V_iret XC (G5, k5, u5, H5, X5, X2, Y2, _) hrV rfl dX8_shift_118 ?_
        have hp : shiftS S (k : Int) dx dy = repS S k (ptsOf (szk (skR G k)) X2 Y2) := by
          obtain ⟨i1, j1, b1⟩ := mnF_in (X := px (skR G k)) (n := szk (skR G k) - 1)
          obtain ⟨i2, j2, b2⟩ := mxF_in (X := px (skR G k)) (n := szk (skR G k) - 1)
          obtain ⟨i3, j3, b3⟩ := mnF_in (X := py (skR G k)) (n := szk (skR G k) - 1)
          obtain ⟨i4, j4, b4⟩ := mxF_in (X := py (skR G k)) (n := szk (skR G k) - 1)
          have g1 := hRg i1 (by omega)
          have g2 := hRg i2 (by omega)
          have g3 := hRg i3 (by omega)
          have g4 := hRg i4 (by omega)
          unfold shiftS
          rw [if_neg hh, if_neg hcc, Int.toNat_natCast, hL.1, hL.2.1, hL.2.2.1, hL.2.2.2, if_neg, hcong, hat]
          unfold inR
          simp only [decide_eq_false_iff_not]
          omega
        rw [hp]
        exact h51
      have hpi := (hI i (by omega)).2 (Nat.le_refl _)
      have hci := hxc i (by omega)
      refine V_aload_n XC 0 rfl dX8_shift_56 rfl ?_
      refine V_get XC 18 flX8_shift_42 0 rfl rfl dX8_shift_57 ?_
      refine V_iload XC dX8_shift_60 rfl ?_
      refine V_dup2 XC dX8_shift_62 rfl rfl ?_
      refine V_iald XC (i) 4 rfl (by omega) (by omega) (by decide) dX8_shift_63 ?_
      rw [hpi.1]
      refine V_iload_n XC 2 rfl dX8_shift_64 rfl ?_
      refine V_iadd XC dX8_shift_65 ?_
      refine V_iast XC (i) 4 rfl (by omega) (by omega) (by decide) dX8_shift_66 ?_
      dsimp only [List.set]
      refine V_aload_n XC 0 rfl dX8_shift_67 rfl ?_
      refine V_get XC 19 flX8_shift_45 0 rfl rfl dX8_shift_68 ?_
      refine V_iload XC dX8_shift_71 rfl ?_
      refine V_dup2 XC dX8_shift_73 rfl rfl ?_
      refine V_iald XC (i) 5 rfl (by omega) (by omega) (by decide) dX8_shift_74 ?_
      rw [hpi.2]
      refine V_iload_n XC 3 rfl dX8_shift_75 rfl ?_
      refine V_iadd XC dX8_shift_76 ?_
      refine V_iast XC (i) 5 rfl (by omega) (by omega) (by decide) dX8_shift_77 ?_
      dsimp only [List.set]
      refine V_aload_n XC 0 rfl dX8_shift_78 rfl ?_
      refine V_get XC 18 flX8_shift_42 0 rfl rfl dX8_shift_79 ?_
      refine V_iload XC dX8_shift_82 rfl ?_
      refine V_iald XC (i) 4 rfl (by omega) (by omega) (by decide) dX8_shift_84 ?_
      rw [upz_s]
      refine V_callS (rest := _) XC (c_X8_isPlace l D kI kC _ (by unfold IR; omega)) gX8_shift_X8_isPlace rfl kmX8_isPlace ⟨⟨Nat.le_of_ble_eq_true rfl, Nat.le_of_ble_eq_true rfl⟩, Nat.le_of_ble_eq_true rfl, Nat.le_of_ble_eq_true rfl⟩ ⟨rfl, rfl⟩ rfl rfl (Nat.le_of_ble_eq_true rfl) [] rfl rfl (fun _ => rfl) dX8_shift_85 (kR_of rfl (fun r85 hq85 => ?_))
      subst hq85
      refine V_bif_eq XC 104 dX8_shift_88 (by decide) (fun h88 => ?_) (fun h88 => ?_)
      · skip
        have h99 := of_decide_eq_false h88
        refine V_bipush XC dX8_shift_104 (by decide) ?_
        refine V_iret XC (G, ke, un, H, X, upz X2 i (px (skR G k) i + dx), upz Y2 i (py (skR G k) i + dy), _) hrV rfl dX8_shift_106 ?_
        have hp : shiftS S (k : Int) dx dy = (-4, none) := by
          have b1 := mnF_le (X := px (skR G k)) (n := szk (skR G k) - 1) i (by omega)
          have b2 := le_mxF (X := px (skR G k)) (n := szk (skR G k) - 1) i (by omega)
          have b3 := mnF_le (X := py (skR G k)) (n := szk (skR G k) - 1) i (by omega)
          have b4 := le_mxF (X := py (skR G k)) (n := szk (skR G k) - 1) i (by omega)
          unfold shiftS
          rw [if_neg hh, if_neg hcc, Int.toNat_natCast, hL.1, hL.2.1, hL.2.2.1, hL.2.2.2, if_pos]
          unfold inR
          simp only [decide_eq_false_iff_not]
          omega
        rw [hp]
        exact ⟨rfl, hN, hH, h3⟩
      have h98 := of_decide_eq_true h88
      refine V_aload_n XC 0 rfl dX8_shift_91 rfl ?_
      refine V_get XC 19 flX8_shift_45 0 rfl rfl dX8_shift_92 ?_
      refine V_iload XC dX8_shift_95 rfl ?_
      refine V_iald XC (i) 5 rfl (by omega) (by omega) (by decide) dX8_shift_97 ?_
      rw [upz_s]
      refine V_callS (rest := _) XC (c_X8_isPlace l D kI kC _ (by unfold IR; omega)) gX8_shift_X8_isPlace rfl kmX8_isPlace ⟨⟨Nat.le_of_ble_eq_true rfl, Nat.le_of_ble_eq_true rfl⟩, Nat.le_of_ble_eq_true rfl, Nat.le_of_ble_eq_true rfl⟩ ⟨rfl, rfl⟩ rfl rfl (Nat.le_of_ble_eq_true rfl) [] rfl rfl (fun _ => rfl) dX8_shift_98 (kR_of rfl (fun r98 hq98 => ?_))
      subst hq98
      refine V_bif_ne XC 107 dX8_shift_101 (by decide) (fun h101 => ?_) (fun h101 => ?_)
      · skip
        have h97 := of_decide_eq_true h101
        refine V_iinc XC dX8_shift_107 rfl (by decide) ?_
        dsimp only [List.set]
        refine V_goto XC 47 dX8_shift_110 (by decide) ?_
        refine ih47 (i + 1, upz X2 i (px (skR G k) i + dx), upz Y2 i (py (skR G k) i + dy)) ⟨by (try dsimp only); omega, fun m hm => ⟨fun h2 => ?_, fun h2 => ?_⟩, fun m hm => ?_⟩ (by (try dsimp only); omega)
        · dsimp only at h2 ⊢
          by_cases q : m = i
          · subst q; rw [upz_s, upz_s]; exact ⟨rfl, rfl⟩
          · rw [upz_n q, upz_n q]; exact (hI m hm).1 (by omega)
        · dsimp only at h2 ⊢
          rw [upz_n (by omega), upz_n (by omega)]; exact (hI m hm).2 (by omega)
        · dsimp only at hm
          by_cases q : m = i
          · subst q; exact ⟨h98, h97⟩
          · exact hRg m (by omega)
      have h99 := of_decide_eq_false h101
      refine V_bipush XC dX8_shift_104 (by decide) ?_
      refine V_iret XC (G, ke, un, H, X, upz X2 i (px (skR G k) i + dx), upz Y2 i (py (skR G k) i + dy), _) hrV rfl dX8_shift_106 ?_
      have hp : shiftS S (k : Int) dx dy = (-4, none) := by
        have b1 := mnF_le (X := px (skR G k)) (n := szk (skR G k) - 1) i (by omega)
        have b2 := le_mxF (X := px (skR G k)) (n := szk (skR G k) - 1) i (by omega)
        have b3 := mnF_le (X := py (skR G k)) (n := szk (skR G k) - 1) i (by omega)
        have b4 := le_mxF (X := py (skR G k)) (n := szk (skR G k) - 1) i (by omega)
        unfold shiftS
        rw [if_neg hh, if_neg hcc, Int.toNat_natCast, hL.1, hL.2.1, hL.2.2.1, hL.2.2.2, if_pos]
        unfold inR
        simp only [decide_eq_false_iff_not]
        omega
      rw [hp]
      exact ⟨rfl, hN, hH, h3⟩
    have hp : shiftS S (k : Int) dx dy = (-2, none) := by
      unfold shiftS
      rw [if_neg hh]
      exact if_pos (Or.inr h33)
    refine V_bipush XC dX8_shift_36 (by decide) ?_
    refine V_iret XC (G, ke, un, H, X, PX, PY, po) hrV rfl dX8_shift_38 ?_
    rw [hp]
    exact ⟨rfl, hN, hH, h3⟩
  have hp : shiftS S z dx dy = (-1, none) := if_pos (by have h9 := h5; simp at h9; unfold hasS; exact decide_eq_false (by omega))
  refine V_iconst XC dX8_shift_8 ?_
  refine V_iret XC (G, ke, un, H, X, PX, PY, po) hrV rfl dX8_shift_9 ?_
  rw [hp]
  exact ⟨rfl, hN, hH, h3⟩

end REFF
