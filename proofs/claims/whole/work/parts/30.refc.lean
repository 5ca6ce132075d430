/-! the reference: a stroke's points, put back, bounds, places -/
section REFC

set_option maxRecDepth 100000 in
set_option maxHeartbeats 4000000 in
theorem c_X8_take (l : Launch) (D : va_G) (kI kC : ClassId) (b : Nat → Nat) (gp : Int) (ke : Nat) (un : Nat) (bu : Nat) (ty : Nat) (pc : Int) (gd : Bool) (rd : Int) (po : Int) (ln : Int) (wd : Int) (G : Nat → Int) (PX : Nat → Int) (PY : Nat → Int) (k : Nat) (hk : k < 16) (hs : OkK (skR G k)) : Con l yX8_take wsX8_take { frames := 1, cells := 0, slots := 0, locals := 22 } D kI kC [.ref (b 0), .int (iI (k : Int))] (mdO b gp (ke : Int) (un : Int) (bu : Int) (ty : Int) pc gd rd po ln wd :: [(b 1, IA kI 801 G), (b 10, IA kI 24 PX), (b 11, IA kI 24 PY)]) (σ := (Nat → Int) × (Nat → Int)) (qV (fun u => ∀ i, i < szk (skR G k) → u.1 i = px (skR G k) i ∧ u.2 i = py (skR G k) i)) (fun u => (mdO b gp (ke : Int) (un : Int) (bu : Int) (ty : Int) pc gd rd (szk (skR G k) : Int) ln wd :: [(b 1, IA kI 801 G), (b 10, IA kI 24 u.1), (b 11, IA kI 24 u.2)])) := by
  refine Con.of (cc := cX8_take) (maxL := 3) (ret := none) (by decide +kernel) rfl (List.forall_mem_cons.mpr ⟨rfl, List.forall_mem_cons.mpr ⟨rfl, fun _ h => absurd h List.not_mem_nil⟩⟩) (Nat.le_of_ble_eq_true rfl) ?_
  intro pV eV sV mV bV tV cV AV XC hrV
  have XC : Cx pV _ sV mV _ tV cV cX8_take 3 RX8 wsX8_take AV D kI kC := XC
  change VV _ _ _ _ _ _ _ _ _ _ _ _ _ _ _ _ _ [some (.ref (b 0)), some (.int (iI (k : Int))), none] _ _
  dsimp only [mdO, List.cons_append, List.nil_append]
  have hf := skR_ok hs
  have hsz := skR_sz hs
  have hz3 := OkK_sz hs
  refine V_aload_n XC 0 rfl dX8_take_0 rfl ?_
  refine V_aload_n XC 0 rfl dX8_take_1 rfl ?_
  refine V_iload_n XC 1 rfl dX8_take_2 rfl ?_
  refine V_callV (rest := _) (q0 := 0) XC (c_X8_size l D kI kC _ _ _ _ _ _ _ _ _ _ _ _ _ _ (by omega)) gX8_take_X8_size rfl kmX8_size ⟨⟨Nat.le_of_ble_eq_true rfl, Nat.le_of_ble_eq_true rfl⟩, Nat.le_of_ble_eq_true rfl, Nat.le_of_ble_eq_true rfl⟩ ⟨rfl, rfl⟩ rfl rfl (Nat.le_of_ble_eq_true rfl) [0, 1] rfl rfl (fun _ => rfl) rfl rfl dX8_take_3 (kR_of rfl (fun r3 hq3 => ?_))
  subst hq3
  rw [hsz]
  refine V_putI XC 17 flX8_take_167 fpX8 pdX8_17 rfl 0 rfl (Nat.le_of_ble_eq_true rfl) dX8_take_6 ?_
  dsimp only [List.set]
  refine V_iconst XC dX8_take_9 ?_
  refine V_istore_n XC 2 rfl dX8_take_10 (by decide) ?_
  dsimp only [List.set]
  refine V_loop (σ := Nat × (Nat → Int) × (Nat → Int)) (fun u => szk (skR G k) - u.1) (fun u => u.1 ≤ szk (skR G k) ∧ ∀ i, i < u.1 → u.2.1 i = px (skR G k) i ∧ u.2.2 i = py (skR G k) i) (fun u => [some (.ref (b 0)), some (.int (iI (k : Int))), some (.int (iI (u.1 : Int)))]) (fun u => (mdO b gp (ke : Int) (un : Int) (bu : Int) (ty : Int) pc gd rd (szk (skR G k) : Int) ln wd :: [(b 1, IA kI 801 G), (b 10, IA kI 24 u.2.1), (b 11, IA kI 24 u.2.2)])) (0, PX, PY) ?_ rfl rfl (fun u hJ ih11 => ?_)
  · dsimp only
    exact ⟨Nat.zero_le _, fun i hi => absurd hi (Nat.not_lt_zero i)⟩
  obtain ⟨i, PX2, PY2⟩ := u
  try dsimp only at hJ ih11 ⊢
  try dsimp only [List.cons_append, List.nil_append, padO, mdO, shW, trW, txW, hiW, liW, woW, taW]
  obtain ⟨hi, hP⟩ := hJ
  refine V_iload_n XC 2 rfl dX8_take_11 rfl ?_
  refine V_aload_n XC 0 rfl dX8_take_12 rfl ?_
  refine V_get XC 17 flX8_take_167 0 rfl rfl dX8_take_13 ?_
  refine V_icmp_ge XC 49 dX8_take_16 (by decide) ⟨by omega, by omega⟩ ⟨by omega, by omega⟩ (fun h16 => ?_) (fun h16 => ?_)
  · skip
    refine V_vret XC (PX2, PY2) hrV rfl dX8_take_49 ?_
    intro m hm
    exact hP m (by omega)
  have hxy := skR_xy (F := G) (k := k) (i := i) (by omega)
  refine V_aload_n XC 0 rfl dX8_take_19 rfl ?_
  refine V_get XC 18 flX8_take_42 0 rfl rfl dX8_take_20 ?_
  refine V_iload_n XC 2 rfl dX8_take_23 rfl ?_
  refine V_aload_n XC 0 rfl dX8_take_24 rfl ?_
  refine V_iload_n XC 1 rfl dX8_take_25 rfl ?_
  refine V_iload_n XC 2 rfl dX8_take_26 rfl ?_
  refine V_callV (rest := _) (q0 := 0) XC (c_X8_x l D kI kC _ _ _ _ _ _ _ _ _ _ _ _ _ k i (by omega) (by omega)) gX8_take_X8_x rfl kmX8_x ⟨⟨Nat.le_of_ble_eq_true rfl, Nat.le_of_ble_eq_true rfl⟩, Nat.le_of_ble_eq_true rfl, Nat.le_of_ble_eq_true rfl⟩ ⟨rfl, rfl⟩ rfl rfl (Nat.le_of_ble_eq_true rfl) [0, 1] rfl rfl (fun _ => rfl) rfl rfl dX8_take_27 (kR_of rfl (fun r27 hq27 => ?_))
  subst hq27
  rw [hxy.1]
  refine V_iast XC (i) 2 rfl (by omega) (by omega) (by decide) dX8_take_30 ?_
  dsimp only [List.set]
  refine V_aload_n XC 0 rfl dX8_take_31 rfl ?_
  refine V_get XC 19 flX8_take_45 0 rfl rfl dX8_take_32 ?_
  refine V_iload_n XC 2 rfl dX8_take_35 rfl ?_
  refine V_aload_n XC 0 rfl dX8_take_36 rfl ?_
  refine V_iload_n XC 1 rfl dX8_take_37 rfl ?_
  refine V_iload_n XC 2 rfl dX8_take_38 rfl ?_
  refine V_callV (rest := _) (q0 := 0) XC (c_X8_y l D kI kC _ _ _ _ _ _ _ _ _ _ _ _ _ k i (by omega) (by omega)) gX8_take_X8_y rfl kmX8_y ⟨⟨Nat.le_of_ble_eq_true rfl, Nat.le_of_ble_eq_true rfl⟩, Nat.le_of_ble_eq_true rfl, Nat.le_of_ble_eq_true rfl⟩ ⟨rfl, rfl⟩ rfl rfl (Nat.le_of_ble_eq_true rfl) [0, 1] rfl rfl (fun _ => rfl) rfl rfl dX8_take_39 (kR_of rfl (fun r39 hq39 => ?_))
  subst hq39
  rw [hxy.2]
  refine V_iast XC (i) 3 rfl (by omega) (by omega) (by decide) dX8_take_42 ?_
  dsimp only [List.set]
  refine V_iinc XC dX8_take_43 rfl (by decide) ?_
  dsimp only [List.set]
  refine V_goto XC 11 dX8_take_46 (by decide) ?_
  refine ih11 (i + 1, upz PX2 i (px (skR G k) i), upz PY2 i (py (skR G k) i)) ⟨by (try dsimp only); omega, fun m hm => ?_⟩ (by (try dsimp only); omega)
  dsimp only at hm ⊢
  by_cases q : m = i
  · subst q; rw [upz_s, upz_s]; exact ⟨rfl, rfl⟩
  · rw [upz_n q, upz_n q]; exact hP m (by omega)

set_option maxRecDepth 100000 in
set_option maxHeartbeats 4000000 in
theorem c_X8_dropSame (l : Launch) (D : va_G) (kI kC : ClassId) (b : Nat → Nat) (gp : Int) (ke : Nat) (un : Nat) (bu : Nat) (ty : Nat) (pc : Int) (gd : Bool) (rd : Int) (po : Nat) (ln : Int) (wd : Int) (PX : Nat → Int) (PY : Nat → Int) (hp : po ≤ 24) (hC : ∀ i, i < po → 0 ≤ PX i ∧ PX i ≤ 1000 ∧ 0 ≤ PY i ∧ PY i ≤ 1000) : Con l yX8_dropSame wsX8_dropSame { frames := 0, cells := 0, slots := 0, locals := 0 } D kI kC [.ref (b 0)] (mdO b gp (ke : Int) (un : Int) (bu : Int) (ty : Int) pc gd rd (po : Int) ln wd :: [(b 10, IA kI 24 PX), (b 11, IA kI 24 PY)]) (σ := Nat × (Nat → Int) × (Nat → Int)) (qV (fun u => u.1 ≤ 24 ∧ ptsOf u.1 u.2.1 u.2.2 = dd (ptsOf po PX PY))) (fun u => (mdO b gp (ke : Int) (un : Int) (bu : Int) (ty : Int) pc gd rd (u.1 : Int) ln wd :: [(b 10, IA kI 24 u.2.1), (b 11, IA kI 24 u.2.2)])) := by
  refine Con.of (cc := cX8_dropSame) (maxL := 3) (ret := none) (by decide +kernel) rfl (List.forall_mem_cons.mpr ⟨rfl, fun _ h => absurd h List.not_mem_nil⟩) (Nat.le_of_ble_eq_true rfl) ?_
  intro pV eV sV mV bV tV cV AV XC hrV
  have XC : Cx pV _ sV mV _ tV cV cX8_dropSame 3 RX8 wsX8_dropSame AV D kI kC := XC
  change VV _ _ _ _ _ _ _ _ _ _ _ _ _ _ _ _ _ [some (.ref (b 0)), none, none] _ _
  dsimp only [mdO, List.cons_append, List.nil_append]
  refine V_iconst XC dX8_dropSame_0 ?_
  refine V_istore_n XC 1 rfl dX8_dropSame_1 (by decide) ?_
  dsimp only [List.set]
  refine V_iconst XC dX8_dropSame_2 ?_
  refine V_istore_n XC 2 rfl dX8_dropSame_3 (by decide) ?_
  dsimp only [List.set]
  refine V_loop (σ := Nat × Nat × (Nat → Int) × (Nat → Int)) (fun u => po - u.1) (fun u => u.1 ≤ po ∧ u.2.1 ≤ u.1 ∧ ptsOf u.2.1 u.2.2.1 u.2.2.2 = dd (ptsOf u.1 PX PY) ∧ (∀ i, u.1 ≤ i → u.2.2.1 i = PX i ∧ u.2.2.2 i = PY i) ∧ ∀ i, i < u.2.1 → 0 ≤ u.2.2.1 i ∧ u.2.2.1 i ≤ 1000 ∧ 0 ≤ u.2.2.2 i ∧ u.2.2.2 i ≤ 1000) (fun u => [some (.ref (b 0)), some (.int (iI (u.2.1 : Int))), some (.int (iI (u.1 : Int)))]) (fun u => (mdO b gp (ke : Int) (un : Int) (bu : Int) (ty : Int) pc gd rd (po : Int) ln wd :: [(b 10, IA kI 24 u.2.2.1), (b 11, IA kI 24 u.2.2.2)])) (0, 0, PX, PY) ?_ rfl rfl (fun u hJ ih4 => ?_)
  · dsimp only
    exact ⟨Nat.zero_le _, Nat.le_refl _, rfl, fun i _ => ⟨rfl, rfl⟩, fun i hi => absurd hi (Nat.not_lt_zero i)⟩
  obtain ⟨p, n, PX2, PY2⟩ := u
  try dsimp only at hJ ih4 ⊢
  try dsimp only [List.cons_append, List.nil_append, padO, mdO, shW, trW, txW, hiW, liW, woW, taW]
  obtain ⟨hpp, hn, hD, hE, hK⟩ := hJ
  refine V_iload_n XC 2 rfl dX8_dropSame_4 rfl ?_
  refine V_aload_n XC 0 rfl dX8_dropSame_5 rfl ?_
  refine V_get XC 17 flX8_dropSame_167 0 rfl rfl dX8_dropSame_6 ?_
  refine V_icmp_ge XC 83 dX8_dropSame_9 (by decide) ⟨by omega, by omega⟩ ⟨by omega, by omega⟩ (fun h9 => ?_) (fun h9 => ?_)
  · skip
    obtain rfl : p = po := by omega
    refine V_aload_n XC 0 rfl dX8_dropSame_83 rfl ?_
    refine V_iload_n XC 1 rfl dX8_dropSame_84 rfl ?_
    refine V_putI XC 17 flX8_dropSame_167 fpX8 pdX8_17 rfl 0 rfl (Nat.le_of_ble_eq_true rfl) dX8_dropSame_85 ?_
    dsimp only [List.set]
    refine V_vret XC (n, PX2, PY2) hrV rfl dX8_dropSame_88 ?_
    exact ⟨by (try dsimp only); omega, hD⟩
  have hc := hC p (by omega)
  rw [← (hE p (Nat.le_refl p)).1, ← (hE p (Nat.le_refl p)).2] at hc
  refine V_iload_n XC 1 rfl dX8_dropSame_12 rfl ?_
  refine V_if_eq XC 50 dX8_dropSame_13 (by decide) ⟨by omega, by omega⟩ (fun h13 => ?_) (fun h13 => ?_)
  · skip
    have hL : isL n PX2 PY2 (PX2 p) (PY2 p) = false := by unfold isL; first | exact decide_eq_false (by omega) | exact decide_eq_true (by omega)
    refine V_aload_n XC 0 rfl dX8_dropSame_50 rfl ?_
    refine V_get XC 18 flX8_dropSame_42 0 rfl rfl dX8_dropSame_51 ?_
    refine V_iload_n XC 1 rfl dX8_dropSame_54 rfl ?_
    refine V_aload_n XC 0 rfl dX8_dropSame_55 rfl ?_
    refine V_get XC 18 flX8_dropSame_42 0 rfl rfl dX8_dropSame_56 ?_
    refine V_iload_n XC 2 rfl dX8_dropSame_59 rfl ?_
    refine V_iald XC (p) 1 rfl (by omega) (by omega) (by decide) dX8_dropSame_60 ?_
    refine V_iast XC (n) 1 rfl (by omega) (by omega) (by decide) dX8_dropSame_61 ?_
    dsimp only [List.set]
    refine V_aload_n XC 0 rfl dX8_dropSame_62 rfl ?_
    refine V_get XC 19 flX8_dropSame_45 0 rfl rfl dX8_dropSame_63 ?_
    refine V_iload_n XC 1 rfl dX8_dropSame_66 rfl ?_
    refine V_aload_n XC 0 rfl dX8_dropSame_67 rfl ?_
    refine V_get XC 19 flX8_dropSame_45 0 rfl rfl dX8_dropSame_68 ?_
    refine V_iload_n XC 2 rfl dX8_dropSame_71 rfl ?_
    refine V_iald XC (p) 2 rfl (by omega) (by omega) (by decide) dX8_dropSame_72 ?_
    refine V_iast XC (n) 2 rfl (by omega) (by omega) (by decide) dX8_dropSame_73 ?_
    dsimp only [List.set]
    refine V_iinc XC dX8_dropSame_74 rfl (by decide) ?_
    dsimp only [List.set]
    refine V_iinc XC dX8_dropSame_77 rfl (by decide) ?_
    dsimp only [List.set]
    refine V_goto XC 4 dX8_dropSame_80 (by decide) ?_
    first
    | (refine ih4 (p + 1, n + 1, upz PX2 n (PX2 p), upz PY2 n (PY2 p)) ⟨by (try dsimp only); omega, by (try dsimp only); omega, ?_, fun i hi => ?_, fun i hi => ?_⟩ (by (try dsimp only); omega)
       · dsimp only
         rw [ptsOf_s p, dd_app, ← hD, ← (hE p (Nat.le_refl p)).1, ← (hE p (Nat.le_refl p)).2]
         exact (addP_no hL).symm
       · dsimp only at hi ⊢
         rw [upz_n (by omega), upz_n (by omega)]
         exact hE i (by omega)
       · dsimp only at hi ⊢
         by_cases q : i = n
         · subst q; rw [upz_s, upz_s]; exact hc
         · rw [upz_n q, upz_n q]; exact hK i (by omega))
    | (refine ih4 (p + 1, n, PX2, PY2) ⟨by (try dsimp only); omega, by (try dsimp only); omega, ?_, fun i hi => ?_, hK⟩ (by (try dsimp only); omega)
       · dsimp only
         rw [ptsOf_s p, dd_app, ← hD, ← (hE p (Nat.le_refl p)).1, ← (hE p (Nat.le_refl p)).2]
         exact (addP_yes hL).symm
       · dsimp only at hi ⊢
         exact hE i (by omega))
  have hk9 := hK (n - 1) (by omega)
  refine V_aload_n XC 0 rfl dX8_dropSame_16 rfl ?_
  refine V_get XC 18 flX8_dropSame_42 0 rfl rfl dX8_dropSame_17 ?_
  refine V_iload_n XC 2 rfl dX8_dropSame_20 rfl ?_
  refine V_iald XC (p) 1 rfl (by omega) (by omega) (by decide) dX8_dropSame_21 ?_
  refine V_aload_n XC 0 rfl dX8_dropSame_22 rfl ?_
  refine V_get XC 18 flX8_dropSame_42 0 rfl rfl dX8_dropSame_23 ?_
  refine V_iload_n XC 1 rfl dX8_dropSame_26 rfl ?_
  refine V_iconst XC dX8_dropSame_27 ?_
  refine V_isub XC dX8_dropSame_28 ?_
  refine V_iald XC (n - 1) 1 rfl (by omega) (by omega) (by decide) dX8_dropSame_29 ?_
  refine V_icmp_ne XC 50 dX8_dropSame_30 (by decide) ⟨by omega, by omega⟩ ⟨by omega, by omega⟩ (fun h30 => ?_) (fun h30 => ?_)
  · skip
    have hL : isL n PX2 PY2 (PX2 p) (PY2 p) = false := by unfold isL; first | exact decide_eq_false (by omega) | exact decide_eq_true (by omega)
    refine V_aload_n XC 0 rfl dX8_dropSame_50 rfl ?_
    refine V_get XC 18 flX8_dropSame_42 0 rfl rfl dX8_dropSame_51 ?_
    refine V_iload_n XC 1 rfl dX8_dropSame_54 rfl ?_
    refine V_aload_n XC 0 rfl dX8_dropSame_55 rfl ?_
    refine V_get XC 18 flX8_dropSame_42 0 rfl rfl dX8_dropSame_56 ?_
    refine V_iload_n XC 2 rfl dX8_dropSame_59 rfl ?_
    refine V_iald XC (p) 1 rfl (by omega) (by omega) (by decide) dX8_dropSame_60 ?_
    refine V_iast XC (n) 1 rfl (by omega) (by omega) (by decide) dX8_dropSame_61 ?_
    dsimp only [List.set]
    refine V_aload_n XC 0 rfl dX8_dropSame_62 rfl ?_
    refine V_get XC 19 flX8_dropSame_45 0 rfl rfl dX8_dropSame_63 ?_
    refine V_iload_n XC 1 rfl dX8_dropSame_66 rfl ?_
    refine V_aload_n XC 0 rfl dX8_dropSame_67 rfl ?_
    refine V_get XC 19 flX8_dropSame_45 0 rfl rfl dX8_dropSame_68 ?_
    refine V_iload_n XC 2 rfl dX8_dropSame_71 rfl ?_
    refine V_iald XC (p) 2 rfl (by omega) (by omega) (by decide) dX8_dropSame_72 ?_
    refine V_iast XC (n) 2 rfl (by omega) (by omega) (by decide) dX8_dropSame_73 ?_
    dsimp only [List.set]
    refine V_iinc XC dX8_dropSame_74 rfl (by decide) ?_
    dsimp only [List.set]
    refine V_iinc XC dX8_dropSame_77 rfl (by decide) ?_
    dsimp only [List.set]
    refine V_goto XC 4 dX8_dropSame_80 (by decide) ?_
    first
    | (refine ih4 (p + 1, n + 1, upz PX2 n (PX2 p), upz PY2 n (PY2 p)) ⟨by (try dsimp only); omega, by (try dsimp only); omega, ?_, fun i hi => ?_, fun i hi => ?_⟩ (by (try dsimp only); omega)
       · dsimp only
         rw [ptsOf_s p, dd_app, ← hD, ← (hE p (Nat.le_refl p)).1, ← (hE p (Nat.le_refl p)).2]
         exact (addP_no hL).symm
       · dsimp only at hi ⊢
         rw [upz_n (by omega), upz_n (by omega)]
         exact hE i (by omega)
       · dsimp only at hi ⊢
         by_cases q : i = n
         · subst q; rw [upz_s, upz_s]; exact hc
         · rw [upz_n q, upz_n q]; exact hK i (by omega))
    | (refine ih4 (p + 1, n, PX2, PY2) ⟨by (try dsimp only); omega, by (try dsimp only); omega, ?_, fun i hi => ?_, hK⟩ (by (try dsimp only); omega)
       · dsimp only
         rw [ptsOf_s p, dd_app, ← hD, ← (hE p (Nat.le_refl p)).1, ← (hE p (Nat.le_refl p)).2]
         exact (addP_yes hL).symm
       · dsimp only at hi ⊢
         exact hE i (by omega))
  refine V_aload_n XC 0 rfl dX8_dropSame_33 rfl ?_
  refine V_get XC 19 flX8_dropSame_45 0 rfl rfl dX8_dropSame_34 ?_
  refine V_iload_n XC 2 rfl dX8_dropSame_37 rfl ?_
  refine V_iald XC (p) 2 rfl (by omega) (by omega) (by decide) dX8_dropSame_38 ?_
  refine V_aload_n XC 0 rfl dX8_dropSame_39 rfl ?_
  refine V_get XC 19 flX8_dropSame_45 0 rfl rfl dX8_dropSame_40 ?_
  refine V_iload_n XC 1 rfl dX8_dropSame_43 rfl ?_
  refine V_iconst XC dX8_dropSame_44 ?_
  refine V_isub XC dX8_dropSame_45 ?_
  refine V_iald XC (n - 1) 2 rfl (by omega) (by omega) (by decide) dX8_dropSame_46 ?_
  refine V_icmp_eq XC 77 dX8_dropSame_47 (by decide) ⟨by omega, by omega⟩ ⟨by omega, by omega⟩ (fun h47 => ?_) (fun h47 => ?_)
  · skip
    have hL : isL n PX2 PY2 (PX2 p) (PY2 p) = true := by unfold isL; first | exact decide_eq_false (by omega) | exact decide_eq_true (by omega)
    refine V_iinc XC dX8_dropSame_77 rfl (by decide) ?_
    dsimp only [List.set]
    refine V_goto XC 4 dX8_dropSame_80 (by decide) ?_
    first
    | (refine ih4 (p + 1, n + 1, upz PX2 n (PX2 p), upz PY2 n (PY2 p)) ⟨by (try dsimp only); omega, by (try dsimp only); omega, ?_, fun i hi => ?_, fun i hi => ?_⟩ (by (try dsimp only); omega)
       · dsimp only
         rw [ptsOf_s p, dd_app, ← hD, ← (hE p (Nat.le_refl p)).1, ← (hE p (Nat.le_refl p)).2]
         exact (addP_no hL).symm
       · dsimp only at hi ⊢
         rw [upz_n (by omega), upz_n (by omega)]
         exact hE i (by omega)
       · dsimp only at hi ⊢
         by_cases q : i = n
         · subst q; rw [upz_s, upz_s]; exact hc
         · rw [upz_n q, upz_n q]; exact hK i (by omega))
    | (refine ih4 (p + 1, n, PX2, PY2) ⟨by (try dsimp only); omega, by (try dsimp only); omega, ?_, fun i hi => ?_, hK⟩ (by (try dsimp only); omega)
       · dsimp only
         rw [ptsOf_s p, dd_app, ← hD, ← (hE p (Nat.le_refl p)).1, ← (hE p (Nat.le_refl p)).2]
         exact (addP_yes hL).symm
       · dsimp only at hi ⊢
         exact hE i (by omega))
  have hL : isL n PX2 PY2 (PX2 p) (PY2 p) = false := by unfold isL; first | exact decide_eq_false (by omega) | exact decide_eq_true (by omega)
  refine V_aload_n XC 0 rfl dX8_dropSame_50 rfl ?_
  refine V_get XC 18 flX8_dropSame_42 0 rfl rfl dX8_dropSame_51 ?_
  refine V_iload_n XC 1 rfl dX8_dropSame_54 rfl ?_
  refine V_aload_n XC 0 rfl dX8_dropSame_55 rfl ?_
  refine V_get XC 18 flX8_dropSame_42 0 rfl rfl dX8_dropSame_56 ?_
  refine V_iload_n XC 2 rfl dX8_dropSame_59 rfl ?_
  refine V_iald XC (p) 1 rfl (by omega) (by omega) (by decide) dX8_dropSame_60 ?_
  refine V_iast XC (n) 1 rfl (by omega) (by omega) (by decide) dX8_dropSame_61 ?_
  dsimp only [List.set]
  refine V_aload_n XC 0 rfl dX8_dropSame_62 rfl ?_
  refine V_get XC 19 flX8_dropSame_45 0 rfl rfl dX8_dropSame_63 ?_
  refine V_iload_n XC 1 rfl dX8_dropSame_66 rfl ?_
  refine V_aload_n XC 0 rfl dX8_dropSame_67 rfl ?_
  refine V_get XC 19 flX8_dropSame_45 0 rfl rfl dX8_dropSame_68 ?_
  refine V_iload_n XC 2 rfl dX8_dropSame_71 rfl ?_
  refine V_iald XC (p) 2 rfl (by omega) (by omega) (by decide) dX8_dropSame_72 ?_
  refine V_iast XC (n) 2 rfl (by omega) (by omega) (by decide) dX8_dropSame_73 ?_
  dsimp only [List.set]
  refine V_iinc XC dX8_dropSame_74 rfl (by decide) ?_
  dsimp only [List.set]
  refine V_iinc XC dX8_dropSame_77 rfl (by decide) ?_
  dsimp only [List.set]
  refine V_goto XC 4 dX8_dropSame_80 (by decide) ?_
  first
  | (refine ih4 (p + 1, n + 1, upz PX2 n (PX2 p), upz PY2 n (PY2 p)) ⟨by (try dsimp only); omega, by (try dsimp only); omega, ?_, fun i hi => ?_, fun i hi => ?_⟩ (by (try dsimp only); omega)
     · dsimp only
       rw [ptsOf_s p, dd_app, ← hD, ← (hE p (Nat.le_refl p)).1, ← (hE p (Nat.le_refl p)).2]
       exact (addP_no hL).symm
     · dsimp only at hi ⊢
       rw [upz_n (by omega), upz_n (by omega)]
       exact hE i (by omega)
     · dsimp only at hi ⊢
       by_cases q : i = n
       · subst q; rw [upz_s, upz_s]; exact hc
       · rw [upz_n q, upz_n q]; exact hK i (by omega))
  | (refine ih4 (p + 1, n, PX2, PY2) ⟨by (try dsimp only); omega, by (try dsimp only); omega, ?_, fun i hi => ?_, hK⟩ (by (try dsimp only); omega)
     · dsimp only
       rw [ptsOf_s p, dd_app, ← hD, ← (hE p (Nat.le_refl p)).1, ← (hE p (Nat.le_refl p)).2]
       exact (addP_yes hL).symm
     · dsimp only at hi ⊢
       exact hE i (by omega))

set_option maxRecDepth 100000 in
set_option maxHeartbeats 4000000 in
theorem c_X8_root (l : Launch) (D : va_G) (kI kC : ClassId) (z : Int) (hz : 0 ≤ z ∧ z < 268435456) : ConR l yX8_root wsX8_root { frames := 0, cells := 0, slots := 0, locals := 0 } D kI kC [.int (iI z)] [] (fun r => r = rootZ z) := by
  refine Con.of (cc := cX8_root) (maxL := 3) (ret := (some .int)) (by decide +kernel) rfl (List.forall_mem_cons.mpr ⟨rfl, fun _ h => absurd h List.not_mem_nil⟩) (Nat.le_of_ble_eq_true rfl) ?_
  intro pV eV sV mV bV tV cV AV XC hrV
  have XC : Cx pV _ sV mV _ tV cV cX8_root 3 RX8 wsX8_root AV D kI kC := XC
  change VV _ _ _ _ _ _ _ _ _ _ _ _ _ _ _ _ _ [some (.int (iI z)), none, none] _ _
  refine V_iconst XC dX8_root_0 ?_
  refine V_istore_n XC 1 rfl dX8_root_1 (by decide) ?_
  dsimp only [List.set]
  refine V_sipush XC dX8_root_2 (by decide) ?_
  refine V_istore_n XC 2 rfl dX8_root_5 (by decide) ?_
  dsimp only [List.set]
  refine V_loopR (σ := Nat × Int) (fun u => u.1) (fun u => u.1 ≤ 14 ∧ 0 ≤ u.2 ∧ u.2 + 2 * pbit u.1 ≤ 16384 ∧ rootF z u.1 u.2 = rootZ z) (fun u => [some (.int (iI z)), some (.int (iI u.2)), some (.int (iI (pbit u.1)))]) (14, 0) ⟨by decide, by decide, by decide, rfl⟩ rfl (fun u hJ ih6 => ?_)
  obtain ⟨j, f⟩ := u
  try dsimp only at hJ ih6 ⊢
  obtain ⟨hj, hf, hfb, hr0⟩ := hJ
  have hb : 0 ≤ pbit j := by
    cases j with
    | zero => decide
    | succ j => exact Int.le_of_lt (pbit_pos j)
  refine V_iload_n XC 2 rfl dX8_root_6 rfl ?_
  refine V_if_le XC 36 dX8_root_7 (by decide) (by first | assumption | (unfold IR; omega)) (fun h7 => ?_) (fun h7 => ?_)
  · skip
    obtain rfl : j = 0 := by
      cases j with
      | zero => rfl
      | succ j => exact absurd (pbit_pos j) (by omega)
    refine V_iload_n XC 1 rfl dX8_root_36 rfl ?_
    refine V_iret XC () hrV rfl dX8_root_37 ?_
    try dsimp only
    first | rfl | assumption | exact hr0.symm ▸ rfl
  obtain ⟨j, rfl⟩ : ∃ i, j = i + 1 := by
    cases j with
    | zero => exact absurd h7 (by decide)
    | succ j => exact ⟨j, rfl⟩
  have hhalf := pbit_half j
  have hsq := sqb (x := f + pbit (j + 1)) (B := 16384) (by omega) (by omega)
  refine V_iload_n XC 1 rfl dX8_root_10 rfl ?_
  refine V_iload_n XC 1 rfl dX8_root_11 rfl ?_
  refine V_iload_n XC 2 rfl dX8_root_12 rfl ?_
  refine V_iadd XC dX8_root_13 ?_
  refine V_iload_n XC 1 rfl dX8_root_14 rfl ?_
  refine V_iload_n XC 2 rfl dX8_root_15 rfl ?_
  refine V_iadd XC dX8_root_16 ?_
  refine V_imul XC dX8_root_17 ?_
  refine V_iload_n XC 0 rfl dX8_root_18 rfl ?_
  refine V_icmp_gt XC 26 dX8_root_19 (by decide) (by first | assumption | (unfold IR; omega)) (by first | assumption | (unfold IR; omega)) (fun h19 => ?_) (fun h19 => ?_)
  · skip
    have hr1 : rootF z j f = rootZ z := by
      rw [← hr0]
      unfold rootF
      rw [if_neg (by omega)]
      cases j <;> rfl
    refine V_iconst XC dX8_root_26 ?_
    refine V_iadd XC dX8_root_27 ?_
    try rw [Int.add_zero]
    refine V_istore_n XC 1 rfl dX8_root_28 (by decide) ?_
    dsimp only [List.set]
    refine V_iload_n XC 2 rfl dX8_root_29 rfl ?_
    refine V_iconst XC dX8_root_30 ?_
    refine V_idiv XC dX8_root_31 (by omega) (by omega) (by decide) (by decide) ?_
    rw [hhalf]
    refine V_istore_n XC 2 rfl dX8_root_32 (by decide) ?_
    dsimp only [List.set]
    refine V_goto XC 6 dX8_root_33 (by decide) ?_
    first
    | exact ih6 (j, f + pbit (j + 1)) ⟨by (try dsimp only); omega, by (try dsimp only); omega, by (try dsimp only); omega, hr1⟩ (Nat.lt_succ_self _)
    | exact ih6 (j, f) ⟨by (try dsimp only); omega, by (try dsimp only); omega, by (try dsimp only); omega, hr1⟩ (Nat.lt_succ_self _)
  have hr1 : rootF z j (f + pbit (j + 1)) = rootZ z := by
    rw [← hr0]
    conv => rhs; unfold rootF
    rw [if_pos (by omega)]
  refine V_iload_n XC 2 rfl dX8_root_22 rfl ?_
  refine V_goto XC 27 dX8_root_23 (by decide) ?_
  refine V_iadd XC dX8_root_27 ?_
  try rw [Int.add_zero]
  refine V_istore_n XC 1 rfl dX8_root_28 (by decide) ?_
  dsimp only [List.set]
  refine V_iload_n XC 2 rfl dX8_root_29 rfl ?_
  refine V_iconst XC dX8_root_30 ?_
  refine V_idiv XC dX8_root_31 (by omega) (by omega) (by decide) (by decide) ?_
  rw [hhalf]
  refine V_istore_n XC 2 rfl dX8_root_32 (by decide) ?_
  dsimp only [List.set]
  refine V_goto XC 6 dX8_root_33 (by decide) ?_
  first
  | exact ih6 (j, f + pbit (j + 1)) ⟨by (try dsimp only); omega, by (try dsimp only); omega, by (try dsimp only); omega, hr1⟩ (Nat.lt_succ_self _)
  | exact ih6 (j, f) ⟨by (try dsimp only); omega, by (try dsimp only); omega, by (try dsimp only); omega, hr1⟩ (Nat.lt_succ_self _)

set_option maxRecDepth 100000 in
set_option maxHeartbeats 4000000 in
theorem c_X8_longOf (l : Launch) (D : va_G) (kI kC : ClassId) (b : Nat → Nat) (gp : Int) (ke : Nat) (un : Nat) (bu : Nat) (ty : Nat) (pc : Int) (gd : Bool) (rd : Int) (po : Int) (ln : Int) (wd : Int) (G : Nat → Int) (k : Nat) (hk : k < 16) (hs : OkK (skR G k)) : ConR l yX8_longOf wsX8_longOf { frames := 1, cells := 0, slots := 0, locals := 22 } D kI kC [.ref (b 0), .int (iI (k : Int))] (mdO b gp (ke : Int) (un : Int) (bu : Int) (ty : Int) pc gd rd po ln wd :: [(b 1, IA kI 801 G)]) (fun r => r = lenK (skR G k)) := by
  refine Con.of (cc := cX8_longOf) (maxL := 4) (ret := (some .int)) (by decide +kernel) rfl (List.forall_mem_cons.mpr ⟨rfl, List.forall_mem_cons.mpr ⟨rfl, fun _ h => absurd h List.not_mem_nil⟩⟩) (Nat.le_of_ble_eq_true rfl) ?_
  intro pV eV sV mV bV tV cV AV XC hrV
  have XC : Cx pV _ sV mV _ tV cV cX8_longOf 4 RX8 wsX8_longOf AV D kI kC := XC
  change VV _ _ _ _ _ _ _ _ _ _ _ _ _ _ _ _ _ [some (.ref (b 0)), some (.int (iI (k : Int))), none, none] _ _
  dsimp only [mdO, List.cons_append, List.nil_append]
  have hf := skR_ok hs
  have hsz := skR_sz hs
  have hz3 := OkK_sz hs
  have hxy := fun i hi => skR_xy (F := G) (k := k) (i := i) hi
  have hc := fun i hi => OkK_xy (t := skR G k) (i := i) hs hi
  unfold lenK lenF
  refine V_iconst XC dX8_longOf_0 ?_
  refine V_istore_n XC 2 rfl dX8_longOf_1 (by decide) ?_
  dsimp only [List.set]
  refine V_iconst XC dX8_longOf_2 ?_
  refine V_istore_n XC 3 rfl dX8_longOf_3 (by decide) ?_
  dsimp only [List.set]
  refine V_loopR (σ := Nat) (fun u => szk (skR G k) - u) (fun u => u + 1 ≤ szk (skR G k)) (fun u => [some (.ref (b 0)), some (.int (iI (k : Int))), some (.int (iI (itr (fun i a => a + rootZ (100 * ((px (skR G k) (i + 1) - px (skR G k) i) * (px (skR G k) (i + 1) - px (skR G k) i) + (py (skR G k) (i + 1) - py (skR G k) i) * (py (skR G k) (i + 1) - py (skR G k) i)))) 0 u))), some (.int (iI ((u : Int) + 1)))]) (0) hz3.1 rfl (fun u hJ ih4 => ?_)
  obtain ⟨j, rfl⟩ : ∃ z, z = u := ⟨_, rfl⟩
  try dsimp only at hJ ih4 ⊢
  obtain hj := hJ
  refine V_iload_n XC 3 rfl dX8_longOf_4 rfl ?_
  refine V_aload_n XC 0 rfl dX8_longOf_5 rfl ?_
  refine V_iload_n XC 1 rfl dX8_longOf_6 rfl ?_
  refine V_callV (rest := _) (q0 := 0) XC (c_X8_size l D kI kC _ _ _ _ _ _ _ _ _ _ _ _ _ _ (by omega)) gX8_longOf_X8_size rfl kmX8_size ⟨⟨Nat.le_of_ble_eq_true rfl, Nat.le_of_ble_eq_true rfl⟩, Nat.le_of_ble_eq_true rfl, Nat.le_of_ble_eq_true rfl⟩ ⟨rfl, rfl⟩ rfl rfl (Nat.le_of_ble_eq_true rfl) [0, 1] rfl rfl (fun _ => rfl) rfl rfl dX8_longOf_7 (kR_of rfl (fun r7 hq7 => ?_))
  subst hq7
  rw [hsz]
  refine V_icmp_ge XC 61 dX8_longOf_10 (by decide) ⟨by omega, by omega⟩ ⟨by omega, by omega⟩ (fun h10 => ?_) (fun h10 => ?_)
  · skip
    refine V_iload_n XC 2 rfl dX8_longOf_61 rfl ?_
    refine V_iret XC () hrV rfl dX8_longOf_62 ?_
    try dsimp only
    rw [show j = szk (skR G k) - 1 by omega]
  have hc1 := hc (j + 1) (by omega)
  have hc0 := hc j (by omega)
  have hx1 := hxy (j + 1) (by omega)
  have hx0 := hxy j (by omega)
  refine V_iload_n XC 2 rfl dX8_longOf_13 rfl ?_
  refine V_bipush XC dX8_longOf_14 (by decide) ?_
  refine V_aload_n XC 0 rfl dX8_longOf_16 rfl ?_
  refine V_iload_n XC 1 rfl dX8_longOf_17 rfl ?_
  refine V_iload_n XC 3 rfl dX8_longOf_18 rfl ?_
  refine V_callV (rest := _) (q0 := 0) XC (c_X8_x l D kI kC _ _ _ _ _ _ _ _ _ _ _ _ _ k (j + 1) (by omega) (by omega)) gX8_longOf_X8_x rfl kmX8_x ⟨⟨Nat.le_of_ble_eq_true rfl, Nat.le_of_ble_eq_true rfl⟩, Nat.le_of_ble_eq_true rfl, Nat.le_of_ble_eq_true rfl⟩ ⟨rfl, rfl⟩ rfl rfl (Nat.le_of_ble_eq_true rfl) [0, 1] rfl rfl (fun _ => rfl) rfl rfl dX8_longOf_19 (kR_of rfl (fun r19 hq19 => ?_))
  subst hq19
  rw [hx1.1]
  refine V_aload_n XC 0 rfl dX8_longOf_22 rfl ?_
  refine V_iload_n XC 1 rfl dX8_longOf_23 rfl ?_
  refine V_iload_n XC 3 rfl dX8_longOf_24 rfl ?_
  refine V_iconst XC dX8_longOf_25 ?_
  refine V_isub XC dX8_longOf_26 ?_
  rw [show ((j : Int) + 1 - 1) = (j : Int) by omega]
  refine V_callV (rest := _) (q0 := 0) XC (c_X8_x l D kI kC _ _ _ _ _ _ _ _ _ _ _ _ _ k j (by omega) (by omega)) gX8_longOf_X8_x rfl kmX8_x ⟨⟨Nat.le_of_ble_eq_true rfl, Nat.le_of_ble_eq_true rfl⟩, Nat.le_of_ble_eq_true rfl, Nat.le_of_ble_eq_true rfl⟩ ⟨rfl, rfl⟩ rfl rfl (Nat.le_of_ble_eq_true rfl) [0, 1] rfl rfl (fun _ => rfl) rfl rfl dX8_longOf_27 (kR_of rfl (fun r27 hq27 => ?_))
  subst hq27
  rw [hx0.1]
  refine V_isub XC dX8_longOf_30 ?_
  refine V_aload_n XC 0 rfl dX8_longOf_31 rfl ?_
  refine V_iload_n XC 1 rfl dX8_longOf_32 rfl ?_
  refine V_iload_n XC 3 rfl dX8_longOf_33 rfl ?_
  refine V_callV (rest := _) (q0 := 0) XC (c_X8_y l D kI kC _ _ _ _ _ _ _ _ _ _ _ _ _ k (j + 1) (by omega) (by omega)) gX8_longOf_X8_y rfl kmX8_y ⟨⟨Nat.le_of_ble_eq_true rfl, Nat.le_of_ble_eq_true rfl⟩, Nat.le_of_ble_eq_true rfl, Nat.le_of_ble_eq_true rfl⟩ ⟨rfl, rfl⟩ rfl rfl (Nat.le_of_ble_eq_true rfl) [0, 1] rfl rfl (fun _ => rfl) rfl rfl dX8_longOf_34 (kR_of rfl (fun r34 hq34 => ?_))
  subst hq34
  rw [hx1.2]
  refine V_aload_n XC 0 rfl dX8_longOf_37 rfl ?_
  refine V_iload_n XC 1 rfl dX8_longOf_38 rfl ?_
  refine V_iload_n XC 3 rfl dX8_longOf_39 rfl ?_
  refine V_iconst XC dX8_longOf_40 ?_
  refine V_isub XC dX8_longOf_41 ?_
  rw [show ((j : Int) + 1 - 1) = (j : Int) by omega]
  refine V_callV (rest := _) (q0 := 0) XC (c_X8_y l D kI kC _ _ _ _ _ _ _ _ _ _ _ _ _ k j (by omega) (by omega)) gX8_longOf_X8_y rfl kmX8_y ⟨⟨Nat.le_of_ble_eq_true rfl, Nat.le_of_ble_eq_true rfl⟩, Nat.le_of_ble_eq_true rfl, Nat.le_of_ble_eq_true rfl⟩ ⟨rfl, rfl⟩ rfl rfl (Nat.le_of_ble_eq_true rfl) [0, 1] rfl rfl (fun _ => rfl) rfl rfl dX8_longOf_42 (kR_of rfl (fun r42 hq42 => ?_))
  subst hq42
  rw [hx0.2]
  refine V_isub XC dX8_longOf_45 ?_
  refine V_callS (rest := _) XC (c_X8_square l D kI kC _ _) gX8_longOf_X8_square rfl kmX8_square ⟨⟨Nat.le_of_ble_eq_true rfl, Nat.le_of_ble_eq_true rfl⟩, Nat.le_of_ble_eq_true rfl, Nat.le_of_ble_eq_true rfl⟩ ⟨rfl, rfl⟩ rfl rfl (Nat.le_of_ble_eq_true rfl) [] rfl rfl (fun _ => rfl) dX8_longOf_46 (kR_of rfl (fun r46 hq46 => ?_))
  subst hq46
  have q1 := sqb (x := px (skR G k) (j + 1) - px (skR G k) j) (B := 1000) (by omega) (by omega)
  have q2 := sqb (x := py (skR G k) (j + 1) - py (skR G k) j) (B := 1000) (by omega) (by omega)
  refine V_imul XC dX8_longOf_49 ?_
  refine V_callS (rest := _) XC (c_X8_root l D kI kC _ (by omega)) gX8_longOf_X8_root rfl kmX8_root ⟨⟨Nat.le_of_ble_eq_true rfl, Nat.le_of_ble_eq_true rfl⟩, Nat.le_of_ble_eq_true rfl, Nat.le_of_ble_eq_true rfl⟩ ⟨rfl, rfl⟩ rfl rfl (Nat.le_of_ble_eq_true rfl) [] rfl rfl (fun _ => rfl) dX8_longOf_50 (kR_of rfl (fun r50 hq50 => ?_))
  subst hq50
  refine V_iadd XC dX8_longOf_53 ?_
  refine V_istore_n XC 2 rfl dX8_longOf_54 (by decide) ?_
  dsimp only [List.set]
  refine V_iinc XC dX8_longOf_55 rfl (by decide) ?_
  dsimp only [List.set]
  refine V_goto XC 4 dX8_longOf_58 (by decide) ?_
  exact ih4 (j + 1) (by omega) (by omega)

def bdF (t : Stk) (y g : Bool) (m : Nat) : Int := (if y = true then (if g = true then mxF (py (t)) m else mnF (py (t)) m) else (if g = true then mxF (px (t)) m else mnF (px (t)) m))
def bdR (t : Stk) (y g : Bool) : Int := bdF t y g (szk t - 1)
theorem bdF_s (t : Stk) (y g : Bool) (j : Nat) : bdF t y g (j + 1) = if g = true then max (bdF t y g j) (if y = true then py t (j + 1) else px t (j + 1)) else min (bdF t y g j) (if y = true then py t (j + 1) else px t (j + 1)) := by cases y <;> cases g <;> rfl
theorem bdF_rng {t : Stk} (h : OkK t) (y g : Bool) : ∀ {j : Nat}, j < szk t → 0 ≤ bdF t y g j ∧ bdF t y g j ≤ 1000
  | 0, hj => by
    have := OkK_xy h hj
    cases y <;> cases g <;> first | exact ⟨this.1, this.2.1⟩ | exact ⟨this.2.2.1, this.2.2.2⟩
  | j + 1, hj => by
    have h1 := bdF_rng h y g (j := j) (by omega)
    have := OkK_xy h hj
    rw [bdF_s]
    repeat' split
    all_goals omega

set_option maxRecDepth 100000 in
set_option maxHeartbeats 4000000 in
theorem c_X8_bound (l : Launch) (D : va_G) (kI kC : ClassId) (b : Nat → Nat) (gp : Int) (ke : Nat) (un : Nat) (bu : Nat) (ty : Nat) (pc : Int) (gd : Bool) (rd : Int) (po : Int) (ln : Int) (wd : Int) (G : Nat → Int) (k : Nat) (y g : Bool) (hk : k < 16) (hs : OkK (skR G k)) : ConR l yX8_bound wsX8_bound { frames := 1, cells := 0, slots := 0, locals := 22 } D kI kC [.ref (b 0), .int (iI (k : Int)), .int (iI (bI y)), .int (iI (bI g))] (mdO b gp (ke : Int) (un : Int) (bu : Int) (ty : Int) pc gd rd po ln wd :: [(b 1, IA kI 801 G)]) (fun r => r = bdR (skR G k) y g) := by
  refine Con.of (cc := cX8_bound) (maxL := 7) (ret := (some .int)) (by decide +kernel) rfl (List.forall_mem_cons.mpr ⟨rfl, List.forall_mem_cons.mpr ⟨rfl, List.forall_mem_cons.mpr ⟨rfl, List.forall_mem_cons.mpr ⟨rfl, fun _ h => absurd h List.not_mem_nil⟩⟩⟩⟩) (Nat.le_of_ble_eq_true rfl) ?_
  intro pV eV sV mV bV tV cV AV XC hrV
  have XC : Cx pV _ sV mV _ tV cV cX8_bound 7 RX8 wsX8_bound AV D kI kC := XC
  change VV _ _ _ _ _ _ _ _ _ _ _ _ _ _ _ _ _ [some (.ref (b 0)), some (.int (iI (k : Int))), some (.int (iI (bI y))), some (.int (iI (bI g))), none, none, none] _ _
  dsimp only [mdO, List.cons_append, List.nil_append]
  have hf := skR_ok hs
  have hsz := skR_sz hs
  have hz3 := OkK_sz hs
  have hxy := fun i hi => skR_xy (F := G) (k := k) (i := i) hi
  have hc := fun i hi => OkK_xy (t := skR G k) (i := i) hs hi
  refine V_iload_n XC 2 rfl dX8_bound_0 rfl ?_
  refine V_bif_eq XC 13 dX8_bound_1 (by decide) (fun h1 => ?_) (fun h1 => ?_)
  · skip
    refine V_aload_n XC 0 rfl dX8_bound_13 rfl ?_
    refine V_iload_n XC 1 rfl dX8_bound_14 rfl ?_
    refine V_iconst XC dX8_bound_15 ?_
    refine V_callV (rest := _) (q0 := 0) XC (c_X8_x l D kI kC _ _ _ _ _ _ _ _ _ _ _ _ _ k (0) (by omega) (by omega)) gX8_bound_X8_x rfl kmX8_x ⟨⟨Nat.le_of_ble_eq_true rfl, Nat.le_of_ble_eq_true rfl⟩, Nat.le_of_ble_eq_true rfl, Nat.le_of_ble_eq_true rfl⟩ ⟨rfl, rfl⟩ rfl rfl (Nat.le_of_ble_eq_true rfl) [0, 1] rfl rfl (fun _ => rfl) rfl rfl dX8_bound_16 (kR_of rfl (fun r16 hq16 => ?_))
    subst hq16
    rw [(hxy 0 (by omega)).1, show px (skR G k) 0 = bdF (skR G k) y g 0 by rw [h1]; cases g <;> rfl]
    refine V_istore XC dX8_bound_19 (by decide) ?_
    dsimp only [List.set]
    refine V_iconst XC dX8_bound_21 ?_
    refine V_istore XC dX8_bound_22 (by decide) ?_
    dsimp only [List.set]
    refine V_loopR (σ := Nat) (fun u => szk (skR G k) - u) (fun u => u + 1 ≤ szk (skR G k)) (fun u => [some (.ref (b 0)), some (.int (iI (k : Int))), some (.int (iI (bI y))), some (.int (iI (bI g))), some (.int (iI (bdF (skR G k) y g u))), some (.int (iI ((u : Int) + 1))), none]) (0) hz3.1 rfl (fun u hJ ih24 => ?_)
    obtain ⟨j, rfl⟩ : ∃ z, z = u := ⟨_, rfl⟩
    try dsimp only at hJ ih24 ⊢
    obtain hj := hJ
    refine V_iload XC dX8_bound_24 rfl ?_
    refine V_aload_n XC 0 rfl dX8_bound_26 rfl ?_
    refine V_iload_n XC 1 rfl dX8_bound_27 rfl ?_
    refine V_callV (rest := _) (q0 := 0) XC (c_X8_size l D kI kC _ _ _ _ _ _ _ _ _ _ _ _ _ _ (by omega)) gX8_bound_X8_size rfl kmX8_size ⟨⟨Nat.le_of_ble_eq_true rfl, Nat.le_of_ble_eq_true rfl⟩, Nat.le_of_ble_eq_true rfl, Nat.le_of_ble_eq_true rfl⟩ ⟨rfl, rfl⟩ rfl rfl (Nat.le_of_ble_eq_true rfl) [0, 1] rfl rfl (fun _ => rfl) rfl rfl dX8_bound_28 (kR_of rfl (fun r28 hq28 => ?_))
    subst hq28
    rw [hsz]
    refine V_icmp_ge XC 100 dX8_bound_31 (by decide) ⟨by omega, by omega⟩ ⟨by omega, by omega⟩ (fun h31 => ?_) (fun h31 => ?_)
    · skip
      refine V_iload XC dX8_bound_100 rfl ?_
      refine V_iret XC () hrV rfl dX8_bound_102 ?_
      show bdF _ _ _ _ = bdF _ _ _ _
      rw [show j = szk (skR G k) - 1 by omega]
    have hx1 := hxy (j + 1) (by omega)
    have hc1 := hc (j + 1) (by omega)
    have hbd := bdF_rng hs y g (j := j) (by omega)
    refine V_iload_n XC 2 rfl dX8_bound_34 rfl ?_
    refine V_bif_eq XC 48 dX8_bound_35 (by decide) (fun h35 => ?_) (fun h35 => ?_)
    · skip
      refine V_aload_n XC 0 rfl dX8_bound_48 rfl ?_
      refine V_iload_n XC 1 rfl dX8_bound_49 rfl ?_
      refine V_iload XC dX8_bound_50 rfl ?_
      refine V_callV (rest := _) (q0 := 0) XC (c_X8_x l D kI kC _ _ _ _ _ _ _ _ _ _ _ _ _ k (j + 1) (by omega) (by omega)) gX8_bound_X8_x rfl kmX8_x ⟨⟨Nat.le_of_ble_eq_true rfl, Nat.le_of_ble_eq_true rfl⟩, Nat.le_of_ble_eq_true rfl, Nat.le_of_ble_eq_true rfl⟩ ⟨rfl, rfl⟩ rfl rfl (Nat.le_of_ble_eq_true rfl) [0, 1] rfl rfl (fun _ => rfl) rfl rfl dX8_bound_52 (kR_of rfl (fun r52 hq52 => ?_))
      subst hq52
      rw [hx1.1]
      refine V_istore XC dX8_bound_55 (by decide) ?_
      dsimp only [List.set]
      refine V_iload_n XC 3 rfl dX8_bound_57 rfl ?_
      refine V_bif_eq XC 78 dX8_bound_58 (by decide) (fun h58 => ?_) (fun h58 => ?_)
      · skip
        refine V_iload XC dX8_bound_78 rfl ?_
        refine V_iload XC dX8_bound_80 rfl ?_
        refine V_icmp_ge XC 90 dX8_bound_82 (by decide) ⟨by omega, by omega⟩ ⟨by omega, by omega⟩ (fun h82 => ?_) (fun h82 => ?_)
        · skip
          refine V_iload XC dX8_bound_90 rfl ?_
          refine V_istore XC dX8_bound_92 (by decide) ?_
          dsimp only [List.set]
          refine V_iinc XC dX8_bound_94 rfl (by decide) ?_
          dsimp only [List.set]
          refine V_goto XC 24 dX8_bound_97 (by decide) ?_
          refine V_kill 6 ?_
          dsimp only [List.set]
          first
          | (rw [show bdF (skR G k) y g j = bdF (skR G k) y g (j + 1) by rw [bdF_s]; (repeat' split) <;> first | rfl | omega | simp_all]; exact ih24 (j + 1) (by omega) (by omega))
          | (rw [show px (skR G k) (j + 1) = bdF (skR G k) y g (j + 1) by rw [bdF_s]; (repeat' split) <;> first | rfl | omega | simp_all]; exact ih24 (j + 1) (by omega) (by omega))
          | (rw [show py (skR G k) (j + 1) = bdF (skR G k) y g (j + 1) by rw [bdF_s]; (repeat' split) <;> first | rfl | omega | simp_all]; exact ih24 (j + 1) (by omega) (by omega))
        refine V_iload XC dX8_bound_85 rfl ?_
        refine V_goto XC 92 dX8_bound_87 (by decide) ?_
        refine V_istore XC dX8_bound_92 (by decide) ?_
        dsimp only [List.set]
        refine V_iinc XC dX8_bound_94 rfl (by decide) ?_
        dsimp only [List.set]
        refine V_goto XC 24 dX8_bound_97 (by decide) ?_
        refine V_kill 6 ?_
        dsimp only [List.set]
        first
        | (rw [show bdF (skR G k) y g j = bdF (skR G k) y g (j + 1) by rw [bdF_s]; (repeat' split) <;> first | rfl | omega | simp_all]; exact ih24 (j + 1) (by omega) (by omega))
        | (rw [show px (skR G k) (j + 1) = bdF (skR G k) y g (j + 1) by rw [bdF_s]; (repeat' split) <;> first | rfl | omega | simp_all]; exact ih24 (j + 1) (by omega) (by omega))
        | (rw [show py (skR G k) (j + 1) = bdF (skR G k) y g (j + 1) by rw [bdF_s]; (repeat' split) <;> first | rfl | omega | simp_all]; exact ih24 (j + 1) (by omega) (by omega))
      refine V_iload XC dX8_bound_61 rfl ?_
      refine V_iload XC dX8_bound_63 rfl ?_
      refine V_icmp_le XC 73 dX8_bound_65 (by decide) ⟨by omega, by omega⟩ ⟨by omega, by omega⟩ (fun h65 => ?_) (fun h65 => ?_)
      · skip
        refine V_iload XC dX8_bound_73 rfl ?_
        refine V_goto XC 92 dX8_bound_75 (by decide) ?_
        refine V_istore XC dX8_bound_92 (by decide) ?_
        dsimp only [List.set]
        refine V_iinc XC dX8_bound_94 rfl (by decide) ?_
        dsimp only [List.set]
        refine V_goto XC 24 dX8_bound_97 (by decide) ?_
        refine V_kill 6 ?_
        dsimp only [List.set]
        first
        | (rw [show bdF (skR G k) y g j = bdF (skR G k) y g (j + 1) by rw [bdF_s]; (repeat' split) <;> first | rfl | omega | simp_all]; exact ih24 (j + 1) (by omega) (by omega))
        | (rw [show px (skR G k) (j + 1) = bdF (skR G k) y g (j + 1) by rw [bdF_s]; (repeat' split) <;> first | rfl | omega | simp_all]; exact ih24 (j + 1) (by omega) (by omega))
        | (rw [show py (skR G k) (j + 1) = bdF (skR G k) y g (j + 1) by rw [bdF_s]; (repeat' split) <;> first | rfl | omega | simp_all]; exact ih24 (j + 1) (by omega) (by omega))
      refine V_iload XC dX8_bound_68 rfl ?_
      refine V_goto XC 92 dX8_bound_70 (by decide) ?_
      refine V_istore XC dX8_bound_92 (by decide) ?_
      dsimp only [List.set]
      refine V_iinc XC dX8_bound_94 rfl (by decide) ?_
      dsimp only [List.set]
      refine V_goto XC 24 dX8_bound_97 (by decide) ?_
      refine V_kill 6 ?_
      dsimp only [List.set]
      first
      | (rw [show bdF (skR G k) y g j = bdF (skR G k) y g (j + 1) by rw [bdF_s]; (repeat' split) <;> first | rfl | omega | simp_all]; exact ih24 (j + 1) (by omega) (by omega))
      | (rw [show px (skR G k) (j + 1) = bdF (skR G k) y g (j + 1) by rw [bdF_s]; (repeat' split) <;> first | rfl | omega | simp_all]; exact ih24 (j + 1) (by omega) (by omega))
      | (rw [show py (skR G k) (j + 1) = bdF (skR G k) y g (j + 1) by rw [bdF_s]; (repeat' split) <;> first | rfl | omega | simp_all]; exact ih24 (j + 1) (by omega) (by omega))
    refine V_aload_n XC 0 rfl dX8_bound_38 rfl ?_
    refine V_iload_n XC 1 rfl dX8_bound_39 rfl ?_
    refine V_iload XC dX8_bound_40 rfl ?_
    refine V_callV (rest := _) (q0 := 0) XC (c_X8_y l D kI kC _ _ _ _ _ _ _ _ _ _ _ _ _ k (j + 1) (by omega) (by omega)) gX8_bound_X8_y rfl kmX8_y ⟨⟨Nat.le_of_ble_eq_true rfl, Nat.le_of_ble_eq_true rfl⟩, Nat.le_of_ble_eq_true rfl, Nat.le_of_ble_eq_true rfl⟩ ⟨rfl, rfl⟩ rfl rfl (Nat.le_of_ble_eq_true rfl) [0, 1] rfl rfl (fun _ => rfl) rfl rfl dX8_bound_42 (kR_of rfl (fun r42 hq42 => ?_))
    subst hq42
    rw [hx1.2]
    refine V_goto XC 55 dX8_bound_45 (by decide) ?_
    refine V_istore XC dX8_bound_55 (by decide) ?_
    dsimp only [List.set]
    refine V_iload_n XC 3 rfl dX8_bound_57 rfl ?_
    refine V_bif_eq XC 78 dX8_bound_58 (by decide) (fun h58 => ?_) (fun h58 => ?_)
    · skip
      refine V_iload XC dX8_bound_78 rfl ?_
      refine V_iload XC dX8_bound_80 rfl ?_
      refine V_icmp_ge XC 90 dX8_bound_82 (by decide) ⟨by omega, by omega⟩ ⟨by omega, by omega⟩ (fun h82 => ?_) (fun h82 => ?_)
      · skip
        refine V_iload XC dX8_bound_90 rfl ?_
        refine V_istore XC dX8_bound_92 (by decide) ?_
        dsimp only [List.set]
        refine V_iinc XC dX8_bound_94 rfl (by decide) ?_
        dsimp only [List.set]
        refine V_goto XC 24 dX8_bound_97 (by decide) ?_
        refine V_kill 6 ?_
        dsimp only [List.set]
        first
        | (rw [show bdF (skR G k) y g j = bdF (skR G k) y g (j + 1) by rw [bdF_s]; (repeat' split) <;> first | rfl | omega | simp_all]; exact ih24 (j + 1) (by omega) (by omega))
        | (rw [show px (skR G k) (j + 1) = bdF (skR G k) y g (j + 1) by rw [bdF_s]; (repeat' split) <;> first | rfl | omega | simp_all]; exact ih24 (j + 1) (by omega) (by omega))
        | (rw [show py (skR G k) (j + 1) = bdF (skR G k) y g (j + 1) by rw [bdF_s]; (repeat' split) <;> first | rfl | omega | simp_all]; exact ih24 (j + 1) (by omega) (by omega))
      refine V_iload XC dX8_bound_85 rfl ?_
      refine V_goto XC 92 dX8_bound_87 (by decide) ?_
      refine V_istore XC dX8_bound_92 (by decide) ?_
      dsimp only [List.set]
      refine V_iinc XC dX8_bound_94 rfl (by decide) ?_
      dsimp only [List.set]
      refine V_goto XC 24 dX8_bound_97 (by decide) ?_
      refine V_kill 6 ?_
      dsimp only [List.set]
      first
      | (rw [show bdF (skR G k) y g j = bdF (skR G k) y g (j + 1) by rw [bdF_s]; (repeat' split) <;> first | rfl | omega | simp_all]; exact ih24 (j + 1) (by omega) (by omega))
      | (rw [show px (skR G k) (j + 1) = bdF (skR G k) y g (j + 1) by rw [bdF_s]; (repeat' split) <;> first | rfl | omega | simp_all]; exact ih24 (j + 1) (by omega) (by omega))
      | (rw [show py (skR G k) (j + 1) = bdF (skR G k) y g (j + 1) by rw [bdF_s]; (repeat' split) <;> first | rfl | omega | simp_all]; exact ih24 (j + 1) (by omega) (by omega))
    refine V_iload XC dX8_bound_61 rfl ?_
    refine V_iload XC dX8_bound_63 rfl ?_
    refine V_icmp_le XC 73 dX8_bound_65 (by decide) ⟨by omega, by omega⟩ ⟨by omega, by omega⟩ (fun h65 => ?_) (fun h65 => ?_)
    · skip
      refine V_iload XC dX8_bound_73 rfl ?_
      refine V_goto XC 92 dX8_bound_75 (by decide) ?_
      refine V_istore XC dX8_bound_92 (by decide) ?_
      dsimp only [List.set]
      refine V_iinc XC dX8_bound_94 rfl (by decide) ?_
      dsimp only [List.set]
      refine V_goto XC 24 dX8_bound_97 (by decide) ?_
      refine V_kill 6 ?_
      dsimp only [List.set]
      first
      | (rw [show bdF (skR G k) y g j = bdF (skR G k) y g (j + 1) by rw [bdF_s]; (repeat' split) <;> first | rfl | omega | simp_all]; exact ih24 (j + 1) (by omega) (by omega))
      | (rw [show px (skR G k) (j + 1) = bdF (skR G k) y g (j + 1) by rw [bdF_s]; (repeat' split) <;> first | rfl | omega | simp_all]; exact ih24 (j + 1) (by omega) (by omega))
      | (rw [show py (skR G k) (j + 1) = bdF (skR G k) y g (j + 1) by rw [bdF_s]; (repeat' split) <;> first | rfl | omega | simp_all]; exact ih24 (j + 1) (by omega) (by omega))
    refine V_iload XC dX8_bound_68 rfl ?_
    refine V_goto XC 92 dX8_bound_70 (by decide) ?_
    refine V_istore XC dX8_bound_92 (by decide) ?_
    dsimp only [List.set]
    refine V_iinc XC dX8_bound_94 rfl (by decide) ?_
    dsimp only [List.set]
    refine V_goto XC 24 dX8_bound_97 (by decide) ?_
    refine V_kill 6 ?_
    dsimp only [List.set]
    first
    | (rw [show bdF (skR G k) y g j = bdF (skR G k) y g (j + 1) by rw [bdF_s]; (repeat' split) <;> first | rfl | omega | simp_all]; exact ih24 (j + 1) (by omega) (by omega))
    | (rw [show px (skR G k) (j + 1) = bdF (skR G k) y g (j + 1) by rw [bdF_s]; (repeat' split) <;> first | rfl | omega | simp_all]; exact ih24 (j + 1) (by omega) (by omega))
    | (rw [show py (skR G k) (j + 1) = bdF (skR G k) y g (j + 1) by rw [bdF_s]; (repeat' split) <;> first | rfl | omega | simp_all]; exact ih24 (j + 1) (by omega) (by omega))
  refine V_aload_n XC 0 rfl dX8_bound_4 rfl ?_
  refine V_iload_n XC 1 rfl dX8_bound_5 rfl ?_
  refine V_iconst XC dX8_bound_6 ?_
  refine V_callV (rest := _) (q0 := 0) XC (c_X8_y l D kI kC _ _ _ _ _ _ _ _ _ _ _ _ _ k (0) (by omega) (by omega)) gX8_bound_X8_y rfl kmX8_y ⟨⟨Nat.le_of_ble_eq_true rfl, Nat.le_of_ble_eq_true rfl⟩, Nat.le_of_ble_eq_true rfl, Nat.le_of_ble_eq_true rfl⟩ ⟨rfl, rfl⟩ rfl rfl (Nat.le_of_ble_eq_true rfl) [0, 1] rfl rfl (fun _ => rfl) rfl rfl dX8_bound_7 (kR_of rfl (fun r7 hq7 => ?_))
  subst hq7
  rw [(hxy 0 (by omega)).2, show py (skR G k) 0 = bdF (skR G k) y g 0 by rw [h1]; cases g <;> rfl]
  refine V_goto XC 19 dX8_bound_10 (by decide) ?_
  refine V_istore XC dX8_bound_19 (by decide) ?_
  dsimp only [List.set]
  refine V_iconst XC dX8_bound_21 ?_
  refine V_istore XC dX8_bound_22 (by decide) ?_
  dsimp only [List.set]
  refine V_loopR (σ := Nat) (fun u => szk (skR G k) - u) (fun u => u + 1 ≤ szk (skR G k)) (fun u => [some (.ref (b 0)), some (.int (iI (k : Int))), some (.int (iI (bI y))), some (.int (iI (bI g))), some (.int (iI (bdF (skR G k) y g u))), some (.int (iI ((u : Int) + 1))), none]) (0) hz3.1 rfl (fun u hJ ih24 => ?_)
  obtain ⟨j, rfl⟩ : ∃ z, z = u := ⟨_, rfl⟩
  try dsimp only at hJ ih24 ⊢
  obtain hj := hJ
  refine V_iload XC dX8_bound_24 rfl ?_
  refine V_aload_n XC 0 rfl dX8_bound_26 rfl ?_
  refine V_iload_n XC 1 rfl dX8_bound_27 rfl ?_
  refine V_callV (rest := _) (q0 := 0) XC (c_X8_size l D kI kC _ _ _ _ _ _ _ _ _ _ _ _ _ _ (by omega)) gX8_bound_X8_size rfl kmX8_size ⟨⟨Nat.le_of_ble_eq_true rfl, Nat.le_of_ble_eq_true rfl⟩, Nat.le_of_ble_eq_true rfl, Nat.le_of_ble_eq_true rfl⟩ ⟨rfl, rfl⟩ rfl rfl (Nat.le_of_ble_eq_true rfl) [0, 1] rfl rfl (fun _ => rfl) rfl rfl dX8_bound_28 (kR_of rfl (fun r28 hq28 => ?_))
  subst hq28
  rw [hsz]
  refine V_icmp_ge XC 100 dX8_bound_31 (by decide) ⟨by omega, by omega⟩ ⟨by omega, by omega⟩ (fun h31 => ?_) (fun h31 => ?_)
  · skip
    refine V_iload XC dX8_bound_100 rfl ?_
    refine V_iret XC () hrV rfl dX8_bound_102 ?_
    show bdF _ _ _ _ = bdF _ _ _ _
    rw [show j = szk (skR G k) - 1 by omega]
  have hx1 := hxy (j + 1) (by omega)
  have hc1 := hc (j + 1) (by omega)
  have hbd := bdF_rng hs y g (j := j) (by omega)
  refine V_iload_n XC 2 rfl dX8_bound_34 rfl ?_
  refine V_bif_eq XC 48 dX8_bound_35 (by decide) (fun h35 => ?_) (fun h35 => ?_)
  · skip
    refine V_aload_n XC 0 rfl dX8_bound_48 rfl ?_
    refine V_iload_n XC 1 rfl dX8_bound_49 rfl ?_
    refine V_iload XC dX8_bound_50 rfl ?_
    refine V_callV (rest := _) (q0 := 0) XC (c_X8_x l D kI kC _ _ _ _ _ _ _ _ _ _ _ _ _ k (j + 1) (by omega) (by omega)) gX8_bound_X8_x rfl kmX8_x ⟨⟨Nat.le_of_ble_eq_true rfl, Nat.le_of_ble_eq_true rfl⟩, Nat.le_of_ble_eq_true rfl, Nat.le_of_ble_eq_true rfl⟩ ⟨rfl, rfl⟩ rfl rfl (Nat.le_of_ble_eq_true rfl) [0, 1] rfl rfl (fun _ => rfl) rfl rfl dX8_bound_52 (kR_of rfl (fun r52 hq52 => ?_))
    subst hq52
    rw [hx1.1]
    refine V_istore XC dX8_bound_55 (by decide) ?_
    dsimp only [List.set]
    refine V_iload_n XC 3 rfl dX8_bound_57 rfl ?_
    refine V_bif_eq XC 78 dX8_bound_58 (by decide) (fun h58 => ?_) (fun h58 => ?_)
    · skip
      refine V_iload XC dX8_bound_78 rfl ?_
      refine V_iload XC dX8_bound_80 rfl ?_
      refine V_icmp_ge XC 90 dX8_bound_82 (by decide) ⟨by omega, by omega⟩ ⟨by omega, by omega⟩ (fun h82 => ?_) (fun h82 => ?_)
      · skip
        refine V_iload XC dX8_bound_90 rfl ?_
        refine V_istore XC dX8_bound_92 (by decide) ?_
        dsimp only [List.set]
        refine V_iinc XC dX8_bound_94 rfl (by decide) ?_
        dsimp only [List.set]
        refine V_goto XC 24 dX8_bound_97 (by decide) ?_
        refine V_kill 6 ?_
        dsimp only [List.set]
        first
        | (rw [show bdF (skR G k) y g j = bdF (skR G k) y g (j + 1) by rw [bdF_s]; (repeat' split) <;> first | rfl | omega | simp_all]; exact ih24 (j + 1) (by omega) (by omega))
        | (rw [show px (skR G k) (j + 1) = bdF (skR G k) y g (j + 1) by rw [bdF_s]; (repeat' split) <;> first | rfl | omega | simp_all]; exact ih24 (j + 1) (by omega) (by omega))
        | (rw [show py (skR G k) (j + 1) = bdF (skR G k) y g (j + 1) by rw [bdF_s]; (repeat' split) <;> first | rfl | omega | simp_all]; exact ih24 (j + 1) (by omega) (by omega))
      refine V_iload XC dX8_bound_85 rfl ?_
      refine V_goto XC 92 dX8_bound_87 (by decide) ?_
      refine V_istore XC dX8_bound_92 (by decide) ?_
      dsimp only [List.set]
      refine V_iinc XC dX8_bound_94 rfl (by decide) ?_
      dsimp only [List.set]
      refine V_goto XC 24 dX8_bound_97 (by decide) ?_
      refine V_kill 6 ?_
      dsimp only [List.set]
      first
      | (rw [show bdF (skR G k) y g j = bdF (skR G k) y g (j + 1) by rw [bdF_s]; (repeat' split) <;> first | rfl | omega | simp_all]; exact ih24 (j + 1) (by omega) (by omega))
      | (rw [show px (skR G k) (j + 1) = bdF (skR G k) y g (j + 1) by rw [bdF_s]; (repeat' split) <;> first | rfl | omega | simp_all]; exact ih24 (j + 1) (by omega) (by omega))
      | (rw [show py (skR G k) (j + 1) = bdF (skR G k) y g (j + 1) by rw [bdF_s]; (repeat' split) <;> first | rfl | omega | simp_all]; exact ih24 (j + 1) (by omega) (by omega))
    refine V_iload XC dX8_bound_61 rfl ?_
    refine V_iload XC dX8_bound_63 rfl ?_
    refine V_icmp_le XC 73 dX8_bound_65 (by decide) ⟨by omega, by omega⟩ ⟨by omega, by omega⟩ (fun h65 => ?_) (fun h65 => ?_)
    · skip
      refine V_iload XC dX8_bound_73 rfl ?_
      refine V_goto XC 92 dX8_bound_75 (by decide) ?_
      refine V_istore XC dX8_bound_92 (by decide) ?_
      dsimp only [List.set]
      refine V_iinc XC dX8_bound_94 rfl (by decide) ?_
      dsimp only [List.set]
      refine V_goto XC 24 dX8_bound_97 (by decide) ?_
      refine V_kill 6 ?_
      dsimp only [List.set]
      first
      | (rw [show bdF (skR G k) y g j = bdF (skR G k) y g (j + 1) by rw [bdF_s]; (repeat' split) <;> first | rfl | omega | simp_all]; exact ih24 (j + 1) (by omega) (by omega))
      | (rw [show px (skR G k) (j + 1) = bdF (skR G k) y g (j + 1) by rw [bdF_s]; (repeat' split) <;> first | rfl | omega | simp_all]; exact ih24 (j + 1) (by omega) (by omega))
      | (rw [show py (skR G k) (j + 1) = bdF (skR G k) y g (j + 1) by rw [bdF_s]; (repeat' split) <;> first | rfl | omega | simp_all]; exact ih24 (j + 1) (by omega) (by omega))
    refine V_iload XC dX8_bound_68 rfl ?_
    refine V_goto XC 92 dX8_bound_70 (by decide) ?_
    refine V_istore XC dX8_bound_92 (by decide) ?_
    dsimp only [List.set]
    refine V_iinc XC dX8_bound_94 rfl (by decide) ?_
    dsimp only [List.set]
    refine V_goto XC 24 dX8_bound_97 (by decide) ?_
    refine V_kill 6 ?_
    dsimp only [List.set]
    first
    | (rw [show bdF (skR G k) y g j = bdF (skR G k) y g (j + 1) by rw [bdF_s]; (repeat' split) <;> first | rfl | omega | simp_all]; exact ih24 (j + 1) (by omega) (by omega))
    | (rw [show px (skR G k) (j + 1) = bdF (skR G k) y g (j + 1) by rw [bdF_s]; (repeat' split) <;> first | rfl | omega | simp_all]; exact ih24 (j + 1) (by omega) (by omega))
    | (rw [show py (skR G k) (j + 1) = bdF (skR G k) y g (j + 1) by rw [bdF_s]; (repeat' split) <;> first | rfl | omega | simp_all]; exact ih24 (j + 1) (by omega) (by omega))
  refine V_aload_n XC 0 rfl dX8_bound_38 rfl ?_
  refine V_iload_n XC 1 rfl dX8_bound_39 rfl ?_
  refine V_iload XC dX8_bound_40 rfl ?_
  refine V_callV (rest := _) (q0 := 0) XC (c_X8_y l D kI kC _ _ _ _ _ _ _ _ _ _ _ _ _ k (j + 1) (by omega) (by omega)) gX8_bound_X8_y rfl kmX8_y ⟨⟨Nat.le_of_ble_eq_true rfl, Nat.le_of_ble_eq_true rfl⟩, Nat.le_of_ble_eq_true rfl, Nat.le_of_ble_eq_true rfl⟩ ⟨rfl, rfl⟩ rfl rfl (Nat.le_of_ble_eq_true rfl) [0, 1] rfl rfl (fun _ => rfl) rfl rfl dX8_bound_42 (kR_of rfl (fun r42 hq42 => ?_))
  subst hq42
  rw [hx1.2]
  refine V_goto XC 55 dX8_bound_45 (by decide) ?_
  refine V_istore XC dX8_bound_55 (by decide) ?_
  dsimp only [List.set]
  refine V_iload_n XC 3 rfl dX8_bound_57 rfl ?_
  refine V_bif_eq XC 78 dX8_bound_58 (by decide) (fun h58 => ?_) (fun h58 => ?_)
  · skip
    refine V_iload XC dX8_bound_78 rfl ?_
    refine V_iload XC dX8_bound_80 rfl ?_
    refine V_icmp_ge XC 90 dX8_bound_82 (by decide) ⟨by omega, by omega⟩ ⟨by omega, by omega⟩ (fun h82 => ?_) (fun h82 => ?_)
    · skip
      refine V_iload XC dX8_bound_90 rfl ?_
      refine V_istore XC dX8_bound_92 (by decide) ?_
      dsimp only [List.set]
      refine V_iinc XC dX8_bound_94 rfl (by decide) ?_
      dsimp only [List.set]
      refine V_goto XC 24 dX8_bound_97 (by decide) ?_
      refine V_kill 6 ?_
      dsimp only [List.set]
      first
      | (rw [show bdF (skR G k) y g j = bdF (skR G k) y g (j + 1) by rw [bdF_s]; (repeat' split) <;> first | rfl | omega | simp_all]; exact ih24 (j + 1) (by omega) (by omega))
      | (rw [show px (skR G k) (j + 1) = bdF (skR G k) y g (j + 1) by rw [bdF_s]; (repeat' split) <;> first | rfl | omega | simp_all]; exact ih24 (j + 1) (by omega) (by omega))
      | (rw [show py (skR G k) (j + 1) = bdF (skR G k) y g (j + 1) by rw [bdF_s]; (repeat' split) <;> first | rfl | omega | simp_all]; exact ih24 (j + 1) (by omega) (by omega))
    refine V_iload XC dX8_bound_85 rfl ?_
    refine V_goto XC 92 dX8_bound_87 (by decide) ?_
    refine V_istore XC dX8_bound_92 (by decide) ?_
    dsimp only [List.set]
    refine V_iinc XC dX8_bound_94 rfl (by decide) ?_
    dsimp only [List.set]
    refine V_goto XC 24 dX8_bound_97 (by decide) ?_
    refine V_kill 6 ?_
    dsimp only [List.set]
    first
    | (rw [show bdF (skR G k) y g j = bdF (skR G k) y g (j + 1) by rw [bdF_s]; (repeat' split) <;> first | rfl | omega | simp_all]; exact ih24 (j + 1) (by omega) (by omega))
    | (rw [show px (skR G k) (j + 1) = bdF (skR G k) y g (j + 1) by rw [bdF_s]; (repeat' split) <;> first | rfl | omega | simp_all]; exact ih24 (j + 1) (by omega) (by omega))
    | (rw [show py (skR G k) (j + 1) = bdF (skR G k) y g (j + 1) by rw [bdF_s]; (repeat' split) <;> first | rfl | omega | simp_all]; exact ih24 (j + 1) (by omega) (by omega))
  refine V_iload XC dX8_bound_61 rfl ?_
  refine V_iload XC dX8_bound_63 rfl ?_
  refine V_icmp_le XC 73 dX8_bound_65 (by decide) ⟨by omega, by omega⟩ ⟨by omega, by omega⟩ (fun h65 => ?_) (fun h65 => ?_)
  · skip
    refine V_iload XC dX8_bound_73 rfl ?_
    refine V_goto XC 92 dX8_bound_75 (by decide) ?_
    refine V_istore XC dX8_bound_92 (by decide) ?_
    dsimp only [List.set]
    refine V_iinc XC dX8_bound_94 rfl (by decide) ?_
    dsimp only [List.set]
    refine V_goto XC 24 dX8_bound_97 (by decide) ?_
    refine V_kill 6 ?_
    dsimp only [List.set]
    first
    | (rw [show bdF (skR G k) y g j = bdF (skR G k) y g (j + 1) by rw [bdF_s]; (repeat' split) <;> first | rfl | omega | simp_all]; exact ih24 (j + 1) (by omega) (by omega))
    | (rw [show px (skR G k) (j + 1) = bdF (skR G k) y g (j + 1) by rw [bdF_s]; (repeat' split) <;> first | rfl | omega | simp_all]; exact ih24 (j + 1) (by omega) (by omega))
    | (rw [show py (skR G k) (j + 1) = bdF (skR G k) y g (j + 1) by rw [bdF_s]; (repeat' split) <;> first | rfl | omega | simp_all]; exact ih24 (j + 1) (by omega) (by omega))
  refine V_iload XC dX8_bound_68 rfl ?_
  refine V_goto XC 92 dX8_bound_70 (by decide) ?_
  refine V_istore XC dX8_bound_92 (by decide) ?_
  dsimp only [List.set]
  refine V_iinc XC dX8_bound_94 rfl (by decide) ?_
  dsimp only [List.set]
  refine V_goto XC 24 dX8_bound_97 (by decide) ?_
  refine V_kill 6 ?_
  dsimp only [List.set]
  first
  | (rw [show bdF (skR G k) y g j = bdF (skR G k) y g (j + 1) by rw [bdF_s]; (repeat' split) <;> first | rfl | omega | simp_all]; exact ih24 (j + 1) (by omega) (by omega))
  | (rw [show px (skR G k) (j + 1) = bdF (skR G k) y g (j + 1) by rw [bdF_s]; (repeat' split) <;> first | rfl | omega | simp_all]; exact ih24 (j + 1) (by omega) (by omega))
  | (rw [show py (skR G k) (j + 1) = bdF (skR G k) y g (j + 1) by rw [bdF_s]; (repeat' split) <;> first | rfl | omega | simp_all]; exact ih24 (j + 1) (by omega) (by omega))

end REFC
