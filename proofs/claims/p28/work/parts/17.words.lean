/-! the class's Words -/
section WORDS
/-- the one k under n with f k = p -/
def fnd (f : Nat → Nat) (p : Nat) : Nat → Nat
  | 0 => 0
  | n + 1 => if f n = p then n else fnd f p n
theorem fnd_of {f : Nat → Nat} {p : Nat} : ∀ {n k : Nat}, k < n → f k = p → (∀ j, j < n → f j = p → j = k) → fnd f p n = k
  | n + 1, k, hk, e, hu => by
    unfold fnd
    by_cases q : f n = p
    · rw [if_pos q]; exact hu n (by omega) q
    · rw [if_neg q]
      refine fnd_of ?_ e (fun j hj => hu j (by omega))
      rcases Nat.lt_or_ge k n with z | z
      · exact z
      · exact absurd (by rw [show n = k by omega]; exact e) q
/-- the reading order -/
def plS (S : List Stk) (k : Nat) : Nat := rk (fun k => (lnS S k : Int)) (lfS S) S.length k
def odS (S : List Stk) (p : Nat) : Nat := fnd (plS S) p S.length
theorem plS_lt {S : List Stk} {k : Nat} (h : k < S.length) : plS S k < S.length := rk_lt h
theorem odS_pl {S : List Stk} {k : Nat} (h : k < S.length) : odS S (plS S k) = k := fnd_of h rfl (fun j hj e => rk_inj hj h e)
theorem plS_od {S : List Stk} {p : Nat} (h : p < S.length) : odS S p < S.length ∧ plS S (odS S p) = p := by
  obtain ⟨k, hk, e⟩ := rk_onto (a := fun k => (lnS S k : Int)) (b := lfS S) h
  have e2 : plS S k = p := e
  rw [← e2, odS_pl hk]
  exact ⟨hk, rfl⟩
theorem odS_le {S : List Stk} {p q : Nat} (h : p < q) (hq : q < S.length) : lnS S (odS S p) < lnS S (odS S q) ∨ (lnS S (odS S p) = lnS S (odS S q) ∧ lfS S (odS S p) ≤ lfS S (odS S q)) := by
  obtain ⟨h1, h2⟩ := plS_od (S := S) (p := p) (by omega)
  obtain ⟨h3, h4⟩ := plS_od (S := S) hq
  have h5 := rk_le (a := fun k => (lnS S k : Int)) (b := lfS S) h1 h3 (by
    show plS S _ < plS S _
    omega)
  rw [lx_iff] at h5
  omega
/-- the words, place by place: how many, the line before, then the rows wordOf, lines, sizes, lefts, rights, firsts, wordsIn, firstIn -/
abbrev WdT : Type := Nat × Int × (Nat → Int) × (Nat → Int) × (Nat → Int) × (Nat → Int) × (Nat → Int) × (Nat → Int) × (Nat → Int) × (Nat → Int)
def wdB (lf gap L : Int) (s : WdT) : Bool := decide (L ≠ s.2.1 ∨ s.2.2.2.2.2.2.1 (s.1 - 1) + gap < lf)
def wd1 (L : Nat) (s : WdT) : WdT := if (L : Int) = s.2.1 then s else (s.1, s.2.1, s.2.2.1, s.2.2.2.1, s.2.2.2.2.1, s.2.2.2.2.2.1, s.2.2.2.2.2.2.1, s.2.2.2.2.2.2.2.1, upz s.2.2.2.2.2.2.2.2.1 L 0, upz s.2.2.2.2.2.2.2.2.2 L (s.1 : Int))
def wd2 (p : Nat) (lf rt gap : Int) (L : Nat) (s : WdT) : WdT := if wdB lf gap L s = true then (s.1 + 1, s.2.1, s.2.2.1, upz s.2.2.2.1 s.1 (L : Int), upz s.2.2.2.2.1 s.1 0, upz s.2.2.2.2.2.1 s.1 lf, upz s.2.2.2.2.2.2.1 s.1 rt, upz s.2.2.2.2.2.2.2.1 s.1 (p : Int), upz s.2.2.2.2.2.2.2.2.1 L (s.2.2.2.2.2.2.2.2.1 L + 1), s.2.2.2.2.2.2.2.2.2) else s
def wd3 (k : Nat) (rt : Int) (L : Nat) (s : WdT) : WdT := (s.1, (L : Int), upz s.2.2.1 k ((s.1 - 1 : Nat) : Int), s.2.2.2.1, upz s.2.2.2.2.1 (s.1 - 1) (s.2.2.2.2.1 (s.1 - 1) + 1), s.2.2.2.2.2.1, upz s.2.2.2.2.2.2.1 (s.1 - 1) (max rt (s.2.2.2.2.2.2.1 (s.1 - 1))), s.2.2.2.2.2.2.2.1, s.2.2.2.2.2.2.2.2.1, s.2.2.2.2.2.2.2.2.2)
def wdStep (S : List Stk) (gap : Int) (p : Nat) (s : WdT) : WdT := wd3 (odS S p) (rtS S (odS S p)) (lnS S (odS S p)) (wd2 p (lfS S (odS S p)) (rtS S (odS S p)) gap (lnS S (odS S p)) (wd1 (lnS S (odS S p)) s))
def wdA (S : List Stk) (gap : Int) (s0 : WdT) (p : Nat) : WdT := itr (wdStep S gap) s0 p
theorem wdA_s (S : List Stk) (gap : Int) (s0 : WdT) (p : Nat) : wdA S gap s0 (p + 1) = wdStep S gap p (wdA S gap s0 p) := rfl

set_option maxRecDepth 100000 in
set_option maxHeartbeats 4000000 in
theorem c_X6_isBefore (l : Launch) (D : va_G) (kI kC : ClassId) (h : Nat → Nat) (n : Int) (od pl wo li si le ri fi wi fn sl : Nat → Int) (g : Nat → Nat) (ln : Int) (lo to bo ls bt bb ra : Nat → Int) (o i : Nat) (ho : o < 16) (hi : i < 16) (hbo : IR (lo o) ∧ IR (sl o)) (hbi : IR (lo i) ∧ IR (sl i)) : ConR l yX6_isBefore wsX6_isBefore { frames := 0, cells := 0, slots := 0, locals := 0 } D kI kC [.ref (h 0), .int (iI (o : Int)), .int (iI (i : Int)), .ref (g 0)] (woW kI h n od pl wo li si le ri fi wi fn sl ++ liW kI g ln lo to bo ls bt bb ra) (fun r => r = bI (lx lo sl o i)) := by
  refine Con.of (cc := cX6_isBefore) (maxL := 4) (ret := (some .boolean)) (by decide +kernel) rfl (List.forall_mem_cons.mpr ⟨rfl, List.forall_mem_cons.mpr ⟨rfl, List.forall_mem_cons.mpr ⟨rfl, List.forall_mem_cons.mpr ⟨rfl, fun _ h => absurd h List.not_mem_nil⟩⟩⟩⟩) (Nat.le_of_ble_eq_true rfl) ?_
  intro pV eV sV mV bV tV cV AV XC hrV
  have XC : Cx pV _ sV mV _ tV cV cX6_isBefore 4 RX6 wsX6_isBefore AV D kI kC := XC
  change VV _ _ _ _ _ _ _ _ _ _ _ _ _ _ _ _ _ [some (.ref (h 0)), some (.int (iI (o : Int))), some (.int (iI (i : Int))), some (.ref (g 0))] _ _
  dsimp only [woW, liW, List.cons_append, List.nil_append]
  unfold IR at hbo hbi
  refine V_aload_n XC 3 rfl dX6_isBefore_0 rfl ?_
  refine V_get XC 1 flX6_isBefore_58 12 rfl rfl dX6_isBefore_1 ?_
  refine V_iload_n XC 1 rfl dX6_isBefore_4 rfl ?_
  refine V_iald XC (_) 13 rfl rfl (by omega) (by decide) dX6_isBefore_5 ?_
  refine V_aload_n XC 3 rfl dX6_isBefore_6 rfl ?_
  refine V_get XC 1 flX6_isBefore_58 12 rfl rfl dX6_isBefore_7 ?_
  refine V_iload_n XC 2 rfl dX6_isBefore_10 rfl ?_
  refine V_iald XC (_) 13 rfl rfl (by omega) (by decide) dX6_isBefore_11 ?_
  refine V_icmp_eq XC 36 dX6_isBefore_12 (by decide) ⟨by omega, by omega⟩ ⟨by omega, by omega⟩ (fun h12 => ?_) (fun h12 => ?_)
  · skip
    refine V_aload_n XC 0 rfl dX6_isBefore_36 rfl ?_
    refine V_get XC 11 flX6_isBefore_42 0 rfl rfl dX6_isBefore_37 ?_
    refine V_iload_n XC 1 rfl dX6_isBefore_40 rfl ?_
    refine V_iald XC (_) 11 rfl rfl (by omega) (by decide) dX6_isBefore_41 ?_
    refine V_aload_n XC 0 rfl dX6_isBefore_42 rfl ?_
    refine V_get XC 11 flX6_isBefore_42 0 rfl rfl dX6_isBefore_43 ?_
    refine V_iload_n XC 2 rfl dX6_isBefore_46 rfl ?_
    refine V_iald XC (_) 11 rfl rfl (by omega) (by decide) dX6_isBefore_47 ?_
    refine V_icmp_eq XC 72 dX6_isBefore_48 (by decide) ⟨by omega, by omega⟩ ⟨by omega, by omega⟩ (fun h48 => ?_) (fun h48 => ?_)
    · skip
      refine V_iload_n XC 1 rfl dX6_isBefore_72 rfl ?_
      refine V_iload_n XC 2 rfl dX6_isBefore_73 rfl ?_
      refine V_icmp_ge XC 81 dX6_isBefore_74 (by decide) ⟨by omega, by omega⟩ ⟨by omega, by omega⟩ (fun h74 => ?_) (fun h74 => ?_)
      · skip
        refine V_iconst XC dX6_isBefore_81 ?_
        refine V_zret (r := false) XC () hrV rfl dX6_isBefore_82 ?_
        unfold lx
        try dsimp only
        first | exact congrArg bI (decide_eq_true (by omega)).symm | exact congrArg bI (decide_eq_false (by omega)).symm
      refine V_iconst XC dX6_isBefore_77 ?_
      refine V_goto XC 82 dX6_isBefore_78 (by decide) ?_
      refine V_zret (r := true) XC () hrV rfl dX6_isBefore_82 ?_
      unfold lx
      try dsimp only
      first | exact congrArg bI (decide_eq_true (by omega)).symm | exact congrArg bI (decide_eq_false (by omega)).symm
    refine V_aload_n XC 0 rfl dX6_isBefore_51 rfl ?_
    refine V_get XC 11 flX6_isBefore_42 0 rfl rfl dX6_isBefore_52 ?_
    refine V_iload_n XC 1 rfl dX6_isBefore_55 rfl ?_
    refine V_iald XC (_) 11 rfl rfl (by omega) (by decide) dX6_isBefore_56 ?_
    refine V_aload_n XC 0 rfl dX6_isBefore_57 rfl ?_
    refine V_get XC 11 flX6_isBefore_42 0 rfl rfl dX6_isBefore_58 ?_
    refine V_iload_n XC 2 rfl dX6_isBefore_61 rfl ?_
    refine V_iald XC (_) 11 rfl rfl (by omega) (by decide) dX6_isBefore_62 ?_
    refine V_icmp_ge XC 70 dX6_isBefore_63 (by decide) ⟨by omega, by omega⟩ ⟨by omega, by omega⟩ (fun h63 => ?_) (fun h63 => ?_)
    · skip
      refine V_iconst XC dX6_isBefore_70 ?_
      refine V_zret (r := false) XC () hrV rfl dX6_isBefore_71 ?_
      unfold lx
      try dsimp only
      first | exact congrArg bI (decide_eq_true (by omega)).symm | exact congrArg bI (decide_eq_false (by omega)).symm
    refine V_iconst XC dX6_isBefore_66 ?_
    refine V_goto XC 71 dX6_isBefore_67 (by decide) ?_
    refine V_zret (r := true) XC () hrV rfl dX6_isBefore_71 ?_
    unfold lx
    try dsimp only
    first | exact congrArg bI (decide_eq_true (by omega)).symm | exact congrArg bI (decide_eq_false (by omega)).symm
  refine V_aload_n XC 3 rfl dX6_isBefore_15 rfl ?_
  refine V_get XC 1 flX6_isBefore_58 12 rfl rfl dX6_isBefore_16 ?_
  refine V_iload_n XC 1 rfl dX6_isBefore_19 rfl ?_
  refine V_iald XC (_) 13 rfl rfl (by omega) (by decide) dX6_isBefore_20 ?_
  refine V_aload_n XC 3 rfl dX6_isBefore_21 rfl ?_
  refine V_get XC 1 flX6_isBefore_58 12 rfl rfl dX6_isBefore_22 ?_
  refine V_iload_n XC 2 rfl dX6_isBefore_25 rfl ?_
  refine V_iald XC (_) 13 rfl rfl (by omega) (by decide) dX6_isBefore_26 ?_
  refine V_icmp_ge XC 34 dX6_isBefore_27 (by decide) ⟨by omega, by omega⟩ ⟨by omega, by omega⟩ (fun h27 => ?_) (fun h27 => ?_)
  · skip
    refine V_iconst XC dX6_isBefore_34 ?_
    refine V_zret (r := false) XC () hrV rfl dX6_isBefore_35 ?_
    unfold lx
    try dsimp only
    first | exact congrArg bI (decide_eq_true (by omega)).symm | exact congrArg bI (decide_eq_false (by omega)).symm
  refine V_iconst XC dX6_isBefore_30 ?_
  refine V_goto XC 35 dX6_isBefore_31 (by decide) ?_
  refine V_zret (r := true) XC () hrV rfl dX6_isBefore_35 ?_
  unfold lx
  try dsimp only
  first | exact congrArg bI (decide_eq_true (by omega)).symm | exact congrArg bI (decide_eq_false (by omega)).symm

set_option maxRecDepth 100000 in
set_option maxHeartbeats 4000000 in
theorem c_X6_setOrder (l : Launch) (D : va_G) (kI kC : ClassId) (h : Nat → Nat) (n : Int) (od pl wo li si le ri fi wi fn sl : Nat → Int) (g : Nat → Nat) (ln : Int) (lo to bo ls bt bb ra : Nat → Int) (s0 s1 : Nat) (m : Nat) (F : Nat → Int) (hm : m ≤ 16) (hS : OkS (shC m F)) (hlo : ∀ j, j < m → lo j = (lnS (shC m F) j : Nat))  : Con l yX6_setOrder wsX6_setOrder { frames := 3, cells := 0, slots := 0, locals := 66 } D kI kC [.ref (h 0), .ref s0, .ref (g 0)] ((woW kI h n od pl wo li si le ri fi wi fn sl) ++ (shW kI s0 s1 (m : Int) F ++ liW kI g ln lo to bo ls bt bb ra)) (σ := (Nat → Int) × (Nat → Int) × (Nat → Int)) (qV (fun u => (∀ k, k < m → u.2.1 k = (plS (shC m F) k : Nat) ∧ u.1 (plS (shC m F) k) = (k : Int) ∧ u.2.2 k = lfS (shC m F) k))) (fun u => woW kI h n u.1 u.2.1 wo li si le ri fi wi fn u.2.2 ++ (shW kI s0 s1 (m : Int) F ++ liW kI g ln lo to bo ls bt bb ra)) := by
  refine Con.of (cc := cX6_setOrder) (maxL := 6) (ret := none) (by decide +kernel) rfl (List.forall_mem_cons.mpr ⟨rfl, List.forall_mem_cons.mpr ⟨rfl, List.forall_mem_cons.mpr ⟨rfl, fun _ h => absurd h List.not_mem_nil⟩⟩⟩) (Nat.le_of_ble_eq_true rfl) ?_
  intro pV eV sV mV bV tV cV AV XC hrV
  have XC : Cx pV _ sV mV _ tV cV cX6_setOrder 6 RX6 wsX6_setOrder AV D kI kC := XC
  change VV _ _ _ _ _ _ _ _ _ _ _ _ _ _ _ _ _ [some (.ref (h 0)), some (.ref s0), some (.ref (g 0)), none, none, none] _ _
  dsimp only [woW, liW, shW, List.cons_append, List.nil_append]
  refine V_iconst XC dX6_setOrder_0 ?_
  refine V_istore_n XC 3 rfl dX6_setOrder_1 (by decide) ?_
  dsimp only [List.set]
  refine V_loop (σ := Nat × (Nat → Int)) (fun u => m - u.1) (fun u => u.1 ≤ m ∧ ∀ k, k < u.1 → u.2 k = lfS (shC m F) k) (fun u => [some (.ref (h 0)), some (.ref s0), some (.ref (g 0)), some (.int (iI (u.1 : Int))), none, none]) (fun u => woW kI h n od pl wo li si le ri fi wi fn u.2 ++ (shW kI s0 s1 (m : Int) F ++ liW kI g ln lo to bo ls bt bb ra)) (0, sl) ?_ rfl rfl (fun u hJ ih2 => ?_)
  · dsimp only
    exact ⟨Nat.zero_le _, fun q hq => absurd hq (Nat.not_lt_zero q)⟩
  obtain ⟨j, sl2⟩ := u
  try dsimp only at hJ ih2 ⊢
  try dsimp only [List.cons_append, List.nil_append, padO, mdO, shW, trW, txW, hiW, liW, woW, taW]
  obtain ⟨hj, hsl⟩ := hJ
  refine V_iload_n XC 3 rfl dX6_setOrder_2 rfl ?_
  refine V_aload_n XC 1 rfl dX6_setOrder_3 rfl ?_
  refine V_get XC 0 flX6_setOrder_53 12 rfl rfl dX6_setOrder_4 ?_
  refine V_icmp_ge XC 27 dX6_setOrder_7 (by decide) ⟨by omega, by omega⟩ ⟨by omega, by omega⟩ (fun h7 => ?_) (fun h7 => ?_)
  · skip
    obtain rfl : m = j := by omega
    have hpl : ∀ k, k < m → rk lo sl2 m k = plS (shC m F) k := fun k hk => by
      unfold plS
      rw [shC_len]
      exact rk_congr hk (fun i hi => ⟨hlo i hi, hsl i hi⟩)
    have hbd : ∀ k, k < m → IR (lo k) ∧ IR (sl2 k) := fun k hk => by
      have h1 := (bdS hS (k := k) (by rw [shC_len]; exact hk)).2
      have h2 := lnS_lt hS (k := k) (by rw [shC_len]; exact hk)
      have h3 := (GS_ok hS).1
      rw [shC_len] at h3
      rw [hlo k hk, hsl k hk]
      exact ⟨⟨by omega, by omega⟩, ⟨by omega, by omega⟩⟩
    refine V_iconst XC dX6_setOrder_27 ?_
    refine V_istore_n XC 3 rfl dX6_setOrder_28 (by decide) ?_
    dsimp only [List.set]
    refine V_loop (σ := Nat × (Nat → Int) × (Nat → Int)) (fun u => m - u.1) (fun u => u.1 ≤ m ∧ ∀ k, k < u.1 → u.2.2 k = (plS (shC m F) k : Nat) ∧ u.2.1 (plS (shC m F) k) = (k : Int)) (fun u => [some (.ref (h 0)), some (.ref s0), some (.ref (g 0)), some (.int (iI (u.1 : Int))), none, none]) (fun u => woW kI h n u.2.1 u.2.2 wo li si le ri fi wi fn sl2 ++ (shW kI s0 s1 (m : Int) F ++ liW kI g ln lo to bo ls bt bb ra)) (0, od, pl) ?_ rfl rfl (fun u hJ ih29 => ?_)
    · dsimp only
      exact ⟨Nat.zero_le _, fun q hq => absurd hq (Nat.not_lt_zero q)⟩
    obtain ⟨i, od2, pl2⟩ := u
    try dsimp only at hJ ih29 ⊢
    try dsimp only [List.cons_append, List.nil_append, padO, mdO, shW, trW, txW, hiW, liW, woW, taW]
    obtain ⟨hi, hall⟩ := hJ
    refine V_iload_n XC 3 rfl dX6_setOrder_29 rfl ?_
    refine V_aload_n XC 1 rfl dX6_setOrder_30 rfl ?_
    refine V_get XC 0 flX6_setOrder_53 12 rfl rfl dX6_setOrder_31 ?_
    refine V_icmp_ge XC 101 dX6_setOrder_34 (by decide) ⟨by omega, by omega⟩ ⟨by omega, by omega⟩ (fun h34 => ?_) (fun h34 => ?_)
    · skip
      refine V_vret XC (_, _, _) hrV rfl dX6_setOrder_101 ?_
      obtain rfl : m = i := by omega
      exact fun k hk => ⟨(hall k hk).1, (hall k hk).2, hsl k hk⟩
    refine V_iconst XC dX6_setOrder_37 ?_
    refine V_istore XC dX6_setOrder_38 (by decide) ?_
    dsimp only [List.set]
    refine V_iconst XC dX6_setOrder_40 ?_
    refine V_istore XC dX6_setOrder_41 (by decide) ?_
    dsimp only [List.set]
    refine V_loopR (σ := Nat) (fun u => m - u) (fun u => u ≤ m) (fun u => [some (.ref (h 0)), some (.ref s0), some (.ref (g 0)), some (.int (iI (i : Int))), some (.int (iI (fb_ct (fun o => lx lo sl2 o i) u : Nat))), some (.int (iI (u : Int)))]) (0) (Nat.zero_le _) rfl (fun u hJ ih43 => ?_)
    obtain ⟨q, rfl⟩ : ∃ z, z = u := ⟨_, rfl⟩
    try dsimp only at hJ ih43 ⊢
    obtain hq := hJ
    refine V_iload XC dX6_setOrder_43 rfl ?_
    refine V_aload_n XC 1 rfl dX6_setOrder_45 rfl ?_
    refine V_get XC 0 flX6_setOrder_53 12 rfl rfl dX6_setOrder_46 ?_
    refine V_icmp_ge XC 79 dX6_setOrder_49 (by decide) ⟨by omega, by omega⟩ ⟨by omega, by omega⟩ (fun h49 => ?_) (fun h49 => ?_)
    · skip
      obtain rfl : m = q := by omega
      have hrk := rk_lt (a := lo) (b := sl2) (m := m) (i := i) (by omega)
      change VV _ _ _ _ _ _ _ _ _ _ _ _ _ _ _ _ _ [some (.ref (h 0)), some (.ref s0), some (.ref (g 0)), some (.int (iI (i : Int))), some (.int (iI (rk lo sl2 m i : Nat))), some (.int (iI (m : Int)))] _ _
      rw [hpl i (by omega)] at hrk ⊢
      refine V_aload_n XC 0 rfl dX6_setOrder_79 rfl ?_
      refine V_get XC 2 flX6_setOrder_15 0 rfl rfl dX6_setOrder_80 ?_
      refine V_iload_n XC 3 rfl dX6_setOrder_83 rfl ?_
      refine V_iload XC dX6_setOrder_84 rfl ?_
      refine V_iast XC (i) 2 rfl (by omega) (by omega) (by decide) dX6_setOrder_86 ?_
      dsimp only [List.set]
      refine V_aload_n XC 0 rfl dX6_setOrder_87 rfl ?_
      refine V_get XC 1 flX6_setOrder_9 0 rfl rfl dX6_setOrder_88 ?_
      refine V_iload XC dX6_setOrder_91 rfl ?_
      refine V_iload_n XC 3 rfl dX6_setOrder_93 rfl ?_
      refine V_iast XC (plS (shC m F) i) 1 rfl (by omega) (by omega) (by decide) dX6_setOrder_94 ?_
      dsimp only [List.set]
      refine V_iinc XC dX6_setOrder_95 rfl (by decide) ?_
      dsimp only [List.set]
      refine V_goto XC 29 dX6_setOrder_98 (by decide) ?_
      refine V_kill 4 ?_
      dsimp only [List.set]
      refine V_kill 5 ?_
      dsimp only [List.set]
      refine ih29 (i + 1, upz od2 (plS (shC m F) i) (i : Int), upz pl2 i (plS (shC m F) i : Nat)) ⟨by (try dsimp only); omega, fun q hq => ?_⟩ (by (try dsimp only); omega)
      dsimp only at hq ⊢
      by_cases z : q = i
      · subst z; rw [upz_s, upz_s]; exact ⟨rfl, rfl⟩
      · have hne : plS (shC m F) q ≠ plS (shC m F) i := fun e => z (rk_inj (by rw [shC_len]; omega) (by rw [shC_len]; omega) e)
        rw [upz_n z, upz_n hne]; exact hall q (by omega)
    refine V_iload XC dX6_setOrder_52 rfl ?_
    refine V_aload_n XC 0 rfl dX6_setOrder_54 rfl ?_
    refine V_iload XC dX6_setOrder_55 rfl ?_
    refine V_iload_n XC 3 rfl dX6_setOrder_57 rfl ?_
    refine V_aload_n XC 2 rfl dX6_setOrder_58 rfl ?_
    refine V_callV (rest := _) (q0 := 0) XC (c_X6_isBefore l D kI kC _ _ _ _ _ _ _ _ _ _ _ _ _ _ _ _ _ _ _ _ _ _ _ _ (by omega) (by omega) (hbd q (by omega)) (hbd i (by omega))) gX6_setOrder_X6_isBefore rfl kmX6_isBefore ⟨⟨Nat.le_of_ble_eq_true rfl, Nat.le_of_ble_eq_true rfl⟩, Nat.le_of_ble_eq_true rfl, Nat.le_of_ble_eq_true rfl⟩ ⟨rfl, rfl⟩ rfl rfl (Nat.le_of_ble_eq_true rfl) [0, 1, 2, 3, 4, 5, 6, 7, 8, 9, 10, 11, 14, 15, 16, 17, 18, 19, 20, 21] rfl rfl (fun _ => rfl) rfl rfl dX6_setOrder_59 (kR_of rfl (fun r59 hq59 => ?_))
    subst hq59
    refine V_bif_eq XC 69 dX6_setOrder_62 (by decide) (fun h62 => ?_) (fun h62 => ?_)
    · skip
      refine V_iconst XC dX6_setOrder_69 ?_
      refine V_iadd XC dX6_setOrder_70 ?_
      refine V_istore XC dX6_setOrder_71 (by decide) ?_
      dsimp only [List.set]
      refine V_iinc XC dX6_setOrder_73 rfl (by decide) ?_
      dsimp only [List.set]
      refine V_goto XC 43 dX6_setOrder_76 (by decide) ?_
      first | rw [ct_s1 (p := fun o => lx lo sl2 o i) h62] | rw [ct_s0 (p := fun o => lx lo sl2 o i) h62]
      exact ih43 (q + 1) (by omega) (by omega)
    refine V_iconst XC dX6_setOrder_65 ?_
    refine V_goto XC 70 dX6_setOrder_66 (by decide) ?_
    refine V_iadd XC dX6_setOrder_70 ?_
    refine V_istore XC dX6_setOrder_71 (by decide) ?_
    dsimp only [List.set]
    refine V_iinc XC dX6_setOrder_73 rfl (by decide) ?_
    dsimp only [List.set]
    refine V_goto XC 43 dX6_setOrder_76 (by decide) ?_
    first | rw [ct_s1 (p := fun o => lx lo sl2 o i) h62] | rw [ct_s0 (p := fun o => lx lo sl2 o i) h62]
    exact ih43 (q + 1) (by omega) (by omega)
  have hkk := shC_in hS (show j < m by omega)
  have hat := shC_at (F := F) (show j < m by omega)
  refine V_aload_n XC 0 rfl dX6_setOrder_10 rfl ?_
  refine V_get XC 11 flX6_setOrder_42 0 rfl rfl dX6_setOrder_11 ?_
  refine V_iload_n XC 3 rfl dX6_setOrder_14 rfl ?_
  refine V_aload_n XC 1 rfl dX6_setOrder_15 rfl ?_
  refine V_iload_n XC 3 rfl dX6_setOrder_16 rfl ?_
  refine V_callV (rest := _) (q0 := 12) XC (c_X2_left l D kI kC _ _ _ _ _ (by omega) hkk) gX6_setOrder_X2_left rfl kmX2_left ⟨⟨Nat.le_of_ble_eq_true rfl, Nat.le_of_ble_eq_true rfl⟩, Nat.le_of_ble_eq_true rfl, Nat.le_of_ble_eq_true rfl⟩ ⟨rfl, rfl⟩ rfl rfl (Nat.le_of_ble_eq_true rfl) [12, 13] rfl rfl (fun _ => rfl) rfl rfl dX6_setOrder_17 (kR_of rfl (fun r17 hq17 => ?_))
  subst hq17
  rw [show mnF (px (skC F j)) (szk (skC F j) - 1) = lfS (shC m F) j by unfold lfS lfK; rw [hat]]
  refine V_iast XC (j) 11 rfl (by omega) (by omega) (by decide) dX6_setOrder_20 ?_
  dsimp only [List.set]
  refine V_iinc XC dX6_setOrder_21 rfl (by decide) ?_
  dsimp only [List.set]
  refine V_goto XC 2 dX6_setOrder_24 (by decide) ?_
  refine ih2 (j + 1, upz sl2 j (lfS (shC m F) j)) ⟨by (try dsimp only); omega, fun q hq => ?_⟩ (by (try dsimp only); omega)
  dsimp only at hq ⊢
  by_cases z : q = j
  · subst z; rw [upz_s]
  · rw [upz_n z]; exact hsl q (by omega)

set_option maxRecDepth 100000 in
set_option maxHeartbeats 4000000 in
theorem c_X6_group (l : Launch) (D : va_G) (kI kC : ClassId) (h : Nat → Nat) (n : Int) (od pl wo li si le ri fi wi fn sl : Nat → Int) (g : Nat → Nat) (ln : Int) (lo to bo ls bt bb ra : Nat → Int) (s0 s1 : Nat) (m : Nat) (F : Nat → Int) (hm : m ≤ 16) (hS : OkS (shC m F)) (hlo : ∀ j, j < m → lo j = (lnS (shC m F) j : Nat)) (gap : Int) (hg : 0 ≤ gap ∧ gap ≤ 500) : Con l yX6_group wsX6_group { frames := 4, cells := 0, slots := 0, locals := 91 } D kI kC [.ref (h 0), .ref s0, .ref (g 0), .int (iI gap)] ((woW kI h n od pl wo li si le ri fi wi fn sl) ++ (shW kI s0 s1 (m : Int) F ++ liW kI g ln lo to bo ls bt bb ra)) (σ := (Nat → Int) × (Nat → Int) × (Nat → Int) × WdT) (qV (fun u => (∀ k, k < m → u.2.1 k = (plS (shC m F) k : Nat) ∧ u.1 (plS (shC m F) k) = (k : Int)) ∧ u.2.2.2 = wdA (shC m F) gap (0, -5, wo, li, si, le, ri, fi, wi, fn) m)) (fun u => woW kI h (u.2.2.2.1 : Nat) u.1 u.2.1 u.2.2.2.2.2.1 u.2.2.2.2.2.2.1 u.2.2.2.2.2.2.2.1 u.2.2.2.2.2.2.2.2.1 u.2.2.2.2.2.2.2.2.2.1 u.2.2.2.2.2.2.2.2.2.2.1 u.2.2.2.2.2.2.2.2.2.2.2.1 u.2.2.2.2.2.2.2.2.2.2.2.2 u.2.2.1 ++ (shW kI s0 s1 (m : Int) F ++ liW kI g ln lo to bo ls bt bb ra)) := by
  refine Con.of (cc := cX6_group) (maxL := 10) (ret := none) (by decide +kernel) rfl (List.forall_mem_cons.mpr ⟨rfl, List.forall_mem_cons.mpr ⟨rfl, List.forall_mem_cons.mpr ⟨rfl, List.forall_mem_cons.mpr ⟨rfl, fun _ h => absurd h List.not_mem_nil⟩⟩⟩⟩) (Nat.le_of_ble_eq_true rfl) ?_
  intro pV eV sV mV bV tV cV AV XC hrV
  have XC : Cx pV _ sV mV _ tV cV cX6_group 10 RX6 wsX6_group AV D kI kC := XC
  change VV _ _ _ _ _ _ _ _ _ _ _ _ _ _ _ _ _ [some (.ref (h 0)), some (.ref s0), some (.ref (g 0)), some (.int (iI gap)), none, none, none, none, none, none] _ _
  dsimp only [woW, liW, shW, List.cons_append, List.nil_append]
  refine V_aload_n XC 0 rfl dX6_group_0 rfl ?_
  refine V_aload_n XC 1 rfl dX6_group_1 rfl ?_
  refine V_aload_n XC 2 rfl dX6_group_2 rfl ?_
  refine V_callV (rest := _) (q0 := 0) XC (c_X6_setOrder l D kI kC _ _ _ _ _ _ _ _ _ _ _ _ _ _ _ _ _ _ _ _ _ _ _ _ _ _ (by omega) (by assumption) (by assumption)) gX6_group_X6_setOrder rfl kmX6_setOrder ⟨⟨Nat.le_of_ble_eq_true rfl, Nat.le_of_ble_eq_true rfl⟩, Nat.le_of_ble_eq_true rfl, Nat.le_of_ble_eq_true rfl⟩ ⟨rfl, rfl⟩ rfl rfl (Nat.le_of_ble_eq_true rfl) [0, 1, 2, 3, 4, 5, 6, 7, 8, 9, 10, 11, 12, 13, 14, 15, 16, 17, 18, 19, 20, 21] rfl rfl (fun _ => rfl) rfl rfl dX6_group_3 (kV_of (fun u3 hq3 => ?_))
  obtain ⟨od3, pl3, sl3⟩ := u3
  dsimp only [putW, List.set, Option.toList, List.cons_append, List.nil_append, padO, mdO, shW, trW, txW, hiW, liW, woW, taW]
  try dsimp only at hq3
  have ho3 := hq3
  have hod : ∀ p, p < m → od3 p = (odS (shC m F) p : Nat) := fun p hp => by
    obtain ⟨h1, h2⟩ := plS_od (S := (shC m F)) (p := p) (by rw [shC_len]; exact hp)
    have h3 := (ho3 _ (by rw [shC_len] at h1; exact h1)).2.1
    rwa [h2] at h3
  refine V_aload_n XC 0 rfl dX6_group_6 rfl ?_
  refine V_iconst XC dX6_group_7 ?_
  refine V_putI XC 0 flX6_group_49 fpX6 pdX6_0 rfl 0 rfl (Nat.le_of_ble_eq_true rfl) dX6_group_8 ?_
  dsimp only [List.set]
  refine V_bipush XC dX6_group_11 (by decide) ?_
  refine V_istore XC dX6_group_13 (by decide) ?_
  dsimp only [List.set]
  refine V_iconst XC dX6_group_15 ?_
  refine V_istore XC dX6_group_16 (by decide) ?_
  dsimp only [List.set]
  refine V_loop (σ := Nat) (fun u => m - u) (fun u => u ≤ m ∧ (wdA (shC m F) gap (0, -5, wo, li, si, le, ri, fi, wi, fn) u).1 ≤ u ∧ ((wdA (shC m F) gap (0, -5, wo, li, si, le, ri, fi, wi, fn) u).2.1 = -5 ∨ ((wdA (shC m F) gap (0, -5, wo, li, si, le, ri, fi, wi, fn) u).1 ≠ 0 ∧ 0 ≤ (wdA (shC m F) gap (0, -5, wo, li, si, le, ri, fi, wi, fn) u).2.1 ∧ (wdA (shC m F) gap (0, -5, wo, li, si, le, ri, fi, wi, fn) u).2.1 < 16)) ∧ (∀ x, x < (wdA (shC m F) gap (0, -5, wo, li, si, le, ri, fi, wi, fn) u).1 → 0 ≤ (wdA (shC m F) gap (0, -5, wo, li, si, le, ri, fi, wi, fn) u).2.2.2.2.2.2.1 x ∧ (wdA (shC m F) gap (0, -5, wo, li, si, le, ri, fi, wi, fn) u).2.2.2.2.2.2.1 x ≤ 1000)) (fun u => [some (.ref (h 0)), some (.ref s0), some (.ref (g 0)), some (.int (iI gap)), some (.int (iI (wdA (shC m F) gap (0, -5, wo, li, si, le, ri, fi, wi, fn) u).2.1)), some (.int (iI (u : Int))), none, none, none, none]) (fun u => woW kI h ((wdA (shC m F) gap (0, -5, wo, li, si, le, ri, fi, wi, fn) u).1 : Nat) od3 pl3 (wdA (shC m F) gap (0, -5, wo, li, si, le, ri, fi, wi, fn) u).2.2.1 (wdA (shC m F) gap (0, -5, wo, li, si, le, ri, fi, wi, fn) u).2.2.2.1 (wdA (shC m F) gap (0, -5, wo, li, si, le, ri, fi, wi, fn) u).2.2.2.2.1 (wdA (shC m F) gap (0, -5, wo, li, si, le, ri, fi, wi, fn) u).2.2.2.2.2.1 (wdA (shC m F) gap (0, -5, wo, li, si, le, ri, fi, wi, fn) u).2.2.2.2.2.2.1 (wdA (shC m F) gap (0, -5, wo, li, si, le, ri, fi, wi, fn) u).2.2.2.2.2.2.2.1 (wdA (shC m F) gap (0, -5, wo, li, si, le, ri, fi, wi, fn) u).2.2.2.2.2.2.2.2.1 (wdA (shC m F) gap (0, -5, wo, li, si, le, ri, fi, wi, fn) u).2.2.2.2.2.2.2.2.2 sl3 ++ (shW kI s0 s1 (m : Int) F ++ liW kI g ln lo to bo ls bt bb ra)) (0) ⟨Nat.zero_le _, Nat.le_refl _, Or.inl rfl, fun x hx => absurd hx (Nat.not_lt_zero x)⟩ rfl rfl (fun u hJ ih18 => ?_)
  obtain ⟨p, rfl⟩ : ∃ z, z = u := ⟨_, rfl⟩
  try dsimp only at hJ ih18 ⊢
  try dsimp only [List.cons_append, List.nil_append, padO, mdO, shW, trW, txW, hiW, liW, woW, taW]
  obtain ⟨hp, hwp, hlb, hri⟩ := hJ
  have hws := wdA_s (shC m F) gap (0, -5, wo, li, si, le, ri, fi, wi, fn) p
  generalize hG : wdA (shC m F) gap (0, -5, wo, li, si, le, ri, fi, wi, fn) p = G at hwp hlb hri hws ⊢
  obtain ⟨w, lb, wo2, li2, si2, le2, ri2, fi2, wi2, fn2⟩ := G
  dsimp only [woW, liW, shW, List.cons_append, List.nil_append] at hwp hlb hri hws ⊢
  refine V_iload XC dX6_group_18 rfl ?_
  refine V_aload_n XC 1 rfl dX6_group_20 rfl ?_
  refine V_get XC 0 flX6_group_53 12 rfl rfl dX6_group_21 ?_
  refine V_icmp_ge XC 246 dX6_group_24 (by decide) ⟨by omega, by omega⟩ ⟨by omega, by omega⟩ (fun h24 => ?_) (fun h24 => ?_)
  · skip
    refine V_vret XC (od3, pl3, sl3, (w, lb, wo2, li2, si2, le2, ri2, fi2, wi2, fn2)) hrV rfl dX6_group_246 ?_
    obtain rfl : m = p := by omega
    refine ⟨fun k hk => ⟨(ho3 k hk).1, (ho3 k hk).2.1⟩, ?_⟩
    exact hG.symm
  have hodp := hod p (by omega)
  have hok := (plS_od (S := (shC m F)) (p := p) (by rw [shC_len]; omega)).1
  rw [shC_len] at hok
  have hbk := (bdS hS (k := odS (shC m F) p) (by rw [shC_len]; exact hok)).2
  have hln := lnS_lt hS (k := odS (shC m F) p) (by rw [shC_len]; exact hok)
  have hmS := (GS_ok hS).1
  rw [shC_len] at hmS
  have hlk := hlo (odS (shC m F) p) hok
  have hsk := (ho3 (odS (shC m F) p) hok).2.2
  have hkk := shC_in hS hok
  have hat := shC_at (F := F) hok
  refine V_aload_n XC 0 rfl dX6_group_27 rfl ?_
  refine V_get XC 1 flX6_group_9 0 rfl rfl dX6_group_28 ?_
  refine V_iload XC dX6_group_31 rfl ?_
  refine V_iald XC (p) 1 rfl (by omega) (by omega) (by decide) dX6_group_33 ?_
  rw [hodp]
  refine V_istore XC dX6_group_34 (by decide) ?_
  dsimp only [List.set]
  refine V_aload_n XC 2 rfl dX6_group_36 rfl ?_
  refine V_get XC 1 flX6_group_58 14 rfl rfl dX6_group_37 ?_
  refine V_iload XC dX6_group_40 rfl ?_
  refine V_iald XC (odS (shC m F) p) 15 rfl (by omega) (by omega) (by decide) dX6_group_42 ?_
  rw [hlk]
  refine V_istore XC dX6_group_43 (by decide) ?_
  dsimp only [List.set]
  refine V_aload_n XC 1 rfl dX6_group_45 rfl ?_
  refine V_iload XC dX6_group_46 rfl ?_
  refine V_callV (rest := _) (q0 := 12) XC (c_X2_right l D kI kC _ _ _ _ _ (by omega) hkk) gX6_group_X2_right rfl kmX2_right ⟨⟨Nat.le_of_ble_eq_true rfl, Nat.le_of_ble_eq_true rfl⟩, Nat.le_of_ble_eq_true rfl, Nat.le_of_ble_eq_true rfl⟩ ⟨rfl, rfl⟩ rfl rfl (Nat.le_of_ble_eq_true rfl) [12, 13] rfl rfl (fun _ => rfl) rfl rfl dX6_group_48 (kR_of rfl (fun r48 hq48 => ?_))
  subst hq48
  rw [show mxF (px (skC F (odS (shC m F) p))) (szk (skC F (odS (shC m F) p)) - 1) = rtS (shC m F) (odS (shC m F) p) by unfold rtS rtK; rw [hat]]
  refine V_istore XC dX6_group_51 (by decide) ?_
  dsimp only [List.set]
  refine V_iload XC dX6_group_53 rfl ?_
  refine V_iload XC dX6_group_55 rfl ?_
  refine V_icmp_eq XC 79 dX6_group_57 (by decide) ⟨by omega, by omega⟩ ⟨by omega, by omega⟩ (fun h57 => ?_) (fun h57 => ?_)
  · skip
    refine V_iload XC dX6_group_79 rfl ?_
    refine V_iload XC dX6_group_81 rfl ?_
    refine V_icmp_ne XC 109 dX6_group_83 (by decide) ⟨by omega, by omega⟩ ⟨by omega, by omega⟩ (fun h83 => ?_) (fun h83 => ?_)
    · skip
      exact absurd h83 (by omega)
    refine V_aload_n XC 0 rfl dX6_group_86 rfl ?_
    refine V_get XC 11 flX6_group_42 0 rfl rfl dX6_group_87 ?_
    refine V_iload XC dX6_group_90 rfl ?_
    refine V_iald XC (odS (shC m F) p) 11 rfl (by omega) (by omega) (by decide) dX6_group_92 ?_
    rw [hsk]
    refine V_aload_n XC 0 rfl dX6_group_93 rfl ?_
    refine V_get XC 7 flX6_group_30 0 rfl rfl dX6_group_94 ?_
    refine V_aload_n XC 0 rfl dX6_group_97 rfl ?_
    refine V_get XC 0 flX6_group_49 0 rfl rfl dX6_group_98 ?_
    refine V_iconst XC dX6_group_101 ?_
    refine V_isub XC dX6_group_102 ?_
    have hw0 : w ≠ 0 := by omega
    have hrw := hri (w - 1) (by omega)
    refine V_iald XC (w - 1) 7 rfl (by omega) (by omega) (by decide) dX6_group_103 ?_
    refine V_iload_n XC 3 rfl dX6_group_104 rfl ?_
    refine V_iadd XC dX6_group_105 ?_
    refine V_icmp_le XC 189 dX6_group_106 (by decide) ⟨by omega, by omega⟩ ⟨by omega, by omega⟩ (fun h106 => ?_) (fun h106 => ?_)
    · skip
      refine V_aload_n XC 0 rfl dX6_group_189 rfl ?_
      refine V_get XC 0 flX6_group_49 0 rfl rfl dX6_group_190 ?_
      refine V_iconst XC dX6_group_193 ?_
      refine V_isub XC dX6_group_194 ?_
      first | refine V_top (y := ((w + 1 - 1 : Nat) : Int)) (by omega) ?_ | refine V_top (y := ((w - 1 : Nat) : Int)) (by omega) ?_
      refine V_istore XC dX6_group_195 (by decide) ?_
      dsimp only [List.set]
      refine V_aload_n XC 0 rfl dX6_group_197 rfl ?_
      refine V_get XC 3 flX6_group_18 0 rfl rfl dX6_group_198 ?_
      refine V_iload XC dX6_group_201 rfl ?_
      refine V_iload XC dX6_group_203 rfl ?_
      refine V_iast XC (_) 3 rfl rfl (by omega) (by decide) dX6_group_205 ?_
      dsimp only [List.set]
      refine V_aload_n XC 0 rfl dX6_group_206 rfl ?_
      refine V_get XC 5 flX6_group_24 0 rfl rfl dX6_group_207 ?_
      refine V_iload XC dX6_group_210 rfl ?_
      refine V_dup2 XC dX6_group_212 rfl rfl ?_
      refine V_iald XC (_) 5 rfl rfl (by omega) (by decide) dX6_group_213 ?_
      refine V_iconst XC dX6_group_214 ?_
      refine V_iadd XC dX6_group_215 ?_
      refine V_iast XC (_) 5 rfl rfl (by omega) (by decide) dX6_group_216 ?_
      dsimp only [List.set]
      refine V_aload_n XC 0 rfl dX6_group_217 rfl ?_
      refine V_get XC 7 flX6_group_30 0 rfl rfl dX6_group_218 ?_
      refine V_iload XC dX6_group_221 rfl ?_
      refine V_iload XC dX6_group_223 rfl ?_
      refine V_aload_n XC 0 rfl dX6_group_225 rfl ?_
      refine V_get XC 7 flX6_group_30 0 rfl rfl dX6_group_226 ?_
      refine V_iload XC dX6_group_229 rfl ?_
      refine V_iald XC (_) 7 rfl rfl (by omega) (by decide) dX6_group_231 ?_
      refine V_mmax XC mmX6_group_67 ⟨by omega, by omega⟩ (by first | (rw [show w + 1 - 1 = w from rfl, upz_s]; unfold IR; omega) | (unfold IR; omega)) (Nat.le_of_ble_eq_true rfl) (Nat.le_of_ble_eq_true rfl) (Nat.le_of_ble_eq_true rfl) (Nat.le_of_ble_eq_true rfl) dX6_group_232 ?_
      refine V_iast XC (_) 7 rfl rfl (by omega) (by decide) dX6_group_235 ?_
      dsimp only [List.set]
      refine V_iload XC dX6_group_236 rfl ?_
      refine V_istore XC dX6_group_238 (by decide) ?_
      dsimp only [List.set]
      refine V_iinc XC dX6_group_240 rfl (by decide) ?_
      dsimp only [List.set]
      refine V_goto XC 18 dX6_group_243 (by decide) ?_
      refine V_kill 6 ?_
      dsimp only [List.set]
      refine V_kill 7 ?_
      dsimp only [List.set]
      refine V_kill 8 ?_
      dsimp only [List.set]
      refine V_kill 9 ?_
      dsimp only [List.set]
      unfold wdStep at hws
      first
      | (unfold wd1 at hws
         rw [if_neg (by (try dsimp only); omega)] at hws
         unfold wd2 at hws
         rw [if_pos (by unfold wdB; exact decide_eq_true (by (try dsimp only); omega))] at hws)
      | (unfold wd1 at hws
         rw [if_pos (by (try dsimp only); omega)] at hws
         unfold wd2 at hws
         rw [if_pos (by unfold wdB; exact decide_eq_true (by (try dsimp only); omega))] at hws)
      | (unfold wd1 at hws
         rw [if_pos (by (try dsimp only); omega)] at hws
         unfold wd2 at hws
         rw [if_neg (by unfold wdB; simp only [decide_eq_true_eq]; (try dsimp only); omega)] at hws)
      unfold wd3 at hws
      dsimp only at hws
      have hih := ih18 (p + 1)
      try dsimp only at hih
      rw [hws] at hih
      try dsimp only at hih
      refine hih ⟨by omega, by omega, Or.inr ⟨by omega, by omega, by omega⟩, fun x hx => ?_⟩ (by omega)
      have hmx : 0 ≤ rtS (shC m F) (odS (shC m F) p) ∧ rtS (shC m F) (odS (shC m F) p) ≤ 1000 := ⟨hbk.2.2.1, hbk.2.2.2⟩
      first
      | (by_cases z : x = w - 1
         · subst z; rw [upz_s]; have := hri (w - 1) (by omega); omega
         · rw [upz_n z]; exact hri x (by omega))
      | (by_cases z : x = w + 1 - 1
         · obtain rfl : x = w := by omega
           simp only [Nat.add_sub_cancel, upz_s]; omega
         · rw [upz_n z, upz_n (by omega)]; exact hri x (by omega))
    refine V_aload_n XC 0 rfl dX6_group_109 rfl ?_
    refine V_get XC 4 flX6_group_21 0 rfl rfl dX6_group_110 ?_
    refine V_aload_n XC 0 rfl dX6_group_113 rfl ?_
    refine V_get XC 0 flX6_group_49 0 rfl rfl dX6_group_114 ?_
    refine V_iload XC dX6_group_117 rfl ?_
    refine V_iast XC (w) 4 rfl (by omega) (by omega) (by decide) dX6_group_119 ?_
    dsimp only [List.set]
    refine V_aload_n XC 0 rfl dX6_group_120 rfl ?_
    refine V_get XC 5 flX6_group_24 0 rfl rfl dX6_group_121 ?_
    refine V_aload_n XC 0 rfl dX6_group_124 rfl ?_
    refine V_get XC 0 flX6_group_49 0 rfl rfl dX6_group_125 ?_
    refine V_iconst XC dX6_group_128 ?_
    refine V_iast XC (w) 5 rfl (by omega) (by omega) (by decide) dX6_group_129 ?_
    dsimp only [List.set]
    refine V_aload_n XC 0 rfl dX6_group_130 rfl ?_
    refine V_get XC 6 flX6_group_27 0 rfl rfl dX6_group_131 ?_
    refine V_aload_n XC 0 rfl dX6_group_134 rfl ?_
    refine V_get XC 0 flX6_group_49 0 rfl rfl dX6_group_135 ?_
    refine V_aload_n XC 0 rfl dX6_group_138 rfl ?_
    refine V_get XC 11 flX6_group_42 0 rfl rfl dX6_group_139 ?_
    refine V_iload XC dX6_group_142 rfl ?_
    refine V_iald XC (odS (shC m F) p) 11 rfl (by omega) (by omega) (by decide) dX6_group_144 ?_
    rw [hsk]
    refine V_iast XC (w) 6 rfl (by omega) (by omega) (by decide) dX6_group_145 ?_
    dsimp only [List.set]
    refine V_aload_n XC 0 rfl dX6_group_146 rfl ?_
    refine V_get XC 7 flX6_group_30 0 rfl rfl dX6_group_147 ?_
    refine V_aload_n XC 0 rfl dX6_group_150 rfl ?_
    refine V_get XC 0 flX6_group_49 0 rfl rfl dX6_group_151 ?_
    refine V_iload XC dX6_group_154 rfl ?_
    refine V_iast XC (w) 7 rfl (by omega) (by omega) (by decide) dX6_group_156 ?_
    dsimp only [List.set]
    refine V_aload_n XC 0 rfl dX6_group_157 rfl ?_
    refine V_get XC 8 flX6_group_33 0 rfl rfl dX6_group_158 ?_
    refine V_aload_n XC 0 rfl dX6_group_161 rfl ?_
    refine V_get XC 0 flX6_group_49 0 rfl rfl dX6_group_162 ?_
    refine V_iload XC dX6_group_165 rfl ?_
    refine V_iast XC (w) 8 rfl (by omega) (by omega) (by decide) dX6_group_167 ?_
    dsimp only [List.set]
    refine V_aload_n XC 0 rfl dX6_group_168 rfl ?_
    refine V_get XC 9 flX6_group_36 0 rfl rfl dX6_group_169 ?_
    refine V_iload XC dX6_group_172 rfl ?_
    refine V_dup2 XC dX6_group_174 rfl rfl ?_
    refine V_iald XC (lnS (shC m F) (odS (shC m F) p)) 9 rfl (by omega) (by omega) (by decide) dX6_group_175 ?_
    refine V_iconst XC dX6_group_176 ?_
    refine V_iadd XC dX6_group_177 ?_
    refine V_iast XC (lnS (shC m F) (odS (shC m F) p)) 9 rfl (by omega) (by omega) (by decide) dX6_group_178 ?_
    dsimp only [List.set]
    refine V_aload_n XC 0 rfl dX6_group_179 rfl ?_
    refine V_dup XC dX6_group_180 rfl ?_
    refine V_get XC 0 flX6_group_49 0 rfl rfl dX6_group_181 ?_
    refine V_iconst XC dX6_group_184 ?_
    refine V_iadd XC dX6_group_185 ?_
    refine V_top (y := ((w + 1 : Nat) : Int)) (by omega) ?_
    refine V_putI XC 0 flX6_group_49 fpX6 pdX6_0 rfl 0 rfl (Nat.le_of_ble_eq_true rfl) dX6_group_186 ?_
    dsimp only [List.set]
    refine V_aload_n XC 0 rfl dX6_group_189 rfl ?_
    refine V_get XC 0 flX6_group_49 0 rfl rfl dX6_group_190 ?_
    refine V_iconst XC dX6_group_193 ?_
    refine V_isub XC dX6_group_194 ?_
    first | refine V_top (y := ((w + 1 - 1 : Nat) : Int)) (by omega) ?_ | refine V_top (y := ((w - 1 : Nat) : Int)) (by omega) ?_
    refine V_istore XC dX6_group_195 (by decide) ?_
    dsimp only [List.set]
    refine V_aload_n XC 0 rfl dX6_group_197 rfl ?_
    refine V_get XC 3 flX6_group_18 0 rfl rfl dX6_group_198 ?_
    refine V_iload XC dX6_group_201 rfl ?_
    refine V_iload XC dX6_group_203 rfl ?_
    refine V_iast XC (_) 3 rfl rfl (by omega) (by decide) dX6_group_205 ?_
    dsimp only [List.set]
    refine V_aload_n XC 0 rfl dX6_group_206 rfl ?_
    refine V_get XC 5 flX6_group_24 0 rfl rfl dX6_group_207 ?_
    refine V_iload XC dX6_group_210 rfl ?_
    refine V_dup2 XC dX6_group_212 rfl rfl ?_
    refine V_iald XC (_) 5 rfl rfl (by omega) (by decide) dX6_group_213 ?_
    refine V_iconst XC dX6_group_214 ?_
    refine V_iadd XC dX6_group_215 ?_
    refine V_iast XC (_) 5 rfl rfl (by omega) (by decide) dX6_group_216 ?_
    dsimp only [List.set]
    refine V_aload_n XC 0 rfl dX6_group_217 rfl ?_
    refine V_get XC 7 flX6_group_30 0 rfl rfl dX6_group_218 ?_
    refine V_iload XC dX6_group_221 rfl ?_
    refine V_iload XC dX6_group_223 rfl ?_
    refine V_aload_n XC 0 rfl dX6_group_225 rfl ?_
    refine V_get XC 7 flX6_group_30 0 rfl rfl dX6_group_226 ?_
    refine V_iload XC dX6_group_229 rfl ?_
    refine V_iald XC (_) 7 rfl rfl (by omega) (by decide) dX6_group_231 ?_
    refine V_mmax XC mmX6_group_67 ⟨by omega, by omega⟩ (by first | (rw [show w + 1 - 1 = w from rfl, upz_s]; unfold IR; omega) | (unfold IR; omega)) (Nat.le_of_ble_eq_true rfl) (Nat.le_of_ble_eq_true rfl) (Nat.le_of_ble_eq_true rfl) (Nat.le_of_ble_eq_true rfl) dX6_group_232 ?_
    refine V_iast XC (_) 7 rfl rfl (by omega) (by decide) dX6_group_235 ?_
    dsimp only [List.set]
    refine V_iload XC dX6_group_236 rfl ?_
    refine V_istore XC dX6_group_238 (by decide) ?_
    dsimp only [List.set]
    refine V_iinc XC dX6_group_240 rfl (by decide) ?_
    dsimp only [List.set]
    refine V_goto XC 18 dX6_group_243 (by decide) ?_
    refine V_kill 6 ?_
    dsimp only [List.set]
    refine V_kill 7 ?_
    dsimp only [List.set]
    refine V_kill 8 ?_
    dsimp only [List.set]
    refine V_kill 9 ?_
    dsimp only [List.set]
    unfold wdStep at hws
    first
    | (unfold wd1 at hws
       rw [if_neg (by (try dsimp only); omega)] at hws
       unfold wd2 at hws
       rw [if_pos (by unfold wdB; exact decide_eq_true (by (try dsimp only); omega))] at hws)
    | (unfold wd1 at hws
       rw [if_pos (by (try dsimp only); omega)] at hws
       unfold wd2 at hws
       rw [if_pos (by unfold wdB; exact decide_eq_true (by (try dsimp only); omega))] at hws)
    | (unfold wd1 at hws
       rw [if_pos (by (try dsimp only); omega)] at hws
       unfold wd2 at hws
       rw [if_neg (by unfold wdB; simp only [decide_eq_true_eq]; (try dsimp only); omega)] at hws)
    unfold wd3 at hws
    dsimp only at hws
    have hih := ih18 (p + 1)
    try dsimp only at hih
    rw [hws] at hih
    try dsimp only at hih
    refine hih ⟨by omega, by omega, Or.inr ⟨by omega, by omega, by omega⟩, fun x hx => ?_⟩ (by omega)
    have hmx : 0 ≤ rtS (shC m F) (odS (shC m F) p) ∧ rtS (shC m F) (odS (shC m F) p) ≤ 1000 := ⟨hbk.2.2.1, hbk.2.2.2⟩
    first
    | (by_cases z : x = w - 1
       · subst z; rw [upz_s]; have := hri (w - 1) (by omega); omega
       · rw [upz_n z]; exact hri x (by omega))
    | (by_cases z : x = w + 1 - 1
       · obtain rfl : x = w := by omega
         simp only [Nat.add_sub_cancel, upz_s]; omega
       · rw [upz_n z, upz_n (by omega)]; exact hri x (by omega))
  refine V_aload_n XC 0 rfl dX6_group_60 rfl ?_
  refine V_get XC 9 flX6_group_36 0 rfl rfl dX6_group_61 ?_
  refine V_iload XC dX6_group_64 rfl ?_
  refine V_iconst XC dX6_group_66 ?_
  refine V_iast XC (lnS (shC m F) (odS (shC m F) p)) 9 rfl (by omega) (by omega) (by decide) dX6_group_67 ?_
  dsimp only [List.set]
  refine V_aload_n XC 0 rfl dX6_group_68 rfl ?_
  refine V_get XC 10 flX6_group_39 0 rfl rfl dX6_group_69 ?_
  refine V_iload XC dX6_group_72 rfl ?_
  refine V_aload_n XC 0 rfl dX6_group_74 rfl ?_
  refine V_get XC 0 flX6_group_49 0 rfl rfl dX6_group_75 ?_
  refine V_iast XC (lnS (shC m F) (odS (shC m F) p)) 10 rfl (by omega) (by omega) (by decide) dX6_group_78 ?_
  dsimp only [List.set]
  refine V_iload XC dX6_group_79 rfl ?_
  refine V_iload XC dX6_group_81 rfl ?_
  refine V_icmp_ne XC 109 dX6_group_83 (by decide) ⟨by omega, by omega⟩ ⟨by omega, by omega⟩ (fun h83 => ?_) (fun h83 => ?_)
  · skip
    refine V_aload_n XC 0 rfl dX6_group_109 rfl ?_
    refine V_get XC 4 flX6_group_21 0 rfl rfl dX6_group_110 ?_
    refine V_aload_n XC 0 rfl dX6_group_113 rfl ?_
    refine V_get XC 0 flX6_group_49 0 rfl rfl dX6_group_114 ?_
    refine V_iload XC dX6_group_117 rfl ?_
    refine V_iast XC (w) 4 rfl (by omega) (by omega) (by decide) dX6_group_119 ?_
    dsimp only [List.set]
    refine V_aload_n XC 0 rfl dX6_group_120 rfl ?_
    refine V_get XC 5 flX6_group_24 0 rfl rfl dX6_group_121 ?_
    refine V_aload_n XC 0 rfl dX6_group_124 rfl ?_
    refine V_get XC 0 flX6_group_49 0 rfl rfl dX6_group_125 ?_
    refine V_iconst XC dX6_group_128 ?_
    refine V_iast XC (w) 5 rfl (by omega) (by omega) (by decide) dX6_group_129 ?_
    dsimp only [List.set]
    refine V_aload_n XC 0 rfl dX6_group_130 rfl ?_
    refine V_get XC 6 flX6_group_27 0 rfl rfl dX6_group_131 ?_
    refine V_aload_n XC 0 rfl dX6_group_134 rfl ?_
    refine V_get XC 0 flX6_group_49 0 rfl rfl dX6_group_135 ?_
    refine V_aload_n XC 0 rfl dX6_group_138 rfl ?_
    refine V_get XC 11 flX6_group_42 0 rfl rfl dX6_group_139 ?_
    refine V_iload XC dX6_group_142 rfl ?_
    refine V_iald XC (odS (shC m F) p) 11 rfl (by omega) (by omega) (by decide) dX6_group_144 ?_
    rw [hsk]
    refine V_iast XC (w) 6 rfl (by omega) (by omega) (by decide) dX6_group_145 ?_
    dsimp only [List.set]
    refine V_aload_n XC 0 rfl dX6_group_146 rfl ?_
    refine V_get XC 7 flX6_group_30 0 rfl rfl dX6_group_147 ?_
    refine V_aload_n XC 0 rfl dX6_group_150 rfl ?_
    refine V_get XC 0 flX6_group_49 0 rfl rfl dX6_group_151 ?_
    refine V_iload XC dX6_group_154 rfl ?_
    refine V_iast XC (w) 7 rfl (by omega) (by omega) (by decide) dX6_group_156 ?_
    dsimp only [List.set]
    refine V_aload_n XC 0 rfl dX6_group_157 rfl ?_
    refine V_get XC 8 flX6_group_33 0 rfl rfl dX6_group_158 ?_
    refine V_aload_n XC 0 rfl dX6_group_161 rfl ?_
    refine V_get XC 0 flX6_group_49 0 rfl rfl dX6_group_162 ?_
    refine V_iload XC dX6_group_165 rfl ?_
    refine V_iast XC (w) 8 rfl (by omega) (by omega) (by decide) dX6_group_167 ?_
    dsimp only [List.set]
    refine V_aload_n XC 0 rfl dX6_group_168 rfl ?_
    refine V_get XC 9 flX6_group_36 0 rfl rfl dX6_group_169 ?_
    refine V_iload XC dX6_group_172 rfl ?_
    refine V_dup2 XC dX6_group_174 rfl rfl ?_
    refine V_iald XC (lnS (shC m F) (odS (shC m F) p)) 9 rfl (by omega) (by omega) (by decide) dX6_group_175 ?_
    refine V_iconst XC dX6_group_176 ?_
    refine V_iadd XC dX6_group_177 ?_
    refine V_iast XC (lnS (shC m F) (odS (shC m F) p)) 9 rfl (by omega) (by omega) (by decide) dX6_group_178 ?_
    dsimp only [List.set]
    refine V_aload_n XC 0 rfl dX6_group_179 rfl ?_
    refine V_dup XC dX6_group_180 rfl ?_
    refine V_get XC 0 flX6_group_49 0 rfl rfl dX6_group_181 ?_
    refine V_iconst XC dX6_group_184 ?_
    refine V_iadd XC dX6_group_185 ?_
    refine V_top (y := ((w + 1 : Nat) : Int)) (by omega) ?_
    refine V_putI XC 0 flX6_group_49 fpX6 pdX6_0 rfl 0 rfl (Nat.le_of_ble_eq_true rfl) dX6_group_186 ?_
    dsimp only [List.set]
    refine V_aload_n XC 0 rfl dX6_group_189 rfl ?_
    refine V_get XC 0 flX6_group_49 0 rfl rfl dX6_group_190 ?_
    refine V_iconst XC dX6_group_193 ?_
    refine V_isub XC dX6_group_194 ?_
    first | refine V_top (y := ((w + 1 - 1 : Nat) : Int)) (by omega) ?_ | refine V_top (y := ((w - 1 : Nat) : Int)) (by omega) ?_
    refine V_istore XC dX6_group_195 (by decide) ?_
    dsimp only [List.set]
    refine V_aload_n XC 0 rfl dX6_group_197 rfl ?_
    refine V_get XC 3 flX6_group_18 0 rfl rfl dX6_group_198 ?_
    refine V_iload XC dX6_group_201 rfl ?_
    refine V_iload XC dX6_group_203 rfl ?_
    refine V_iast XC (_) 3 rfl rfl (by omega) (by decide) dX6_group_205 ?_
    dsimp only [List.set]
    refine V_aload_n XC 0 rfl dX6_group_206 rfl ?_
    refine V_get XC 5 flX6_group_24 0 rfl rfl dX6_group_207 ?_
    refine V_iload XC dX6_group_210 rfl ?_
    refine V_dup2 XC dX6_group_212 rfl rfl ?_
    refine V_iald XC (_) 5 rfl rfl (by omega) (by decide) dX6_group_213 ?_
    refine V_iconst XC dX6_group_214 ?_
    refine V_iadd XC dX6_group_215 ?_
    refine V_iast XC (_) 5 rfl rfl (by omega) (by decide) dX6_group_216 ?_
    dsimp only [List.set]
    refine V_aload_n XC 0 rfl dX6_group_217 rfl ?_
    refine V_get XC 7 flX6_group_30 0 rfl rfl dX6_group_218 ?_
    refine V_iload XC dX6_group_221 rfl ?_
    refine V_iload XC dX6_group_223 rfl ?_
    refine V_aload_n XC 0 rfl dX6_group_225 rfl ?_
    refine V_get XC 7 flX6_group_30 0 rfl rfl dX6_group_226 ?_
    refine V_iload XC dX6_group_229 rfl ?_
    refine V_iald XC (_) 7 rfl rfl (by omega) (by decide) dX6_group_231 ?_
    refine V_mmax XC mmX6_group_67 ⟨by omega, by omega⟩ (by first | (rw [show w + 1 - 1 = w from rfl, upz_s]; unfold IR; omega) | (unfold IR; omega)) (Nat.le_of_ble_eq_true rfl) (Nat.le_of_ble_eq_true rfl) (Nat.le_of_ble_eq_true rfl) (Nat.le_of_ble_eq_true rfl) dX6_group_232 ?_
    refine V_iast XC (_) 7 rfl rfl (by omega) (by decide) dX6_group_235 ?_
    dsimp only [List.set]
    refine V_iload XC dX6_group_236 rfl ?_
    refine V_istore XC dX6_group_238 (by decide) ?_
    dsimp only [List.set]
    refine V_iinc XC dX6_group_240 rfl (by decide) ?_
    dsimp only [List.set]
    refine V_goto XC 18 dX6_group_243 (by decide) ?_
    refine V_kill 6 ?_
    dsimp only [List.set]
    refine V_kill 7 ?_
    dsimp only [List.set]
    refine V_kill 8 ?_
    dsimp only [List.set]
    refine V_kill 9 ?_
    dsimp only [List.set]
    unfold wdStep at hws
    first
    | (unfold wd1 at hws
       rw [if_neg (by (try dsimp only); omega)] at hws
       unfold wd2 at hws
       rw [if_pos (by unfold wdB; exact decide_eq_true (by (try dsimp only); omega))] at hws)
    | (unfold wd1 at hws
       rw [if_pos (by (try dsimp only); omega)] at hws
       unfold wd2 at hws
       rw [if_pos (by unfold wdB; exact decide_eq_true (by (try dsimp only); omega))] at hws)
    | (unfold wd1 at hws
       rw [if_pos (by (try dsimp only); omega)] at hws
       unfold wd2 at hws
       rw [if_neg (by unfold wdB; simp only [decide_eq_true_eq]; (try dsimp only); omega)] at hws)
    unfold wd3 at hws
    dsimp only at hws
    have hih := ih18 (p + 1)
    try dsimp only at hih
    rw [hws] at hih
    try dsimp only at hih
    refine hih ⟨by omega, by omega, Or.inr ⟨by omega, by omega, by omega⟩, fun x hx => ?_⟩ (by omega)
    have hmx : 0 ≤ rtS (shC m F) (odS (shC m F) p) ∧ rtS (shC m F) (odS (shC m F) p) ≤ 1000 := ⟨hbk.2.2.1, hbk.2.2.2⟩
    first
    | (by_cases z : x = w - 1
       · subst z; rw [upz_s]; have := hri (w - 1) (by omega); omega
       · rw [upz_n z]; exact hri x (by omega))
    | (by_cases z : x = w + 1 - 1
       · obtain rfl : x = w := by omega
         simp only [Nat.add_sub_cancel, upz_s]; omega
       · rw [upz_n z, upz_n (by omega)]; exact hri x (by omega))
  exact absurd h83 (by omega)

end WORDS
