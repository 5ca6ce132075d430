/-! the law's small methods; its number of a state; bounds and lengths -/
section LAW1

set_option maxRecDepth 100000 in
set_option maxHeartbeats 4000000 in
theorem c_L_low (l : Launch) (D : va_G) (kI kC : ClassId) (pa pg pw : Nat → Nat) (σ : PS) (x y : Int) (hx : IR x) (hy : 0 < y ∧ y < 2147483648) : PCon l yL_low wsL_low { frames := 0, cells := 0, slots := 0, locals := 0 } D kI kC pa pg pw [.int (iI x), .int (iI y)] σ (qS σ (fun r => 0 ≤ r ∧ r < y)) := by
  refine PCon.of (cc := cL_low) (maxL := 2) (ret := (some .int)) (by decide +kernel) rfl (Nat.le_of_ble_eq_true rfl) ?_
  intro pV eV sV mV bV tV cV AV Qf XC hrV hQ
  have XC : Cx pV _ sV mV _ tV cV cL_low 2 RL wsL_low AV D kI kC := XC
  change PP _ _ _ _ _ _ _ _ _ _ _ _ _ _ _ _ _ _ _ _ _ _ [some (.int (iI x)), some (.int (iI y))] _ _
  refine P_iload_n XC 0 rfl dL_low_0 rfl ?_
  refine P_ldc XC kcL_low_8 dL_low_1 ?_
  refine P_eqv (y := iI 2147483647) rfl ?_
  refine P_iand XC dL_low_3 ?_
  refine P_eqv (y := iI (((iI x).toBitVec.toNat % 2 ^ 31 : Nat) : Int)) ((pk_31 x).1) ?_
  refine P_iload_n XC 1 rfl dL_low_4 rfl ?_
  refine P_irem XC dL_low_5 (by omega) (pk_31 x).2 hy.1 hy.2 ?_
  exact P_iret XC hrV dL_low_6 (fun u hu => hQ _ _ u ⟨_, rfl, rfl, Int.emod_nonneg _ (by omega), Int.emod_lt_of_pos _ hy.1⟩ hu)

set_option maxRecDepth 100000 in
set_option maxHeartbeats 4000000 in
theorem c_L_far (l : Launch) (D : va_G) (kI kC : ClassId) (pa pg pw : Nat → Nat) (σ : PS) (x y : Int) : PCon l yL_far wsL_far { frames := 0, cells := 0, slots := 0, locals := 0 } D kI kC pa pg pw [.int (iI x), .int (iI y)] σ (qS σ (fun r => r = x * x + y * y)) := by
  refine PCon.of (cc := cL_far) (maxL := 2) (ret := (some .int)) (by decide +kernel) rfl (Nat.le_of_ble_eq_true rfl) ?_
  intro pV eV sV mV bV tV cV AV Qf XC hrV hQ
  have XC : Cx pV _ sV mV _ tV cV cL_far 2 RL wsL_far AV D kI kC := XC
  change PP _ _ _ _ _ _ _ _ _ _ _ _ _ _ _ _ _ _ _ _ _ _ [some (.int (iI x)), some (.int (iI y))] _ _
  refine P_iload_n XC 0 rfl dL_far_0 rfl ?_
  refine P_iload_n XC 0 rfl dL_far_1 rfl ?_
  refine P_imul XC dL_far_2 ?_
  refine P_iload_n XC 1 rfl dL_far_3 rfl ?_
  refine P_iload_n XC 1 rfl dL_far_4 rfl ?_
  refine P_imul XC dL_far_5 ?_
  refine P_iadd XC dL_far_6 ?_
  exact P_iret XC hrV dL_far_7 (fun u hu => hQ _ _ u ⟨_, rfl, rfl, rfl⟩ hu)

set_option maxRecDepth 100000 in
set_option maxHeartbeats 4000000 in
theorem c_L_whole (l : Launch) (D : va_G) (kI kC : ClassId) (pa pg pw : Nat → Nat) (σ : PS)  : PCon l yL_whole wsL_whole { frames := 7, cells := 0, slots := 0, locals := 162 } D kI kC pa pg pw [.ref (pa 0)] σ (qLg σ (hsS σ.1.1)) := by
  refine PCon.of (cc := cL_whole) (maxL := 5) (ret := (some .long)) (by decide +kernel) rfl (Nat.le_of_ble_eq_true rfl) ?_
  intro pV eV sV mV bV tV cV AV Qf XC hrV hQ
  have XC : Cx pV _ sV mV _ tV cV cL_whole 5 RL wsL_whole AV D kI kC := XC
  change PP _ _ _ _ _ _ _ _ _ _ _ _ _ _ _ _ _ _ _ _ _ _ [some (.ref (pa 0)), none, none, none, none] _ _
  refine P_ok (fun hok => ?_)
  have hS := ok_S hok
  have h16 := ok_16 hok
  refine P_aload_n XC 0 rfl dL_whole_0 rfl ?_
  refine P_iconst XC dL_whole_1 ?_
  refine P_X7_count XC (by first | (with_reducible assumption) | (unfold IR; omega) | (unfold IR at *; omega)) gL_whole_X7_count ⟨⟨(Nat.le_of_ble_eq_true rfl), (Nat.le_of_ble_eq_true rfl)⟩, (Nat.le_of_ble_eq_true rfl), (Nat.le_of_ble_eq_true rfl)⟩ (Nat.le_of_ble_eq_true rfl) dL_whole_2 (fun r2 hr2 => ?_)
  obtain rfl := cn_0 hr2
  refine P_i2l XC dL_whole_5 ?_
  refine P_lstore_n XC 1 rfl dL_whole_6 rfl (by decide) ?_
  dsimp only [List.set]
  refine P_iconst XC dL_whole_7 ?_
  refine P_istore_n XC 3 rfl dL_whole_8 rfl (by decide) ?_
  dsimp only [List.set]
  refine P_kill 4 ?_
  dsimp only [List.set]
  refine P_loopR (τ := Nat × Int64) (fun u => σ.1.1.length - u.1) (fun u => u.1 ≤ σ.1.1.length ∧ u.2 = itr (fun k h => hsK (gk σ.1.1 k) h) (iI (σ.1.1.length : Int)).toInt64 u.1) (fun u => [some (.ref (pa 0)), some (.long u.2), none, some (.int (iI (u.1 : Int))), none]) (0, (iI (σ.1.1.length : Int)).toInt64) ⟨Nat.zero_le _, rfl⟩ rfl (fun u hJ ih9 => ?_)
  obtain ⟨k, h⟩ := u
  try dsimp only at hJ ih9 ⊢
  obtain ⟨hkl, hh⟩ := hJ
  refine P_iload_n XC 3 rfl dL_whole_9 rfl ?_
  refine P_aload_n XC 0 rfl dL_whole_10 rfl ?_
  refine P_iconst XC dL_whole_11 ?_
  refine P_X7_count XC (by first | (with_reducible assumption) | (unfold IR; omega) | (unfold IR at *; omega)) gL_whole_X7_count ⟨⟨(Nat.le_of_ble_eq_true rfl), (Nat.le_of_ble_eq_true rfl)⟩, (Nat.le_of_ble_eq_true rfl), (Nat.le_of_ble_eq_true rfl)⟩ (Nat.le_of_ble_eq_true rfl) dL_whole_12 (fun r12 hr12 => ?_)
  obtain rfl := cn_0 hr12
  refine P_icmp_ge XC 104 dL_whole_15 (by decide) (by first | (with_reducible assumption) | (unfold IR; omega) | (unfold IR at *; omega)) (by first | (with_reducible assumption) | (unfold IR; omega) | (unfold IR at *; omega)) (fun h15 => ?_) (fun h15 => ?_)
  · skip
    have hke : k = σ.1.1.length := by omega
    subst hke
    refine P_lload_n XC 1 rfl dL_whole_104 rfl ?_
    exact P_lret XC hrV dL_whole_105 (fun u hu => hQ _ _ u ⟨by rw [hh]; rfl, rfl⟩ hu)
  have hk : k < σ.1.1.length := by omega
  have hz := ok_sz hS hk
  refine P_ldc2 XC kcL_whole_15 dL_whole_18 ?_
  refine P_lload_n XC 1 rfl dL_whole_21 rfl ?_
  refine P_lmul XC dL_whole_22 ?_
  refine P_aload_n XC 0 rfl dL_whole_23 rfl ?_
  refine P_iload_n XC 3 rfl dL_whole_24 rfl ?_
  refine P_iconst XC dL_whole_25 ?_
  refine P_X7_stroke XC (by first | (with_reducible assumption) | (unfold IR; omega) | (unfold IR at *; omega)) (by first | (with_reducible assumption) | (unfold IR; omega) | (unfold IR at *; omega)) gL_whole_X7_stroke ⟨⟨(Nat.le_of_ble_eq_true rfl), (Nat.le_of_ble_eq_true rfl)⟩, (Nat.le_of_ble_eq_true rfl), (Nat.le_of_ble_eq_true rfl)⟩ (Nat.le_of_ble_eq_true rfl) dL_whole_26 ?_
  refine P_top (y := (gk σ.1.1 k).1) (st_0 hk) ?_
  refine P_i2l XC dL_whole_29 ?_
  refine P_ladd XC dL_whole_30 ?_
  refine P_lstore_n XC 1 rfl dL_whole_31 rfl (by decide) ?_
  dsimp only [List.set]
  refine P_ldc2 XC kcL_whole_15 dL_whole_32 ?_
  refine P_lload_n XC 1 rfl dL_whole_35 rfl ?_
  refine P_lmul XC dL_whole_36 ?_
  refine P_aload_n XC 0 rfl dL_whole_37 rfl ?_
  refine P_iload_n XC 3 rfl dL_whole_38 rfl ?_
  refine P_iconst XC dL_whole_39 ?_
  refine P_X7_stroke XC (by first | (with_reducible assumption) | (unfold IR; omega) | (unfold IR at *; omega)) (by first | (with_reducible assumption) | (unfold IR; omega) | (unfold IR at *; omega)) gL_whole_X7_stroke ⟨⟨(Nat.le_of_ble_eq_true rfl), (Nat.le_of_ble_eq_true rfl)⟩, (Nat.le_of_ble_eq_true rfl), (Nat.le_of_ble_eq_true rfl)⟩ (Nat.le_of_ble_eq_true rfl) dL_whole_40 ?_
  refine P_top (y := (szk (gk σ.1.1 k) : Int)) (st_1 hk) ?_
  refine P_i2l XC dL_whole_43 ?_
  refine P_ladd XC dL_whole_44 ?_
  refine P_lstore_n XC 1 rfl dL_whole_45 rfl (by decide) ?_
  dsimp only [List.set]
  refine P_iconst XC dL_whole_46 ?_
  refine P_istore XC dL_whole_47 rfl (by decide) ?_
  dsimp only [List.set]
  refine P_loopR (τ := Nat × Int64) (fun u => szk (gk σ.1.1 k) - u.1) (fun u => u.1 ≤ szk (gk σ.1.1 k) ∧ u.2 = itr (hsP (gk σ.1.1 k)) (31 * (31 * h + (iI (gk σ.1.1 k).1).toInt64) + (iI (szk (gk σ.1.1 k) : Int)).toInt64) u.1) (fun u => [some (.ref (pa 0)), some (.long u.2), none, some (.int (iI (k : Int))), some (.int (iI (u.1 : Int)))]) (0, _) ⟨Nat.zero_le _, rfl⟩ rfl (fun u hJ ih49 => ?_)
  obtain ⟨i, h2⟩ := u
  try dsimp only at hJ ih49 ⊢
  obtain ⟨hil, hh2⟩ := hJ
  refine P_iload XC dL_whole_49 rfl ?_
  refine P_aload_n XC 0 rfl dL_whole_51 rfl ?_
  refine P_iload_n XC 3 rfl dL_whole_52 rfl ?_
  refine P_iconst XC dL_whole_53 ?_
  refine P_X7_stroke XC (by first | (with_reducible assumption) | (unfold IR; omega) | (unfold IR at *; omega)) (by first | (with_reducible assumption) | (unfold IR; omega) | (unfold IR at *; omega)) gL_whole_X7_stroke ⟨⟨(Nat.le_of_ble_eq_true rfl), (Nat.le_of_ble_eq_true rfl)⟩, (Nat.le_of_ble_eq_true rfl), (Nat.le_of_ble_eq_true rfl)⟩ (Nat.le_of_ble_eq_true rfl) dL_whole_54 ?_
  refine P_top (y := (szk (gk σ.1.1 k) : Int)) (st_1 hk) ?_
  refine P_icmp_ge XC 98 dL_whole_57 (by decide) (by first | (with_reducible assumption) | (unfold IR; omega) | (unfold IR at *; omega)) (by first | (with_reducible assumption) | (unfold IR; omega) | (unfold IR at *; omega)) (fun h57 => ?_) (fun h57 => ?_)
  · skip
    have hie : i = szk (gk σ.1.1 k) := by omega
    subst hie
    have hh3 : h2 = hsK (gk σ.1.1 k) h := hh2
    subst hh3
    refine P_iinc XC dL_whole_98 rfl rfl (by decide) ?_
    dsimp only [List.set]
    refine P_goto XC 9 dL_whole_101 (by decide) ?_
    refine P_kill 4 ?_
    dsimp only [List.set]
    exact ih9 (k + 1, hsK (gk σ.1.1 k) h) ⟨by (try dsimp only); omega, by (try dsimp only); rw [itr_s, ← hh]⟩ (by (try dsimp only); omega)
  have hi : i < szk (gk σ.1.1 k) := by omega
  refine P_ldc2 XC kcL_whole_21 dL_whole_60 ?_
  refine P_lload_n XC 1 rfl dL_whole_63 rfl ?_
  refine P_lmul XC dL_whole_64 ?_
  refine P_aload_n XC 0 rfl dL_whole_65 rfl ?_
  refine P_iload_n XC 3 rfl dL_whole_66 rfl ?_
  refine P_iload XC dL_whole_67 rfl ?_
  refine P_iconst XC dL_whole_69 ?_
  refine P_X7_point XC (by first | (with_reducible assumption) | (unfold IR; omega) | (unfold IR at *; omega)) (by first | (with_reducible assumption) | (unfold IR; omega) | (unfold IR at *; omega)) (by first | (with_reducible assumption) | (unfold IR; omega) | (unfold IR at *; omega)) gL_whole_X7_point ⟨⟨(Nat.le_of_ble_eq_true rfl), (Nat.le_of_ble_eq_true rfl)⟩, (Nat.le_of_ble_eq_true rfl), (Nat.le_of_ble_eq_true rfl)⟩ (Nat.le_of_ble_eq_true rfl) dL_whole_70 ?_
  refine P_top (y := px (gk σ.1.1 k) i) (pt_0 hk hi) ?_
  refine P_i2l XC dL_whole_73 ?_
  refine P_ladd XC dL_whole_74 ?_
  refine P_lstore_n XC 1 rfl dL_whole_75 rfl (by decide) ?_
  dsimp only [List.set]
  refine P_ldc2 XC kcL_whole_21 dL_whole_76 ?_
  refine P_lload_n XC 1 rfl dL_whole_79 rfl ?_
  refine P_lmul XC dL_whole_80 ?_
  refine P_aload_n XC 0 rfl dL_whole_81 rfl ?_
  refine P_iload_n XC 3 rfl dL_whole_82 rfl ?_
  refine P_iload XC dL_whole_83 rfl ?_
  refine P_iconst XC dL_whole_85 ?_
  refine P_X7_point XC (by first | (with_reducible assumption) | (unfold IR; omega) | (unfold IR at *; omega)) (by first | (with_reducible assumption) | (unfold IR; omega) | (unfold IR at *; omega)) (by first | (with_reducible assumption) | (unfold IR; omega) | (unfold IR at *; omega)) gL_whole_X7_point ⟨⟨(Nat.le_of_ble_eq_true rfl), (Nat.le_of_ble_eq_true rfl)⟩, (Nat.le_of_ble_eq_true rfl), (Nat.le_of_ble_eq_true rfl)⟩ (Nat.le_of_ble_eq_true rfl) dL_whole_86 ?_
  refine P_top (y := py (gk σ.1.1 k) i) (pt_1 hk hi) ?_
  refine P_i2l XC dL_whole_89 ?_
  refine P_ladd XC dL_whole_90 ?_
  refine P_lstore_n XC 1 rfl dL_whole_91 rfl (by decide) ?_
  dsimp only [List.set]
  refine P_iinc XC dL_whole_92 rfl rfl (by decide) ?_
  dsimp only [List.set]
  refine P_goto XC 49 dL_whole_95 (by decide) ?_
  exact ih49 (i + 1, hsP (gk σ.1.1 k) i h2) ⟨by (try dsimp only); omega, by (try dsimp only); rw [itr_s, ← hh2]⟩ (by (try dsimp only); omega)

set_option maxRecDepth 100000 in
set_option maxHeartbeats 4000000 in
theorem c_L_strokes (l : Launch) (D : va_G) (kI kC : ClassId) (pa pg pw : Nat → Nat) (σ : PS)  : PCon l yL_strokes wsL_strokes { frames := 7, cells := 0, slots := 0, locals := 162 } D kI kC pa pg pw [.ref (pa 0)] σ (qS σ (fun r => r = 1)) := by
  refine PCon.of (cc := cL_strokes) (maxL := 16) (ret := (some .boolean)) (by decide +kernel) rfl (Nat.le_of_ble_eq_true rfl) ?_
  intro pV eV sV mV bV tV cV AV Qf XC hrV hQ
  have XC : Cx pV _ sV mV _ tV cV cL_strokes 16 RL wsL_strokes AV D kI kC := XC
  change PP _ _ _ _ _ _ _ _ _ _ _ _ _ _ _ _ _ _ _ _ _ _ [some (.ref (pa 0)), none, none, none, none, none, none, none, none, none, none, none, none, none, none, none] _ _
  refine P_ok (fun hok => ?_)
  have hS := ok_S hok
  have h16 := ok_16 hok
  refine P_iconst XC dL_strokes_0 ?_
  refine P_istore_n XC 1 rfl dL_strokes_1 rfl (by decide) ?_
  dsimp only [List.set]
  refine P_iconst XC dL_strokes_2 ?_
  refine P_istore_n XC 2 rfl dL_strokes_3 rfl (by decide) ?_
  dsimp only [List.set]
  refine P_iconst XC dL_strokes_4 ?_
  refine P_istore_n XC 3 rfl dL_strokes_5 rfl (by decide) ?_
  dsimp only [List.set]
  refine P_kill 4 ?_
  dsimp only [List.set]
  refine P_kill 5 ?_
  dsimp only [List.set]
  refine P_kill 6 ?_
  dsimp only [List.set]
  refine P_kill 7 ?_
  dsimp only [List.set]
  refine P_kill 8 ?_
  dsimp only [List.set]
  refine P_kill 9 ?_
  dsimp only [List.set]
  refine P_kill 10 ?_
  dsimp only [List.set]
  refine P_kill 11 ?_
  dsimp only [List.set]
  refine P_kill 12 ?_
  dsimp only [List.set]
  refine P_kill 13 ?_
  dsimp only [List.set]
  refine P_kill 14 ?_
  dsimp only [List.set]
  refine P_kill 15 ?_
  dsimp only [List.set]
  refine P_loopR (τ := Nat) (fun u => σ.1.1.length - u) (fun u => u ≤ σ.1.1.length) (fun u => [some (.ref (pa 0)), some (.int (iI (itr (fun k a => a + (szk (gk σ.1.1 k) : Int)) 0 u))), some (.int (iI (itr (fun k a => a + lenK (gk σ.1.1 k)) 0 u))), some (.int (iI (u : Int))), none, none, none, none, none, none, none, none, none, none, none, none]) (0) (Nat.zero_le _) rfl (fun u hJ ih6 => ?_)
  obtain ⟨k, rfl⟩ : ∃ z, z = u := ⟨_, rfl⟩
  try dsimp only at hJ ih6 ⊢
  obtain hkl := hJ
  refine P_iload_n XC 3 rfl dL_strokes_6 rfl ?_
  refine P_aload_n XC 0 rfl dL_strokes_7 rfl ?_
  refine P_iconst XC dL_strokes_8 ?_
  refine P_X7_count XC (by first | (with_reducible assumption) | (unfold IR; omega) | (unfold IR at *; omega)) gL_strokes_X7_count ⟨⟨(Nat.le_of_ble_eq_true rfl), (Nat.le_of_ble_eq_true rfl)⟩, (Nat.le_of_ble_eq_true rfl), (Nat.le_of_ble_eq_true rfl)⟩ (Nat.le_of_ble_eq_true rfl) dL_strokes_9 (fun r9 hr9 => ?_)
  obtain rfl := cn_0 hr9
  refine P_icmp_ge XC 397 dL_strokes_12 (by decide) (by first | (with_reducible assumption) | (unfold IR; omega) | (unfold IR at *; omega)) (by first | (with_reducible assumption) | (unfold IR; omega) | (unfold IR at *; omega)) (fun h12 => ?_) (fun h12 => ?_)
  · skip
    have hke : k = σ.1.1.length := by omega
    subst hke
    have hsa := itr_rng (n := σ.1.1.length) (f := fun k => (szk (gk σ.1.1 k) : Int)) (B := 24) (fun k hk => by have := ok_sz hS hk; (try dsimp only); omega)
    have hsb := itr_rng (n := σ.1.1.length) (f := fun k => lenK (gk σ.1.1 k)) (B := 400000) (fun k hk => by have h1 := ok_sz hS hk; have h2 := lenF_rng (px (gk σ.1.1 k)) (py (gk σ.1.1 k)) (szk (gk σ.1.1 k)); (try dsimp only); unfold lenK; omega)
    try dsimp only at hsa hsb
    refine P_aload_n XC 0 rfl dL_strokes_397 rfl ?_
    refine P_iconst XC dL_strokes_398 ?_
    refine P_X7_count XC (by first | (with_reducible assumption) | (unfold IR; omega) | (unfold IR at *; omega)) gL_strokes_X7_count ⟨⟨(Nat.le_of_ble_eq_true rfl), (Nat.le_of_ble_eq_true rfl)⟩, (Nat.le_of_ble_eq_true rfl), (Nat.le_of_ble_eq_true rfl)⟩ (Nat.le_of_ble_eq_true rfl) dL_strokes_399 (fun r399 hr399 => ?_)
    obtain rfl := cn_1 hr399
    refine P_top (y := itr (fun k a => a + (szk (gk σ.1.1 k) : Int)) 0 σ.1.1.length) sumK_all ?_
    refine P_iload_n XC 1 rfl dL_strokes_402 rfl ?_
    refine P_icmp_ne XC 444 dL_strokes_403 (by decide) (by first | (with_reducible assumption) | (unfold IR; omega) | (unfold IR at *; omega)) (by first | (with_reducible assumption) | (unfold IR; omega) | (unfold IR at *; omega)) (fun h403 => ?_) (fun h403 => ?_)
    · exfalso
      omega
    refine P_aload_n XC 0 rfl dL_strokes_406 rfl ?_
    refine P_iconst XC dL_strokes_407 ?_
    refine P_X7_count XC (by first | (with_reducible assumption) | (unfold IR; omega) | (unfold IR at *; omega)) gL_strokes_X7_count ⟨⟨(Nat.le_of_ble_eq_true rfl), (Nat.le_of_ble_eq_true rfl)⟩, (Nat.le_of_ble_eq_true rfl), (Nat.le_of_ble_eq_true rfl)⟩ (Nat.le_of_ble_eq_true rfl) dL_strokes_408 (fun r408 hr408 => ?_)
    obtain rfl := cn_2 hr408
    refine P_top (y := itr (fun k a => a + lenK (gk σ.1.1 k)) 0 σ.1.1.length) sumK_all ?_
    refine P_iload_n XC 2 rfl dL_strokes_411 rfl ?_
    refine P_icmp_ne XC 444 dL_strokes_412 (by decide) (by first | (with_reducible assumption) | (unfold IR; omega) | (unfold IR at *; omega)) (by first | (with_reducible assumption) | (unfold IR; omega) | (unfold IR at *; omega)) (fun h412 => ?_) (fun h412 => ?_)
    · exfalso
      omega
    refine P_aload_n XC 0 rfl dL_strokes_415 rfl ?_
    refine P_aload_n XC 0 rfl dL_strokes_416 rfl ?_
    refine P_iconst XC dL_strokes_417 ?_
    refine P_X7_count XC (by first | (with_reducible assumption) | (unfold IR; omega) | (unfold IR at *; omega)) gL_strokes_X7_count ⟨⟨(Nat.le_of_ble_eq_true rfl), (Nat.le_of_ble_eq_true rfl)⟩, (Nat.le_of_ble_eq_true rfl), (Nat.le_of_ble_eq_true rfl)⟩ (Nat.le_of_ble_eq_true rfl) dL_strokes_418 (fun r418 hr418 => ?_)
    obtain rfl := cn_0 hr418
    refine P_iconst XC dL_strokes_421 ?_
    refine P_X7_stroke XC (by first | (with_reducible assumption) | (unfold IR; omega) | (unfold IR at *; omega)) (by first | (with_reducible assumption) | (unfold IR; omega) | (unfold IR at *; omega)) gL_strokes_X7_stroke ⟨⟨(Nat.le_of_ble_eq_true rfl), (Nat.le_of_ble_eq_true rfl)⟩, (Nat.le_of_ble_eq_true rfl), (Nat.le_of_ble_eq_true rfl)⟩ (Nat.le_of_ble_eq_true rfl) dL_strokes_422 ?_
    refine P_top (y := -1) (st_n) ?_
    refine P_iconst XC dL_strokes_425 ?_
    refine P_icmp_ne XC 444 dL_strokes_426 (by decide) (by first | (with_reducible assumption) | (unfold IR; omega) | (unfold IR at *; omega)) (by first | (with_reducible assumption) | (unfold IR; omega) | (unfold IR at *; omega)) (fun h426 => ?_) (fun h426 => ?_)
    · exfalso
      omega
    refine P_aload_n XC 0 rfl dL_strokes_429 rfl ?_
    refine P_bipush XC dL_strokes_430 (by decide) ?_
    refine P_X7_count XC (by first | (with_reducible assumption) | (unfold IR; omega) | (unfold IR at *; omega)) gL_strokes_X7_count ⟨⟨(Nat.le_of_ble_eq_true rfl), (Nat.le_of_ble_eq_true rfl)⟩, (Nat.le_of_ble_eq_true rfl), (Nat.le_of_ble_eq_true rfl)⟩ (Nat.le_of_ble_eq_true rfl) dL_strokes_432 (fun r432 hr432 => ?_)
    obtain rfl := cn_11 hr432
    refine P_bipush XC dL_strokes_435 (by decide) ?_
    refine P_icmp_ne XC 444 dL_strokes_437 (by decide) (by first | (with_reducible assumption) | (unfold IR; omega) | (unfold IR at *; omega)) (by first | (with_reducible assumption) | (unfold IR; omega) | (unfold IR at *; omega)) (fun h437 => ?_) (fun h437 => ?_)
    · exfalso
      omega
    refine P_iconst XC dL_strokes_440 ?_
    refine P_goto XC 445 dL_strokes_441 (by decide) ?_
    exact P_zret (r := true) XC hrV dL_strokes_445 (fun u hu => hQ _ _ u ⟨1, rfl, rfl, rfl⟩ hu)
  have hk : k < σ.1.1.length := by omega
  have hz := ok_sz hS hk
  have hbd := bd_eq hS hk
  have hxy := fun i hi => ok_xy hS hk (i := i) hi
  refine P_aload_n XC 0 rfl dL_strokes_15 rfl ?_
  refine P_iload_n XC 3 rfl dL_strokes_16 rfl ?_
  refine P_iconst XC dL_strokes_17 ?_
  refine P_X7_stroke XC (by first | (with_reducible assumption) | (unfold IR; omega) | (unfold IR at *; omega)) (by first | (with_reducible assumption) | (unfold IR; omega) | (unfold IR at *; omega)) gL_strokes_X7_stroke ⟨⟨(Nat.le_of_ble_eq_true rfl), (Nat.le_of_ble_eq_true rfl)⟩, (Nat.le_of_ble_eq_true rfl), (Nat.le_of_ble_eq_true rfl)⟩ (Nat.le_of_ble_eq_true rfl) dL_strokes_18 ?_
  refine P_top (y := (szk (gk σ.1.1 k) : Int)) (st_1 hk) ?_
  refine P_istore XC dL_strokes_21 rfl (by decide) ?_
  dsimp only [List.set]
  refine P_sipush XC dL_strokes_23 (by decide) ?_
  refine P_istore XC dL_strokes_26 rfl (by decide) ?_
  dsimp only [List.set]
  refine P_iconst XC dL_strokes_28 ?_
  refine P_istore XC dL_strokes_29 rfl (by decide) ?_
  dsimp only [List.set]
  refine P_sipush XC dL_strokes_31 (by decide) ?_
  refine P_istore XC dL_strokes_34 rfl (by decide) ?_
  dsimp only [List.set]
  refine P_iconst XC dL_strokes_36 ?_
  refine P_istore XC dL_strokes_37 rfl (by decide) ?_
  dsimp only [List.set]
  refine P_iconst XC dL_strokes_39 ?_
  refine P_istore XC dL_strokes_40 rfl (by decide) ?_
  dsimp only [List.set]
  refine P_iconst XC dL_strokes_42 ?_
  refine P_istore XC dL_strokes_43 rfl (by decide) ?_
  dsimp only [List.set]
  refine P_kill 11 ?_
  dsimp only [List.set]
  refine P_kill 12 ?_
  dsimp only [List.set]
  refine P_kill 13 ?_
  dsimp only [List.set]
  refine P_kill 14 ?_
  dsimp only [List.set]
  refine P_kill 15 ?_
  dsimp only [List.set]
  refine P_loopR (τ := Nat) (fun u => szk (gk σ.1.1 k) - u) (fun u => u ≤ szk (gk σ.1.1 k)) (fun u => [some (.ref (pa 0)), some (.int (iI (itr (fun k a => a + (szk (gk σ.1.1 k) : Int)) 0 k))), some (.int (iI (itr (fun k a => a + lenK (gk σ.1.1 k)) 0 k))), some (.int (iI (k : Int))), some (.int (iI (szk (gk σ.1.1 k) : Int))), some (.int (iI (rnMn (px (gk σ.1.1 k)) u))), some (.int (iI (rnMx (px (gk σ.1.1 k)) u))), some (.int (iI (rnMn (py (gk σ.1.1 k)) u))), some (.int (iI (rnMx (py (gk σ.1.1 k)) u))), some (.int (iI (lenF (px (gk σ.1.1 k)) (py (gk σ.1.1 k)) u))), some (.int (iI (u : Int))), none, none, none, none, none]) (0) (Nat.zero_le _) rfl (fun u hJ ih45 => ?_)
  obtain ⟨i, rfl⟩ : ∃ z, z = u := ⟨_, rfl⟩
  try dsimp only at hJ ih45 ⊢
  obtain hil := hJ
  have hrx := rn_rng (X := px (gk σ.1.1 k)) (n := i) (fun j hj => by have := hxy j (by omega); omega)
  have hry := rn_rng (X := py (gk σ.1.1 k)) (n := i) (fun j hj => by have := hxy j (by omega); omega)
  refine P_iload XC dL_strokes_45 rfl ?_
  refine P_iload XC dL_strokes_47 rfl ?_
  refine P_icmp_ge XC 248 dL_strokes_49 (by decide) (by first | (with_reducible assumption) | (unfold IR; omega) | (unfold IR at *; omega)) (by first | (with_reducible assumption) | (unfold IR; omega) | (unfold IR at *; omega)) (fun h49 => ?_) (fun h49 => ?_)
  · skip
    have hie : i = szk (gk σ.1.1 k) := by omega
    subst hie
    have hle9 := lenF_rng (px (gk σ.1.1 k)) (py (gk σ.1.1 k)) (szk (gk σ.1.1 k))
    refine P_iload_n XC 1 rfl dL_strokes_248 rfl ?_
    refine P_iload XC dL_strokes_249 rfl ?_
    refine P_iadd XC dL_strokes_251 ?_
    refine P_istore_n XC 1 rfl dL_strokes_252 rfl (by decide) ?_
    dsimp only [List.set]
    refine P_iload_n XC 2 rfl dL_strokes_253 rfl ?_
    refine P_iload XC dL_strokes_254 rfl ?_
    refine P_iadd XC dL_strokes_256 ?_
    refine P_istore_n XC 2 rfl dL_strokes_257 rfl (by decide) ?_
    dsimp only [List.set]
    refine P_iload XC dL_strokes_258 rfl ?_
    refine P_iconst XC dL_strokes_260 ?_
    refine P_icmp_lt XC 389 dL_strokes_261 (by decide) (by first | (with_reducible assumption) | (unfold IR; omega) | (unfold IR at *; omega)) (by first | (with_reducible assumption) | (unfold IR; omega) | (unfold IR at *; omega)) (fun h261 => ?_) (fun h261 => ?_)
    · exfalso
      omega
    refine P_iload XC dL_strokes_264 rfl ?_
    refine P_bipush XC dL_strokes_266 (by decide) ?_
    refine P_icmp_gt XC 389 dL_strokes_268 (by decide) (by first | (with_reducible assumption) | (unfold IR; omega) | (unfold IR at *; omega)) (by first | (with_reducible assumption) | (unfold IR; omega) | (unfold IR at *; omega)) (fun h268 => ?_) (fun h268 => ?_)
    · exfalso
      omega
    refine P_iload XC dL_strokes_271 rfl ?_
    refine P_if_lt XC 389 dL_strokes_273 (by decide) (by first | (with_reducible assumption) | (unfold IR; omega) | (unfold IR at *; omega)) (fun h273 => ?_) (fun h273 => ?_)
    · exfalso
      omega
    refine P_iload XC dL_strokes_276 rfl ?_
    refine P_sipush XC dL_strokes_278 (by decide) ?_
    refine P_icmp_gt XC 389 dL_strokes_281 (by decide) (by first | (with_reducible assumption) | (unfold IR; omega) | (unfold IR at *; omega)) (by first | (with_reducible assumption) | (unfold IR; omega) | (unfold IR at *; omega)) (fun h281 => ?_) (fun h281 => ?_)
    · exfalso
      omega
    refine P_iload XC dL_strokes_284 rfl ?_
    refine P_if_lt XC 389 dL_strokes_286 (by decide) (by first | (with_reducible assumption) | (unfold IR; omega) | (unfold IR at *; omega)) (fun h286 => ?_) (fun h286 => ?_)
    · exfalso
      omega
    refine P_iload XC dL_strokes_289 rfl ?_
    refine P_sipush XC dL_strokes_291 (by decide) ?_
    refine P_icmp_gt XC 389 dL_strokes_294 (by decide) (by first | (with_reducible assumption) | (unfold IR; omega) | (unfold IR at *; omega)) (by first | (with_reducible assumption) | (unfold IR; omega) | (unfold IR at *; omega)) (fun h294 => ?_) (fun h294 => ?_)
    · exfalso
      omega
    refine P_aload_n XC 0 rfl dL_strokes_297 rfl ?_
    refine P_iload_n XC 3 rfl dL_strokes_298 rfl ?_
    refine P_iconst XC dL_strokes_299 ?_
    refine P_X7_stroke XC (by first | (with_reducible assumption) | (unfold IR; omega) | (unfold IR at *; omega)) (by first | (with_reducible assumption) | (unfold IR; omega) | (unfold IR at *; omega)) gL_strokes_X7_stroke ⟨⟨(Nat.le_of_ble_eq_true rfl), (Nat.le_of_ble_eq_true rfl)⟩, (Nat.le_of_ble_eq_true rfl), (Nat.le_of_ble_eq_true rfl)⟩ (Nat.le_of_ble_eq_true rfl) dL_strokes_300 ?_
    refine P_top (y := lfS σ.1.1 k) (st_2 hk) ?_
    refine P_iload XC dL_strokes_303 rfl ?_
    refine P_icmp_ne XC 389 dL_strokes_305 (by decide) (by first | (with_reducible assumption) | (unfold IR; omega) | (unfold IR at *; omega)) (by first | (with_reducible assumption) | (unfold IR; omega) | (unfold IR at *; omega)) (fun h305 => ?_) (fun h305 => ?_)
    · exfalso
      omega
    refine P_aload_n XC 0 rfl dL_strokes_308 rfl ?_
    refine P_iload_n XC 3 rfl dL_strokes_309 rfl ?_
    refine P_iconst XC dL_strokes_310 ?_
    refine P_X7_stroke XC (by first | (with_reducible assumption) | (unfold IR; omega) | (unfold IR at *; omega)) (by first | (with_reducible assumption) | (unfold IR; omega) | (unfold IR at *; omega)) gL_strokes_X7_stroke ⟨⟨(Nat.le_of_ble_eq_true rfl), (Nat.le_of_ble_eq_true rfl)⟩, (Nat.le_of_ble_eq_true rfl), (Nat.le_of_ble_eq_true rfl)⟩ (Nat.le_of_ble_eq_true rfl) dL_strokes_311 ?_
    refine P_top (y := rtS σ.1.1 k) (st_3 hk) ?_
    refine P_iload XC dL_strokes_314 rfl ?_
    refine P_icmp_ne XC 389 dL_strokes_316 (by decide) (by first | (with_reducible assumption) | (unfold IR; omega) | (unfold IR at *; omega)) (by first | (with_reducible assumption) | (unfold IR; omega) | (unfold IR at *; omega)) (fun h316 => ?_) (fun h316 => ?_)
    · exfalso
      omega
    refine P_aload_n XC 0 rfl dL_strokes_319 rfl ?_
    refine P_iload_n XC 3 rfl dL_strokes_320 rfl ?_
    refine P_iconst XC dL_strokes_321 ?_
    refine P_X7_stroke XC (by first | (with_reducible assumption) | (unfold IR; omega) | (unfold IR at *; omega)) (by first | (with_reducible assumption) | (unfold IR; omega) | (unfold IR at *; omega)) gL_strokes_X7_stroke ⟨⟨(Nat.le_of_ble_eq_true rfl), (Nat.le_of_ble_eq_true rfl)⟩, (Nat.le_of_ble_eq_true rfl), (Nat.le_of_ble_eq_true rfl)⟩ (Nat.le_of_ble_eq_true rfl) dL_strokes_322 ?_
    refine P_top (y := tpS σ.1.1 k) (st_4 hk) ?_
    refine P_iload XC dL_strokes_325 rfl ?_
    refine P_icmp_ne XC 389 dL_strokes_327 (by decide) (by first | (with_reducible assumption) | (unfold IR; omega) | (unfold IR at *; omega)) (by first | (with_reducible assumption) | (unfold IR; omega) | (unfold IR at *; omega)) (fun h327 => ?_) (fun h327 => ?_)
    · exfalso
      omega
    refine P_aload_n XC 0 rfl dL_strokes_330 rfl ?_
    refine P_iload_n XC 3 rfl dL_strokes_331 rfl ?_
    refine P_iconst XC dL_strokes_332 ?_
    refine P_X7_stroke XC (by first | (with_reducible assumption) | (unfold IR; omega) | (unfold IR at *; omega)) (by first | (with_reducible assumption) | (unfold IR; omega) | (unfold IR at *; omega)) gL_strokes_X7_stroke ⟨⟨(Nat.le_of_ble_eq_true rfl), (Nat.le_of_ble_eq_true rfl)⟩, (Nat.le_of_ble_eq_true rfl), (Nat.le_of_ble_eq_true rfl)⟩ (Nat.le_of_ble_eq_true rfl) dL_strokes_333 ?_
    refine P_top (y := boS σ.1.1 k) (st_5 hk) ?_
    refine P_iload XC dL_strokes_336 rfl ?_
    refine P_icmp_ne XC 389 dL_strokes_338 (by decide) (by first | (with_reducible assumption) | (unfold IR; omega) | (unfold IR at *; omega)) (by first | (with_reducible assumption) | (unfold IR; omega) | (unfold IR at *; omega)) (fun h338 => ?_) (fun h338 => ?_)
    · exfalso
      omega
    refine P_aload_n XC 0 rfl dL_strokes_341 rfl ?_
    refine P_iload_n XC 3 rfl dL_strokes_342 rfl ?_
    refine P_bipush XC dL_strokes_343 (by decide) ?_
    refine P_X7_stroke XC (by first | (with_reducible assumption) | (unfold IR; omega) | (unfold IR at *; omega)) (by first | (with_reducible assumption) | (unfold IR; omega) | (unfold IR at *; omega)) gL_strokes_X7_stroke ⟨⟨(Nat.le_of_ble_eq_true rfl), (Nat.le_of_ble_eq_true rfl)⟩, (Nat.le_of_ble_eq_true rfl), (Nat.le_of_ble_eq_true rfl)⟩ (Nat.le_of_ble_eq_true rfl) dL_strokes_345 ?_
    refine P_top (y := lenF (px (gk σ.1.1 k)) (py (gk σ.1.1 k)) (szk (gk σ.1.1 k))) (st_6 hk) ?_
    refine P_iload XC dL_strokes_348 rfl ?_
    refine P_icmp_ne XC 389 dL_strokes_350 (by decide) (by first | (with_reducible assumption) | (unfold IR; omega) | (unfold IR at *; omega)) (by first | (with_reducible assumption) | (unfold IR; omega) | (unfold IR at *; omega)) (fun h350 => ?_) (fun h350 => ?_)
    · exfalso
      omega
    refine P_aload_n XC 0 rfl dL_strokes_353 rfl ?_
    refine P_iload_n XC 3 rfl dL_strokes_354 rfl ?_
    refine P_bipush XC dL_strokes_355 (by decide) ?_
    refine P_X7_stroke XC (by first | (with_reducible assumption) | (unfold IR; omega) | (unfold IR at *; omega)) (by first | (with_reducible assumption) | (unfold IR; omega) | (unfold IR at *; omega)) gL_strokes_X7_stroke ⟨⟨(Nat.le_of_ble_eq_true rfl), (Nat.le_of_ble_eq_true rfl)⟩, (Nat.le_of_ble_eq_true rfl), (Nat.le_of_ble_eq_true rfl)⟩ (Nat.le_of_ble_eq_true rfl) dL_strokes_357 ?_
    refine P_top (y := -2) (st_10 hk) ?_
    refine P_bipush XC dL_strokes_360 (by decide) ?_
    refine P_icmp_ne XC 389 dL_strokes_362 (by decide) (by first | (with_reducible assumption) | (unfold IR; omega) | (unfold IR at *; omega)) (by first | (with_reducible assumption) | (unfold IR; omega) | (unfold IR at *; omega)) (fun h362 => ?_) (fun h362 => ?_)
    · exfalso
      omega
    refine P_aload_n XC 0 rfl dL_strokes_365 rfl ?_
    refine P_iload_n XC 3 rfl dL_strokes_366 rfl ?_
    refine P_iload XC dL_strokes_367 rfl ?_
    refine P_iconst XC dL_strokes_369 ?_
    refine P_X7_point XC (by first | (with_reducible assumption) | (unfold IR; omega) | (unfold IR at *; omega)) (by first | (with_reducible assumption) | (unfold IR; omega) | (unfold IR at *; omega)) (by first | (with_reducible assumption) | (unfold IR; omega) | (unfold IR at *; omega)) gL_strokes_X7_point ⟨⟨(Nat.le_of_ble_eq_true rfl), (Nat.le_of_ble_eq_true rfl)⟩, (Nat.le_of_ble_eq_true rfl), (Nat.le_of_ble_eq_true rfl)⟩ (Nat.le_of_ble_eq_true rfl) dL_strokes_370 ?_
    refine P_top (y := -1) (pt_n) ?_
    refine P_iconst XC dL_strokes_373 ?_
    refine P_icmp_ne XC 389 dL_strokes_374 (by decide) (by first | (with_reducible assumption) | (unfold IR; omega) | (unfold IR at *; omega)) (by first | (with_reducible assumption) | (unfold IR; omega) | (unfold IR at *; omega)) (fun h374 => ?_) (fun h374 => ?_)
    · exfalso
      omega
    refine P_aload_n XC 0 rfl dL_strokes_377 rfl ?_
    refine P_iload_n XC 3 rfl dL_strokes_378 rfl ?_
    refine P_iconst XC dL_strokes_379 ?_
    refine P_iconst XC dL_strokes_380 ?_
    refine P_X7_point XC (by first | (with_reducible assumption) | (unfold IR; omega) | (unfold IR at *; omega)) (by first | (with_reducible assumption) | (unfold IR; omega) | (unfold IR at *; omega)) (by first | (with_reducible assumption) | (unfold IR; omega) | (unfold IR at *; omega)) gL_strokes_X7_point ⟨⟨(Nat.le_of_ble_eq_true rfl), (Nat.le_of_ble_eq_true rfl)⟩, (Nat.le_of_ble_eq_true rfl), (Nat.le_of_ble_eq_true rfl)⟩ (Nat.le_of_ble_eq_true rfl) dL_strokes_381 ?_
    refine P_top (y := -2) (pt_2 hk (by omega)) ?_
    refine P_bipush XC dL_strokes_384 (by decide) ?_
    refine P_icmp_eq XC 391 dL_strokes_386 (by decide) (by first | (with_reducible assumption) | (unfold IR; omega) | (unfold IR at *; omega)) (by first | (with_reducible assumption) | (unfold IR; omega) | (unfold IR at *; omega)) (fun h386 => ?_) (fun h386 => ?_)
    rotate_left
    · exfalso
      omega
    refine P_iinc XC dL_strokes_391 rfl rfl (by decide) ?_
    dsimp only [List.set]
    refine P_goto XC 6 dL_strokes_394 (by decide) ?_
    refine P_kill 4 ?_
    refine P_kill 5 ?_
    refine P_kill 6 ?_
    refine P_kill 7 ?_
    refine P_kill 8 ?_
    refine P_kill 9 ?_
    refine P_kill 10 ?_
    refine P_kill 11 ?_
    refine P_kill 12 ?_
    refine P_kill 13 ?_
    refine P_kill 14 ?_
    refine P_kill 15 ?_
    dsimp only [List.set]
    exact ih6 (k + 1) (by (try dsimp only); omega) (by (try dsimp only); omega)
  have hi : i < szk (gk σ.1.1 k) := by omega
  have hpx := hxy i hi
  refine P_aload_n XC 0 rfl dL_strokes_52 rfl ?_
  refine P_iload_n XC 3 rfl dL_strokes_53 rfl ?_
  refine P_iload XC dL_strokes_54 rfl ?_
  refine P_iconst XC dL_strokes_56 ?_
  refine P_X7_point XC (by first | (with_reducible assumption) | (unfold IR; omega) | (unfold IR at *; omega)) (by first | (with_reducible assumption) | (unfold IR; omega) | (unfold IR at *; omega)) (by first | (with_reducible assumption) | (unfold IR; omega) | (unfold IR at *; omega)) gL_strokes_X7_point ⟨⟨(Nat.le_of_ble_eq_true rfl), (Nat.le_of_ble_eq_true rfl)⟩, (Nat.le_of_ble_eq_true rfl), (Nat.le_of_ble_eq_true rfl)⟩ (Nat.le_of_ble_eq_true rfl) dL_strokes_57 ?_
  refine P_top (y := px (gk σ.1.1 k) i) (pt_0 hk hi) ?_
  refine P_istore XC dL_strokes_60 rfl (by decide) ?_
  dsimp only [List.set]
  refine P_aload_n XC 0 rfl dL_strokes_62 rfl ?_
  refine P_iload_n XC 3 rfl dL_strokes_63 rfl ?_
  refine P_iload XC dL_strokes_64 rfl ?_
  refine P_iconst XC dL_strokes_66 ?_
  refine P_X7_point XC (by first | (with_reducible assumption) | (unfold IR; omega) | (unfold IR at *; omega)) (by first | (with_reducible assumption) | (unfold IR; omega) | (unfold IR at *; omega)) (by first | (with_reducible assumption) | (unfold IR; omega) | (unfold IR at *; omega)) gL_strokes_X7_point ⟨⟨(Nat.le_of_ble_eq_true rfl), (Nat.le_of_ble_eq_true rfl)⟩, (Nat.le_of_ble_eq_true rfl), (Nat.le_of_ble_eq_true rfl)⟩ (Nat.le_of_ble_eq_true rfl) dL_strokes_67 ?_
  refine P_top (y := py (gk σ.1.1 k) i) (pt_1 hk hi) ?_
  refine P_istore XC dL_strokes_70 rfl (by decide) ?_
  dsimp only [List.set]
  refine P_iload XC dL_strokes_72 rfl ?_
  refine P_iload XC dL_strokes_74 rfl ?_
  refine P_merge (J := fun z => z = rnMn (px (gk σ.1.1 k)) (i + 1)) 86 2 (fun kj76 => ?_) (fun z76 hz76 => ?_)
  · try dsimp only [List.drop] at kj76
    refine P_icmp_ge XC 84 dL_strokes_76 (by decide) (by first | (with_reducible assumption) | (unfold IR; omega) | (unfold IR at *; omega)) (by first | (with_reducible assumption) | (unfold IR; omega) | (unfold IR at *; omega)) (fun h76 => ?_) (fun h76 => ?_)
    · skip
      refine P_iload XC dL_strokes_84 rfl ?_
      exact kj76 _ (by (try dsimp only); show _ = min (rnMn _ i) _; omega)
    refine P_iload XC dL_strokes_79 rfl ?_
    refine P_goto XC 86 dL_strokes_81 (by decide) ?_
    exact kj76 _ (by (try dsimp only); show _ = min (rnMn _ i) _; omega)
  try dsimp only [List.drop]
  try dsimp only at hz76
  subst hz76
  refine P_istore XC dL_strokes_86 rfl (by decide) ?_
  dsimp only [List.set]
  refine P_iload XC dL_strokes_88 rfl ?_
  refine P_iload XC dL_strokes_90 rfl ?_
  refine P_merge (J := fun z => z = rnMx (px (gk σ.1.1 k)) (i + 1)) 102 2 (fun kj92 => ?_) (fun z92 hz92 => ?_)
  · try dsimp only [List.drop] at kj92
    refine P_icmp_le XC 100 dL_strokes_92 (by decide) (by first | (with_reducible assumption) | (unfold IR; omega) | (unfold IR at *; omega)) (by first | (with_reducible assumption) | (unfold IR; omega) | (unfold IR at *; omega)) (fun h92 => ?_) (fun h92 => ?_)
    · skip
      refine P_iload XC dL_strokes_100 rfl ?_
      exact kj92 _ (by (try dsimp only); show _ = max (rnMx _ i) _; omega)
    refine P_iload XC dL_strokes_95 rfl ?_
    refine P_goto XC 102 dL_strokes_97 (by decide) ?_
    exact kj92 _ (by (try dsimp only); show _ = max (rnMx _ i) _; omega)
  try dsimp only [List.drop]
  try dsimp only at hz92
  subst hz92
  refine P_istore XC dL_strokes_102 rfl (by decide) ?_
  dsimp only [List.set]
  refine P_iload XC dL_strokes_104 rfl ?_
  refine P_iload XC dL_strokes_106 rfl ?_
  refine P_merge (J := fun z => z = rnMn (py (gk σ.1.1 k)) (i + 1)) 118 2 (fun kj108 => ?_) (fun z108 hz108 => ?_)
  · try dsimp only [List.drop] at kj108
    refine P_icmp_ge XC 116 dL_strokes_108 (by decide) (by first | (with_reducible assumption) | (unfold IR; omega) | (unfold IR at *; omega)) (by first | (with_reducible assumption) | (unfold IR; omega) | (unfold IR at *; omega)) (fun h108 => ?_) (fun h108 => ?_)
    · skip
      refine P_iload XC dL_strokes_116 rfl ?_
      exact kj108 _ (by (try dsimp only); show _ = min (rnMn _ i) _; omega)
    refine P_iload XC dL_strokes_111 rfl ?_
    refine P_goto XC 118 dL_strokes_113 (by decide) ?_
    exact kj108 _ (by (try dsimp only); show _ = min (rnMn _ i) _; omega)
  try dsimp only [List.drop]
  try dsimp only at hz108
  subst hz108
  refine P_istore XC dL_strokes_118 rfl (by decide) ?_
  dsimp only [List.set]
  refine P_iload XC dL_strokes_120 rfl ?_
  refine P_iload XC dL_strokes_122 rfl ?_
  refine P_merge (J := fun z => z = rnMx (py (gk σ.1.1 k)) (i + 1)) 134 2 (fun kj124 => ?_) (fun z124 hz124 => ?_)
  · try dsimp only [List.drop] at kj124
    refine P_icmp_le XC 132 dL_strokes_124 (by decide) (by first | (with_reducible assumption) | (unfold IR; omega) | (unfold IR at *; omega)) (by first | (with_reducible assumption) | (unfold IR; omega) | (unfold IR at *; omega)) (fun h124 => ?_) (fun h124 => ?_)
    · skip
      refine P_iload XC dL_strokes_132 rfl ?_
      exact kj124 _ (by (try dsimp only); show _ = max (rnMx _ i) _; omega)
    refine P_iload XC dL_strokes_127 rfl ?_
    refine P_goto XC 134 dL_strokes_129 (by decide) ?_
    exact kj124 _ (by (try dsimp only); show _ = max (rnMx _ i) _; omega)
  try dsimp only [List.drop]
  try dsimp only at hz124
  subst hz124
  refine P_istore XC dL_strokes_134 rfl (by decide) ?_
  dsimp only [List.set]
  refine P_iload XC dL_strokes_136 rfl ?_
  refine P_if_le XC 242 dL_strokes_138 (by decide) (by first | (with_reducible assumption) | (unfold IR; omega) | (unfold IR at *; omega)) (fun h138 => ?_) (fun h138 => ?_)
  · skip
    have hi0 : i = 0 := by omega
    have hle0 : lenF (px (gk σ.1.1 k)) (py (gk σ.1.1 k)) i = lenF (px (gk σ.1.1 k)) (py (gk σ.1.1 k)) (i + 1) := by rw [hi0]; rfl
    rw [hle0]
    refine P_iinc XC dL_strokes_242 rfl rfl (by decide) ?_
    dsimp only [List.set]
    refine P_goto XC 45 dL_strokes_245 (by decide) ?_
    refine P_kill 11 ?_
    refine P_kill 12 ?_
    refine P_kill 13 ?_
    refine P_kill 14 ?_
    refine P_kill 15 ?_
    dsimp only [List.set]
    exact ih45 (i + 1) (by (try dsimp only); omega) (by (try dsimp only); omega)
  have hi0 : 0 < i := by omega
  have hp1 := hxy (i - 1) (by omega)
  have hsq := sqF_rng (X := px (gk σ.1.1 k)) (Y := py (gk σ.1.1 k)) hi0 (fun j hj => hxy j (by omega))
  have hsp := sqF_pos (OkS_at hS hk) hi0 hi
  have hle := lenF_rng (px (gk σ.1.1 k)) (py (gk σ.1.1 k)) i
  refine P_bipush XC dL_strokes_141 (by decide) ?_
  refine P_iload XC dL_strokes_143 rfl ?_
  refine P_aload_n XC 0 rfl dL_strokes_145 rfl ?_
  refine P_iload_n XC 3 rfl dL_strokes_146 rfl ?_
  refine P_iload XC dL_strokes_147 rfl ?_
  refine P_iconst XC dL_strokes_149 ?_
  refine P_isub XC dL_strokes_150 ?_
  refine P_top (y := ((i - 1 : Nat) : Int)) (by omega) ?_
  refine P_iconst XC dL_strokes_151 ?_
  refine P_X7_point XC (by first | (with_reducible assumption) | (unfold IR; omega) | (unfold IR at *; omega)) (by first | (with_reducible assumption) | (unfold IR; omega) | (unfold IR at *; omega)) (by first | (with_reducible assumption) | (unfold IR; omega) | (unfold IR at *; omega)) gL_strokes_X7_point ⟨⟨(Nat.le_of_ble_eq_true rfl), (Nat.le_of_ble_eq_true rfl)⟩, (Nat.le_of_ble_eq_true rfl), (Nat.le_of_ble_eq_true rfl)⟩ (Nat.le_of_ble_eq_true rfl) dL_strokes_152 ?_
  refine P_top (y := px (gk σ.1.1 k) (i - 1)) (pt_0 hk (by omega)) ?_
  refine P_isub XC dL_strokes_155 ?_
  refine P_iload XC dL_strokes_156 rfl ?_
  refine P_aload_n XC 0 rfl dL_strokes_158 rfl ?_
  refine P_iload_n XC 3 rfl dL_strokes_159 rfl ?_
  refine P_iload XC dL_strokes_160 rfl ?_
  refine P_iconst XC dL_strokes_162 ?_
  refine P_isub XC dL_strokes_163 ?_
  refine P_top (y := ((i - 1 : Nat) : Int)) (by omega) ?_
  refine P_iconst XC dL_strokes_164 ?_
  refine P_X7_point XC (by first | (with_reducible assumption) | (unfold IR; omega) | (unfold IR at *; omega)) (by first | (with_reducible assumption) | (unfold IR; omega) | (unfold IR at *; omega)) (by first | (with_reducible assumption) | (unfold IR; omega) | (unfold IR at *; omega)) gL_strokes_X7_point ⟨⟨(Nat.le_of_ble_eq_true rfl), (Nat.le_of_ble_eq_true rfl)⟩, (Nat.le_of_ble_eq_true rfl), (Nat.le_of_ble_eq_true rfl)⟩ (Nat.le_of_ble_eq_true rfl) dL_strokes_165 ?_
  refine P_top (y := py (gk σ.1.1 k) (i - 1)) (pt_1 hk (by omega)) ?_
  refine P_isub XC dL_strokes_168 ?_
  refine P_call (rest := _) XC (c_L_far l D kI kC pa pg pw σ _ _) gL_strokes_L_far rfl kmL_far ⟨⟨(Nat.le_of_ble_eq_true rfl), (Nat.le_of_ble_eq_true rfl)⟩, (Nat.le_of_ble_eq_true rfl), (Nat.le_of_ble_eq_true rfl)⟩ ⟨rfl, rfl⟩ rfl rfl (Nat.le_of_ble_eq_true rfl) dL_strokes_169 (kS_of (fun r169 hr169 => ?_))
  dsimp only [Option.toList, List.cons_append, List.nil_append]
  subst hr169
  refine P_imul XC dL_strokes_172 ?_
  refine P_top (y := sqF (px (gk σ.1.1 k)) (py (gk σ.1.1 k)) i) rfl ?_
  refine P_istore XC dL_strokes_173 rfl (by decide) ?_
  dsimp only [List.set]
  refine P_iconst XC dL_strokes_175 ?_
  refine P_istore XC dL_strokes_176 rfl (by decide) ?_
  dsimp only [List.set]
  refine P_sipush XC dL_strokes_178 (by decide) ?_
  refine P_istore XC dL_strokes_181 rfl (by decide) ?_
  dsimp only [List.set]
  refine P_loopR (τ := Nat × Int) (fun u => u.1) (fun u => 0 ≤ u.2 ∧ u.1 ≤ 15 ∧ rootF (sqF (px (gk σ.1.1 k)) (py (gk σ.1.1 k)) i) u.1 u.2 = rootZ (sqF (px (gk σ.1.1 k)) (py (gk σ.1.1 k)) i) ∧ u.2 + 2 * pbit u.1 ≤ 32768) (fun u => [some (.ref (pa 0)), some (.int (iI (itr (fun k a => a + (szk (gk σ.1.1 k) : Int)) 0 k))), some (.int (iI (itr (fun k a => a + lenK (gk σ.1.1 k)) 0 k))), some (.int (iI (k : Int))), some (.int (iI (szk (gk σ.1.1 k) : Int))), some (.int (iI (rnMn (px (gk σ.1.1 k)) (i + 1)))), some (.int (iI (rnMx (px (gk σ.1.1 k)) (i + 1)))), some (.int (iI (rnMn (py (gk σ.1.1 k)) (i + 1)))), some (.int (iI (rnMx (py (gk σ.1.1 k)) (i + 1)))), some (.int (iI (lenF (px (gk σ.1.1 k)) (py (gk σ.1.1 k)) i))), some (.int (iI (i : Int))), some (.int (iI (px (gk σ.1.1 k) i))), some (.int (iI (py (gk σ.1.1 k) i))), some (.int (iI (sqF (px (gk σ.1.1 k)) (py (gk σ.1.1 k)) i))), some (.int (iI u.2)), some (.int (iI (pbit u.1)))]) (15, 0) ⟨by decide, by decide, root_15 (by omega), by decide⟩ rfl (fun u hJ ih183 => ?_)
  obtain ⟨j, f⟩ := u
  try dsimp only at hJ ih183 ⊢
  obtain ⟨hf0, hj15, hrt, hfb⟩ := hJ
  have hpb : 0 ≤ pbit j ∧ (j = 0 ∧ pbit j = 0 ∨ 0 < j ∧ 0 < pbit j) := by
    cases j with
    | zero => exact ⟨by decide, Or.inl ⟨rfl, rfl⟩⟩
    | succ j => have := pbit_pos j; exact ⟨by omega, Or.inr ⟨by omega, this⟩⟩
  refine P_iload XC dL_strokes_183 rfl ?_
  refine P_if_le XC 228 dL_strokes_185 (by decide) (by first | (with_reducible assumption) | (unfold IR; omega) | (unfold IR at *; omega)) (fun h185 => ?_) (fun h185 => ?_)
  · skip
    have hj0 : j = 0 := by omega
    subst hj0
    have hrt2 : f = rootZ (sqF (px (gk σ.1.1 k)) (py (gk σ.1.1 k)) i) := hrt
    subst hrt2
    refine P_iload XC dL_strokes_228 rfl ?_
    refine P_iload XC dL_strokes_230 rfl ?_
    refine P_iadd XC dL_strokes_232 ?_
    refine P_istore XC dL_strokes_233 rfl (by decide) ?_
    dsimp only [List.set]
    rw [← lenF_s (px (gk σ.1.1 k)) (py (gk σ.1.1 k)) hi0]
    refine P_iload XC dL_strokes_235 rfl ?_
    refine P_if_ne XC 242 dL_strokes_237 (by decide) (by first | (with_reducible assumption) | (unfold IR; omega) | (unfold IR at *; omega)) (fun h237 => ?_) (fun h237 => ?_)
    rotate_left
    · exfalso
      omega
    refine P_iinc XC dL_strokes_242 rfl rfl (by decide) ?_
    dsimp only [List.set]
    refine P_goto XC 45 dL_strokes_245 (by decide) ?_
    refine P_kill 11 ?_
    refine P_kill 12 ?_
    refine P_kill 13 ?_
    refine P_kill 14 ?_
    refine P_kill 15 ?_
    dsimp only [List.set]
    exact ih45 (i + 1) (by (try dsimp only); omega) (by (try dsimp only); omega)
  obtain ⟨j, rfl⟩ : ∃ q, j = q + 1 := ⟨j - 1, by omega⟩
  have hph := pbit_half j
  refine P_iload XC dL_strokes_188 rfl ?_
  refine P_iload XC dL_strokes_190 rfl ?_
  refine P_iload XC dL_strokes_192 rfl ?_
  refine P_iadd XC dL_strokes_194 ?_
  refine P_i2l XC dL_strokes_195 ?_
  refine P_iload XC dL_strokes_196 rfl ?_
  refine P_iload XC dL_strokes_198 rfl ?_
  refine P_iadd XC dL_strokes_200 ?_
  refine P_i2l XC dL_strokes_201 ?_
  refine P_lmul XC dL_strokes_202 ?_
  refine P_iload XC dL_strokes_203 rfl ?_
  refine P_i2l XC dL_strokes_205 ?_
  refine P_lcmp XC dL_strokes_206 ?_
  refine P_merge (J := fun z => z = (if (f + pbit (j + 1)) * (f + pbit (j + 1)) ≤ sqF (px (gk σ.1.1 k)) (py (gk σ.1.1 k)) i then pbit (j + 1) else 0)) 216 1 (fun kj207 => ?_) (fun z207 hz207 => ?_)
  · try dsimp only [List.drop] at kj207
    refine P_lc_gt XC 215 dL_strokes_207 (by decide) (fun h207 => ?_) (fun h207 => ?_)
    · skip
      refine P_iconst XC dL_strokes_215 ?_
      exact kj207 _ (by (try dsimp only); rw [lg_le (by unfold IR; omega) (by unfold IR; omega) (by unfold IR; omega)] at h207; first | rw [if_pos h207] | rw [if_neg h207])
    refine P_iload XC dL_strokes_210 rfl ?_
    refine P_goto XC 216 dL_strokes_212 (by decide) ?_
    exact kj207 _ (by (try dsimp only); rw [lg_le (by unfold IR; omega) (by unfold IR; omega) (by unfold IR; omega)] at h207; first | rw [if_pos h207] | rw [if_neg h207])
  try dsimp only [List.drop]
  try dsimp only at hz207
  refine P_iadd XC dL_strokes_216 ?_
  refine P_istore XC dL_strokes_217 rfl (by decide) ?_
  dsimp only [List.set]
  refine P_iload XC dL_strokes_219 rfl ?_
  refine P_iconst XC dL_strokes_221 ?_
  refine P_idiv XC dL_strokes_222 (by omega) (by omega) (by omega) (by omega) ?_
  refine P_top (y := pbit j) hph ?_
  refine P_istore XC dL_strokes_223 rfl (by decide) ?_
  dsimp only [List.set]
  have hJ2 : 0 ≤ f + z207 ∧ j ≤ 15 ∧ rootF (sqF (px (gk σ.1.1 k)) (py (gk σ.1.1 k)) i) j (f + z207) = rootZ (sqF (px (gk σ.1.1 k)) (py (gk σ.1.1 k)) i) ∧ f + z207 + 2 * pbit j ≤ 32768 := by
    have hpj : pbit (j + 1) = 2 * pbit j ∨ (pbit (j + 1) = 1 ∧ pbit j = 0) := by
      cases j with
      | zero => exact Or.inr ⟨rfl, rfl⟩
      | succ j => exact Or.inl rfl
    have hrt2 : rootF (sqF (px (gk σ.1.1 k)) (py (gk σ.1.1 k)) i) j (if (f + pbit (j + 1)) * (f + pbit (j + 1)) ≤ sqF (px (gk σ.1.1 k)) (py (gk σ.1.1 k)) i then f + pbit (j + 1) else f) = rootZ (sqF (px (gk σ.1.1 k)) (py (gk σ.1.1 k)) i) := hrt
    by_cases q : (f + pbit (j + 1)) * (f + pbit (j + 1)) ≤ sqF (px (gk σ.1.1 k)) (py (gk σ.1.1 k)) i
    · rw [if_pos q] at hz207 hrt2
      rw [hz207]
      exact ⟨by omega, by omega, hrt2, by omega⟩
    · rw [if_neg q] at hz207 hrt2
      rw [hz207, Int.add_zero]
      exact ⟨by omega, by omega, hrt2, by omega⟩
  refine P_goto XC 183 dL_strokes_225 (by decide) ?_
  exact ih183 (j, f + z207) hJ2 (by (try dsimp only); omega)

end LAW1
