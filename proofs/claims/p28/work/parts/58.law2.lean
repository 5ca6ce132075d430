/-! colors, cells, the nearest stroke -/
section LAW2

set_option maxRecDepth 100000 in
set_option maxHeartbeats 4000000 in
theorem c_L_nearest (l : Launch) (D : va_G) (kI kC : ClassId) (pa pg pw : Nat → Nat) (σ : PS) (x y : Int) (hx : 0 ≤ x ∧ x ≤ 1000) (hy : 0 ≤ y ∧ y ≤ 1000) : PCon l yL_nearest wsL_nearest { frames := 7, cells := 0, slots := 0, locals := 162 } D kI kC pa pg pw [.ref (pa 0), .int (iI x), .int (iI y)] σ (qS σ (fun r => r = 1)) := by
  refine PCon.of (cc := cL_nearest) (maxL := 8) (ret := (some .boolean)) (by decide +kernel) rfl (Nat.le_of_ble_eq_true rfl) ?_
  intro pV eV sV mV bV tV cV AV Qf XC hrV hQ
  have XC : Cx pV _ sV mV _ tV cV cL_nearest 8 RL wsL_nearest AV D kI kC := XC
  change PP _ _ _ _ _ _ _ _ _ _ _ _ _ _ _ _ _ _ _ _ _ _ [some (.ref (pa 0)), some (.int (iI x)), some (.int (iI y)), none, none, none, none, none] _ _
  refine P_ok (fun hok => ?_)
  have hS := ok_S hok
  have h16 := ok_16 hok
  refine P_aload_n XC 0 rfl dL_nearest_0 rfl ?_
  refine P_iload_n XC 1 rfl dL_nearest_1 rfl ?_
  refine P_iload_n XC 2 rfl dL_nearest_2 rfl ?_
  refine P_X7_nearest XC (by first | (with_reducible assumption) | (unfold IR; omega) | (unfold IR at *; omega)) (by first | (with_reducible assumption) | (unfold IR; omega) | (unfold IR at *; omega)) gL_nearest_X7_nearest ⟨⟨(Nat.le_of_ble_eq_true rfl), (Nat.le_of_ble_eq_true rfl)⟩, (Nat.le_of_ble_eq_true rfl), (Nat.le_of_ble_eq_true rfl)⟩ (Nat.le_of_ble_eq_true rfl) dL_nearest_3 ?_
  rcases near_in hS hx hy with ⟨e1, e2⟩ | ⟨t, j, ht, e2, hj, hmin⟩
  · rw [e2]
    refine P_istore_n XC 3 rfl dL_nearest_6 rfl (by decide) ?_
    dsimp only [List.set]
    refine P_iload_n XC 3 rfl dL_nearest_7 rfl ?_
    refine P_if_ge XC 23 dL_nearest_8 (by decide) ⟨by decide, by decide⟩ (fun h => absurd h (by decide)) (fun h => ?_)
    refine P_iload_n XC 3 rfl dL_nearest_11 rfl ?_
    refine P_bipush XC dL_nearest_12 (by decide) ?_
    refine P_icmp_ne XC 21 dL_nearest_14 (by decide) ⟨by decide, by decide⟩ ⟨by decide, by decide⟩ (fun h => absurd rfl h) (fun h => ?_)
    refine P_iconst XC dL_nearest_17 ?_
    refine P_goto XC 22 dL_nearest_18 (by decide) ?_
    exact P_zret (r := true) XC hrV dL_nearest_22 (fun u hu => hQ _ _ u ⟨1, rfl, rfl, rfl⟩ hu)
  rw [e2]
  have hzt := ok_sz hS ht
  have hrl := rnL_eq hS hx hy ht hj hmin
  have hrd := ds_rng hS hx hy ht hj
  refine P_istore_n XC 3 rfl dL_nearest_6 rfl (by decide) ?_
  dsimp only [List.set]
  refine P_iload_n XC 3 rfl dL_nearest_7 rfl ?_
  refine P_if_ge XC 23 dL_nearest_8 (by decide) (by first | (with_reducible assumption) | (unfold IR; omega) | (unfold IR at *; omega)) (fun h8 => ?_) (fun h8 => ?_)
  rotate_left
  · exfalso
    omega
  refine P_ldc XC kcL_nearest_47 dL_nearest_23 ?_
  refine P_eqv (y := iI 3000000) rfl ?_
  refine P_istore XC dL_nearest_25 rfl (by decide) ?_
  dsimp only [List.set]
  refine P_iconst XC dL_nearest_27 ?_
  refine P_istore XC dL_nearest_28 rfl (by decide) ?_
  dsimp only [List.set]
  refine P_kill 6 ?_
  dsimp only [List.set]
  refine P_kill 7 ?_
  dsimp only [List.set]
  refine P_loopR (τ := Nat) (fun u => szk (gk σ.1.1 t) - u) (fun u => u ≤ szk (gk σ.1.1 t)) (fun u => [some (.ref (pa 0)), some (.int (iI x)), some (.int (iI y)), some (.int (iI (t : Int))), some (.int (iI (rnL (dsF σ.1.1 x y t) u))), some (.int (iI (u : Int))), none, none]) (0) (Nat.zero_le _) rfl (fun u hJ ih30 => ?_)
  obtain ⟨i, rfl⟩ : ∃ z, z = u := ⟨_, rfl⟩
  try dsimp only at hJ ih30 ⊢
  obtain hil := hJ
  have hrr := rnL_rng (X := dsF σ.1.1 x y t) (n := i) (fun i2 h2 => ds_rng hS hx hy ht (by omega))
  refine P_iload XC dL_nearest_30 rfl ?_
  refine P_aload_n XC 0 rfl dL_nearest_32 rfl ?_
  refine P_iload_n XC 3 rfl dL_nearest_33 rfl ?_
  refine P_iconst XC dL_nearest_34 ?_
  refine P_X7_stroke XC (by first | (with_reducible assumption) | (unfold IR; omega) | (unfold IR at *; omega)) (by first | (with_reducible assumption) | (unfold IR; omega) | (unfold IR at *; omega)) gL_nearest_X7_stroke ⟨⟨(Nat.le_of_ble_eq_true rfl), (Nat.le_of_ble_eq_true rfl)⟩, (Nat.le_of_ble_eq_true rfl), (Nat.le_of_ble_eq_true rfl)⟩ (Nat.le_of_ble_eq_true rfl) dL_nearest_35 ?_
  refine P_top (y := (szk (gk σ.1.1 t) : Int)) (st_1 ht) ?_
  refine P_icmp_ge XC 88 dL_nearest_38 (by decide) (by first | (with_reducible assumption) | (unfold IR; omega) | (unfold IR at *; omega)) (by first | (with_reducible assumption) | (unfold IR; omega) | (unfold IR at *; omega)) (fun h38 => ?_) (fun h38 => ?_)
  · skip
    have hie : i = szk (gk σ.1.1 t) := by omega
    subst hie
    rw [hrl]
    refine P_iconst XC dL_nearest_88 ?_
    refine P_istore XC dL_nearest_89 rfl (by decide) ?_
    dsimp only [List.set]
    refine P_kill 6 ?_
    dsimp only [List.set]
    refine P_kill 7 ?_
    dsimp only [List.set]
    refine P_loopR (τ := Nat) (fun u => σ.1.1.length - u) (fun u => u ≤ σ.1.1.length) (fun u => [some (.ref (pa 0)), some (.int (iI x)), some (.int (iI y)), some (.int (iI (t : Int))), some (.int (iI (dsF σ.1.1 x y t j))), some (.int (iI (u : Int))), none, none]) (0) (Nat.zero_le _) rfl (fun u hJ ih91 => ?_)
    obtain ⟨k, rfl⟩ : ∃ z, z = u := ⟨_, rfl⟩
    try dsimp only at hJ ih91 ⊢
    obtain hkl := hJ
    refine P_iload XC dL_nearest_91 rfl ?_
    refine P_aload_n XC 0 rfl dL_nearest_93 rfl ?_
    refine P_iconst XC dL_nearest_94 ?_
    refine P_X7_count XC (by first | (with_reducible assumption) | (unfold IR; omega) | (unfold IR at *; omega)) gL_nearest_X7_count ⟨⟨(Nat.le_of_ble_eq_true rfl), (Nat.le_of_ble_eq_true rfl)⟩, (Nat.le_of_ble_eq_true rfl), (Nat.le_of_ble_eq_true rfl)⟩ (Nat.le_of_ble_eq_true rfl) dL_nearest_95 (fun r95 hr95 => ?_)
    obtain rfl := cn_0 hr95
    refine P_icmp_ge XC 177 dL_nearest_98 (by decide) (by first | (with_reducible assumption) | (unfold IR; omega) | (unfold IR at *; omega)) (by first | (with_reducible assumption) | (unfold IR; omega) | (unfold IR at *; omega)) (fun h98 => ?_) (fun h98 => ?_)
    · skip
      refine P_iconst XC dL_nearest_177 ?_
      exact P_zret (r := true) XC hrV dL_nearest_178 (fun u hu => hQ _ _ u ⟨1, rfl, rfl, rfl⟩ hu)
    have hk : k < σ.1.1.length := by omega
    have hz := ok_sz hS hk
    refine P_iconst XC dL_nearest_101 ?_
    refine P_istore XC dL_nearest_102 rfl (by decide) ?_
    dsimp only [List.set]
    refine P_kill 7 ?_
    dsimp only [List.set]
    refine P_loopR (τ := Nat) (fun u => szk (gk σ.1.1 k) - u) (fun u => u ≤ szk (gk σ.1.1 k)) (fun u => [some (.ref (pa 0)), some (.int (iI x)), some (.int (iI y)), some (.int (iI (t : Int))), some (.int (iI (dsF σ.1.1 x y t j))), some (.int (iI (k : Int))), some (.int (iI (u : Int))), none]) (0) (Nat.zero_le _) rfl (fun u hJ ih104 => ?_)
    obtain ⟨i, rfl⟩ : ∃ z, z = u := ⟨_, rfl⟩
    try dsimp only at hJ ih104 ⊢
    obtain hil := hJ
    refine P_iload XC dL_nearest_104 rfl ?_
    refine P_aload_n XC 0 rfl dL_nearest_106 rfl ?_
    refine P_iload XC dL_nearest_107 rfl ?_
    refine P_iconst XC dL_nearest_109 ?_
    refine P_X7_stroke XC (by first | (with_reducible assumption) | (unfold IR; omega) | (unfold IR at *; omega)) (by first | (with_reducible assumption) | (unfold IR; omega) | (unfold IR at *; omega)) gL_nearest_X7_stroke ⟨⟨(Nat.le_of_ble_eq_true rfl), (Nat.le_of_ble_eq_true rfl)⟩, (Nat.le_of_ble_eq_true rfl), (Nat.le_of_ble_eq_true rfl)⟩ (Nat.le_of_ble_eq_true rfl) dL_nearest_110 ?_
    refine P_top (y := (szk (gk σ.1.1 k) : Int)) (st_1 hk) ?_
    refine P_icmp_ge XC 171 dL_nearest_113 (by decide) (by first | (with_reducible assumption) | (unfold IR; omega) | (unfold IR at *; omega)) (by first | (with_reducible assumption) | (unfold IR; omega) | (unfold IR at *; omega)) (fun h113 => ?_) (fun h113 => ?_)
    · skip
      refine P_iinc XC dL_nearest_171 rfl rfl (by decide) ?_
      dsimp only [List.set]
      refine P_goto XC 91 dL_nearest_174 (by decide) ?_
      refine P_kill 6 ?_
      refine P_kill 7 ?_
      dsimp only [List.set]
      exact ih91 (k + 1) (by (try dsimp only); omega) (by (try dsimp only); omega)
    have hi : i < szk (gk σ.1.1 k) := by omega
    have hds := ds_rng hS hx hy hk hi
    have hm := hmin k i hk hi
    refine P_aload_n XC 0 rfl dL_nearest_116 rfl ?_
    refine P_iload XC dL_nearest_117 rfl ?_
    refine P_iload XC dL_nearest_119 rfl ?_
    refine P_iconst XC dL_nearest_121 ?_
    refine P_X7_point XC (by first | (with_reducible assumption) | (unfold IR; omega) | (unfold IR at *; omega)) (by first | (with_reducible assumption) | (unfold IR; omega) | (unfold IR at *; omega)) (by first | (with_reducible assumption) | (unfold IR; omega) | (unfold IR at *; omega)) gL_nearest_X7_point ⟨⟨(Nat.le_of_ble_eq_true rfl), (Nat.le_of_ble_eq_true rfl)⟩, (Nat.le_of_ble_eq_true rfl), (Nat.le_of_ble_eq_true rfl)⟩ (Nat.le_of_ble_eq_true rfl) dL_nearest_122 ?_
    refine P_top (y := px (gk σ.1.1 k) i) (pt_0 hk hi) ?_
    refine P_iload_n XC 1 rfl dL_nearest_125 rfl ?_
    refine P_isub XC dL_nearest_126 ?_
    refine P_aload_n XC 0 rfl dL_nearest_127 rfl ?_
    refine P_iload XC dL_nearest_128 rfl ?_
    refine P_iload XC dL_nearest_130 rfl ?_
    refine P_iconst XC dL_nearest_132 ?_
    refine P_X7_point XC (by first | (with_reducible assumption) | (unfold IR; omega) | (unfold IR at *; omega)) (by first | (with_reducible assumption) | (unfold IR; omega) | (unfold IR at *; omega)) (by first | (with_reducible assumption) | (unfold IR; omega) | (unfold IR at *; omega)) gL_nearest_X7_point ⟨⟨(Nat.le_of_ble_eq_true rfl), (Nat.le_of_ble_eq_true rfl)⟩, (Nat.le_of_ble_eq_true rfl), (Nat.le_of_ble_eq_true rfl)⟩ (Nat.le_of_ble_eq_true rfl) dL_nearest_133 ?_
    refine P_top (y := py (gk σ.1.1 k) i) (pt_1 hk hi) ?_
    refine P_iload_n XC 2 rfl dL_nearest_136 rfl ?_
    refine P_isub XC dL_nearest_137 ?_
    refine P_call (rest := _) XC (c_L_far l D kI kC pa pg pw σ _ _) gL_nearest_L_far rfl kmL_far ⟨⟨(Nat.le_of_ble_eq_true rfl), (Nat.le_of_ble_eq_true rfl)⟩, (Nat.le_of_ble_eq_true rfl), (Nat.le_of_ble_eq_true rfl)⟩ ⟨rfl, rfl⟩ rfl rfl (Nat.le_of_ble_eq_true rfl) dL_nearest_138 (kS_of (fun r138 hr138 => ?_))
    dsimp only [Option.toList, List.cons_append, List.nil_append]
    subst hr138
    refine P_top (y := dsF σ.1.1 x y k i) rfl ?_
    refine P_istore XC dL_nearest_141 rfl (by decide) ?_
    dsimp only [List.set]
    refine P_iload XC dL_nearest_143 rfl ?_
    refine P_iload XC dL_nearest_145 rfl ?_
    refine P_icmp_lt XC 163 dL_nearest_147 (by decide) (by first | (with_reducible assumption) | (unfold IR; omega) | (unfold IR at *; omega)) (by first | (with_reducible assumption) | (unfold IR; omega) | (unfold IR at *; omega)) (fun h147 => ?_) (fun h147 => ?_)
    · exfalso
      omega
    refine P_iload XC dL_nearest_150 rfl ?_
    refine P_iload XC dL_nearest_152 rfl ?_
    refine P_icmp_ne XC 165 dL_nearest_154 (by decide) (by first | (with_reducible assumption) | (unfold IR; omega) | (unfold IR at *; omega)) (by first | (with_reducible assumption) | (unfold IR; omega) | (unfold IR at *; omega)) (fun h154 => ?_) (fun h154 => ?_)
    · skip
      refine P_iinc XC dL_nearest_165 rfl rfl (by decide) ?_
      dsimp only [List.set]
      refine P_goto XC 104 dL_nearest_168 (by decide) ?_
      refine P_kill 7 ?_
      dsimp only [List.set]
      exact ih104 (i + 1) (by (try dsimp only); omega) (by (try dsimp only); omega)
    refine P_iload XC dL_nearest_157 rfl ?_
    refine P_iload_n XC 3 rfl dL_nearest_159 rfl ?_
    refine P_icmp_ge XC 165 dL_nearest_160 (by decide) (by first | (with_reducible assumption) | (unfold IR; omega) | (unfold IR at *; omega)) (by first | (with_reducible assumption) | (unfold IR; omega) | (unfold IR at *; omega)) (fun h160 => ?_) (fun h160 => ?_)
    rotate_left
    · exfalso
      have := hm.2 (by omega)
      omega
    refine P_iinc XC dL_nearest_165 rfl rfl (by decide) ?_
    dsimp only [List.set]
    refine P_goto XC 104 dL_nearest_168 (by decide) ?_
    refine P_kill 7 ?_
    dsimp only [List.set]
    exact ih104 (i + 1) (by (try dsimp only); omega) (by (try dsimp only); omega)
  have hi : i < szk (gk σ.1.1 t) := by omega
  have hds := ds_rng hS hx hy ht hi
  refine P_aload_n XC 0 rfl dL_nearest_41 rfl ?_
  refine P_iload_n XC 3 rfl dL_nearest_42 rfl ?_
  refine P_iload XC dL_nearest_43 rfl ?_
  refine P_iconst XC dL_nearest_45 ?_
  refine P_X7_point XC (by first | (with_reducible assumption) | (unfold IR; omega) | (unfold IR at *; omega)) (by first | (with_reducible assumption) | (unfold IR; omega) | (unfold IR at *; omega)) (by first | (with_reducible assumption) | (unfold IR; omega) | (unfold IR at *; omega)) gL_nearest_X7_point ⟨⟨(Nat.le_of_ble_eq_true rfl), (Nat.le_of_ble_eq_true rfl)⟩, (Nat.le_of_ble_eq_true rfl), (Nat.le_of_ble_eq_true rfl)⟩ (Nat.le_of_ble_eq_true rfl) dL_nearest_46 ?_
  refine P_top (y := px (gk σ.1.1 t) i) (pt_0 ht hi) ?_
  refine P_iload_n XC 1 rfl dL_nearest_49 rfl ?_
  refine P_isub XC dL_nearest_50 ?_
  refine P_aload_n XC 0 rfl dL_nearest_51 rfl ?_
  refine P_iload_n XC 3 rfl dL_nearest_52 rfl ?_
  refine P_iload XC dL_nearest_53 rfl ?_
  refine P_iconst XC dL_nearest_55 ?_
  refine P_X7_point XC (by first | (with_reducible assumption) | (unfold IR; omega) | (unfold IR at *; omega)) (by first | (with_reducible assumption) | (unfold IR; omega) | (unfold IR at *; omega)) (by first | (with_reducible assumption) | (unfold IR; omega) | (unfold IR at *; omega)) gL_nearest_X7_point ⟨⟨(Nat.le_of_ble_eq_true rfl), (Nat.le_of_ble_eq_true rfl)⟩, (Nat.le_of_ble_eq_true rfl), (Nat.le_of_ble_eq_true rfl)⟩ (Nat.le_of_ble_eq_true rfl) dL_nearest_56 ?_
  refine P_top (y := py (gk σ.1.1 t) i) (pt_1 ht hi) ?_
  refine P_iload_n XC 2 rfl dL_nearest_59 rfl ?_
  refine P_isub XC dL_nearest_60 ?_
  refine P_call (rest := _) XC (c_L_far l D kI kC pa pg pw σ _ _) gL_nearest_L_far rfl kmL_far ⟨⟨(Nat.le_of_ble_eq_true rfl), (Nat.le_of_ble_eq_true rfl)⟩, (Nat.le_of_ble_eq_true rfl), (Nat.le_of_ble_eq_true rfl)⟩ ⟨rfl, rfl⟩ rfl rfl (Nat.le_of_ble_eq_true rfl) dL_nearest_61 (kS_of (fun r61 hr61 => ?_))
  dsimp only [Option.toList, List.cons_append, List.nil_append]
  subst hr61
  refine P_top (y := dsF σ.1.1 x y t i) rfl ?_
  refine P_istore XC dL_nearest_64 rfl (by decide) ?_
  dsimp only [List.set]
  refine P_iload XC dL_nearest_66 rfl ?_
  refine P_iload XC dL_nearest_68 rfl ?_
  refine P_merge (J := fun z => z = rnL (dsF σ.1.1 x y t) (i + 1)) 80 2 (fun kj70 => ?_) (fun z70 hz70 => ?_)
  · try dsimp only [List.drop] at kj70
    refine P_icmp_ge XC 78 dL_nearest_70 (by decide) (by first | (with_reducible assumption) | (unfold IR; omega) | (unfold IR at *; omega)) (by first | (with_reducible assumption) | (unfold IR; omega) | (unfold IR at *; omega)) (fun h70 => ?_) (fun h70 => ?_)
    · skip
      refine P_iload XC dL_nearest_78 rfl ?_
      exact kj70 _ (by (try dsimp only); show _ = min (rnL _ i) _; omega)
    refine P_iload XC dL_nearest_73 rfl ?_
    refine P_goto XC 80 dL_nearest_75 (by decide) ?_
    exact kj70 _ (by (try dsimp only); show _ = min (rnL _ i) _; omega)
  try dsimp only [List.drop]
  try dsimp only at hz70
  subst hz70
  refine P_istore XC dL_nearest_80 rfl (by decide) ?_
  dsimp only [List.set]
  refine P_iinc XC dL_nearest_82 rfl rfl (by decide) ?_
  dsimp only [List.set]
  refine P_goto XC 30 dL_nearest_85 (by decide) ?_
  refine P_kill 6 ?_
  dsimp only [List.set]
  exact ih30 (i + 1) (by (try dsimp only); omega) (by (try dsimp only); omega)

theorem cel_cc {S : List Stk} {x y : Int} (hx : 0 ≤ x ∧ x ≤ 1000) (hy : 0 ≤ y ∧ y ≤ 1000) : cellS S x y = ((itr (fun k a => ccK (gk S k) (cellN x y) a (szk (gk S k))) 0 S.length : Nat) : Int) := by
  unfold cellS
  rw [if_neg (by unfold inR; simp only [decide_eq_false_iff_not]; omega)]

set_option maxRecDepth 100000 in
set_option maxHeartbeats 4000000 in
theorem c_L_colors (l : Launch) (D : va_G) (kI kC : ClassId) (pa pg pw : Nat → Nat) (σ : PS) (g h : Int) (hg : IR g) (hh : IR h) : PCon l yL_colors wsL_colors { frames := 8, cells := 0, slots := 0, locals := 189 } D kI kC pa pg pw [.ref (pa 0), .int (iI g), .int (iI h)] σ (qS σ (fun r => r = 1)) := by
  refine PCon.of (cc := cL_colors) (maxL := 15) (ret := (some .boolean)) (by decide +kernel) rfl (Nat.le_of_ble_eq_true rfl) ?_
  intro pV eV sV mV bV tV cV AV Qf XC hrV hQ
  have XC : Cx pV _ sV mV _ tV cV cL_colors 15 RL wsL_colors AV D kI kC := XC
  change PP _ _ _ _ _ _ _ _ _ _ _ _ _ _ _ _ _ _ _ _ _ _ [some (.ref (pa 0)), some (.int (iI g)), some (.int (iI h)), none, none, none, none, none, none, none, none, none, none, none, none] _ _
  refine P_ok (fun hok => ?_)
  have hS := ok_S hok
  have h16 := ok_16 hok
  refine P_iconst XC dL_colors_0 ?_
  refine P_istore_n XC 3 rfl dL_colors_1 rfl (by decide) ?_
  dsimp only [List.set]
  refine P_iconst XC dL_colors_2 ?_
  refine P_istore XC dL_colors_3 rfl (by decide) ?_
  dsimp only [List.set]
  refine P_iconst XC dL_colors_5 ?_
  refine P_istore XC dL_colors_6 rfl (by decide) ?_
  dsimp only [List.set]
  refine P_iconst XC dL_colors_8 ?_
  refine P_istore XC dL_colors_9 rfl (by decide) ?_
  dsimp only [List.set]
  refine P_iconst XC dL_colors_11 ?_
  refine P_istore XC dL_colors_12 rfl (by decide) ?_
  dsimp only [List.set]
  refine P_iconst XC dL_colors_14 ?_
  refine P_istore XC dL_colors_15 rfl (by decide) ?_
  dsimp only [List.set]
  refine P_kill 9 ?_
  dsimp only [List.set]
  refine P_kill 10 ?_
  dsimp only [List.set]
  refine P_kill 11 ?_
  dsimp only [List.set]
  refine P_kill 12 ?_
  dsimp only [List.set]
  refine P_kill 13 ?_
  dsimp only [List.set]
  refine P_kill 14 ?_
  dsimp only [List.set]
  refine P_loopR (τ := Nat) (fun u => 4 - u) (fun u => u ≤ 4) (fun u => [some (.ref (pa 0)), some (.int (iI g)), some (.int (iI h)), some (.int (iI ((itr (fun c a => a + sumK σ.1.1 (fun t => bI (ofC t (c : Int)))) 0) u))), some (.int (iI ((itr (fun c a => a + sumK σ.1.1 (fun t => if ofC t (c : Int) = true then (szk t : Int) else 0)) 0) u))), some (.int (iI ((itr (fun c a => a + sumK σ.1.1 (fun t => if ofC t (c : Int) = true then lenK t else 0)) 0) u))), some (.int (iI ((itr (fun c a => a + inkN σ.1.1 (c : Int)) 0) u))), some (.int (iI ((itr (fun c a => max a (inkN σ.1.1 (c : Int))) 0) u))), some (.int (iI (u : Int))), none, none, none, none, none, none]) (0) (by decide) rfl (fun u hJ ih17 => ?_)
  obtain ⟨c, rfl⟩ : ∃ z, z = u := ⟨_, rfl⟩
  try dsimp only at hJ ih17 ⊢
  obtain hc4 := hJ
  refine P_iload XC dL_colors_17 rfl ?_
  refine P_iconst XC dL_colors_19 ?_
  refine P_icmp_ge XC 101 dL_colors_20 (by decide) (by first | (with_reducible assumption) | (unfold IR; omega) | (unfold IR at *; omega)) (by first | (with_reducible assumption) | (unfold IR; omega) | (unfold IR at *; omega)) (fun h20 => ?_) (fun h20 => ?_)
  · skip
    have hc : c = 4 := by omega
    subst hc
    have hs0 := sum_0 hS
    have hs1 := sum_w hS (fun t => (szk t : Int))
    have hs2 := sum_w hS (fun t => lenK t)
    have hs3 := ink_sum hS
    have hi0 := ink_le (S := σ.1.1) (c := 0)
    have hi1 := ink_le (S := σ.1.1) (c := 1)
    have hi2 := ink_le (S := σ.1.1) (c := 2)
    have hi3 := ink_le (S := σ.1.1) (c := 3)
    have hir := ink_rng (S := σ.1.1) (c := -1)
    have hj0 := ink_rng (S := σ.1.1) (c := 0)
    have hj1 := ink_rng (S := σ.1.1) (c := 1)
    have hj2 := ink_rng (S := σ.1.1) (c := 2)
    have hj3 := ink_rng (S := σ.1.1) (c := 3)
    have hA := sumK_rng (S := σ.1.1) (f := fun t => if ofC t (-1) = true then (szk t : Int) else 0) (B := 24) (fun k hk => by have := ok_sz hS hk; (try dsimp only); split <;> omega)
    have hB := sumK_rng (S := σ.1.1) (f := fun t => if ofC t (-1) = true then lenK t else 0) (B := 400000) (fun k hk => by have h1 := ok_sz hS hk; have h2 := lenF_rng (px (gk σ.1.1 k)) (py (gk σ.1.1 k)) (szk (gk σ.1.1 k)); (try dsimp only); unfold lenK; split <;> omega)
    try dsimp only at hs1 hs2 hA hB
    have w0 : (itr (fun c a => a + sumK σ.1.1 (fun t => bI (ofC t (c : Int)))) 0) 4 = (σ.1.1.length : Int) := by rw [← hs0]; show 0 + _ + _ + _ + _ = _; rw [Int.zero_add]; rfl
    have w1 : (itr (fun c a => a + sumK σ.1.1 (fun t => if ofC t (c : Int) = true then (szk t : Int) else 0)) 0) 4 = sumK σ.1.1 (fun t => if ofC t (-1) = true then (szk t : Int) else 0) := by rw [← hs1]; show 0 + _ + _ + _ + _ = _; rw [Int.zero_add]; rfl
    have w2 : (itr (fun c a => a + sumK σ.1.1 (fun t => if ofC t (c : Int) = true then lenK t else 0)) 0) 4 = sumK σ.1.1 (fun t => if ofC t (-1) = true then lenK t else 0) := by rw [← hs2]; show 0 + _ + _ + _ + _ = _; rw [Int.zero_add]; rfl
    have w3 : (itr (fun c a => a + inkN σ.1.1 (c : Int)) 0) 4 = inkN σ.1.1 0 + inkN σ.1.1 1 + inkN σ.1.1 2 + inkN σ.1.1 3 := by show 0 + _ + _ + _ + _ = _; rw [Int.zero_add]; rfl
    have w4 : (itr (fun c a => max a (inkN σ.1.1 (c : Int))) 0) 4 = max (max (max (max 0 (inkN σ.1.1 0)) (inkN σ.1.1 1)) (inkN σ.1.1 2)) (inkN σ.1.1 3) := rfl
    rw [w0, w1, w2, w3, w4]
    clear w0 w1 w2 w3 w4
    generalize hI0 : inkN σ.1.1 0 = i0 at *
    generalize hI1 : inkN σ.1.1 1 = i1 at *
    generalize hI2 : inkN σ.1.1 2 = i2 at *
    generalize hI3 : inkN σ.1.1 3 = i3 at *
    generalize hIA : inkN σ.1.1 (-1) = iA at *
    refine P_iload_n XC 3 rfl dL_colors_101 rfl ?_
    refine P_aload_n XC 0 rfl dL_colors_102 rfl ?_
    refine P_iconst XC dL_colors_103 ?_
    refine P_X7_count XC (by first | (with_reducible assumption) | (unfold IR; omega) | (unfold IR at *; omega)) gL_colors_X7_count ⟨⟨(Nat.le_of_ble_eq_true rfl), (Nat.le_of_ble_eq_true rfl)⟩, (Nat.le_of_ble_eq_true rfl), (Nat.le_of_ble_eq_true rfl)⟩ (Nat.le_of_ble_eq_true rfl) dL_colors_104 (fun r104 hr104 => ?_)
    obtain rfl := cn_0 hr104
    refine P_icmp_ne XC 183 dL_colors_107 (by decide) (by first | (with_reducible assumption) | (unfold IR; omega) | (unfold IR at *; omega)) (by first | (with_reducible assumption) | (unfold IR; omega) | (unfold IR at *; omega)) (fun h107 => ?_) (fun h107 => ?_)
    · exfalso
      omega
    refine P_iload XC dL_colors_110 rfl ?_
    refine P_aload_n XC 0 rfl dL_colors_112 rfl ?_
    refine P_iconst XC dL_colors_113 ?_
    refine P_X7_count XC (by first | (with_reducible assumption) | (unfold IR; omega) | (unfold IR at *; omega)) gL_colors_X7_count ⟨⟨(Nat.le_of_ble_eq_true rfl), (Nat.le_of_ble_eq_true rfl)⟩, (Nat.le_of_ble_eq_true rfl), (Nat.le_of_ble_eq_true rfl)⟩ (Nat.le_of_ble_eq_true rfl) dL_colors_114 (fun r114 hr114 => ?_)
    obtain rfl := cn_1 hr114
    refine P_icmp_ne XC 183 dL_colors_117 (by decide) (by first | (with_reducible assumption) | (unfold IR; omega) | (unfold IR at *; omega)) (by first | (with_reducible assumption) | (unfold IR; omega) | (unfold IR at *; omega)) (fun h117 => ?_) (fun h117 => ?_)
    · exfalso
      omega
    refine P_iload XC dL_colors_120 rfl ?_
    refine P_aload_n XC 0 rfl dL_colors_122 rfl ?_
    refine P_iconst XC dL_colors_123 ?_
    refine P_X7_count XC (by first | (with_reducible assumption) | (unfold IR; omega) | (unfold IR at *; omega)) gL_colors_X7_count ⟨⟨(Nat.le_of_ble_eq_true rfl), (Nat.le_of_ble_eq_true rfl)⟩, (Nat.le_of_ble_eq_true rfl), (Nat.le_of_ble_eq_true rfl)⟩ (Nat.le_of_ble_eq_true rfl) dL_colors_124 (fun r124 hr124 => ?_)
    obtain rfl := cn_2 hr124
    refine P_icmp_ne XC 183 dL_colors_127 (by decide) (by first | (with_reducible assumption) | (unfold IR; omega) | (unfold IR at *; omega)) (by first | (with_reducible assumption) | (unfold IR; omega) | (unfold IR at *; omega)) (fun h127 => ?_) (fun h127 => ?_)
    · exfalso
      omega
    refine P_aload_n XC 0 rfl dL_colors_130 rfl ?_
    refine P_iconst XC dL_colors_131 ?_
    refine P_X7_count XC (by first | (with_reducible assumption) | (unfold IR; omega) | (unfold IR at *; omega)) gL_colors_X7_count ⟨⟨(Nat.le_of_ble_eq_true rfl), (Nat.le_of_ble_eq_true rfl)⟩, (Nat.le_of_ble_eq_true rfl), (Nat.le_of_ble_eq_true rfl)⟩ (Nat.le_of_ble_eq_true rfl) dL_colors_132 (fun r132 hr132 => ?_)
    obtain rfl := cn_5 hr132
    rw [hIA]
    refine P_iload XC dL_colors_135 rfl ?_
    refine P_icmp_gt XC 183 dL_colors_137 (by decide) (by first | (with_reducible assumption) | (unfold IR; omega) | (unfold IR at *; omega)) (by first | (with_reducible assumption) | (unfold IR; omega) | (unfold IR at *; omega)) (fun h137 => ?_) (fun h137 => ?_)
    · exfalso
      omega
    refine P_aload_n XC 0 rfl dL_colors_140 rfl ?_
    refine P_iconst XC dL_colors_141 ?_
    refine P_X7_count XC (by first | (with_reducible assumption) | (unfold IR; omega) | (unfold IR at *; omega)) gL_colors_X7_count ⟨⟨(Nat.le_of_ble_eq_true rfl), (Nat.le_of_ble_eq_true rfl)⟩, (Nat.le_of_ble_eq_true rfl), (Nat.le_of_ble_eq_true rfl)⟩ (Nat.le_of_ble_eq_true rfl) dL_colors_142 (fun r142 hr142 => ?_)
    obtain rfl := cn_5 hr142
    rw [hIA]
    refine P_iload XC dL_colors_145 rfl ?_
    refine P_icmp_lt XC 183 dL_colors_147 (by decide) (by first | (with_reducible assumption) | (unfold IR; omega) | (unfold IR at *; omega)) (by first | (with_reducible assumption) | (unfold IR; omega) | (unfold IR at *; omega)) (fun h147 => ?_) (fun h147 => ?_)
    · exfalso
      omega
    refine P_aload_n XC 0 rfl dL_colors_150 rfl ?_
    refine P_bipush XC dL_colors_151 (by decide) ?_
    refine P_X7_count XC (by first | (with_reducible assumption) | (unfold IR; omega) | (unfold IR at *; omega)) gL_colors_X7_count ⟨⟨(Nat.le_of_ble_eq_true rfl), (Nat.le_of_ble_eq_true rfl)⟩, (Nat.le_of_ble_eq_true rfl), (Nat.le_of_ble_eq_true rfl)⟩ (Nat.le_of_ble_eq_true rfl) dL_colors_153 (fun r153 hr153 => ?_)
    have hm6 := cn_6 hr153
    have hm6b := mos_le hm6
    have e9 : sumK σ.1.1 (fun t => if ofC t (-1) = true then (szk t : Int) else 0) = itr (fun k a => a + (szk (gk σ.1.1 k) : Int)) 0 σ.1.1.length := sumK_all (f := fun t => (szk t : Int))
    rw [← e9] at hm6b
    clear hr153
    refine P_iload XC dL_colors_156 rfl ?_
    refine P_icmp_gt XC 183 dL_colors_158 (by decide) (by first | (with_reducible assumption) | (unfold IR; omega) | (unfold IR at *; omega)) (by first | (with_reducible assumption) | (unfold IR; omega) | (unfold IR at *; omega)) (fun h158 => ?_) (fun h158 => ?_)
    · exfalso
      omega
    refine P_aload_n XC 0 rfl dL_colors_161 rfl ?_
    refine P_iconst XC dL_colors_162 ?_
    refine P_iconst XC dL_colors_163 ?_
    refine P_X7_color XC (by first | (with_reducible assumption) | (unfold IR; omega) | (unfold IR at *; omega)) (by first | (with_reducible assumption) | (unfold IR; omega) | (unfold IR at *; omega)) gL_colors_X7_color ⟨⟨(Nat.le_of_ble_eq_true rfl), (Nat.le_of_ble_eq_true rfl)⟩, (Nat.le_of_ble_eq_true rfl), (Nat.le_of_ble_eq_true rfl)⟩ (Nat.le_of_ble_eq_true rfl) dL_colors_164 ?_
    refine P_top (y := -2) (col_no) ?_
    refine P_bipush XC dL_colors_167 (by decide) ?_
    refine P_icmp_ne XC 183 dL_colors_169 (by decide) (by first | (with_reducible assumption) | (unfold IR; omega) | (unfold IR at *; omega)) (by first | (with_reducible assumption) | (unfold IR; omega) | (unfold IR at *; omega)) (fun h169 => ?_) (fun h169 => ?_)
    · exfalso
      omega
    refine P_aload_n XC 0 rfl dL_colors_172 rfl ?_
    refine P_iconst XC dL_colors_173 ?_
    refine P_iconst XC dL_colors_174 ?_
    refine P_X7_color XC (by first | (with_reducible assumption) | (unfold IR; omega) | (unfold IR at *; omega)) (by first | (with_reducible assumption) | (unfold IR; omega) | (unfold IR at *; omega)) gL_colors_X7_color ⟨⟨(Nat.le_of_ble_eq_true rfl), (Nat.le_of_ble_eq_true rfl)⟩, (Nat.le_of_ble_eq_true rfl), (Nat.le_of_ble_eq_true rfl)⟩ (Nat.le_of_ble_eq_true rfl) dL_colors_175 ?_
    refine P_top (y := -2) (col_4 (by decide)) ?_
    refine P_bipush XC dL_colors_178 (by decide) ?_
    refine P_icmp_eq XC 185 dL_colors_180 (by decide) (by first | (with_reducible assumption) | (unfold IR; omega) | (unfold IR at *; omega)) (by first | (with_reducible assumption) | (unfold IR; omega) | (unfold IR at *; omega)) (fun h180 => ?_) (fun h180 => ?_)
    rotate_left
    · exfalso
      omega
    refine P_iload_n XC 1 rfl dL_colors_185 rfl ?_
    refine P_sipush XC dL_colors_186 (by decide) ?_
    refine P_call (rest := _) XC (c_L_low l D kI kC pa pg pw σ _ _ hg (by decide)) gL_colors_L_low rfl kmL_low ⟨⟨(Nat.le_of_ble_eq_true rfl), (Nat.le_of_ble_eq_true rfl)⟩, (Nat.le_of_ble_eq_true rfl), (Nat.le_of_ble_eq_true rfl)⟩ ⟨rfl, rfl⟩ rfl rfl (Nat.le_of_ble_eq_true rfl) dL_colors_189 (kS_of (fun r189 hr189 => ?_))
    dsimp only [Option.toList, List.cons_append, List.nil_append]
    obtain ⟨x, rfl⟩ : ∃ z, z = r189 := ⟨_, rfl⟩
    refine P_istore XC dL_colors_192 rfl (by decide) ?_
    dsimp only [List.set]
    refine P_iload_n XC 2 rfl dL_colors_194 rfl ?_
    refine P_sipush XC dL_colors_195 (by decide) ?_
    refine P_call (rest := _) XC (c_L_low l D kI kC pa pg pw σ _ _ hh (by decide)) gL_colors_L_low rfl kmL_low ⟨⟨(Nat.le_of_ble_eq_true rfl), (Nat.le_of_ble_eq_true rfl)⟩, (Nat.le_of_ble_eq_true rfl), (Nat.le_of_ble_eq_true rfl)⟩ ⟨rfl, rfl⟩ rfl rfl (Nat.le_of_ble_eq_true rfl) dL_colors_198 (kS_of (fun r198 hr198 => ?_))
    dsimp only [Option.toList, List.cons_append, List.nil_append]
    obtain ⟨y, rfl⟩ : ∃ z, z = r198 := ⟨_, rfl⟩
    have hx : 0 ≤ x ∧ x ≤ 1000 := by omega
    have hy : 0 ≤ y ∧ y ≤ 1000 := by omega
    refine P_istore XC dL_colors_201 rfl (by decide) ?_
    dsimp only [List.set]
    refine P_iconst XC dL_colors_203 ?_
    refine P_istore XC dL_colors_204 rfl (by decide) ?_
    dsimp only [List.set]
    refine P_iconst XC dL_colors_206 ?_
    refine P_istore XC dL_colors_207 rfl (by decide) ?_
    dsimp only [List.set]
    refine P_kill 12 ?_
    dsimp only [List.set]
    refine P_kill 13 ?_
    dsimp only [List.set]
    refine P_kill 14 ?_
    dsimp only [List.set]
    refine P_loopR (τ := Nat) (fun u => σ.1.1.length - u) (fun u => u ≤ σ.1.1.length) (fun u => [some (.ref (pa 0)), some (.int (iI g)), some (.int (iI h)), some (.int (iI (σ.1.1.length : Int))), some (.int (iI (sumK σ.1.1 (fun t => if ofC t (-1) = true then (szk t : Int) else 0)))), some (.int (iI (sumK σ.1.1 (fun t => if ofC t (-1) = true then lenK t else 0)))), some (.int (iI (i0 + i1 + i2 + i3))), some (.int (iI (max (max (max (max 0 (i0)) (i1)) (i2)) (i3)))), some (.int (iI x)), some (.int (iI y)), some (.int (iI ((itr (fun k a => ccK (gk σ.1.1 k) (cellN x y) a (szk (gk σ.1.1 k))) 0 u : Nat) : Int))), some (.int (iI (u : Int))), none, none, none]) (0) (Nat.zero_le _) rfl (fun u hJ ih209 => ?_)
    obtain ⟨k, rfl⟩ : ∃ z, z = u := ⟨_, rfl⟩
    try dsimp only at hJ ih209 ⊢
    obtain hkl := hJ
    refine P_iload XC dL_colors_209 rfl ?_
    refine P_aload_n XC 0 rfl dL_colors_211 rfl ?_
    refine P_iconst XC dL_colors_212 ?_
    refine P_X7_count XC (by first | (with_reducible assumption) | (unfold IR; omega) | (unfold IR at *; omega)) gL_colors_X7_count ⟨⟨(Nat.le_of_ble_eq_true rfl), (Nat.le_of_ble_eq_true rfl)⟩, (Nat.le_of_ble_eq_true rfl), (Nat.le_of_ble_eq_true rfl)⟩ (Nat.le_of_ble_eq_true rfl) dL_colors_213 (fun r213 hr213 => ?_)
    obtain rfl := cn_0 hr213
    refine P_icmp_ge XC 335 dL_colors_216 (by decide) (by first | (with_reducible assumption) | (unfold IR; omega) | (unfold IR at *; omega)) (by first | (with_reducible assumption) | (unfold IR; omega) | (unfold IR at *; omega)) (fun h216 => ?_) (fun h216 => ?_)
    · skip
      have hke : k = σ.1.1.length := by omega
      subst hke
      have hcm9 := cel_most hx hy hm6
      rw [cel_cc hx hy] at hcm9
      refine P_aload_n XC 0 rfl dL_colors_335 rfl ?_
      refine P_iload XC dL_colors_336 rfl ?_
      refine P_iload XC dL_colors_338 rfl ?_
      refine P_X7_cell XC (by first | (with_reducible assumption) | (unfold IR; omega) | (unfold IR at *; omega)) (by first | (with_reducible assumption) | (unfold IR; omega) | (unfold IR at *; omega)) gL_colors_X7_cell ⟨⟨(Nat.le_of_ble_eq_true rfl), (Nat.le_of_ble_eq_true rfl)⟩, (Nat.le_of_ble_eq_true rfl), (Nat.le_of_ble_eq_true rfl)⟩ (Nat.le_of_ble_eq_true rfl) dL_colors_340 ?_
      refine P_top (y := ((itr (fun k a => ccK (gk σ.1.1 k) (cellN x y) a (szk (gk σ.1.1 k))) 0 σ.1.1.length : Nat) : Int)) (cel_cc hx hy) ?_
      refine P_iload XC dL_colors_343 rfl ?_
      refine P_icmp_ne XC 421 dL_colors_345 (by decide) (by first | (with_reducible assumption) | (unfold IR; omega) | (unfold IR at *; omega)) (by first | (with_reducible assumption) | (unfold IR; omega) | (unfold IR at *; omega)) (fun h345 => ?_) (fun h345 => ?_)
      · exfalso
        omega
      refine P_aload_n XC 0 rfl dL_colors_348 rfl ?_
      refine P_iconst XC dL_colors_349 ?_
      refine P_X7_count XC (by first | (with_reducible assumption) | (unfold IR; omega) | (unfold IR at *; omega)) gL_colors_X7_count ⟨⟨(Nat.le_of_ble_eq_true rfl), (Nat.le_of_ble_eq_true rfl)⟩, (Nat.le_of_ble_eq_true rfl), (Nat.le_of_ble_eq_true rfl)⟩ (Nat.le_of_ble_eq_true rfl) dL_colors_350 (fun r350 hr350 => ?_)
      obtain rfl := cn_0 hr350
      refine P_merge (J := fun z => z = bI (decide (σ.1.1.length = 0))) 361 1 (fun kj353 => ?_) (fun z353 hz353 => ?_)
      · try dsimp only [List.drop] at kj353
        refine P_if_ne XC 360 dL_colors_353 (by decide) (by first | (with_reducible assumption) | (unfold IR; omega) | (unfold IR at *; omega)) (fun h353 => ?_) (fun h353 => ?_)
        · skip
          refine P_iconst XC dL_colors_360 ?_
          exact kj353 _ (by (try dsimp only); first | (rw [decide_eq_true (show σ.1.1.length = 0 by omega)]; rfl) | (rw [decide_eq_false (show ¬ σ.1.1.length = 0 by omega)]; rfl))
        refine P_iconst XC dL_colors_356 ?_
        refine P_goto XC 361 dL_colors_357 (by decide) ?_
        exact kj353 _ (by (try dsimp only); first | (rw [decide_eq_true (show σ.1.1.length = 0 by omega)]; rfl) | (rw [decide_eq_false (show ¬ σ.1.1.length = 0 by omega)]; rfl))
      try dsimp only [List.drop]
      try dsimp only at hz353
      have hnr := near_in hS hx hy
      have hnI : IR (nearS σ.1.1 x y) := by
        rcases hnr with ⟨_, a2⟩ | ⟨t, j, a1, a2, -⟩
        · rw [a2]; exact ⟨by decide, by decide⟩
        · rw [a2]; exact ⟨by omega, by omega⟩
      refine P_aload_n XC 0 rfl dL_colors_361 rfl ?_
      refine P_iload XC dL_colors_362 rfl ?_
      refine P_iload XC dL_colors_364 rfl ?_
      refine P_X7_nearest XC (by first | (with_reducible assumption) | (unfold IR; omega) | (unfold IR at *; omega)) (by first | (with_reducible assumption) | (unfold IR; omega) | (unfold IR at *; omega)) gL_colors_X7_nearest ⟨⟨(Nat.le_of_ble_eq_true rfl), (Nat.le_of_ble_eq_true rfl)⟩, (Nat.le_of_ble_eq_true rfl), (Nat.le_of_ble_eq_true rfl)⟩ (Nat.le_of_ble_eq_true rfl) dL_colors_366 ?_
      refine P_bipush XC dL_colors_369 (by decide) ?_
      refine P_merge (J := fun z => z = bI (decide (nearS σ.1.1 x y = -5))) 379 2 (fun kj371 => ?_) (fun z371 hz371 => ?_)
      · try dsimp only [List.drop] at kj371
        refine P_icmp_ne XC 378 dL_colors_371 (by decide) hnI (by first | (with_reducible assumption) | (unfold IR; omega) | (unfold IR at *; omega)) (fun h371 => ?_) (fun h371 => ?_)
        · skip
          refine P_iconst XC dL_colors_378 ?_
          exact kj371 _ (by (try dsimp only); first | (rw [decide_eq_true h371]; rfl) | (rw [decide_eq_false h371]; rfl))
        refine P_iconst XC dL_colors_374 ?_
        refine P_goto XC 379 dL_colors_375 (by decide) ?_
        exact kj371 _ (by (try dsimp only); first | (rw [decide_eq_true h371]; rfl) | (rw [decide_eq_false h371]; rfl))
      try dsimp only [List.drop]
      try dsimp only at hz371
      have hnn : nearS σ.1.1 x y = -5 ↔ σ.1.1.length = 0 := by
        rcases hnr with ⟨a1, a2⟩ | ⟨t, j, a1, a2, -⟩
        · exact ⟨fun _ => a1, fun _ => a2⟩
        · rw [a2]; exact ⟨fun q => absurd q (by omega), fun q => absurd a1 (by omega)⟩
      have hzz : z371 = z353 := by rw [hz371, hz353, decide_eq_decide.mpr hnn]
      have hzb : 0 ≤ z353 ∧ z353 ≤ 1 := by rw [hz353]; unfold bI; cases decide (σ.1.1.length = 0) <;> decide
      refine P_icmp_ne XC 421 dL_colors_379 (by decide) (by first | (with_reducible assumption) | (unfold IR; omega) | (unfold IR at *; omega)) (by first | (with_reducible assumption) | (unfold IR; omega) | (unfold IR at *; omega)) (fun h379 => ?_) (fun h379 => ?_)
      · exfalso
        omega
      refine P_aload_n XC 0 rfl dL_colors_382 rfl ?_
      refine P_sipush XC dL_colors_383 (by decide) ?_
      refine P_iconst XC dL_colors_386 ?_
      refine P_X7_nearest XC (by first | (with_reducible assumption) | (unfold IR; omega) | (unfold IR at *; omega)) (by first | (with_reducible assumption) | (unfold IR; omega) | (unfold IR at *; omega)) gL_colors_X7_nearest ⟨⟨(Nat.le_of_ble_eq_true rfl), (Nat.le_of_ble_eq_true rfl)⟩, (Nat.le_of_ble_eq_true rfl), (Nat.le_of_ble_eq_true rfl)⟩ (Nat.le_of_ble_eq_true rfl) dL_colors_387 ?_
      refine P_top (y := -2) (rfl) ?_
      refine P_bipush XC dL_colors_390 (by decide) ?_
      refine P_icmp_ne XC 421 dL_colors_392 (by decide) (by first | (with_reducible assumption) | (unfold IR; omega) | (unfold IR at *; omega)) (by first | (with_reducible assumption) | (unfold IR; omega) | (unfold IR at *; omega)) (fun h392 => ?_) (fun h392 => ?_)
      · exfalso
        omega
      refine P_aload_n XC 0 rfl dL_colors_395 rfl ?_
      refine P_iconst XC dL_colors_396 ?_
      refine P_iconst XC dL_colors_397 ?_
      refine P_X7_cell XC (by first | (with_reducible assumption) | (unfold IR; omega) | (unfold IR at *; omega)) (by first | (with_reducible assumption) | (unfold IR; omega) | (unfold IR at *; omega)) gL_colors_X7_cell ⟨⟨(Nat.le_of_ble_eq_true rfl), (Nat.le_of_ble_eq_true rfl)⟩, (Nat.le_of_ble_eq_true rfl), (Nat.le_of_ble_eq_true rfl)⟩ (Nat.le_of_ble_eq_true rfl) dL_colors_398 ?_
      refine P_top (y := -2) (rfl) ?_
      refine P_bipush XC dL_colors_401 (by decide) ?_
      refine P_icmp_ne XC 421 dL_colors_403 (by decide) (by first | (with_reducible assumption) | (unfold IR; omega) | (unfold IR at *; omega)) (by first | (with_reducible assumption) | (unfold IR; omega) | (unfold IR at *; omega)) (fun h403 => ?_) (fun h403 => ?_)
      · exfalso
        omega
      refine P_aload_n XC 0 rfl dL_colors_406 rfl ?_
      refine P_iload XC dL_colors_407 rfl ?_
      refine P_iload XC dL_colors_409 rfl ?_
      refine P_call (rest := _) XC (c_L_nearest l D kI kC pa pg pw σ _ _ hx hy) gL_colors_L_nearest rfl kmL_nearest ⟨⟨(Nat.le_of_ble_eq_true rfl), (Nat.le_of_ble_eq_true rfl)⟩, (Nat.le_of_ble_eq_true rfl), (Nat.le_of_ble_eq_true rfl)⟩ ⟨rfl, rfl⟩ rfl rfl (Nat.le_of_ble_eq_true rfl) dL_colors_411 (kS_of (fun r411 hr411 => ?_))
      dsimp only [Option.toList, List.cons_append, List.nil_append]
      subst hr411
      refine P_if_eq XC 421 dL_colors_414 (by decide) ⟨by decide, by decide⟩ (fun h414 => absurd h414 (by decide)) (fun h414 => ?_)
      refine P_iconst XC dL_colors_417 ?_
      refine P_goto XC 422 dL_colors_418 (by decide) ?_
      exact P_zret (r := true) XC hrV dL_colors_422 (fun u hu => hQ _ _ u ⟨1, rfl, rfl, rfl⟩ hu)
    have hk : k < σ.1.1.length := by omega
    have hz := ok_sz hS hk
    refine P_iconst XC dL_colors_219 ?_
    refine P_istore XC dL_colors_220 rfl (by decide) ?_
    dsimp only [List.set]
    refine P_kill 13 ?_
    dsimp only [List.set]
    refine P_kill 14 ?_
    dsimp only [List.set]
    refine P_loopR (τ := Nat) (fun u => szk (gk σ.1.1 k) - u) (fun u => u ≤ szk (gk σ.1.1 k)) (fun u => [some (.ref (pa 0)), some (.int (iI g)), some (.int (iI h)), some (.int (iI (σ.1.1.length : Int))), some (.int (iI (sumK σ.1.1 (fun t => if ofC t (-1) = true then (szk t : Int) else 0)))), some (.int (iI (sumK σ.1.1 (fun t => if ofC t (-1) = true then lenK t else 0)))), some (.int (iI (i0 + i1 + i2 + i3))), some (.int (iI (max (max (max (max 0 (i0)) (i1)) (i2)) (i3)))), some (.int (iI x)), some (.int (iI y)), some (.int (iI ((ccK (gk σ.1.1 k) (cellN x y) (itr (fun k a => ccK (gk σ.1.1 k) (cellN x y) a (szk (gk σ.1.1 k))) 0 k) u : Nat) : Int))), some (.int (iI (k : Int))), some (.int (iI (u : Int))), none, none]) (0) (Nat.zero_le _) rfl (fun u hJ ih222 => ?_)
    obtain ⟨i, rfl⟩ : ∃ z, z = u := ⟨_, rfl⟩
    try dsimp only at hJ ih222 ⊢
    obtain hil := hJ
    refine P_iload XC dL_colors_222 rfl ?_
    refine P_aload_n XC 0 rfl dL_colors_224 rfl ?_
    refine P_iload XC dL_colors_225 rfl ?_
    refine P_iconst XC dL_colors_227 ?_
    refine P_X7_stroke XC (by first | (with_reducible assumption) | (unfold IR; omega) | (unfold IR at *; omega)) (by first | (with_reducible assumption) | (unfold IR; omega) | (unfold IR at *; omega)) gL_colors_X7_stroke ⟨⟨(Nat.le_of_ble_eq_true rfl), (Nat.le_of_ble_eq_true rfl)⟩, (Nat.le_of_ble_eq_true rfl), (Nat.le_of_ble_eq_true rfl)⟩ (Nat.le_of_ble_eq_true rfl) dL_colors_228 ?_
    refine P_top (y := (szk (gk σ.1.1 k) : Int)) (st_1 hk) ?_
    refine P_icmp_ge XC 329 dL_colors_231 (by decide) (by first | (with_reducible assumption) | (unfold IR; omega) | (unfold IR at *; omega)) (by first | (with_reducible assumption) | (unfold IR; omega) | (unfold IR at *; omega)) (fun h231 => ?_) (fun h231 => ?_)
    · skip
      have hie : i = szk (gk σ.1.1 k) := by omega
      subst hie
      refine P_iinc XC dL_colors_329 rfl rfl (by decide) ?_
      dsimp only [List.set]
      refine P_goto XC 209 dL_colors_332 (by decide) ?_
      refine P_kill 12 ?_
      refine P_kill 13 ?_
      refine P_kill 14 ?_
      dsimp only [List.set]
      exact ih209 (k + 1) (by (try dsimp only); omega) (by (try dsimp only); omega)
    have hi : i < szk (gk σ.1.1 k) := by omega
    have hxy := ok_xy hS hk hi
    have hce := cel_eq (u := px (gk σ.1.1 k) i) (v := py (gk σ.1.1 k) i) hx hy ⟨hxy.1, hxy.2.1⟩ hxy.2.2
    have hcp := cel_pos hS hk hi
    have hcm := cel_most ⟨hxy.1, hxy.2.1⟩ hxy.2.2 hm6
    refine P_aload_n XC 0 rfl dL_colors_234 rfl ?_
    refine P_iload XC dL_colors_235 rfl ?_
    refine P_iload XC dL_colors_237 rfl ?_
    refine P_iconst XC dL_colors_239 ?_
    refine P_X7_point XC (by first | (with_reducible assumption) | (unfold IR; omega) | (unfold IR at *; omega)) (by first | (with_reducible assumption) | (unfold IR; omega) | (unfold IR at *; omega)) (by first | (with_reducible assumption) | (unfold IR; omega) | (unfold IR at *; omega)) gL_colors_X7_point ⟨⟨(Nat.le_of_ble_eq_true rfl), (Nat.le_of_ble_eq_true rfl)⟩, (Nat.le_of_ble_eq_true rfl), (Nat.le_of_ble_eq_true rfl)⟩ (Nat.le_of_ble_eq_true rfl) dL_colors_240 ?_
    refine P_top (y := px (gk σ.1.1 k) i) (pt_0 hk hi) ?_
    refine P_istore XC dL_colors_243 rfl (by decide) ?_
    dsimp only [List.set]
    refine P_aload_n XC 0 rfl dL_colors_245 rfl ?_
    refine P_iload XC dL_colors_246 rfl ?_
    refine P_iload XC dL_colors_248 rfl ?_
    refine P_iconst XC dL_colors_250 ?_
    refine P_X7_point XC (by first | (with_reducible assumption) | (unfold IR; omega) | (unfold IR at *; omega)) (by first | (with_reducible assumption) | (unfold IR; omega) | (unfold IR at *; omega)) (by first | (with_reducible assumption) | (unfold IR; omega) | (unfold IR at *; omega)) gL_colors_X7_point ⟨⟨(Nat.le_of_ble_eq_true rfl), (Nat.le_of_ble_eq_true rfl)⟩, (Nat.le_of_ble_eq_true rfl), (Nat.le_of_ble_eq_true rfl)⟩ (Nat.le_of_ble_eq_true rfl) dL_colors_251 ?_
    refine P_top (y := py (gk σ.1.1 k) i) (pt_1 hk hi) ?_
    refine P_istore XC dL_colors_254 rfl (by decide) ?_
    dsimp only [List.set]
    refine P_iload XC dL_colors_256 rfl ?_
    refine P_iload XC dL_colors_258 rfl ?_
    refine P_bipush XC dL_colors_260 (by decide) ?_
    refine P_idiv XC dL_colors_262 (by omega) (by omega) (by omega) (by omega) ?_
    refine P_iload XC dL_colors_263 rfl ?_
    refine P_bipush XC dL_colors_265 (by decide) ?_
    refine P_idiv XC dL_colors_267 (by omega) (by omega) (by omega) (by omega) ?_
    refine P_merge (J := fun z => z = (if cellN (px (gk σ.1.1 k) i) (py (gk σ.1.1 k) i) = (cellN x y) then 1 else 0)) 289 2 (fun kj268 => ?_) (fun z268 hz268 => ?_)
    · try dsimp only [List.drop] at kj268
      refine P_icmp_ne XC 288 dL_colors_268 (by decide) (by first | (with_reducible assumption) | (unfold IR; omega) | (unfold IR at *; omega)) (by first | (with_reducible assumption) | (unfold IR; omega) | (unfold IR at *; omega)) (fun h268 => ?_) (fun h268 => ?_)
      · skip
        refine P_iconst XC dL_colors_288 ?_
        exact kj268 _ (by (try dsimp only); first | (rw [if_pos (hce.mpr (by omega))]; done) | (rw [if_neg (fun q => by have := hce.mp q; omega)]; done))
      refine P_iload XC dL_colors_271 rfl ?_
      refine P_bipush XC dL_colors_273 (by decide) ?_
      refine P_idiv XC dL_colors_275 (by omega) (by omega) (by omega) (by omega) ?_
      refine P_iload XC dL_colors_276 rfl ?_
      refine P_bipush XC dL_colors_278 (by decide) ?_
      refine P_idiv XC dL_colors_280 (by omega) (by omega) (by omega) (by omega) ?_
      refine P_icmp_ne XC 288 dL_colors_281 (by decide) (by first | (with_reducible assumption) | (unfold IR; omega) | (unfold IR at *; omega)) (by first | (with_reducible assumption) | (unfold IR; omega) | (unfold IR at *; omega)) (fun h281 => ?_) (fun h281 => ?_)
      · skip
        refine P_iconst XC dL_colors_288 ?_
        exact kj268 _ (by (try dsimp only); first | (rw [if_pos (hce.mpr (by omega))]; done) | (rw [if_neg (fun q => by have := hce.mp q; omega)]; done))
      refine P_iconst XC dL_colors_284 ?_
      refine P_goto XC 289 dL_colors_285 (by decide) ?_
      exact kj268 _ (by (try dsimp only); first | (rw [if_pos (hce.mpr (by omega))]; done) | (rw [if_neg (fun q => by have := hce.mp q; omega)]; done))
    try dsimp only [List.drop]
    try dsimp only at hz268
    refine P_iadd XC dL_colors_289 ?_
    refine P_top (y := (ccK (gk σ.1.1 k) (cellN x y) (itr (fun k a => ccK (gk σ.1.1 k) (cellN x y) a (szk (gk σ.1.1 k))) 0 k) (i + 1) : Nat)) (by rw [hz268]; exact (cc_s _ _ _ _).symm) ?_
    refine P_istore XC dL_colors_290 rfl (by decide) ?_
    dsimp only [List.set]
    refine P_aload_n XC 0 rfl dL_colors_292 rfl ?_
    refine P_iload XC dL_colors_293 rfl ?_
    refine P_iload XC dL_colors_295 rfl ?_
    refine P_X7_cell XC (by first | (with_reducible assumption) | (unfold IR; omega) | (unfold IR at *; omega)) (by first | (with_reducible assumption) | (unfold IR; omega) | (unfold IR at *; omega)) gL_colors_X7_cell ⟨⟨(Nat.le_of_ble_eq_true rfl), (Nat.le_of_ble_eq_true rfl)⟩, (Nat.le_of_ble_eq_true rfl), (Nat.le_of_ble_eq_true rfl)⟩ (Nat.le_of_ble_eq_true rfl) dL_colors_297 ?_
    refine P_iconst XC dL_colors_300 ?_
    refine P_icmp_lt XC 321 dL_colors_301 (by decide) (by first | (with_reducible assumption) | (unfold IR; omega) | (unfold IR at *; omega)) (by first | (with_reducible assumption) | (unfold IR; omega) | (unfold IR at *; omega)) (fun h301 => ?_) (fun h301 => ?_)
    · exfalso
      omega
    refine P_aload_n XC 0 rfl dL_colors_304 rfl ?_
    refine P_iload XC dL_colors_305 rfl ?_
    refine P_iload XC dL_colors_307 rfl ?_
    refine P_X7_cell XC (by first | (with_reducible assumption) | (unfold IR; omega) | (unfold IR at *; omega)) (by first | (with_reducible assumption) | (unfold IR; omega) | (unfold IR at *; omega)) gL_colors_X7_cell ⟨⟨(Nat.le_of_ble_eq_true rfl), (Nat.le_of_ble_eq_true rfl)⟩, (Nat.le_of_ble_eq_true rfl), (Nat.le_of_ble_eq_true rfl)⟩ (Nat.le_of_ble_eq_true rfl) dL_colors_309 ?_
    refine P_aload_n XC 0 rfl dL_colors_312 rfl ?_
    refine P_bipush XC dL_colors_313 (by decide) ?_
    refine P_X7_count XC (by first | (with_reducible assumption) | (unfold IR; omega) | (unfold IR at *; omega)) gL_colors_X7_count ⟨⟨(Nat.le_of_ble_eq_true rfl), (Nat.le_of_ble_eq_true rfl)⟩, (Nat.le_of_ble_eq_true rfl), (Nat.le_of_ble_eq_true rfl)⟩ (Nat.le_of_ble_eq_true rfl) dL_colors_315 (fun r315 hr315 => ?_)
    have hm7 := mostR_one (cn_6 hr315) hm6
    subst hm7
    refine P_icmp_le XC 323 dL_colors_318 (by decide) (by first | (with_reducible assumption) | (unfold IR; omega) | (unfold IR at *; omega)) (by first | (with_reducible assumption) | (unfold IR; omega) | (unfold IR at *; omega)) (fun h318 => ?_) (fun h318 => ?_)
    rotate_left
    · exfalso
      omega
    refine P_iinc XC dL_colors_323 rfl rfl (by decide) ?_
    dsimp only [List.set]
    refine P_goto XC 222 dL_colors_326 (by decide) ?_
    refine P_kill 13 ?_
    refine P_kill 14 ?_
    dsimp only [List.set]
    exact ih222 (i + 1) (by (try dsimp only); omega) (by (try dsimp only); omega)
  have hc3 : (0 : Int) ≤ (c : Int) ∧ (c : Int) ≤ 3 := by omega
  have hikc := ink_rng (S := σ.1.1) (c := (c : Int))
  have hmc : 0 ≤ (itr (fun c a => max a (inkN σ.1.1 (c : Int))) 0) c ∧ (itr (fun c a => max a (inkN σ.1.1 (c : Int))) 0) c ≤ 10201 := by
    have h9 := mx_rng (f := fun c => inkN σ.1.1 (c : Int)) (B := 10201) (n := c) (fun c _ => ink_rng)
    try dsimp only at h9
    omega
  refine P_iload_n XC 3 rfl dL_colors_23 rfl ?_
  refine P_aload_n XC 0 rfl dL_colors_24 rfl ?_
  refine P_iload XC dL_colors_25 rfl ?_
  refine P_iconst XC dL_colors_27 ?_
  refine P_X7_color XC (by first | (with_reducible assumption) | (unfold IR; omega) | (unfold IR at *; omega)) (by first | (with_reducible assumption) | (unfold IR; omega) | (unfold IR at *; omega)) gL_colors_X7_color ⟨⟨(Nat.le_of_ble_eq_true rfl), (Nat.le_of_ble_eq_true rfl)⟩, (Nat.le_of_ble_eq_true rfl), (Nat.le_of_ble_eq_true rfl)⟩ (Nat.le_of_ble_eq_true rfl) dL_colors_28 ?_
  refine P_top (y := sumK σ.1.1 (fun t => bI (ofC t (c : Int)))) (col_0 hc3) ?_
  refine P_iadd XC dL_colors_31 ?_
  refine P_istore_n XC 3 rfl dL_colors_32 rfl (by decide) ?_
  dsimp only [List.set]
  refine P_iload XC dL_colors_33 rfl ?_
  refine P_aload_n XC 0 rfl dL_colors_35 rfl ?_
  refine P_iload XC dL_colors_36 rfl ?_
  refine P_iconst XC dL_colors_38 ?_
  refine P_X7_color XC (by first | (with_reducible assumption) | (unfold IR; omega) | (unfold IR at *; omega)) (by first | (with_reducible assumption) | (unfold IR; omega) | (unfold IR at *; omega)) gL_colors_X7_color ⟨⟨(Nat.le_of_ble_eq_true rfl), (Nat.le_of_ble_eq_true rfl)⟩, (Nat.le_of_ble_eq_true rfl), (Nat.le_of_ble_eq_true rfl)⟩ (Nat.le_of_ble_eq_true rfl) dL_colors_39 ?_
  refine P_top (y := sumK σ.1.1 (fun t => if ofC t (c : Int) = true then (szk t : Int) else 0)) (col_1 hc3) ?_
  refine P_iadd XC dL_colors_42 ?_
  refine P_istore XC dL_colors_43 rfl (by decide) ?_
  dsimp only [List.set]
  refine P_iload XC dL_colors_45 rfl ?_
  refine P_aload_n XC 0 rfl dL_colors_47 rfl ?_
  refine P_iload XC dL_colors_48 rfl ?_
  refine P_iconst XC dL_colors_50 ?_
  refine P_X7_color XC (by first | (with_reducible assumption) | (unfold IR; omega) | (unfold IR at *; omega)) (by first | (with_reducible assumption) | (unfold IR; omega) | (unfold IR at *; omega)) gL_colors_X7_color ⟨⟨(Nat.le_of_ble_eq_true rfl), (Nat.le_of_ble_eq_true rfl)⟩, (Nat.le_of_ble_eq_true rfl), (Nat.le_of_ble_eq_true rfl)⟩ (Nat.le_of_ble_eq_true rfl) dL_colors_51 ?_
  refine P_top (y := sumK σ.1.1 (fun t => if ofC t (c : Int) = true then lenK t else 0)) (col_2 hc3) ?_
  refine P_iadd XC dL_colors_54 ?_
  refine P_istore XC dL_colors_55 rfl (by decide) ?_
  dsimp only [List.set]
  refine P_iload XC dL_colors_57 rfl ?_
  refine P_aload_n XC 0 rfl dL_colors_59 rfl ?_
  refine P_iload XC dL_colors_60 rfl ?_
  refine P_iconst XC dL_colors_62 ?_
  refine P_X7_color XC (by first | (with_reducible assumption) | (unfold IR; omega) | (unfold IR at *; omega)) (by first | (with_reducible assumption) | (unfold IR; omega) | (unfold IR at *; omega)) gL_colors_X7_color ⟨⟨(Nat.le_of_ble_eq_true rfl), (Nat.le_of_ble_eq_true rfl)⟩, (Nat.le_of_ble_eq_true rfl), (Nat.le_of_ble_eq_true rfl)⟩ (Nat.le_of_ble_eq_true rfl) dL_colors_63 ?_
  refine P_top (y := inkN σ.1.1 (c : Int)) (col_3 hc3) ?_
  refine P_iadd XC dL_colors_66 ?_
  refine P_istore XC dL_colors_67 rfl (by decide) ?_
  dsimp only [List.set]
  refine P_aload_n XC 0 rfl dL_colors_69 rfl ?_
  refine P_iload XC dL_colors_70 rfl ?_
  refine P_iconst XC dL_colors_72 ?_
  refine P_X7_color XC (by first | (with_reducible assumption) | (unfold IR; omega) | (unfold IR at *; omega)) (by first | (with_reducible assumption) | (unfold IR; omega) | (unfold IR at *; omega)) gL_colors_X7_color ⟨⟨(Nat.le_of_ble_eq_true rfl), (Nat.le_of_ble_eq_true rfl)⟩, (Nat.le_of_ble_eq_true rfl), (Nat.le_of_ble_eq_true rfl)⟩ (Nat.le_of_ble_eq_true rfl) dL_colors_73 ?_
  refine P_top (y := inkN σ.1.1 (c : Int)) (col_3 hc3) ?_
  refine P_iload XC dL_colors_76 rfl ?_
  refine P_merge (J := fun z => z = (itr (fun c a => max a (inkN σ.1.1 (c : Int))) 0) (c + 1)) 93 2 (fun kj78 => ?_) (fun z78 hz78 => ?_)
  · try dsimp only [List.drop] at kj78
    refine P_icmp_le XC 91 dL_colors_78 (by decide) (by first | (with_reducible assumption) | (unfold IR; omega) | (unfold IR at *; omega)) (by first | (with_reducible assumption) | (unfold IR; omega) | (unfold IR at *; omega)) (fun h78 => ?_) (fun h78 => ?_)
    · skip
      refine P_iload XC dL_colors_91 rfl ?_
      exact kj78 _ (by (try dsimp only); show _ = max ((itr (fun c a => max a (inkN σ.1.1 (c : Int))) 0) c) _; omega)
    refine P_aload_n XC 0 rfl dL_colors_81 rfl ?_
    refine P_iload XC dL_colors_82 rfl ?_
    refine P_iconst XC dL_colors_84 ?_
    refine P_X7_color XC (by first | (with_reducible assumption) | (unfold IR; omega) | (unfold IR at *; omega)) (by first | (with_reducible assumption) | (unfold IR; omega) | (unfold IR at *; omega)) gL_colors_X7_color ⟨⟨(Nat.le_of_ble_eq_true rfl), (Nat.le_of_ble_eq_true rfl)⟩, (Nat.le_of_ble_eq_true rfl), (Nat.le_of_ble_eq_true rfl)⟩ (Nat.le_of_ble_eq_true rfl) dL_colors_85 ?_
    refine P_top (y := inkN σ.1.1 (c : Int)) (col_3 hc3) ?_
    refine P_goto XC 93 dL_colors_88 (by decide) ?_
    exact kj78 _ (by (try dsimp only); show _ = max ((itr (fun c a => max a (inkN σ.1.1 (c : Int))) 0) c) _; omega)
  try dsimp only [List.drop]
  try dsimp only at hz78
  subst hz78
  refine P_istore XC dL_colors_93 rfl (by decide) ?_
  dsimp only [List.set]
  refine P_iinc XC dL_colors_95 rfl rfl (by decide) ?_
  dsimp only [List.set]
  refine P_goto XC 17 dL_colors_98 (by decide) ?_
  exact ih17 (c + 1) (by (try dsimp only); omega) (by (try dsimp only); omega)

end LAW2
