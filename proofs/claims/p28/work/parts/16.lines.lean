/-! the class's Lines -/
section LINES
theorem ct_s1 {p : Nat → Bool} {j : Nat} (h : p j = true) : ((fb_ct p j : Nat) : Int) + 1 = ((fb_ct p (j + 1) : Nat) : Int) := by rw [fb_ct_succ, if_pos h]; rfl
theorem ct_s0 {p : Nat → Bool} {j : Nat} (h : p j = false) : ((fb_ct p j : Nat) : Int) + 0 = ((fb_ct p (j + 1) : Nat) : Int) := by rw [fb_ct_succ, if_neg (by rw [h]; decide)]; simp

set_option maxRecDepth 100000 in
set_option maxHeartbeats 4000000 in
theorem c_X1_isBefore (l : Launch) (D : va_G) (kI kC : ClassId) (h : Nat → Nat) (n : Int) (lo to bo si bt bb ra : Nat → Int) (o i : Nat) (ho : o < 16) (hi : i < 16) (hbo : IR (bt o) ∧ IR (bb o)) (hbi : IR (bt i) ∧ IR (bb i)) : ConR l yX1_isBefore wsX1_isBefore { frames := 0, cells := 0, slots := 0, locals := 0 } D kI kC [.ref (h 0), .int (iI (o : Int)), .int (iI (i : Int))] (liW kI h n lo to bo si bt bb ra) (fun r => r = bI (lx bt bb o i)) := by
  refine Con.of (cc := cX1_isBefore) (maxL := 3) (ret := (some .boolean)) (by decide +kernel) rfl (List.forall_mem_cons.mpr ⟨rfl, List.forall_mem_cons.mpr ⟨rfl, List.forall_mem_cons.mpr ⟨rfl, fun _ h => absurd h List.not_mem_nil⟩⟩⟩) (Nat.le_of_ble_eq_true rfl) ?_
  intro pV eV sV mV bV tV cV AV XC hrV
  have XC : Cx pV _ sV mV _ tV cV cX1_isBefore 3 RX1 wsX1_isBefore AV D kI kC := XC
  change VV _ _ _ _ _ _ _ _ _ _ _ _ _ _ _ _ _ [some (.ref (h 0)), some (.int (iI (o : Int))), some (.int (iI (i : Int)))] _ _
  dsimp only [liW]
  unfold IR at hbo hbi
  refine V_aload_n XC 0 rfl dX1_isBefore_0 rfl ?_
  refine V_get XC 5 flX1_isBefore_24 0 rfl rfl dX1_isBefore_1 ?_
  refine V_iload_n XC 1 rfl dX1_isBefore_4 rfl ?_
  refine V_iald XC (_) 5 rfl rfl (by omega) (by decide) dX1_isBefore_5 ?_
  refine V_aload_n XC 0 rfl dX1_isBefore_6 rfl ?_
  refine V_get XC 5 flX1_isBefore_24 0 rfl rfl dX1_isBefore_7 ?_
  refine V_iload_n XC 2 rfl dX1_isBefore_10 rfl ?_
  refine V_iald XC (_) 5 rfl rfl (by omega) (by decide) dX1_isBefore_11 ?_
  refine V_icmp_eq XC 36 dX1_isBefore_12 (by decide) ⟨by omega, by omega⟩ ⟨by omega, by omega⟩ (fun h12 => ?_) (fun h12 => ?_)
  · skip
    refine V_aload_n XC 0 rfl dX1_isBefore_36 rfl ?_
    refine V_get XC 6 flX1_isBefore_27 0 rfl rfl dX1_isBefore_37 ?_
    refine V_iload_n XC 1 rfl dX1_isBefore_40 rfl ?_
    refine V_iald XC (_) 6 rfl rfl (by omega) (by decide) dX1_isBefore_41 ?_
    refine V_aload_n XC 0 rfl dX1_isBefore_42 rfl ?_
    refine V_get XC 6 flX1_isBefore_27 0 rfl rfl dX1_isBefore_43 ?_
    refine V_iload_n XC 2 rfl dX1_isBefore_46 rfl ?_
    refine V_iald XC (_) 6 rfl rfl (by omega) (by decide) dX1_isBefore_47 ?_
    refine V_icmp_eq XC 72 dX1_isBefore_48 (by decide) ⟨by omega, by omega⟩ ⟨by omega, by omega⟩ (fun h48 => ?_) (fun h48 => ?_)
    · skip
      refine V_iload_n XC 1 rfl dX1_isBefore_72 rfl ?_
      refine V_iload_n XC 2 rfl dX1_isBefore_73 rfl ?_
      refine V_icmp_ge XC 81 dX1_isBefore_74 (by decide) ⟨by omega, by omega⟩ ⟨by omega, by omega⟩ (fun h74 => ?_) (fun h74 => ?_)
      · skip
        refine V_iconst XC dX1_isBefore_81 ?_
        refine V_zret (r := false) XC () hrV rfl dX1_isBefore_82 ?_
        unfold lx
        try dsimp only
        first | exact congrArg bI (decide_eq_true (by omega)).symm | exact congrArg bI (decide_eq_false (by omega)).symm
      refine V_iconst XC dX1_isBefore_77 ?_
      refine V_goto XC 82 dX1_isBefore_78 (by decide) ?_
      refine V_zret (r := true) XC () hrV rfl dX1_isBefore_82 ?_
      unfold lx
      try dsimp only
      first | exact congrArg bI (decide_eq_true (by omega)).symm | exact congrArg bI (decide_eq_false (by omega)).symm
    refine V_aload_n XC 0 rfl dX1_isBefore_51 rfl ?_
    refine V_get XC 6 flX1_isBefore_27 0 rfl rfl dX1_isBefore_52 ?_
    refine V_iload_n XC 1 rfl dX1_isBefore_55 rfl ?_
    refine V_iald XC (_) 6 rfl rfl (by omega) (by decide) dX1_isBefore_56 ?_
    refine V_aload_n XC 0 rfl dX1_isBefore_57 rfl ?_
    refine V_get XC 6 flX1_isBefore_27 0 rfl rfl dX1_isBefore_58 ?_
    refine V_iload_n XC 2 rfl dX1_isBefore_61 rfl ?_
    refine V_iald XC (_) 6 rfl rfl (by omega) (by decide) dX1_isBefore_62 ?_
    refine V_icmp_ge XC 70 dX1_isBefore_63 (by decide) ⟨by omega, by omega⟩ ⟨by omega, by omega⟩ (fun h63 => ?_) (fun h63 => ?_)
    · skip
      refine V_iconst XC dX1_isBefore_70 ?_
      refine V_zret (r := false) XC () hrV rfl dX1_isBefore_71 ?_
      unfold lx
      try dsimp only
      first | exact congrArg bI (decide_eq_true (by omega)).symm | exact congrArg bI (decide_eq_false (by omega)).symm
    refine V_iconst XC dX1_isBefore_66 ?_
    refine V_goto XC 71 dX1_isBefore_67 (by decide) ?_
    refine V_zret (r := true) XC () hrV rfl dX1_isBefore_71 ?_
    unfold lx
    try dsimp only
    first | exact congrArg bI (decide_eq_true (by omega)).symm | exact congrArg bI (decide_eq_false (by omega)).symm
  refine V_aload_n XC 0 rfl dX1_isBefore_15 rfl ?_
  refine V_get XC 5 flX1_isBefore_24 0 rfl rfl dX1_isBefore_16 ?_
  refine V_iload_n XC 1 rfl dX1_isBefore_19 rfl ?_
  refine V_iald XC (_) 5 rfl rfl (by omega) (by decide) dX1_isBefore_20 ?_
  refine V_aload_n XC 0 rfl dX1_isBefore_21 rfl ?_
  refine V_get XC 5 flX1_isBefore_24 0 rfl rfl dX1_isBefore_22 ?_
  refine V_iload_n XC 2 rfl dX1_isBefore_25 rfl ?_
  refine V_iald XC (_) 5 rfl rfl (by omega) (by decide) dX1_isBefore_26 ?_
  refine V_icmp_ge XC 34 dX1_isBefore_27 (by decide) ⟨by omega, by omega⟩ ⟨by omega, by omega⟩ (fun h27 => ?_) (fun h27 => ?_)
  · skip
    refine V_iconst XC dX1_isBefore_34 ?_
    refine V_zret (r := false) XC () hrV rfl dX1_isBefore_35 ?_
    unfold lx
    try dsimp only
    first | exact congrArg bI (decide_eq_true (by omega)).symm | exact congrArg bI (decide_eq_false (by omega)).symm
  refine V_iconst XC dX1_isBefore_30 ?_
  refine V_goto XC 35 dX1_isBefore_31 (by decide) ?_
  refine V_zret (r := true) XC () hrV rfl dX1_isBefore_35 ?_
  unfold lx
  try dsimp only
  first | exact congrArg bI (decide_eq_true (by omega)).symm | exact congrArg bI (decide_eq_false (by omega)).symm

set_option maxRecDepth 100000 in
set_option maxHeartbeats 4000000 in
theorem c_X1_bestFor (l : Launch) (D : va_G) (kI kC : ClassId) (h : Nat → Nat) (m : Nat) (lo to bo si bt bb ra : Nat → Int) (hm : m ≤ 16) (hB : ∀ i, i < m → 0 ≤ bt i ∧ bt i ≤ 1000 ∧ 0 ≤ bb i ∧ bb i ≤ 1000) (t b : Int) (ht : 0 ≤ t ∧ t ≤ 1000 ∧ 0 ≤ b ∧ b ≤ 1000) : ConR l yX1_bestFor wsX1_bestFor { frames := 1, cells := 0, slots := 0, locals := 21 } D kI kC [.ref (h 0), .int (iI t), .int (iI b)] (liW kI h (m : Int) lo to bo si bt bb ra) (fun r => r = (bf bt bb t b m).1) := by
  refine Con.of (cc := cX1_bestFor) (maxL := 10) (ret := (some .int)) (by decide +kernel) rfl (List.forall_mem_cons.mpr ⟨rfl, List.forall_mem_cons.mpr ⟨rfl, List.forall_mem_cons.mpr ⟨rfl, fun _ h => absurd h List.not_mem_nil⟩⟩⟩) (Nat.le_of_ble_eq_true rfl) ?_
  intro pV eV sV mV bV tV cV AV XC hrV
  have XC : Cx pV _ sV mV _ tV cV cX1_bestFor 10 RX1 wsX1_bestFor AV D kI kC := XC
  change VV _ _ _ _ _ _ _ _ _ _ _ _ _ _ _ _ _ [some (.ref (h 0)), some (.int (iI t)), some (.int (iI b)), none, none, none, none, none, none, none] _ _
  dsimp only [liW]
  refine V_bipush XC dX1_bestFor_0 (by decide) ?_
  refine V_istore_n XC 3 rfl dX1_bestFor_2 (by decide) ?_
  dsimp only [List.set]
  refine V_iconst XC dX1_bestFor_3 ?_
  refine V_istore XC dX1_bestFor_4 (by decide) ?_
  dsimp only [List.set]
  refine V_iconst XC dX1_bestFor_6 ?_
  refine V_istore XC dX1_bestFor_7 (by decide) ?_
  dsimp only [List.set]
  refine V_loopR (σ := Nat × Int × Int) (fun u => m - u.1) (fun u => u.1 ≤ m ∧ u.2 = bf bt bb t b u.1 ∧ 0 ≤ u.2.2 ∧ u.2.2 ≤ 1001) (fun u => [some (.ref (h 0)), some (.int (iI t)), some (.int (iI b)), some (.int (iI u.2.1)), some (.int (iI u.2.2)), some (.int (iI (u.1 : Int))), none, none, none, none]) (0, -5, 0) ?_ rfl (fun u hJ ih9 => ?_)
  · dsimp only
    exact ⟨Nat.zero_le _, rfl, by omega, by omega⟩
  obtain ⟨i, e, q⟩ := u
  try dsimp only at hJ ih9 ⊢
  obtain ⟨hi, hf, hq0, hq1⟩ := hJ
  refine V_iload XC dX1_bestFor_9 rfl ?_
  refine V_aload_n XC 0 rfl dX1_bestFor_11 rfl ?_
  refine V_get XC 0 flX1_bestFor_33 0 rfl rfl dX1_bestFor_12 ?_
  refine V_icmp_ge XC 99 dX1_bestFor_15 (by decide) ⟨by omega, by omega⟩ ⟨by omega, by omega⟩ (fun h15 => ?_) (fun h15 => ?_)
  · skip
    refine V_iload_n XC 3 rfl dX1_bestFor_99 rfl ?_
    refine V_iret XC () hrV rfl dX1_bestFor_100 ?_
    try dsimp only
    rw [show m = i by omega, ← hf]
  have hbi := hB i (by omega)
  refine V_aload_n XC 0 rfl dX1_bestFor_18 rfl ?_
  refine V_get XC 5 flX1_bestFor_24 0 rfl rfl dX1_bestFor_19 ?_
  refine V_iload XC dX1_bestFor_22 rfl ?_
  refine V_iald XC (_) 5 rfl rfl (by omega) (by decide) dX1_bestFor_24 ?_
  refine V_istore XC dX1_bestFor_25 (by decide) ?_
  dsimp only [List.set]
  refine V_aload_n XC 0 rfl dX1_bestFor_27 rfl ?_
  refine V_get XC 6 flX1_bestFor_27 0 rfl rfl dX1_bestFor_28 ?_
  refine V_iload XC dX1_bestFor_31 rfl ?_
  refine V_iald XC (_) 6 rfl rfl (by omega) (by decide) dX1_bestFor_33 ?_
  refine V_istore XC dX1_bestFor_34 (by decide) ?_
  dsimp only [List.set]
  refine V_iload_n XC 2 rfl dX1_bestFor_36 rfl ?_
  refine V_iload XC dX1_bestFor_37 rfl ?_
  refine V_mmin XC mmX1_bestFor_53 ⟨by omega, by omega⟩ ⟨by omega, by omega⟩ (Nat.le_of_ble_eq_true rfl) (Nat.le_of_ble_eq_true rfl) (Nat.le_of_ble_eq_true rfl) (Nat.le_of_ble_eq_true rfl) dX1_bestFor_39 ?_
  refine V_iload_n XC 1 rfl dX1_bestFor_42 rfl ?_
  refine V_iload XC dX1_bestFor_43 rfl ?_
  refine V_mmax XC mmX1_bestFor_58 ⟨by omega, by omega⟩ ⟨by omega, by omega⟩ (Nat.le_of_ble_eq_true rfl) (Nat.le_of_ble_eq_true rfl) (Nat.le_of_ble_eq_true rfl) (Nat.le_of_ble_eq_true rfl) dX1_bestFor_45 ?_
  refine V_isub XC dX1_bestFor_48 ?_
  refine V_iconst XC dX1_bestFor_49 ?_
  refine V_iadd XC dX1_bestFor_50 ?_
  refine V_istore XC dX1_bestFor_51 (by decide) ?_
  dsimp only [List.set]
  refine V_iload_n XC 2 rfl dX1_bestFor_53 rfl ?_
  refine V_iload_n XC 1 rfl dX1_bestFor_54 rfl ?_
  refine V_isub XC dX1_bestFor_55 ?_
  refine V_iconst XC dX1_bestFor_56 ?_
  refine V_iadd XC dX1_bestFor_57 ?_
  refine V_iload XC dX1_bestFor_58 rfl ?_
  refine V_iload XC dX1_bestFor_60 rfl ?_
  refine V_isub XC dX1_bestFor_62 ?_
  refine V_iconst XC dX1_bestFor_63 ?_
  refine V_iadd XC dX1_bestFor_64 ?_
  refine V_mmin XC mmX1_bestFor_53 ⟨by omega, by omega⟩ ⟨by omega, by omega⟩ (Nat.le_of_ble_eq_true rfl) (Nat.le_of_ble_eq_true rfl) (Nat.le_of_ble_eq_true rfl) (Nat.le_of_ble_eq_true rfl) dX1_bestFor_65 ?_
  refine V_istore XC dX1_bestFor_68 (by decide) ?_
  dsimp only [List.set]
  refine V_iload XC dX1_bestFor_70 rfl ?_
  refine V_iload XC dX1_bestFor_72 rfl ?_
  refine V_icmp_le XC 93 dX1_bestFor_74 (by decide) ⟨by omega, by omega⟩ ⟨by omega, by omega⟩ (fun h74 => ?_) (fun h74 => ?_)
  · skip
    refine V_iinc XC dX1_bestFor_93 rfl (by decide) ?_
    dsimp only [List.set]
    refine V_goto XC 9 dX1_bestFor_96 (by decide) ?_
    refine V_kill 6 ?_
    dsimp only [List.set]
    refine V_kill 7 ?_
    dsimp only [List.set]
    refine V_kill 8 ?_
    dsimp only [List.set]
    refine V_kill 9 ?_
    dsimp only [List.set]
    first
    | (refine ih9 (i + 1, (i : Int), min b (bb i) - max t (bt i) + 1) ⟨by (try dsimp only); omega, ?_, by (try dsimp only); omega, by (try dsimp only); omega⟩ (by (try dsimp only); omega)
       dsimp only
       rw [bf_s, ← hf]
       unfold bfS
       rw [if_pos (by (try dsimp only); omega)])
    | (refine ih9 (i + 1, e, q) ⟨by (try dsimp only); omega, ?_, hq0, hq1⟩ (by (try dsimp only); omega)
       dsimp only
       rw [bf_s, ← hf]
       unfold bfS
       rw [if_neg (by (try dsimp only); omega)])
  refine V_iconst XC dX1_bestFor_77 ?_
  refine V_iload XC dX1_bestFor_78 rfl ?_
  refine V_imul XC dX1_bestFor_80 ?_
  refine V_iload XC dX1_bestFor_81 rfl ?_
  refine V_icmp_lt XC 93 dX1_bestFor_83 (by decide) ⟨by omega, by omega⟩ ⟨by omega, by omega⟩ (fun h83 => ?_) (fun h83 => ?_)
  · skip
    refine V_iinc XC dX1_bestFor_93 rfl (by decide) ?_
    dsimp only [List.set]
    refine V_goto XC 9 dX1_bestFor_96 (by decide) ?_
    refine V_kill 6 ?_
    dsimp only [List.set]
    refine V_kill 7 ?_
    dsimp only [List.set]
    refine V_kill 8 ?_
    dsimp only [List.set]
    refine V_kill 9 ?_
    dsimp only [List.set]
    first
    | (refine ih9 (i + 1, (i : Int), min b (bb i) - max t (bt i) + 1) ⟨by (try dsimp only); omega, ?_, by (try dsimp only); omega, by (try dsimp only); omega⟩ (by (try dsimp only); omega)
       dsimp only
       rw [bf_s, ← hf]
       unfold bfS
       rw [if_pos (by (try dsimp only); omega)])
    | (refine ih9 (i + 1, e, q) ⟨by (try dsimp only); omega, ?_, hq0, hq1⟩ (by (try dsimp only); omega)
       dsimp only
       rw [bf_s, ← hf]
       unfold bfS
       rw [if_neg (by (try dsimp only); omega)])
  refine V_iload XC dX1_bestFor_86 rfl ?_
  refine V_istore_n XC 3 rfl dX1_bestFor_88 (by decide) ?_
  dsimp only [List.set]
  refine V_iload XC dX1_bestFor_89 rfl ?_
  refine V_istore XC dX1_bestFor_91 (by decide) ?_
  dsimp only [List.set]
  refine V_iinc XC dX1_bestFor_93 rfl (by decide) ?_
  dsimp only [List.set]
  refine V_goto XC 9 dX1_bestFor_96 (by decide) ?_
  refine V_kill 6 ?_
  dsimp only [List.set]
  refine V_kill 7 ?_
  dsimp only [List.set]
  refine V_kill 8 ?_
  dsimp only [List.set]
  refine V_kill 9 ?_
  dsimp only [List.set]
  first
  | (refine ih9 (i + 1, (i : Int), min b (bb i) - max t (bt i) + 1) ⟨by (try dsimp only); omega, ?_, by (try dsimp only); omega, by (try dsimp only); omega⟩ (by (try dsimp only); omega)
     dsimp only
     rw [bf_s, ← hf]
     unfold bfS
     rw [if_pos (by (try dsimp only); omega)])
  | (refine ih9 (i + 1, e, q) ⟨by (try dsimp only); omega, ?_, hq0, hq1⟩ (by (try dsimp only); omega)
     dsimp only
     rw [bf_s, ← hf]
     unfold bfS
     rw [if_neg (by (try dsimp only); omega)])

set_option maxRecDepth 100000 in
set_option maxHeartbeats 4000000 in
theorem c_X1_rank (l : Launch) (D : va_G) (kI kC : ClassId) (h : Nat → Nat) (m : Nat) (lo to bo si bt bb ra : Nat → Int) (hm : m ≤ 16) (hB : ∀ i, i < m → 0 ≤ bt i ∧ bt i ≤ 1000 ∧ 0 ≤ bb i ∧ bb i ≤ 1000) (n : Nat) (hn : n ≤ 16) (hlo : ∀ j, j < n → 0 ≤ lo j ∧ lo j < m) : Con l yX1_rank wsX1_rank { frames := 1, cells := 0, slots := 0, locals := 22 } D kI kC [.ref (h 0), .int (iI (n : Int))] (liW kI h (m : Int) lo to bo si bt bb ra) (σ := (Nat → Int) × (Nat → Int) × (Nat → Int) × (Nat → Int) × (Nat → Int)) (qV (fun u => (∀ j, j < n → u.1 j = (rk bt bb m (lo j).toNat : Nat)) ∧ (∀ i, i < m → u.2.1 (rk bt bb m i) = bt i ∧ u.2.2.1 (rk bt bb m i) = bb i) ∧ (∀ L, L < m → u.2.2.2.1 L = (fb_ct (fun j => rk bt bb m (lo j).toNat == L) n : Nat)))) (fun u => liW kI h (m : Int) u.1 u.2.1 u.2.2.1 u.2.2.2.1 bt bb u.2.2.2.2) := by
  refine Con.of (cc := cX1_rank) (maxL := 5) (ret := none) (by decide +kernel) rfl (List.forall_mem_cons.mpr ⟨rfl, List.forall_mem_cons.mpr ⟨rfl, fun _ h => absurd h List.not_mem_nil⟩⟩) (Nat.le_of_ble_eq_true rfl) ?_
  intro pV eV sV mV bV tV cV AV XC hrV
  have XC : Cx pV _ sV mV _ tV cV cX1_rank 5 RX1 wsX1_rank AV D kI kC := XC
  change VV _ _ _ _ _ _ _ _ _ _ _ _ _ _ _ _ _ [some (.ref (h 0)), some (.int (iI (n : Int))), none, none, none] _ _
  dsimp only [liW]
  refine V_iconst XC dX1_rank_0 ?_
  refine V_istore_n XC 2 rfl dX1_rank_1 (by decide) ?_
  dsimp only [List.set]
  refine V_loop (σ := Nat × (Nat → Int) × (Nat → Int) × (Nat → Int) × (Nat → Int)) (fun u => m - u.1) (fun u => u.1 ≤ m ∧ (∀ q, q < u.1 → u.2.2.2.2 q = (rk bt bb m q : Nat) ∧ u.2.1 (rk bt bb m q) = bt q ∧ u.2.2.1 (rk bt bb m q) = bb q ∧ u.2.2.2.1 (rk bt bb m q) = 0)) (fun u => [some (.ref (h 0)), some (.int (iI (n : Int))), some (.int (iI (u.1 : Int))), none, none]) (fun u => liW kI h (m : Int) lo u.2.1 u.2.2.1 u.2.2.2.1 bt bb u.2.2.2.2) (0, to, bo, si, ra) ?_ rfl rfl (fun u hJ ih2 => ?_)
  · dsimp only
    exact ⟨Nat.zero_le _, fun q hq => absurd hq (Nat.not_lt_zero q)⟩
  obtain ⟨i, to2, bo2, si2, ra2⟩ := u
  try dsimp only at hJ ih2 ⊢
  try dsimp only [List.cons_append, List.nil_append, padO, mdO, shW, trW, txW, hiW, liW, woW, taW]
  obtain ⟨hi, hall⟩ := hJ
  refine V_iload_n XC 2 rfl dX1_rank_2 rfl ?_
  refine V_aload_n XC 0 rfl dX1_rank_3 rfl ?_
  refine V_get XC 0 flX1_rank_33 0 rfl rfl dX1_rank_4 ?_
  refine V_icmp_ge XC 92 dX1_rank_7 (by decide) ⟨by omega, by omega⟩ ⟨by omega, by omega⟩ (fun h7 => ?_) (fun h7 => ?_)
  · skip
    refine V_iconst XC dX1_rank_92 ?_
    refine V_istore_n XC 2 rfl dX1_rank_93 (by decide) ?_
    dsimp only [List.set]
    refine V_loop (σ := Nat × (Nat → Int) × (Nat → Int)) (fun u => n - u.1) (fun u => u.1 ≤ n ∧ (∀ q, q < u.1 → u.2.1 q = (rk bt bb m (lo q).toNat : Nat)) ∧ (∀ q, u.1 ≤ q → u.2.1 q = lo q) ∧ (∀ L, L < m → u.2.2 L = (fb_ct (fun j => rk bt bb m (lo j).toNat == L) u.1 : Nat))) (fun u => [some (.ref (h 0)), some (.int (iI (n : Int))), some (.int (iI (u.1 : Int))), none, none]) (fun u => liW kI h (m : Int) u.2.1 to2 bo2 u.2.2 bt bb ra2) (0, lo, si2) ?_ rfl rfl (fun u hJ ih94 => ?_)
    · dsimp only
      obtain rfl : m = i := by omega
      refine ⟨Nat.zero_le _, fun q hq => absurd hq (Nat.not_lt_zero q), fun _ _ => rfl, fun L hL => ?_⟩
      obtain ⟨q, hq, e⟩ := rk_onto (a := bt) (b := bb) hL
      rw [← e]
      exact (hall q hq).2.2.2
    obtain ⟨j, lo2, si3⟩ := u
    try dsimp only at hJ ih94 ⊢
    try dsimp only [List.cons_append, List.nil_append, padO, mdO, shW, trW, txW, hiW, liW, woW, taW]
    obtain ⟨hj, hlo1, hlo2, hsi⟩ := hJ
    refine V_iload_n XC 2 rfl dX1_rank_94 rfl ?_
    refine V_iload_n XC 1 rfl dX1_rank_95 rfl ?_
    refine V_icmp_ge XC 134 dX1_rank_96 (by decide) ⟨by omega, by omega⟩ ⟨by omega, by omega⟩ (fun h96 => ?_) (fun h96 => ?_)
    · skip
      refine V_vret XC (_, _, _, _, _) hrV rfl dX1_rank_134 ?_
      obtain rfl : m = i := by omega
      obtain rfl : n = j := by omega
      exact ⟨hlo1, fun q hq => ⟨(hall q hq).2.1, (hall q hq).2.2.1⟩, hsi⟩
    have hlj := hlo j (by omega)
    have hl2 := hlo2 j (Nat.le_refl j)
    have hraj := (hall (lo j).toNat (by omega)).1
    have hrj := rk_lt (a := bt) (b := bb) (m := m) (i := (lo j).toNat) (by omega)
    refine V_aload_n XC 0 rfl dX1_rank_99 rfl ?_
    refine V_get XC 7 flX1_rank_30 0 rfl rfl dX1_rank_100 ?_
    refine V_aload_n XC 0 rfl dX1_rank_103 rfl ?_
    refine V_get XC 1 flX1_rank_9 0 rfl rfl dX1_rank_104 ?_
    refine V_iload_n XC 2 rfl dX1_rank_107 rfl ?_
    refine V_iald XC (_) 1 rfl rfl (by omega) (by decide) dX1_rank_108 ?_
    refine V_iald XC ((lo j).toNat) 7 rfl (by omega) (by omega) (by decide) dX1_rank_109 ?_
    rw [hraj]
    refine V_istore_n XC 3 rfl dX1_rank_110 (by decide) ?_
    dsimp only [List.set]
    refine V_aload_n XC 0 rfl dX1_rank_111 rfl ?_
    refine V_get XC 1 flX1_rank_9 0 rfl rfl dX1_rank_112 ?_
    refine V_iload_n XC 2 rfl dX1_rank_115 rfl ?_
    refine V_iload_n XC 3 rfl dX1_rank_116 rfl ?_
    refine V_iast XC (_) 1 rfl rfl (by omega) (by decide) dX1_rank_117 ?_
    dsimp only [List.set]
    refine V_aload_n XC 0 rfl dX1_rank_118 rfl ?_
    refine V_get XC 4 flX1_rank_21 0 rfl rfl dX1_rank_119 ?_
    refine V_iload_n XC 3 rfl dX1_rank_122 rfl ?_
    refine V_dup2 XC dX1_rank_123 rfl rfl ?_
    refine V_iald XC (rk bt bb m (lo j).toNat) 4 rfl (by omega) (by omega) (by decide) dX1_rank_124 ?_
    refine V_iconst XC dX1_rank_125 ?_
    refine V_iadd XC dX1_rank_126 ?_
    refine V_iast XC (rk bt bb m (lo j).toNat) 4 rfl (by omega) (by omega) (by decide) dX1_rank_127 ?_
    dsimp only [List.set]
    refine V_iinc XC dX1_rank_128 rfl (by decide) ?_
    dsimp only [List.set]
    refine V_goto XC 94 dX1_rank_131 (by decide) ?_
    refine V_kill 3 ?_
    dsimp only [List.set]
    refine ih94 (j + 1, upz lo2 j (rk bt bb m (lo j).toNat : Nat), upz si3 (rk bt bb m (lo j).toNat) (si3 (rk bt bb m (lo j).toNat) + 1)) ⟨by (try dsimp only); omega, fun q hq => ?_, fun q hq => ?_, fun L hL => ?_⟩ (by (try dsimp only); omega)
    · dsimp only at hq ⊢
      rcases Nat.lt_or_ge q j with z | z
      · rw [upz_n (by omega)]; exact hlo1 q z
      · obtain rfl : q = j := by omega
        rw [upz_s]
    · dsimp only at hq ⊢
      rw [upz_n (by omega)]; exact hlo2 q (by omega)
    · dsimp only
      rw [fb_ct_succ]
      by_cases z : L = rk bt bb m (lo j).toNat
      · subst z
        rw [upz_s, hsi _ hL, if_pos (by simp)]
        rfl
      · rw [upz_n z, hsi L hL, if_neg (by simpa using fun w => z w.symm)]
        rfl
  refine V_iconst XC dX1_rank_10 ?_
  refine V_istore_n XC 3 rfl dX1_rank_11 (by decide) ?_
  dsimp only [List.set]
  refine V_iconst XC dX1_rank_12 ?_
  refine V_istore XC dX1_rank_13 (by decide) ?_
  dsimp only [List.set]
  refine V_loopR (σ := Nat) (fun u => m - u) (fun u => u ≤ m) (fun u => [some (.ref (h 0)), some (.int (iI (n : Int))), some (.int (iI (i : Int))), some (.int (iI (fb_ct (fun o => lx bt bb o i) u : Nat))), some (.int (iI (u : Int)))]) (0) (Nat.zero_le _) rfl (fun u hJ ih15 => ?_)
  obtain ⟨j, rfl⟩ : ∃ z, z = u := ⟨_, rfl⟩
  try dsimp only at hJ ih15 ⊢
  obtain hj := hJ
  refine V_iload XC dX1_rank_15 rfl ?_
  refine V_aload_n XC 0 rfl dX1_rank_17 rfl ?_
  refine V_get XC 0 flX1_rank_33 0 rfl rfl dX1_rank_18 ?_
  refine V_icmp_ge XC 48 dX1_rank_21 (by decide) ⟨by omega, by omega⟩ ⟨by omega, by omega⟩ (fun h21 => ?_) (fun h21 => ?_)
  · skip
    obtain rfl : m = j := by omega
    have hrk := rk_lt (a := bt) (b := bb) (m := m) (i := i) (by omega)
    change VV _ _ _ _ _ _ _ _ _ _ _ _ _ _ _ _ _ [some (.ref (h 0)), some (.int (iI (n : Int))), some (.int (iI (i : Int))), some (.int (iI (rk bt bb m i : Nat))), some (.int (iI (m : Int)))] _ _
    refine V_aload_n XC 0 rfl dX1_rank_48 rfl ?_
    refine V_get XC 7 flX1_rank_30 0 rfl rfl dX1_rank_49 ?_
    refine V_iload_n XC 2 rfl dX1_rank_52 rfl ?_
    refine V_iload_n XC 3 rfl dX1_rank_53 rfl ?_
    refine V_iast XC (i) 7 rfl (by omega) (by omega) (by decide) dX1_rank_54 ?_
    dsimp only [List.set]
    refine V_aload_n XC 0 rfl dX1_rank_55 rfl ?_
    refine V_get XC 2 flX1_rank_15 0 rfl rfl dX1_rank_56 ?_
    refine V_iload_n XC 3 rfl dX1_rank_59 rfl ?_
    refine V_aload_n XC 0 rfl dX1_rank_60 rfl ?_
    refine V_get XC 5 flX1_rank_24 0 rfl rfl dX1_rank_61 ?_
    refine V_iload_n XC 2 rfl dX1_rank_64 rfl ?_
    refine V_iald XC (_) 5 rfl rfl (by omega) (by decide) dX1_rank_65 ?_
    refine V_iast XC (rk bt bb m i) 2 rfl (by omega) (by omega) (by decide) dX1_rank_66 ?_
    dsimp only [List.set]
    refine V_aload_n XC 0 rfl dX1_rank_67 rfl ?_
    refine V_get XC 3 flX1_rank_18 0 rfl rfl dX1_rank_68 ?_
    refine V_iload_n XC 3 rfl dX1_rank_71 rfl ?_
    refine V_aload_n XC 0 rfl dX1_rank_72 rfl ?_
    refine V_get XC 6 flX1_rank_27 0 rfl rfl dX1_rank_73 ?_
    refine V_iload_n XC 2 rfl dX1_rank_76 rfl ?_
    refine V_iald XC (_) 6 rfl rfl (by omega) (by decide) dX1_rank_77 ?_
    refine V_iast XC (rk bt bb m i) 3 rfl (by omega) (by omega) (by decide) dX1_rank_78 ?_
    dsimp only [List.set]
    refine V_aload_n XC 0 rfl dX1_rank_79 rfl ?_
    refine V_get XC 4 flX1_rank_21 0 rfl rfl dX1_rank_80 ?_
    refine V_iload_n XC 3 rfl dX1_rank_83 rfl ?_
    refine V_iconst XC dX1_rank_84 ?_
    refine V_iast XC (rk bt bb m i) 4 rfl (by omega) (by omega) (by decide) dX1_rank_85 ?_
    dsimp only [List.set]
    refine V_iinc XC dX1_rank_86 rfl (by decide) ?_
    dsimp only [List.set]
    refine V_goto XC 2 dX1_rank_89 (by decide) ?_
    refine V_kill 3 ?_
    dsimp only [List.set]
    refine V_kill 4 ?_
    dsimp only [List.set]
    refine ih2 (i + 1, upz to2 (rk bt bb m i) (bt i), upz bo2 (rk bt bb m i) (bb i), upz si2 (rk bt bb m i) 0, upz ra2 i (rk bt bb m i : Nat)) ⟨by (try dsimp only); omega, fun q hq => ?_⟩ (by (try dsimp only); omega)
    dsimp only at hq ⊢
    rcases Nat.lt_or_ge q i with z | z
    · have hne : rk bt bb m q ≠ rk bt bb m i := fun e => absurd (rk_inj (by omega) (by omega) e) (by omega)
      rw [upz_n (by omega), upz_n hne, upz_n hne, upz_n hne]
      exact hall q z
    · obtain rfl : q = i := by omega
      rw [upz_s, upz_s, upz_s, upz_s]
      exact ⟨rfl, rfl, rfl, rfl⟩
  have hbj := hB j (by omega)
  have hbi := hB i (by omega)
  refine V_iload_n XC 3 rfl dX1_rank_24 rfl ?_
  refine V_aload_n XC 0 rfl dX1_rank_25 rfl ?_
  refine V_iload XC dX1_rank_26 rfl ?_
  refine V_iload_n XC 2 rfl dX1_rank_28 rfl ?_
  refine V_callV (rest := _) (q0 := 0) XC (c_X1_isBefore l D kI kC _ _ _ _ _ _ _ _ _ _ _ (by omega) (by omega) ⟨⟨by omega, by omega⟩, ⟨by omega, by omega⟩⟩ ⟨⟨by omega, by omega⟩, ⟨by omega, by omega⟩⟩) gX1_rank_X1_isBefore rfl kmX1_isBefore ⟨⟨Nat.le_of_ble_eq_true rfl, Nat.le_of_ble_eq_true rfl⟩, Nat.le_of_ble_eq_true rfl, Nat.le_of_ble_eq_true rfl⟩ ⟨rfl, rfl⟩ rfl rfl (Nat.le_of_ble_eq_true rfl) [0, 1, 2, 3, 4, 5, 6, 7] rfl rfl (fun _ => rfl) rfl rfl dX1_rank_29 (kR_of rfl (fun r29 hq29 => ?_))
  subst hq29
  refine V_bif_eq XC 39 dX1_rank_32 (by decide) (fun h32 => ?_) (fun h32 => ?_)
  · skip
    refine V_iconst XC dX1_rank_39 ?_
    refine V_iadd XC dX1_rank_40 ?_
    refine V_istore_n XC 3 rfl dX1_rank_41 (by decide) ?_
    dsimp only [List.set]
    refine V_iinc XC dX1_rank_42 rfl (by decide) ?_
    dsimp only [List.set]
    refine V_goto XC 15 dX1_rank_45 (by decide) ?_
    first | rw [ct_s1 (p := fun o => lx bt bb o i) h32] | rw [ct_s0 (p := fun o => lx bt bb o i) h32]
    exact ih15 (j + 1) (by omega) (by omega)
  refine V_iconst XC dX1_rank_35 ?_
  refine V_goto XC 40 dX1_rank_36 (by decide) ?_
  refine V_iadd XC dX1_rank_40 ?_
  refine V_istore_n XC 3 rfl dX1_rank_41 (by decide) ?_
  dsimp only [List.set]
  refine V_iinc XC dX1_rank_42 rfl (by decide) ?_
  dsimp only [List.set]
  refine V_goto XC 15 dX1_rank_45 (by decide) ?_
  first | rw [ct_s1 (p := fun o => lx bt bb o i) h32] | rw [ct_s0 (p := fun o => lx bt bb o i) h32]
  exact ih15 (j + 1) (by omega) (by omega)

set_option maxRecDepth 100000 in
set_option maxHeartbeats 4000000 in
theorem c_X1_group (l : Launch) (D : va_G) (kI kC : ClassId) (h : Nat → Nat) (n0 : Int) (lo to bo si bt bb ra : Nat → Int) (s0 s1 : Nat) (n : Nat) (F : Nat → Int) (hn : n ≤ 16) (hS : OkS (shC n F)) : Con l yX1_group wsX1_group { frames := 3, cells := 0, slots := 0, locals := 66 } D kI kC [.ref (h 0), .ref s0] (liW kI h n0 lo to bo si bt bb ra ++ shW kI s0 s1 (n : Int) F) (σ := (Nat → Int) × (Nat → Int) × (Nat → Int) × (Nat → Int) × (Nat → Int) × (Nat → Int) × (Nat → Int)) (qV (fun u => (∀ j, j < n → u.1 j = (lnS (shC n F) j : Nat)) ∧ (∀ i, i < mS (shC n F) → u.2.1 (rkS (shC n F) i) = (GS (shC n F)).2.1 i ∧ u.2.2.1 (rkS (shC n F) i) = (GS (shC n F)).2.2.1 i) ∧ (∀ L, L < mS (shC n F) → u.2.2.2.1 L = (fb_ct (fun j => lnS (shC n F) j == L) n : Nat)))) (fun u => liW kI h (mS (shC n F) : Nat) u.1 u.2.1 u.2.2.1 u.2.2.2.1 u.2.2.2.2.1 u.2.2.2.2.2.1 u.2.2.2.2.2.2 ++ shW kI s0 s1 (n : Int) F) := by
  refine Con.of (cc := cX1_group) (maxL := 6) (ret := none) (by decide +kernel) rfl (List.forall_mem_cons.mpr ⟨rfl, List.forall_mem_cons.mpr ⟨rfl, fun _ h => absurd h List.not_mem_nil⟩⟩) (Nat.le_of_ble_eq_true rfl) ?_
  intro pV eV sV mV bV tV cV AV XC hrV
  have XC : Cx pV _ sV mV _ tV cV cX1_group 6 RX1 wsX1_group AV D kI kC := XC
  change VV _ _ _ _ _ _ _ _ _ _ _ _ _ _ _ _ _ [some (.ref (h 0)), some (.ref s0), none, none, none, none] _ _
  dsimp only [liW, shW, List.cons_append, List.nil_append]
  refine V_aload_n XC 0 rfl dX1_group_0 rfl ?_
  refine V_iconst XC dX1_group_1 ?_
  refine V_putI XC 0 flX1_group_33 fpX1 pdX1_0 rfl 0 rfl (Nat.le_of_ble_eq_true rfl) dX1_group_2 ?_
  dsimp only [List.set]
  refine V_iconst XC dX1_group_5 ?_
  refine V_istore_n XC 2 rfl dX1_group_6 (by decide) ?_
  dsimp only [List.set]
  refine V_loop (σ := Nat × (Nat → Int) × (Nat → Int) × (Nat → Int)) (fun u => n - u.1) (fun u => u.1 ≤ n ∧ (∀ i, i < (grL (tpS (shC n F)) (boS (shC n F)) u.1).1 → u.2.2.1 i = (grL (tpS (shC n F)) (boS (shC n F)) u.1).2.1 i ∧ u.2.2.2 i = (grL (tpS (shC n F)) (boS (shC n F)) u.1).2.2.1 i) ∧ (∀ j, j < u.1 → u.2.1 j = (grL (tpS (shC n F)) (boS (shC n F)) u.1).2.2.2 j)) (fun u => [some (.ref (h 0)), some (.ref s0), some (.int (iI (u.1 : Int))), none, none, none]) (fun u => liW kI h ((grL (tpS (shC n F)) (boS (shC n F)) u.1).1 : Nat) u.2.1 to bo si u.2.2.1 u.2.2.2 ra ++ shW kI s0 s1 (n : Int) F) (0, lo, bt, bb) ?_ rfl rfl (fun u hJ ih7 => ?_)
  · dsimp only
    exact ⟨Nat.zero_le _, fun q hq => absurd hq (Nat.not_lt_zero q), fun q hq => absurd hq (Nat.not_lt_zero q)⟩
  obtain ⟨k, lo2, bt2, bb2⟩ := u
  try dsimp only at hJ ih7 ⊢
  try dsimp only [List.cons_append, List.nil_append, padO, mdO, shW, trW, txW, hiW, liW, woW, taW]
  obtain ⟨hk, hb, hl⟩ := hJ
  have hgo := grL_ok (tp := tpS (shC n F)) (bo := boS (shC n F)) (N := n) (fun k hk => (bdS hS (by rw [shC_len]; exact hk)).1) hk
  have hgs := grL_s (tpS (shC n F)) (boS (shC n F)) k
  generalize hG : grL (tpS (shC n F)) (boS (shC n F)) k = G at hb hl hgo hgs ⊢
  obtain ⟨m, gt, gb, gl⟩ := G
  dsimp only [liW, shW, List.cons_append, List.nil_append] at hb hl hgo hgs ⊢
  refine V_iload_n XC 2 rfl dX1_group_7 rfl ?_
  refine V_aload_n XC 1 rfl dX1_group_8 rfl ?_
  refine V_get XC 0 flX1_group_37 8 rfl rfl dX1_group_9 ?_
  refine V_icmp_ge XC 131 dX1_group_12 (by decide) ⟨by omega, by omega⟩ ⟨by omega, by omega⟩ (fun h12 => ?_) (fun h12 => ?_)
  · skip
    obtain rfl : n = k := by omega
    have hGS : GS (shC n F) = (m, gt, gb, gl) := by
      unfold GS
      rw [shC_len]
      exact hG
    have hlb : ∀ i, i < m → 0 ≤ bt2 i ∧ bt2 i ≤ 1000 ∧ 0 ≤ bb2 i ∧ bb2 i ≤ 1000 := fun i hi => by rw [(hb i hi).1, (hb i hi).2]; exact hgo.2.2.1 i hi
    have hrk : ∀ i, i < m → rk bt2 bb2 m i = rkS (shC n F) i := fun i hi => by
      unfold rkS mS
      rw [hGS]
      exact rk_congr hi hb
    have hln : ∀ j, j < n → rk bt2 bb2 m (lo2 j).toNat = lnS (shC n F) j := fun j hj => by
      have h9 := hgo.2.1 j hj
      rw [← hl j hj] at h9
      rw [hrk _ (by omega), hl j hj]
      unfold lnS
      rw [hGS]
    have hmS : mS (shC n F) = m := by unfold mS; rw [hGS]
    refine V_aload_n XC 0 rfl dX1_group_131 rfl ?_
    refine V_aload_n XC 1 rfl dX1_group_132 rfl ?_
    refine V_get XC 0 flX1_group_37 8 rfl rfl dX1_group_133 ?_
    refine V_callV (rest := _) (q0 := 0) XC (c_X1_rank l D kI kC _ _ _ _ _ _ _ _ _ (by omega) hlb n (by omega) (fun j hj => by rw [hl j hj]; exact hgo.2.1 j hj)) gX1_group_X1_rank rfl kmX1_rank ⟨⟨Nat.le_of_ble_eq_true rfl, Nat.le_of_ble_eq_true rfl⟩, Nat.le_of_ble_eq_true rfl, Nat.le_of_ble_eq_true rfl⟩ ⟨rfl, rfl⟩ rfl rfl (Nat.le_of_ble_eq_true rfl) [0, 1, 2, 3, 4, 5, 6, 7] rfl rfl (fun _ => rfl) rfl rfl dX1_group_136 (kV_of (fun u136 hq136 => ?_))
    obtain ⟨lo136, to136, bo136, si136, ra136⟩ := u136
    dsimp only [putW, List.set, Option.toList, List.cons_append, List.nil_append, padO, mdO, shW, trW, txW, hiW, liW, woW, taW]
    try dsimp only at hq136
    obtain ⟨hlo136, hto136, hsi136⟩ := hq136
    rw [← hmS]
    refine V_vret XC (_, _, _, _, _, _, _) hrV rfl dX1_group_139 ?_
    rw [hmS, hGS]
    try dsimp only
    refine ⟨fun j hj => by rw [hlo136 j hj, hln j hj], fun i hi => ?_, fun L hL => ?_⟩
    · have h9 := hto136 i hi
      rw [hrk i hi] at h9
      exact ⟨h9.1.trans (hb i hi).1, h9.2.trans (hb i hi).2⟩
    · rw [hsi136 L hL, fb_ct_cong (fun j hj => by rw [hln j hj])]
  have hkk := shC_in hS (show k < n by omega)
  have hbd := (bdS hS (k := k) (by rw [shC_len]; omega)).1
  have hat := shC_at (F := F) (show k < n by omega)
  refine V_aload_n XC 1 rfl dX1_group_15 rfl ?_
  refine V_iload_n XC 2 rfl dX1_group_16 rfl ?_
  refine V_callV (rest := _) (q0 := 8) XC (c_X2_top l D kI kC _ _ _ _ _ (by omega) hkk) gX1_group_X2_top rfl kmX2_top ⟨⟨Nat.le_of_ble_eq_true rfl, Nat.le_of_ble_eq_true rfl⟩, Nat.le_of_ble_eq_true rfl, Nat.le_of_ble_eq_true rfl⟩ ⟨rfl, rfl⟩ rfl rfl (Nat.le_of_ble_eq_true rfl) [8, 9] rfl rfl (fun _ => rfl) rfl rfl dX1_group_17 (kR_of rfl (fun r17 hq17 => ?_))
  subst hq17
  rw [show mnF (py (skC F k)) (szk (skC F k) - 1) = tpS (shC n F) k by unfold tpS tpK; rw [hat]]
  refine V_istore_n XC 3 rfl dX1_group_20 (by decide) ?_
  dsimp only [List.set]
  refine V_aload_n XC 1 rfl dX1_group_21 rfl ?_
  refine V_iload_n XC 2 rfl dX1_group_22 rfl ?_
  refine V_callV (rest := _) (q0 := 8) XC (c_X2_bottom l D kI kC _ _ _ _ _ (by omega) hkk) gX1_group_X2_bottom rfl kmX2_bottom ⟨⟨Nat.le_of_ble_eq_true rfl, Nat.le_of_ble_eq_true rfl⟩, Nat.le_of_ble_eq_true rfl, Nat.le_of_ble_eq_true rfl⟩ ⟨rfl, rfl⟩ rfl rfl (Nat.le_of_ble_eq_true rfl) [8, 9] rfl rfl (fun _ => rfl) rfl rfl dX1_group_23 (kR_of rfl (fun r23 hq23 => ?_))
  subst hq23
  rw [show mxF (py (skC F k)) (szk (skC F k) - 1) = boS (shC n F) k by unfold boS boK; rw [hat]]
  refine V_istore XC dX1_group_26 (by decide) ?_
  dsimp only [List.set]
  refine V_aload_n XC 0 rfl dX1_group_28 rfl ?_
  refine V_iload_n XC 3 rfl dX1_group_29 rfl ?_
  refine V_iload XC dX1_group_30 rfl ?_
  refine V_callV (rest := _) (q0 := 0) XC (c_X1_bestFor l D kI kC _ _ _ _ _ _ _ _ _ (by omega) (fun i hi => by rw [(hb i hi).1, (hb i hi).2]; exact hgo.2.2.1 i hi) _ _ hbd) gX1_group_X1_bestFor rfl kmX1_bestFor ⟨⟨Nat.le_of_ble_eq_true rfl, Nat.le_of_ble_eq_true rfl⟩, Nat.le_of_ble_eq_true rfl, Nat.le_of_ble_eq_true rfl⟩ ⟨rfl, rfl⟩ rfl rfl (Nat.le_of_ble_eq_true rfl) [0, 1, 2, 3, 4, 5, 6, 7] rfl rfl (fun _ => rfl) rfl rfl dX1_group_32 (kR_of rfl (fun r32 hq32 => ?_))
  subst hq32
  rw [bf_congr hb]
  have hbr := bf_rng (bt := gt) (bb := gb) (t := tpS (shC n F) k) (b := boS (shC n F) k) (m := m)
  refine V_istore XC dX1_group_35 (by decide) ?_
  dsimp only [List.set]
  refine V_iload XC dX1_group_37 rfl ?_
  refine V_bipush XC dX1_group_39 (by decide) ?_
  refine V_icmp_ne XC 80 dX1_group_41 (by decide) ⟨by omega, by omega⟩ ⟨by omega, by omega⟩ (fun h41 => ?_) (fun h41 => ?_)
  · skip
    have he : ¬ (bf gt gb (tpS (shC n F) k) (boS (shC n F) k) m).1 = -5 := h41
    obtain ⟨r, hr⟩ : ∃ r : Nat, (bf gt gb (tpS (shC n F) k) (boS (shC n F) k) m).1 = (r : Int) := ⟨(bf gt gb (tpS (shC n F) k) (boS (shC n F) k) m).1.toNat, by omega⟩
    have hbr2 := hb r (by omega)
    have hgr2 := hgo.2.2.1 r (by omega)
    rw [hr]
    refine V_aload_n XC 0 rfl dX1_group_80 rfl ?_
    refine V_get XC 5 flX1_group_24 0 rfl rfl dX1_group_81 ?_
    refine V_iload XC dX1_group_84 rfl ?_
    refine V_iload_n XC 3 rfl dX1_group_86 rfl ?_
    refine V_aload_n XC 0 rfl dX1_group_87 rfl ?_
    refine V_get XC 5 flX1_group_24 0 rfl rfl dX1_group_88 ?_
    refine V_iload XC dX1_group_91 rfl ?_
    refine V_iald XC (r) 5 rfl (by omega) (by omega) (by decide) dX1_group_93 ?_
    rw [hbr2.1]
    refine V_mmin XC mmX1_group_53 ⟨by omega, by omega⟩ ⟨by omega, by omega⟩ (Nat.le_of_ble_eq_true rfl) (Nat.le_of_ble_eq_true rfl) (Nat.le_of_ble_eq_true rfl) (Nat.le_of_ble_eq_true rfl) dX1_group_94 ?_
    refine V_iast XC (r) 5 rfl (by omega) (by omega) (by decide) dX1_group_97 ?_
    dsimp only [List.set]
    refine V_aload_n XC 0 rfl dX1_group_98 rfl ?_
    refine V_get XC 6 flX1_group_27 0 rfl rfl dX1_group_99 ?_
    refine V_iload XC dX1_group_102 rfl ?_
    refine V_iload XC dX1_group_104 rfl ?_
    refine V_aload_n XC 0 rfl dX1_group_106 rfl ?_
    refine V_get XC 6 flX1_group_27 0 rfl rfl dX1_group_107 ?_
    refine V_iload XC dX1_group_110 rfl ?_
    refine V_iald XC (r) 6 rfl (by omega) (by omega) (by decide) dX1_group_112 ?_
    rw [hbr2.2]
    refine V_mmax XC mmX1_group_58 ⟨by omega, by omega⟩ ⟨by omega, by omega⟩ (Nat.le_of_ble_eq_true rfl) (Nat.le_of_ble_eq_true rfl) (Nat.le_of_ble_eq_true rfl) (Nat.le_of_ble_eq_true rfl) dX1_group_113 ?_
    refine V_iast XC (r) 6 rfl (by omega) (by omega) (by decide) dX1_group_116 ?_
    dsimp only [List.set]
    refine V_aload_n XC 0 rfl dX1_group_117 rfl ?_
    refine V_get XC 1 flX1_group_9 0 rfl rfl dX1_group_118 ?_
    refine V_iload_n XC 2 rfl dX1_group_121 rfl ?_
    refine V_iload XC dX1_group_122 rfl ?_
    refine V_iast XC (k) 1 rfl (by omega) (by omega) (by decide) dX1_group_124 ?_
    dsimp only [List.set]
    refine V_iinc XC dX1_group_125 rfl (by decide) ?_
    dsimp only [List.set]
    refine V_goto XC 7 dX1_group_128 (by decide) ?_
    refine V_kill 3 ?_
    dsimp only [List.set]
    refine V_kill 4 ?_
    dsimp only [List.set]
    refine V_kill 5 ?_
    dsimp only [List.set]
    first
    | (have hg2 : grLT (tpS (shC n F)) (boS (shC n F)) k (m, gt, gb, gl) = (m + 1, upz gt m (tpS (shC n F) k), upz gb m (boS (shC n F) k), upz gl k (m : Int)) := if_pos he
       rw [hg2] at hgs
       have hih := ih7 (k + 1, upz lo2 k m, upz bt2 m (tpS (shC n F) k), upz bb2 m (boS (shC n F) k))
       dsimp only at hih
       rw [hgs] at hih
       refine hih ⟨by omega, fun i hi => ?_, fun i hi => ?_⟩ (by omega)
       · dsimp only at hi ⊢
         by_cases z : i = m
         · subst z; rw [upz_s, upz_s, upz_s, upz_s]; exact ⟨rfl, rfl⟩
         · rw [upz_n z, upz_n z, upz_n z, upz_n z]; exact hb i (by omega)
       · dsimp only
         by_cases z : i = k
         · subst z; rw [upz_s, upz_s]
         · rw [upz_n z, upz_n z]; exact hl i (by omega))
    | (have hg2 : grLT (tpS (shC n F)) (boS (shC n F)) k (m, gt, gb, gl) = (m, upz gt r (min (tpS (shC n F) k) (gt r)), upz gb r (max (boS (shC n F) k) (gb r)), upz gl k (r : Int)) := by
        unfold grLT
        rw [if_neg he]
        dsimp only
        rw [hr, Int.toNat_natCast]
       rw [hg2] at hgs
       have hih := ih7 (k + 1, upz lo2 k (r : Int), upz bt2 r (min (tpS (shC n F) k) (gt r)), upz bb2 r (max (boS (shC n F) k) (gb r)))
       dsimp only at hih
       rw [hgs] at hih
       refine hih ⟨by omega, fun i hi => ?_, fun i hi => ?_⟩ (by omega)
       · dsimp only at hi ⊢
         by_cases z : i = r
         · subst z; rw [upz_s, upz_s, upz_s, upz_s]; exact ⟨rfl, rfl⟩
         · rw [upz_n z, upz_n z, upz_n z, upz_n z]; exact hb i (by omega)
       · dsimp only
         by_cases z : i = k
         · subst z; rw [upz_s, upz_s]
         · rw [upz_n z, upz_n z]; exact hl i (by omega))
  have he : (bf gt gb (tpS (shC n F) k) (boS (shC n F) k) m).1 = -5 := h41
  refine V_aload_n XC 0 rfl dX1_group_44 rfl ?_
  refine V_get XC 0 flX1_group_33 0 rfl rfl dX1_group_45 ?_
  refine V_istore XC dX1_group_48 (by decide) ?_
  dsimp only [List.set]
  refine V_aload_n XC 0 rfl dX1_group_50 rfl ?_
  refine V_dup XC dX1_group_51 rfl ?_
  refine V_get XC 0 flX1_group_33 0 rfl rfl dX1_group_52 ?_
  refine V_iconst XC dX1_group_55 ?_
  refine V_iadd XC dX1_group_56 ?_
  refine V_top (y := ((m + 1 : Nat) : Int)) (by omega) ?_
  refine V_putI XC 0 flX1_group_33 fpX1 pdX1_0 rfl 0 rfl (Nat.le_of_ble_eq_true rfl) dX1_group_57 ?_
  dsimp only [List.set]
  refine V_aload_n XC 0 rfl dX1_group_60 rfl ?_
  refine V_get XC 5 flX1_group_24 0 rfl rfl dX1_group_61 ?_
  refine V_iload XC dX1_group_64 rfl ?_
  refine V_iload_n XC 3 rfl dX1_group_66 rfl ?_
  refine V_iast XC (m) 5 rfl (by omega) (by omega) (by decide) dX1_group_67 ?_
  dsimp only [List.set]
  refine V_aload_n XC 0 rfl dX1_group_68 rfl ?_
  refine V_get XC 6 flX1_group_27 0 rfl rfl dX1_group_69 ?_
  refine V_iload XC dX1_group_72 rfl ?_
  refine V_iload XC dX1_group_74 rfl ?_
  refine V_iast XC (m) 6 rfl (by omega) (by omega) (by decide) dX1_group_76 ?_
  dsimp only [List.set]
  refine V_goto XC 117 dX1_group_77 (by decide) ?_
  refine V_aload_n XC 0 rfl dX1_group_117 rfl ?_
  refine V_get XC 1 flX1_group_9 0 rfl rfl dX1_group_118 ?_
  refine V_iload_n XC 2 rfl dX1_group_121 rfl ?_
  refine V_iload XC dX1_group_122 rfl ?_
  refine V_iast XC (k) 1 rfl (by omega) (by omega) (by decide) dX1_group_124 ?_
  dsimp only [List.set]
  refine V_iinc XC dX1_group_125 rfl (by decide) ?_
  dsimp only [List.set]
  refine V_goto XC 7 dX1_group_128 (by decide) ?_
  refine V_kill 3 ?_
  dsimp only [List.set]
  refine V_kill 4 ?_
  dsimp only [List.set]
  refine V_kill 5 ?_
  dsimp only [List.set]
  first
  | (have hg2 : grLT (tpS (shC n F)) (boS (shC n F)) k (m, gt, gb, gl) = (m + 1, upz gt m (tpS (shC n F) k), upz gb m (boS (shC n F) k), upz gl k (m : Int)) := if_pos he
     rw [hg2] at hgs
     have hih := ih7 (k + 1, upz lo2 k m, upz bt2 m (tpS (shC n F) k), upz bb2 m (boS (shC n F) k))
     dsimp only at hih
     rw [hgs] at hih
     refine hih ⟨by omega, fun i hi => ?_, fun i hi => ?_⟩ (by omega)
     · dsimp only at hi ⊢
       by_cases z : i = m
       · subst z; rw [upz_s, upz_s, upz_s, upz_s]; exact ⟨rfl, rfl⟩
       · rw [upz_n z, upz_n z, upz_n z, upz_n z]; exact hb i (by omega)
     · dsimp only
       by_cases z : i = k
       · subst z; rw [upz_s, upz_s]
       · rw [upz_n z, upz_n z]; exact hl i (by omega))
  | (have hg2 : grLT (tpS (shC n F)) (boS (shC n F)) k (m, gt, gb, gl) = (m, upz gt r (min (tpS (shC n F) k) (gt r)), upz gb r (max (boS (shC n F) k) (gb r)), upz gl k (r : Int)) := by
      unfold grLT
      rw [if_neg he]
      dsimp only
      rw [hr, Int.toNat_natCast]
     rw [hg2] at hgs
     have hih := ih7 (k + 1, upz lo2 k (r : Int), upz bt2 r (min (tpS (shC n F) k) (gt r)), upz bb2 r (max (boS (shC n F) k) (gb r)))
     dsimp only at hih
     rw [hgs] at hih
     refine hih ⟨by omega, fun i hi => ?_, fun i hi => ?_⟩ (by omega)
     · dsimp only at hi ⊢
       by_cases z : i = r
       · subst z; rw [upz_s, upz_s, upz_s, upz_s]; exact ⟨rfl, rfl⟩
       · rw [upz_n z, upz_n z, upz_n z, upz_n z]; exact hb i (by omega)
     · dsimp only
       by_cases z : i = k
       · subst z; rw [upz_s, upz_s]
       · rw [upz_n z, upz_n z]; exact hl i (by omega))

end LINES
