/-! the reference: reading all points -/
section REFM3

set_option maxRecDepth 100000 in
set_option maxHeartbeats 4000000 in
theorem c_X8_readPoints (l : Launch) (D : va_G) (kI kC : ClassId) (b : Nat → Nat) (gp : Int) (ke : Nat) (un : Nat) (bu : Nat) (ty : Nat) (pc : Int) (gd : Bool) (rd : Int) (po : Int) (ln : Int) (wd : Int) (BX : Nat → Int) (BY : Nat → Int) (T : Nat → Int) (RX : Nat → Int) (RY : Nat → Int) (hB : OkB (ptsOf bu BX BY)) (h100 : ty ≤ 100) (hT : ∀ i, i < ty → 0 ≤ T i ∧ T i < 65536)  : Con l yX8_readPoints wsX8_readPoints { frames := 3, cells := 0, slots := 0, locals := 66 } D kI kC [.ref (b 0)] (mdO b gp (ke : Int) (un : Int) (bu : Int) (ty : Int) pc gd rd po ln wd :: [(b 4, IA kI 24 BX), (b 5, IA kI 24 BY), (b 6, IA kC 100 T), (b 7, IA kI 24 RX), (b 8, IA kI 24 RY)]) (σ := Nat × (Nat → Int) × (Nat → Int) × Nat × Bool × Nat × (Nat → Int) × (Nat → Int)) (qI (fun r u => r = (if (prs T ty 0 [] 0 0 false 0 0).1 = -1 then ((prs T ty 0 [] 0 0 false 0 0).2.length : Int) else -100 - (prs T ty 0 [] 0 0 false 0 0).1) ∧ ptsOf u.1 u.2.1 u.2.2.1 = (if (prs T ty 0 [] 0 0 false 0 0).1 = -1 then (prs T ty 0 [] 0 0 false 0 0).2 else ptsOf bu BX BY) ∧ OkB (ptsOf u.1 u.2.1 u.2.2.1))) (fun u => (mdO b gp (ke : Int) (un : Int) (u.1 : Int) (ty : Int) (u.2.2.2.1 : Int) u.2.2.2.2.1 (u.2.2.2.2.2.1 : Int) po ln wd :: [(b 4, IA kI 24 u.2.1), (b 5, IA kI 24 u.2.2.1), (b 6, IA kC 100 T), (b 7, IA kI 24 u.2.2.2.2.2.2.1), (b 8, IA kI 24 u.2.2.2.2.2.2.2)])) := by
  refine Con.of (cc := cX8_readPoints) (maxL := 2) (ret := (some .int)) (by decide +kernel) rfl (List.forall_mem_cons.mpr ⟨rfl, fun _ h => absurd h List.not_mem_nil⟩) (Nat.le_of_ble_eq_true rfl) ?_
  intro pV eV sV mV bV tV cV AV XC hrV
  have XC : Cx pV _ sV mV _ tV cV cX8_readPoints 2 RX8 wsX8_readPoints AV D kI kC := XC
  change VV _ _ _ _ _ _ _ _ _ _ _ _ _ _ _ _ _ [some (.ref (b 0)), none] _ _
  dsimp only [mdO, List.cons_append, List.nil_append]
  refine V_aload_n XC 0 rfl dX8_readPoints_0 rfl ?_
  refine V_iconst XC dX8_readPoints_1 ?_
  refine V_top (y := ((0 : Nat) : Int)) rfl ?_
  refine V_putI XC 11 flX8_readPoints_110 fpX8 pdX8_11 rfl 0 rfl (Nat.le_of_ble_eq_true rfl) dX8_readPoints_2 ?_
  dsimp only [List.set]
  refine V_aload_n XC 0 rfl dX8_readPoints_5 rfl ?_
  refine V_iconst XC dX8_readPoints_6 ?_
  refine V_putZ (b := true) XC 12 flX8_readPoints_113 fpX8 pdX8_12 rfl 0 rfl (Nat.le_of_ble_eq_true rfl) dX8_readPoints_7 ?_
  dsimp only [List.set]
  refine V_aload_n XC 0 rfl dX8_readPoints_10 rfl ?_
  refine V_iconst XC dX8_readPoints_11 ?_
  refine V_top (y := ((0 : Nat) : Int)) rfl ?_
  refine V_putI XC 15 flX8_readPoints_125 fpX8 pdX8_15 rfl 0 rfl (Nat.le_of_ble_eq_true rfl) dX8_readPoints_12 ?_
  dsimp only [List.set]
  refine V_aload_n XC 0 rfl dX8_readPoints_15 rfl ?_
  refine V_callV (rest := _) (q0 := 0) XC (c_X8_readPoint l D kI kC _ _ _ _ _ _ _ _ _ _ _ _ _ _ _ (by omega) (by assumption) (Nat.zero_le _) (by omega) rfl) gX8_readPoints_X8_readPoint rfl kmX8_readPoint ⟨⟨Nat.le_of_ble_eq_true rfl, Nat.le_of_ble_eq_true rfl⟩, Nat.le_of_ble_eq_true rfl, Nat.le_of_ble_eq_true rfl⟩ ⟨rfl, rfl⟩ rfl rfl (Nat.le_of_ble_eq_true rfl) [0, 3, 4, 5] rfl rfl (fun _ => rfl) rfl rfl dX8_readPoints_16 (kV_of (fun u16 hq16 => ?_))
  obtain ⟨p16, g16, m16, RX16, RY16⟩ := u16
  dsimp only [putW, List.set, Option.toList, List.cons_append, List.nil_append, padO, mdO, shW, trW, txW, hiW, liW, woW, taW]
  try dsimp only at hq16
  have hr16 := hq16
  refine V_loop (σ := Nat × Bool × Nat × (Nat → Int) × (Nat → Int)) (fun u => ty - u.1) (fun u => u.1 ≤ ty ∧ ((u.2.1 = false ∧ (prs T ty 0 [] 0 0 false 0 0).1 = (u.1 : Int)) ∨ (u.2.1 = true ∧ 1 ≤ u.2.2.1 ∧ u.2.2.1 ≤ 24 ∧ (∀ i, i < u.2.2.1 → 0 ≤ u.2.2.2.1 i ∧ u.2.2.2.1 i ≤ 1000 ∧ 0 ≤ u.2.2.2.2 i ∧ u.2.2.2.2 i ≤ 1000) ∧ ¬ (u.1 < ty ∧ 48 ≤ T u.1 ∧ T u.1 ≤ 57) ∧ ∃ dig, 1 ≤ dig ∧ prs T ty 0 [] 0 0 false 0 0 = prs T (ty - u.1) u.1 (dd (ptsOf (u.2.2.1 - 1) u.2.2.2.1 u.2.2.2.2)) (u.2.2.1 - 1) (u.2.2.2.1 (u.2.2.1 - 1)) true (u.2.2.2.2 (u.2.2.1 - 1)) dig))) (fun u => [some (.ref (b 0)), none]) (fun u => (mdO b gp (ke : Int) (un : Int) (bu : Int) (ty : Int) (u.1 : Int) u.2.1 (u.2.2.1 : Int) po ln wd :: [(b 4, IA kI 24 BX), (b 5, IA kI 24 BY), (b 6, IA kC 100 T), (b 7, IA kI 24 u.2.2.2.1), (b 8, IA kI 24 u.2.2.2.2)])) (p16, g16, m16, RX16, RY16) ?_ rfl rfl (fun u hJ ih19 => ?_)
  · dsimp only
    rcases hr16 with ⟨a1, a2, a3, a4⟩ | ⟨a1, a2, a3, a4, a5, a6, a7, dig, a8, a9⟩
    · exact ⟨a3, Or.inl ⟨a1, a4 [] 0 0⟩⟩
    · obtain rfl : m16 = 1 := a2
      refine ⟨a4, Or.inr ⟨a1, Nat.le_refl _, by decide, fun i hi => ?_, a7, dig, a8, a9 [] 0 0⟩⟩
      obtain rfl : i = 0 := by omega
      exact a6
  obtain ⟨p, g, m, RX2, RY2⟩ := u
  try dsimp only at hJ ih19 ⊢
  try dsimp only [List.cons_append, List.nil_append, padO, mdO, shW, trW, txW, hiW, liW, woW, taW]
  obtain ⟨hpt, hJ9⟩ := hJ
  refine V_aload_n XC 0 rfl dX8_readPoints_19 rfl ?_
  refine V_get XC 12 flX8_readPoints_113 0 rfl rfl dX8_readPoints_20 ?_
  refine V_bif_eq XC 63 dX8_readPoints_23 (by decide) (fun h23 => ?_) (fun h23 => ?_)
  · skip
    have hF : (prs T ty 0 [] 0 0 false 0 0).1 = (p : Int) := by
      rcases hJ9 with z | z
      · exact z.2
      · exact absurd (h23.symm.trans z.1) (by decide)
    refine V_aload_n XC 0 rfl dX8_readPoints_63 rfl ?_
    refine V_get XC 12 flX8_readPoints_113 0 rfl rfl dX8_readPoints_64 ?_
    refine V_bif_eq XC 81 dX8_readPoints_67 (by decide) (fun h67 => ?_) (fun h67 => ?_)
    · skip
      refine V_bipush XC dX8_readPoints_81 (by decide) ?_
      refine V_aload_n XC 0 rfl dX8_readPoints_83 rfl ?_
      refine V_get XC 11 flX8_readPoints_110 0 rfl rfl dX8_readPoints_84 ?_
      refine V_isub XC dX8_readPoints_87 ?_
      refine V_iret XC (bu, BX, BY, p, g, m, RX2, RY2) hrV rfl dX8_readPoints_88 ?_
      have hne : ¬ (prs T ty 0 [] 0 0 false 0 0).1 = -1 := by omega
      rw [if_neg hne, if_neg hne]
      exact ⟨by (try dsimp only); omega, rfl, hB⟩
    exact absurd (h23.symm.trans h67) (by decide)
  obtain ⟨-, hm1, hm24, hC, hnd, dig, hd1, hE⟩ := hJ9.resolve_left (fun z => absurd (h23.symm.trans z.1) (by decide))
  refine V_aload_n XC 0 rfl dX8_readPoints_26 rfl ?_
  refine V_get XC 15 flX8_readPoints_125 0 rfl rfl dX8_readPoints_27 ?_
  refine V_bipush XC dX8_readPoints_30 (by decide) ?_
  refine V_icmp_ge XC 63 dX8_readPoints_32 (by decide) ⟨by omega, by omega⟩ ⟨by omega, by omega⟩ (fun h32 => ?_) (fun h32 => ?_)
  · skip
    have hns : ¬ (p < ty ∧ T p = 32 ∧ m - 1 < 23) := by omega
    refine V_aload_n XC 0 rfl dX8_readPoints_63 rfl ?_
    refine V_get XC 12 flX8_readPoints_113 0 rfl rfl dX8_readPoints_64 ?_
    refine V_bif_eq XC 81 dX8_readPoints_67 (by decide) (fun h67 => ?_) (fun h67 => ?_)
    · skip
      exact absurd (h23.symm.trans h67) (by decide)
    refine V_aload_n XC 0 rfl dX8_readPoints_70 rfl ?_
    refine V_get XC 11 flX8_readPoints_110 0 rfl rfl dX8_readPoints_71 ?_
    refine V_aload_n XC 0 rfl dX8_readPoints_74 rfl ?_
    refine V_get XC 9 flX8_readPoints_107 0 rfl rfl dX8_readPoints_75 ?_
    refine V_icmp_ge XC 89 dX8_readPoints_78 (by decide) ⟨by omega, by omega⟩ ⟨by omega, by omega⟩ (fun h78 => ?_) (fun h78 => ?_)
    · skip
      have hpe : p = ty := by omega
      rw [hpe, Nat.sub_self, prs_end (hC (m - 1) (by omega)).2.2.2 (by omega)] at hE
      have hK9 : addP (dd (ptsOf (m - 1) RX2 RY2)) (RX2 (m - 1), RY2 (m - 1)) = dd (ptsOf m RX2 RY2) := by
        obtain ⟨k, rfl⟩ : ∃ z, m = z + 1 := ⟨m - 1, by omega⟩
        rw [Nat.add_sub_cancel, ptsOf_s, dd_app]
      rw [hK9] at hE
      refine V_aload_n XC 0 rfl dX8_readPoints_89 rfl ?_
      refine V_iconst XC dX8_readPoints_90 ?_
      refine V_top (y := ((0 : Nat) : Int)) rfl ?_
      refine V_putI XC 6 flX8_readPoints_92 fpX8 pdX8_6 rfl 0 rfl (Nat.le_of_ble_eq_true rfl) dX8_readPoints_91 ?_
      dsimp only [List.set]
      refine V_iconst XC dX8_readPoints_94 ?_
      refine V_istore_n XC 1 rfl dX8_readPoints_95 (by decide) ?_
      dsimp only [List.set]
      refine V_loop (σ := Nat × Nat × (Nat → Int) × (Nat → Int)) (fun u => m - u.1) (fun u => u.1 ≤ m ∧ u.2.1 ≤ u.1 ∧ ptsOf u.2.1 u.2.2.1 u.2.2.2 = dd (ptsOf u.1 RX2 RY2) ∧ ∀ i, i < u.2.1 → 0 ≤ u.2.2.1 i ∧ u.2.2.1 i ≤ 1000 ∧ 0 ≤ u.2.2.2 i ∧ u.2.2.2 i ≤ 1000) (fun u => [some (.ref (b 0)), some (.int (iI (u.1 : Int)))]) (fun u => (mdO b gp (ke : Int) (un : Int) (u.2.1 : Int) (ty : Int) (p : Int) g (m : Int) po ln wd :: [(b 4, IA kI 24 u.2.2.1), (b 5, IA kI 24 u.2.2.2), (b 6, IA kC 100 T), (b 7, IA kI 24 RX2), (b 8, IA kI 24 RY2)])) (0, 0, BX, BY) ?_ rfl rfl (fun u hJ ih96 => ?_)
      · dsimp only
        exact ⟨Nat.zero_le _, Nat.le_refl _, rfl, fun i hi => absurd hi (Nat.not_lt_zero i)⟩
      obtain ⟨i, n, X2, Y2⟩ := u
      try dsimp only at hJ ih96 ⊢
      try dsimp only [List.cons_append, List.nil_append, padO, mdO, shW, trW, txW, hiW, liW, woW, taW]
      obtain ⟨hi, hn, hD, hC2⟩ := hJ
      refine V_iload_n XC 1 rfl dX8_readPoints_96 rfl ?_
      refine V_aload_n XC 0 rfl dX8_readPoints_97 rfl ?_
      refine V_get XC 15 flX8_readPoints_125 0 rfl rfl dX8_readPoints_98 ?_
      refine V_icmp_ge XC 126 dX8_readPoints_101 (by decide) ⟨by omega, by omega⟩ ⟨by omega, by omega⟩ (fun h101 => ?_) (fun h101 => ?_)
      · skip
        refine V_aload_n XC 0 rfl dX8_readPoints_126 rfl ?_
        refine V_get XC 6 flX8_readPoints_92 0 rfl rfl dX8_readPoints_127 ?_
        refine V_iret XC (n, X2, Y2, p, g, m, RX2, RY2) hrV rfl dX8_readPoints_130 ?_
        obtain rfl : i = m := by omega
        rw [hE]
        try dsimp only
        rw [if_pos rfl, if_pos rfl, ← hD, ptsOf_len]
        refine ⟨rfl, rfl, by rw [ptsOf_len]; omega, fun q hq => ?_, by rw [hD]; exact NR_dd _⟩
        obtain ⟨j, hj, rfl⟩ := ptsOf_mem.mp hq
        exact hC2 j hj
      have hci := hC i (by omega)
      refine V_aload_n XC 0 rfl dX8_readPoints_104 rfl ?_
      refine V_aload_n XC 0 rfl dX8_readPoints_105 rfl ?_
      refine V_get XC 13 flX8_readPoints_33 0 rfl rfl dX8_readPoints_106 ?_
      refine V_iload_n XC 1 rfl dX8_readPoints_109 rfl ?_
      refine V_iald XC (_) 4 rfl rfl (by omega) (by decide) dX8_readPoints_110 ?_
      refine V_aload_n XC 0 rfl dX8_readPoints_111 rfl ?_
      refine V_get XC 14 flX8_readPoints_36 0 rfl rfl dX8_readPoints_112 ?_
      refine V_iload_n XC 1 rfl dX8_readPoints_115 rfl ?_
      refine V_iald XC (_) 5 rfl rfl (by omega) (by decide) dX8_readPoints_116 ?_
      refine V_callV (rest := _) (q0 := 0) XC (c_X8_add l D kI kC _ _ _ _ _ _ _ _ _ _ _ _ _ _ (by omega) hC2 _ _ hci) gX8_readPoints_X8_add rfl kmX8_add ⟨⟨Nat.le_of_ble_eq_true rfl, Nat.le_of_ble_eq_true rfl⟩, Nat.le_of_ble_eq_true rfl, Nat.le_of_ble_eq_true rfl⟩ ⟨rfl, rfl⟩ rfl rfl (Nat.le_of_ble_eq_true rfl) [0, 1, 2] rfl rfl (fun _ => rfl) rfl rfl dX8_readPoints_117 (kV_of (fun u117 hq117 => ?_))
      obtain ⟨bu117, BX117, BY117⟩ := u117
      dsimp only [putW, List.set, Option.toList, List.cons_append, List.nil_append, padO, mdO, shW, trW, txW, hiW, liW, woW, taW]
      try dsimp only at hq117
      obtain ⟨hn117, hs117, hp117, hC117⟩ := hq117
      refine V_iinc XC dX8_readPoints_120 rfl (by decide) ?_
      dsimp only [List.set]
      refine V_goto XC 96 dX8_readPoints_123 (by decide) ?_
      refine ih96 (i + 1, bu117, BX117, BY117) ⟨by (try dsimp only); omega, by (try dsimp only); omega, ?_, hC117⟩ (by (try dsimp only); omega)
      dsimp only
      rw [hp117, hD, ptsOf_s, dd_app]
    have hF : (prs T ty 0 [] 0 0 false 0 0).1 = (p : Int) := by
      rw [hE]
      exact prs_nospace (by omega) (fun z => hnd ⟨by omega, z⟩) (fun z => hns ⟨by omega, z⟩) (hC (m - 1) (by omega)).2.2.2
    refine V_bipush XC dX8_readPoints_81 (by decide) ?_
    refine V_aload_n XC 0 rfl dX8_readPoints_83 rfl ?_
    refine V_get XC 11 flX8_readPoints_110 0 rfl rfl dX8_readPoints_84 ?_
    refine V_isub XC dX8_readPoints_87 ?_
    refine V_iret XC (bu, BX, BY, p, g, m, RX2, RY2) hrV rfl dX8_readPoints_88 ?_
    have hne : ¬ (prs T ty 0 [] 0 0 false 0 0).1 = -1 := by omega
    rw [if_neg hne, if_neg hne]
    exact ⟨by (try dsimp only); omega, rfl, hB⟩
  refine V_aload_n XC 0 rfl dX8_readPoints_35 rfl ?_
  refine V_bipush XC dX8_readPoints_36 (by decide) ?_
  refine V_bipush XC dX8_readPoints_38 (by decide) ?_
  refine V_callV (rest := _) (q0 := 0) XC (c_X8_isAt l D kI kC _ _ _ _ _ _ _ _ _ _ _ _ _ (by omega) (by assumption) (by omega) _ _ ⟨by decide, by decide⟩ ⟨by decide, by decide⟩) gX8_readPoints_X8_isAt rfl kmX8_isAt ⟨⟨Nat.le_of_ble_eq_true rfl, Nat.le_of_ble_eq_true rfl⟩, Nat.le_of_ble_eq_true rfl, Nat.le_of_ble_eq_true rfl⟩ ⟨rfl, rfl⟩ rfl rfl (Nat.le_of_ble_eq_true rfl) [0, 3] rfl rfl (fun _ => rfl) rfl rfl dX8_readPoints_40 (kR_of rfl (fun r40 hq40 => ?_))
  subst hq40
  refine V_bif_eq XC 63 dX8_readPoints_43 (by decide) (fun h43 => ?_) (fun h43 => ?_)
  · skip
    have h43b : ¬ (p < ty ∧ 32 ≤ T p ∧ T p ≤ 32) := of_decide_eq_false h43
    have hns : ¬ (p < ty ∧ T p = 32 ∧ m - 1 < 23) := fun z => h43b ⟨z.1, by omega, by omega⟩
    refine V_aload_n XC 0 rfl dX8_readPoints_63 rfl ?_
    refine V_get XC 12 flX8_readPoints_113 0 rfl rfl dX8_readPoints_64 ?_
    refine V_bif_eq XC 81 dX8_readPoints_67 (by decide) (fun h67 => ?_) (fun h67 => ?_)
    · skip
      exact absurd (h23.symm.trans h67) (by decide)
    refine V_aload_n XC 0 rfl dX8_readPoints_70 rfl ?_
    refine V_get XC 11 flX8_readPoints_110 0 rfl rfl dX8_readPoints_71 ?_
    refine V_aload_n XC 0 rfl dX8_readPoints_74 rfl ?_
    refine V_get XC 9 flX8_readPoints_107 0 rfl rfl dX8_readPoints_75 ?_
    refine V_icmp_ge XC 89 dX8_readPoints_78 (by decide) ⟨by omega, by omega⟩ ⟨by omega, by omega⟩ (fun h78 => ?_) (fun h78 => ?_)
    · skip
      have hpe : p = ty := by omega
      rw [hpe, Nat.sub_self, prs_end (hC (m - 1) (by omega)).2.2.2 (by omega)] at hE
      have hK9 : addP (dd (ptsOf (m - 1) RX2 RY2)) (RX2 (m - 1), RY2 (m - 1)) = dd (ptsOf m RX2 RY2) := by
        obtain ⟨k, rfl⟩ : ∃ z, m = z + 1 := ⟨m - 1, by omega⟩
        rw [Nat.add_sub_cancel, ptsOf_s, dd_app]
      rw [hK9] at hE
      refine V_aload_n XC 0 rfl dX8_readPoints_89 rfl ?_
      refine V_iconst XC dX8_readPoints_90 ?_
      refine V_top (y := ((0 : Nat) : Int)) rfl ?_
      refine V_putI XC 6 flX8_readPoints_92 fpX8 pdX8_6 rfl 0 rfl (Nat.le_of_ble_eq_true rfl) dX8_readPoints_91 ?_
      dsimp only [List.set]
      refine V_iconst XC dX8_readPoints_94 ?_
      refine V_istore_n XC 1 rfl dX8_readPoints_95 (by decide) ?_
      dsimp only [List.set]
      refine V_loop (σ := Nat × Nat × (Nat → Int) × (Nat → Int)) (fun u => m - u.1) (fun u => u.1 ≤ m ∧ u.2.1 ≤ u.1 ∧ ptsOf u.2.1 u.2.2.1 u.2.2.2 = dd (ptsOf u.1 RX2 RY2) ∧ ∀ i, i < u.2.1 → 0 ≤ u.2.2.1 i ∧ u.2.2.1 i ≤ 1000 ∧ 0 ≤ u.2.2.2 i ∧ u.2.2.2 i ≤ 1000) (fun u => [some (.ref (b 0)), some (.int (iI (u.1 : Int)))]) (fun u => (mdO b gp (ke : Int) (un : Int) (u.2.1 : Int) (ty : Int) (p : Int) g (m : Int) po ln wd :: [(b 4, IA kI 24 u.2.2.1), (b 5, IA kI 24 u.2.2.2), (b 6, IA kC 100 T), (b 7, IA kI 24 RX2), (b 8, IA kI 24 RY2)])) (0, 0, BX, BY) ?_ rfl rfl (fun u hJ ih96 => ?_)
      · dsimp only
        exact ⟨Nat.zero_le _, Nat.le_refl _, rfl, fun i hi => absurd hi (Nat.not_lt_zero i)⟩
      obtain ⟨i, n, X2, Y2⟩ := u
      try dsimp only at hJ ih96 ⊢
      try dsimp only [List.cons_append, List.nil_append, padO, mdO, shW, trW, txW, hiW, liW, woW, taW]
      obtain ⟨hi, hn, hD, hC2⟩ := hJ
      refine V_iload_n XC 1 rfl dX8_readPoints_96 rfl ?_
      refine V_aload_n XC 0 rfl dX8_readPoints_97 rfl ?_
      refine V_get XC 15 flX8_readPoints_125 0 rfl rfl dX8_readPoints_98 ?_
      refine V_icmp_ge XC 126 dX8_readPoints_101 (by decide) ⟨by omega, by omega⟩ ⟨by omega, by omega⟩ (fun h101 => ?_) (fun h101 => ?_)
      · skip
        refine V_aload_n XC 0 rfl dX8_readPoints_126 rfl ?_
        refine V_get XC 6 flX8_readPoints_92 0 rfl rfl dX8_readPoints_127 ?_
        refine V_iret XC (n, X2, Y2, p, g, m, RX2, RY2) hrV rfl dX8_readPoints_130 ?_
        obtain rfl : i = m := by omega
        rw [hE]
        try dsimp only
        rw [if_pos rfl, if_pos rfl, ← hD, ptsOf_len]
        refine ⟨rfl, rfl, by rw [ptsOf_len]; omega, fun q hq => ?_, by rw [hD]; exact NR_dd _⟩
        obtain ⟨j, hj, rfl⟩ := ptsOf_mem.mp hq
        exact hC2 j hj
      have hci := hC i (by omega)
      refine V_aload_n XC 0 rfl dX8_readPoints_104 rfl ?_
      refine V_aload_n XC 0 rfl dX8_readPoints_105 rfl ?_
      refine V_get XC 13 flX8_readPoints_33 0 rfl rfl dX8_readPoints_106 ?_
      refine V_iload_n XC 1 rfl dX8_readPoints_109 rfl ?_
      refine V_iald XC (_) 4 rfl rfl (by omega) (by decide) dX8_readPoints_110 ?_
      refine V_aload_n XC 0 rfl dX8_readPoints_111 rfl ?_
      refine V_get XC 14 flX8_readPoints_36 0 rfl rfl dX8_readPoints_112 ?_
      refine V_iload_n XC 1 rfl dX8_readPoints_115 rfl ?_
      refine V_iald XC (_) 5 rfl rfl (by omega) (by decide) dX8_readPoints_116 ?_
      refine V_callV (rest := _) (q0 := 0) XC (c_X8_add l D kI kC _ _ _ _ _ _ _ _ _ _ _ _ _ _ (by omega) hC2 _ _ hci) gX8_readPoints_X8_add rfl kmX8_add ⟨⟨Nat.le_of_ble_eq_true rfl, Nat.le_of_ble_eq_true rfl⟩, Nat.le_of_ble_eq_true rfl, Nat.le_of_ble_eq_true rfl⟩ ⟨rfl, rfl⟩ rfl rfl (Nat.le_of_ble_eq_true rfl) [0, 1, 2] rfl rfl (fun _ => rfl) rfl rfl dX8_readPoints_117 (kV_of (fun u117 hq117 => ?_))
      obtain ⟨bu117, BX117, BY117⟩ := u117
      dsimp only [putW, List.set, Option.toList, List.cons_append, List.nil_append, padO, mdO, shW, trW, txW, hiW, liW, woW, taW]
      try dsimp only at hq117
      obtain ⟨hn117, hs117, hp117, hC117⟩ := hq117
      refine V_iinc XC dX8_readPoints_120 rfl (by decide) ?_
      dsimp only [List.set]
      refine V_goto XC 96 dX8_readPoints_123 (by decide) ?_
      refine ih96 (i + 1, bu117, BX117, BY117) ⟨by (try dsimp only); omega, by (try dsimp only); omega, ?_, hC117⟩ (by (try dsimp only); omega)
      dsimp only
      rw [hp117, hD, ptsOf_s, dd_app]
    have hF : (prs T ty 0 [] 0 0 false 0 0).1 = (p : Int) := by
      rw [hE]
      exact prs_nospace (by omega) (fun z => hnd ⟨by omega, z⟩) (fun z => hns ⟨by omega, z⟩) (hC (m - 1) (by omega)).2.2.2
    refine V_bipush XC dX8_readPoints_81 (by decide) ?_
    refine V_aload_n XC 0 rfl dX8_readPoints_83 rfl ?_
    refine V_get XC 11 flX8_readPoints_110 0 rfl rfl dX8_readPoints_84 ?_
    refine V_isub XC dX8_readPoints_87 ?_
    refine V_iret XC (bu, BX, BY, p, g, m, RX2, RY2) hrV rfl dX8_readPoints_88 ?_
    have hne : ¬ (prs T ty 0 [] 0 0 false 0 0).1 = -1 := by omega
    rw [if_neg hne, if_neg hne]
    exact ⟨by (try dsimp only); omega, rfl, hB⟩
  have h43b : p < ty ∧ 32 ≤ T p ∧ T p ≤ 32 := of_decide_eq_true h43
  have hE57 : prs T ty 0 [] 0 0 false 0 0 = prs T (ty - (p + 1)) (p + 1) (addP (dd (ptsOf (m - 1) RX2 RY2)) (RX2 (m - 1), RY2 (m - 1))) (m - 1 + 1) (RX2 (m - 1)) false 0 0 := by
    rw [hE, prs_space (by omega) (by omega) (hC (m - 1) (by omega)).2.2.2 (by omega) (by omega), show ty - p - 1 = ty - (p + 1) by omega]
  refine V_aload_n XC 0 rfl dX8_readPoints_46 rfl ?_
  refine V_dup XC dX8_readPoints_47 rfl ?_
  refine V_get XC 11 flX8_readPoints_110 0 rfl rfl dX8_readPoints_48 ?_
  refine V_iconst XC dX8_readPoints_51 ?_
  refine V_iadd XC dX8_readPoints_52 ?_
  refine V_top (y := ((p + 1 : Nat) : Int)) (by omega) ?_
  refine V_putI XC 11 flX8_readPoints_110 fpX8 pdX8_11 rfl 0 rfl (Nat.le_of_ble_eq_true rfl) dX8_readPoints_53 ?_
  dsimp only [List.set]
  refine V_aload_n XC 0 rfl dX8_readPoints_56 rfl ?_
  refine V_callV (rest := _) (q0 := 0) XC (c_X8_readPoint l D kI kC _ _ _ _ _ _ _ _ _ _ _ _ _ _ _ (by omega) (by assumption) (by omega) (by omega) (by assumption)) gX8_readPoints_X8_readPoint rfl kmX8_readPoint ⟨⟨Nat.le_of_ble_eq_true rfl, Nat.le_of_ble_eq_true rfl⟩, Nat.le_of_ble_eq_true rfl, Nat.le_of_ble_eq_true rfl⟩ ⟨rfl, rfl⟩ rfl rfl (Nat.le_of_ble_eq_true rfl) [0, 3, 4, 5] rfl rfl (fun _ => rfl) rfl rfl dX8_readPoints_57 (kV_of (fun u57 hq57 => ?_))
  obtain ⟨p57, g57, m57, RX57, RY57⟩ := u57
  dsimp only [putW, List.set, Option.toList, List.cons_append, List.nil_append, padO, mdO, shW, trW, txW, hiW, liW, woW, taW]
  try dsimp only at hq57
  have hr57 := hq57
  refine V_goto XC 19 dX8_readPoints_60 (by decide) ?_
  refine ih19 (p57, g57, m57, RX57, RY57) ?_ ?_
  · dsimp only
    rcases hr57 with ⟨a1, a2, a3, a4⟩ | ⟨a1, a2, a3, a4, a5, a6, a7, dig2, a8, a9⟩
    · exact ⟨a3, Or.inl ⟨a1, by rw [hE57]; exact a4 _ _ _⟩⟩
    · obtain rfl : m57 = m + 1 := a2
      refine ⟨a4, Or.inr ⟨a1, by omega, by omega, fun i hi => ?_, a7, dig2, a8, ?_⟩⟩
      · by_cases q : i = m
        · rw [q]; exact a6
        · rw [(a5 i (by omega)).1, (a5 i (by omega)).2]; exact hC i (by omega)
      · rw [hE57, show m - 1 + 1 = m by omega, a9 _ _ _, Nat.add_sub_cancel]
        congr 1
        obtain ⟨m, rfl⟩ : ∃ z, m = z + 1 := ⟨m - 1, by omega⟩
        rw [Nat.add_sub_cancel] at *
        rw [ptsOf_s, dd_app, (a5 m (by omega)).1, (a5 m (by omega)).2]
        exact congrArg (fun z => addP (dd z) (RX2 m, RY2 m)) (ptsOf_congr (fun i hi => a5 i (by omega))).symm
  · dsimp only
    rcases hr57 with ⟨a1, a2, a3, a4⟩ | ⟨a1, a2, a3, a4, -⟩ <;> omega

end REFM3
