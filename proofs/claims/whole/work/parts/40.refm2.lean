/-! the reference: reading a point -/
section REFM2

set_option maxRecDepth 100000 in
set_option maxHeartbeats 4000000 in
theorem c_X8_readPoint (l : Launch) (D : va_G) (kI kC : ClassId) (b : Nat → Nat) (gp : Int) (ke : Nat) (un : Nat) (bu : Nat) (ty : Nat) (pc : Nat) (gd : Bool) (rd : Nat) (po : Int) (ln : Int) (wd : Int) (T : Nat → Int) (RX : Nat → Int) (RY : Nat → Int) (h100 : ty ≤ 100) (hT : ∀ i, i < ty → 0 ≤ T i ∧ T i < 65536) (hp : pc ≤ ty) (hr : rd < 24) (hg : gd = true) : Con l yX8_readPoint wsX8_readPoint { frames := 2, cells := 0, slots := 0, locals := 44 } D kI kC [.ref (b 0)] (mdO b gp (ke : Int) (un : Int) (bu : Int) (ty : Int) (pc : Int) gd (rd : Int) po ln wd :: [(b 6, IA kC 100 T), (b 7, IA kI 24 RX), (b 8, IA kI 24 RY)]) (σ := Nat × Bool × Nat × (Nat → Int) × (Nat → Int)) (qV (fun u => (u.2.1 = false ∧ pc ≤ u.1 ∧ u.1 ≤ ty ∧ ∀ K c x, (prs T (ty - pc) pc K c x false 0 0).1 = (u.1 : Int)) ∨ (u.2.1 = true ∧ u.2.2.1 = rd + 1 ∧ pc < u.1 ∧ u.1 ≤ ty ∧ (∀ i, i < rd → u.2.2.2.1 i = RX i ∧ u.2.2.2.2 i = RY i) ∧ (0 ≤ u.2.2.2.1 rd ∧ u.2.2.2.1 rd ≤ 1000 ∧ 0 ≤ u.2.2.2.2 rd ∧ u.2.2.2.2 rd ≤ 1000) ∧ ¬ (u.1 < ty ∧ 48 ≤ T u.1 ∧ T u.1 ≤ 57) ∧ ∃ dig, 1 ≤ dig ∧ ∀ K c x, prs T (ty - pc) pc K c x false 0 0 = prs T (ty - u.1) u.1 K c (u.2.2.2.1 rd) true (u.2.2.2.2 rd) dig))) (fun u => (mdO b gp (ke : Int) (un : Int) (bu : Int) (ty : Int) (u.1 : Int) u.2.1 (u.2.2.1 : Int) po ln wd :: [(b 6, IA kC 100 T), (b 7, IA kI 24 u.2.2.2.1), (b 8, IA kI 24 u.2.2.2.2)])) := by
  refine Con.of (cc := cX8_readPoint) (maxL := 3) (ret := none) (by decide +kernel) rfl (List.forall_mem_cons.mpr ⟨rfl, fun _ h => absurd h List.not_mem_nil⟩) (Nat.le_of_ble_eq_true rfl) ?_
  intro pV eV sV mV bV tV cV AV XC hrV
  have XC : Cx pV _ sV mV _ tV cV cX8_readPoint 3 RX8 wsX8_readPoint AV D kI kC := XC
  change VV _ _ _ _ _ _ _ _ _ _ _ _ _ _ _ _ _ [some (.ref (b 0)), none, none] _ _
  dsimp only [mdO, List.cons_append, List.nil_append]
  refine V_aload_n XC 0 rfl dX8_readPoint_0 rfl ?_
  refine V_callV (rest := _) (q0 := 0) XC (c_X8_number l D kI kC _ _ _ _ _ _ _ _ _ _ _ _ _ (by omega) (by assumption) (by omega)) gX8_readPoint_X8_number rfl kmX8_number ⟨⟨Nat.le_of_ble_eq_true rfl, Nat.le_of_ble_eq_true rfl⟩, Nat.le_of_ble_eq_true rfl, Nat.le_of_ble_eq_true rfl⟩ ⟨rfl, rfl⟩ rfl rfl (Nat.le_of_ble_eq_true rfl) [0, 1] rfl rfl (fun _ => rfl) rfl rfl dX8_readPoint_1 (kI_of (fun r1 u1 hq1 => ?_))
  obtain ⟨p1, g1⟩ := u1
  dsimp only [putW, List.set, Option.toList, List.cons_append, List.nil_append, padO, mdO, shW, trW, txW, hiW, liW, woW, taW]
  try dsimp only at hq1
  have hn1 := hq1
  have hn1b := hn1.resolve_left (fun z => absurd (hg.symm.trans z.1) (by decide))
  obtain ⟨-, hn1b⟩ := hn1b
  refine V_istore_n XC 1 rfl dX8_readPoint_4 (by decide) ?_
  dsimp only [List.set]
  refine V_aload_n XC 0 rfl dX8_readPoint_5 rfl ?_
  refine V_get XC 12 flX8_readPoint_113 0 rfl rfl dX8_readPoint_6 ?_
  refine V_bif_eq XC 36 dX8_readPoint_9 (by decide) (fun h9 => ?_) (fun h9 => ?_)
  · skip
    obtain ⟨-, e1, e2, hF⟩ : g1 = false ∧ pc ≤ p1 ∧ p1 ≤ ty ∧ ∀ K c x q, (prs T (ty - pc) pc K c x q 0 0).1 = (p1 : Int) := by
      rcases hn1b with z | z
      · exact z
      · exact absurd (h9.symm.trans z.1) (by decide)
    have hF2 : ∀ K c x, (prs T (ty - pc) pc K c x false 0 0).1 = (p1 : Int) := fun K c x => hF K c x false
    refine V_aload_n XC 0 rfl dX8_readPoint_36 rfl ?_
    refine V_iconst XC dX8_readPoint_37 ?_
    refine V_putZ (b := false) XC 12 flX8_readPoint_113 fpX8 pdX8_12 rfl 0 rfl (Nat.le_of_ble_eq_true rfl) dX8_readPoint_38 ?_
    dsimp only [List.set]
    refine V_aload_n XC 0 rfl dX8_readPoint_41 rfl ?_
    refine V_callV (rest := _) (q0 := 0) XC (c_X8_number l D kI kC _ _ _ _ _ _ _ _ _ _ _ _ _ (by omega) (by assumption) (by omega)) gX8_readPoint_X8_number rfl kmX8_number ⟨⟨Nat.le_of_ble_eq_true rfl, Nat.le_of_ble_eq_true rfl⟩, Nat.le_of_ble_eq_true rfl, Nat.le_of_ble_eq_true rfl⟩ ⟨rfl, rfl⟩ rfl rfl (Nat.le_of_ble_eq_true rfl) [0, 1] rfl rfl (fun _ => rfl) rfl rfl dX8_readPoint_42 (kI_of (fun r42 u42 hq42 => ?_))
    obtain ⟨p42, g42⟩ := u42
    dsimp only [putW, List.set, Option.toList, List.cons_append, List.nil_append, padO, mdO, shW, trW, txW, hiW, liW, woW, taW]
    try dsimp only at hq42
    have hn42 := hq42
    refine V_istore_n XC 2 rfl dX8_readPoint_45 (by decide) ?_
    dsimp only [List.set]
    refine V_aload_n XC 0 rfl dX8_readPoint_46 rfl ?_
    refine V_get XC 12 flX8_readPoint_113 0 rfl rfl dX8_readPoint_47 ?_
    refine V_bif_eq XC 83 dX8_readPoint_50 (by decide) (fun h50 => ?_) (fun h50 => ?_)
    · skip
      skip
      first | refine V_vret XC (p42, g42, rd + 1, upz RX rd r1, upz RY rd r42) hrV rfl dX8_readPoint_83 ?_ | refine V_vret XC (p42, g42, rd, RX, RY) hrV rfl dX8_readPoint_83 ?_
      try dsimp only
      first
      | (refine Or.inr ⟨h50, rfl, by omega, f2, fun i hi => ⟨upz_n (by omega), upz_n (by omega)⟩, by (try dsimp only); rw [upz_s, upz_s]; exact ⟨e3, e4, f3, f4⟩, hnd2, dig2, hd12, fun K c x => ?_⟩
         try dsimp only
         rw [upz_s, upz_s, hE K c x false, prs_comma (by omega) (by omega) e4 (by omega), show ty - p1 - 1 = ty - (p1 + 1) by omega]
         exact hE2 K c r1 true)
      | (rcases hn42 with ⟨-, -, z⟩ | ⟨z, -⟩
         · have ea := congrArg Prod.fst z
           try dsimp only at ea
           exact Or.inl ⟨h50, by (try dsimp only); omega, by (try dsimp only); omega, fun K c x => by rw [hF2 K c x]; (try dsimp only); omega⟩
         · exact absurd z (by decide))
      | (rcases hn42 with z | ⟨-, z | z⟩
         · exact absurd (h9.symm.trans z.1) (by decide)
         · refine Or.inl ⟨h50, by (try dsimp only); omega, by (try dsimp only); omega, fun K c x => ?_⟩
           try dsimp only
           rw [hE K c x false, prs_comma (by omega) (by omega) e4 (by omega), show ty - p1 - 1 = ty - (p1 + 1) by omega]
           exact z.2.2.2 K c r1 true
         · exact absurd (h50.symm.trans z.1) (by decide))
    exfalso
    rcases hn42 with ⟨-, -, z⟩ | ⟨z, -⟩
    · exact absurd (show true = false from h50.symm.trans (congrArg Prod.snd z)) (by decide)
    · exact absurd z (by decide)
  obtain ⟨-, e3, e4, e1, e2, hnd, dig, hd1, hd4, hE⟩ : g1 = true ∧ 0 ≤ r1 ∧ r1 ≤ 1000 ∧ pc < p1 ∧ p1 ≤ ty ∧ ¬ (p1 < ty ∧ 48 ≤ T p1 ∧ T p1 ≤ 57) ∧ ∃ dig, 1 ≤ dig ∧ dig ≤ 4 ∧ ∀ K c x q, prs T (ty - pc) pc K c x q 0 0 = prs T (ty - p1) p1 K c x q r1 dig := by
    rcases hn1b with z | z
    · exact absurd (h9.symm.trans z.1) (by decide)
    · exact z
  refine V_aload_n XC 0 rfl dX8_readPoint_12 rfl ?_
  refine V_bipush XC dX8_readPoint_13 (by decide) ?_
  refine V_bipush XC dX8_readPoint_15 (by decide) ?_
  refine V_callV (rest := _) (q0 := 0) XC (c_X8_isAt l D kI kC _ _ _ _ _ _ _ _ _ _ _ _ _ (by omega) (by assumption) (by omega) _ _ ⟨by decide, by decide⟩ ⟨by decide, by decide⟩) gX8_readPoint_X8_isAt rfl kmX8_isAt ⟨⟨Nat.le_of_ble_eq_true rfl, Nat.le_of_ble_eq_true rfl⟩, Nat.le_of_ble_eq_true rfl, Nat.le_of_ble_eq_true rfl⟩ ⟨rfl, rfl⟩ rfl rfl (Nat.le_of_ble_eq_true rfl) [0, 1] rfl rfl (fun _ => rfl) rfl rfl dX8_readPoint_17 (kR_of rfl (fun r17 hq17 => ?_))
  subst hq17
  refine V_bif_eq XC 36 dX8_readPoint_20 (by decide) (fun h20 => ?_) (fun h20 => ?_)
  · skip
    have h20b : ¬ (p1 < ty ∧ 44 ≤ T p1 ∧ T p1 ≤ 44) := of_decide_eq_false h20
    have hF2 : ∀ K c x, (prs T (ty - pc) pc K c x false 0 0).1 = (p1 : Int) := fun K c x => by
      rw [hE K c x false]
      exact prs_nocomma (fun z => hnd ⟨by omega, z.2⟩) (fun z => h20b ⟨by omega, by omega, by omega⟩) e4
    refine V_aload_n XC 0 rfl dX8_readPoint_36 rfl ?_
    refine V_iconst XC dX8_readPoint_37 ?_
    refine V_putZ (b := false) XC 12 flX8_readPoint_113 fpX8 pdX8_12 rfl 0 rfl (Nat.le_of_ble_eq_true rfl) dX8_readPoint_38 ?_
    dsimp only [List.set]
    refine V_aload_n XC 0 rfl dX8_readPoint_41 rfl ?_
    refine V_callV (rest := _) (q0 := 0) XC (c_X8_number l D kI kC _ _ _ _ _ _ _ _ _ _ _ _ _ (by omega) (by assumption) (by omega)) gX8_readPoint_X8_number rfl kmX8_number ⟨⟨Nat.le_of_ble_eq_true rfl, Nat.le_of_ble_eq_true rfl⟩, Nat.le_of_ble_eq_true rfl, Nat.le_of_ble_eq_true rfl⟩ ⟨rfl, rfl⟩ rfl rfl (Nat.le_of_ble_eq_true rfl) [0, 1] rfl rfl (fun _ => rfl) rfl rfl dX8_readPoint_42 (kI_of (fun r42 u42 hq42 => ?_))
    obtain ⟨p42, g42⟩ := u42
    dsimp only [putW, List.set, Option.toList, List.cons_append, List.nil_append, padO, mdO, shW, trW, txW, hiW, liW, woW, taW]
    try dsimp only at hq42
    have hn42 := hq42
    refine V_istore_n XC 2 rfl dX8_readPoint_45 (by decide) ?_
    dsimp only [List.set]
    refine V_aload_n XC 0 rfl dX8_readPoint_46 rfl ?_
    refine V_get XC 12 flX8_readPoint_113 0 rfl rfl dX8_readPoint_47 ?_
    refine V_bif_eq XC 83 dX8_readPoint_50 (by decide) (fun h50 => ?_) (fun h50 => ?_)
    · skip
      skip
      first | refine V_vret XC (p42, g42, rd + 1, upz RX rd r1, upz RY rd r42) hrV rfl dX8_readPoint_83 ?_ | refine V_vret XC (p42, g42, rd, RX, RY) hrV rfl dX8_readPoint_83 ?_
      try dsimp only
      first
      | (refine Or.inr ⟨h50, rfl, by omega, f2, fun i hi => ⟨upz_n (by omega), upz_n (by omega)⟩, by (try dsimp only); rw [upz_s, upz_s]; exact ⟨e3, e4, f3, f4⟩, hnd2, dig2, hd12, fun K c x => ?_⟩
         try dsimp only
         rw [upz_s, upz_s, hE K c x false, prs_comma (by omega) (by omega) e4 (by omega), show ty - p1 - 1 = ty - (p1 + 1) by omega]
         exact hE2 K c r1 true)
      | (rcases hn42 with ⟨-, -, z⟩ | ⟨z, -⟩
         · have ea := congrArg Prod.fst z
           try dsimp only at ea
           exact Or.inl ⟨h50, by (try dsimp only); omega, by (try dsimp only); omega, fun K c x => by rw [hF2 K c x]; (try dsimp only); omega⟩
         · exact absurd z (by decide))
      | (rcases hn42 with z | ⟨-, z | z⟩
         · exact absurd (h9.symm.trans z.1) (by decide)
         · refine Or.inl ⟨h50, by (try dsimp only); omega, by (try dsimp only); omega, fun K c x => ?_⟩
           try dsimp only
           rw [hE K c x false, prs_comma (by omega) (by omega) e4 (by omega), show ty - p1 - 1 = ty - (p1 + 1) by omega]
           exact z.2.2.2 K c r1 true
         · exact absurd (h50.symm.trans z.1) (by decide))
    exfalso
    rcases hn42 with ⟨-, -, z⟩ | ⟨z, -⟩
    · exact absurd (show true = false from h50.symm.trans (congrArg Prod.snd z)) (by decide)
    · exact absurd z (by decide)
  have h20b : p1 < ty ∧ 44 ≤ T p1 ∧ T p1 ≤ 44 := of_decide_eq_true h20
  refine V_aload_n XC 0 rfl dX8_readPoint_23 rfl ?_
  refine V_dup XC dX8_readPoint_24 rfl ?_
  refine V_get XC 11 flX8_readPoint_110 0 rfl rfl dX8_readPoint_25 ?_
  refine V_iconst XC dX8_readPoint_28 ?_
  refine V_iadd XC dX8_readPoint_29 ?_
  refine V_top (y := ((p1 + 1 : Nat) : Int)) (by omega) ?_
  refine V_putI XC 11 flX8_readPoint_110 fpX8 pdX8_11 rfl 0 rfl (Nat.le_of_ble_eq_true rfl) dX8_readPoint_30 ?_
  dsimp only [List.set]
  refine V_goto XC 41 dX8_readPoint_33 (by decide) ?_
  refine V_aload_n XC 0 rfl dX8_readPoint_41 rfl ?_
  refine V_callV (rest := _) (q0 := 0) XC (c_X8_number l D kI kC _ _ _ _ _ _ _ _ _ _ _ _ _ (by omega) (by assumption) (by omega)) gX8_readPoint_X8_number rfl kmX8_number ⟨⟨Nat.le_of_ble_eq_true rfl, Nat.le_of_ble_eq_true rfl⟩, Nat.le_of_ble_eq_true rfl, Nat.le_of_ble_eq_true rfl⟩ ⟨rfl, rfl⟩ rfl rfl (Nat.le_of_ble_eq_true rfl) [0, 1] rfl rfl (fun _ => rfl) rfl rfl dX8_readPoint_42 (kI_of (fun r42 u42 hq42 => ?_))
  obtain ⟨p42, g42⟩ := u42
  dsimp only [putW, List.set, Option.toList, List.cons_append, List.nil_append, padO, mdO, shW, trW, txW, hiW, liW, woW, taW]
  try dsimp only at hq42
  have hn42 := hq42
  refine V_istore_n XC 2 rfl dX8_readPoint_45 (by decide) ?_
  dsimp only [List.set]
  refine V_aload_n XC 0 rfl dX8_readPoint_46 rfl ?_
  refine V_get XC 12 flX8_readPoint_113 0 rfl rfl dX8_readPoint_47 ?_
  refine V_bif_eq XC 83 dX8_readPoint_50 (by decide) (fun h50 => ?_) (fun h50 => ?_)
  · skip
    skip
    first | refine V_vret XC (p42, g42, rd + 1, upz RX rd r1, upz RY rd r42) hrV rfl dX8_readPoint_83 ?_ | refine V_vret XC (p42, g42, rd, RX, RY) hrV rfl dX8_readPoint_83 ?_
    try dsimp only
    first
    | (refine Or.inr ⟨h50, rfl, by omega, f2, fun i hi => ⟨upz_n (by omega), upz_n (by omega)⟩, by (try dsimp only); rw [upz_s, upz_s]; exact ⟨e3, e4, f3, f4⟩, hnd2, dig2, hd12, fun K c x => ?_⟩
       try dsimp only
       rw [upz_s, upz_s, hE K c x false, prs_comma (by omega) (by omega) e4 (by omega), show ty - p1 - 1 = ty - (p1 + 1) by omega]
       exact hE2 K c r1 true)
    | (rcases hn42 with ⟨-, -, z⟩ | ⟨z, -⟩
       · have ea := congrArg Prod.fst z
         try dsimp only at ea
         exact Or.inl ⟨h50, by (try dsimp only); omega, by (try dsimp only); omega, fun K c x => by rw [hF2 K c x]; (try dsimp only); omega⟩
       · exact absurd z (by decide))
    | (rcases hn42 with z | ⟨-, z | z⟩
       · exact absurd (h9.symm.trans z.1) (by decide)
       · refine Or.inl ⟨h50, by (try dsimp only); omega, by (try dsimp only); omega, fun K c x => ?_⟩
         try dsimp only
         rw [hE K c x false, prs_comma (by omega) (by omega) e4 (by omega), show ty - p1 - 1 = ty - (p1 + 1) by omega]
         exact z.2.2.2 K c r1 true
       · exact absurd (h50.symm.trans z.1) (by decide))
  obtain ⟨-, f3, f4, f1, f2, hnd2, dig2, hd12, hd42, hE2⟩ : g42 = true ∧ 0 ≤ r42 ∧ r42 ≤ 1000 ∧ p1 + 1 < p42 ∧ p42 ≤ ty ∧ ¬ (p42 < ty ∧ 48 ≤ T p42 ∧ T p42 ≤ 57) ∧ ∃ dig, 1 ≤ dig ∧ dig ≤ 4 ∧ ∀ K c x q, prs T (ty - (p1 + 1)) (p1 + 1) K c x q 0 0 = prs T (ty - p42) p42 K c x q r42 dig := by
    rcases hn42 with z | ⟨-, z | z⟩
    · exact absurd (h9.symm.trans z.1) (by decide)
    · exact absurd (h50.symm.trans z.1) (by decide)
    · exact z
  refine V_aload_n XC 0 rfl dX8_readPoint_53 rfl ?_
  refine V_get XC 13 flX8_readPoint_33 0 rfl rfl dX8_readPoint_54 ?_
  refine V_aload_n XC 0 rfl dX8_readPoint_57 rfl ?_
  refine V_get XC 15 flX8_readPoint_125 0 rfl rfl dX8_readPoint_58 ?_
  refine V_iload_n XC 1 rfl dX8_readPoint_61 rfl ?_
  refine V_iast XC (rd) 2 rfl (by omega) (by omega) (by decide) dX8_readPoint_62 ?_
  dsimp only [List.set]
  refine V_aload_n XC 0 rfl dX8_readPoint_63 rfl ?_
  refine V_get XC 14 flX8_readPoint_36 0 rfl rfl dX8_readPoint_64 ?_
  refine V_aload_n XC 0 rfl dX8_readPoint_67 rfl ?_
  refine V_get XC 15 flX8_readPoint_125 0 rfl rfl dX8_readPoint_68 ?_
  refine V_iload_n XC 2 rfl dX8_readPoint_71 rfl ?_
  refine V_iast XC (rd) 3 rfl (by omega) (by omega) (by decide) dX8_readPoint_72 ?_
  dsimp only [List.set]
  refine V_aload_n XC 0 rfl dX8_readPoint_73 rfl ?_
  refine V_dup XC dX8_readPoint_74 rfl ?_
  refine V_get XC 15 flX8_readPoint_125 0 rfl rfl dX8_readPoint_75 ?_
  refine V_iconst XC dX8_readPoint_78 ?_
  refine V_iadd XC dX8_readPoint_79 ?_
  refine V_top (y := ((rd + 1 : Nat) : Int)) (by omega) ?_
  refine V_putI XC 15 flX8_readPoint_125 fpX8 pdX8_15 rfl 0 rfl (Nat.le_of_ble_eq_true rfl) dX8_readPoint_80 ?_
  dsimp only [List.set]
  first | refine V_vret XC (p42, g42, rd + 1, upz RX rd r1, upz RY rd r42) hrV rfl dX8_readPoint_83 ?_ | refine V_vret XC (p42, g42, rd, RX, RY) hrV rfl dX8_readPoint_83 ?_
  try dsimp only
  first
  | (refine Or.inr ⟨h50, rfl, by omega, f2, fun i hi => ⟨upz_n (by omega), upz_n (by omega)⟩, by (try dsimp only); rw [upz_s, upz_s]; exact ⟨e3, e4, f3, f4⟩, hnd2, dig2, hd12, fun K c x => ?_⟩
     try dsimp only
     rw [upz_s, upz_s, hE K c x false, prs_comma (by omega) (by omega) e4 (by omega), show ty - p1 - 1 = ty - (p1 + 1) by omega]
     exact hE2 K c r1 true)
  | (rcases hn42 with ⟨-, -, z⟩ | ⟨z, -⟩
     · have ea := congrArg Prod.fst z
       try dsimp only at ea
       exact Or.inl ⟨h50, by (try dsimp only); omega, by (try dsimp only); omega, fun K c x => by rw [hF2 K c x]; (try dsimp only); omega⟩
     · exact absurd z (by decide))
  | (rcases hn42 with z | ⟨-, z | z⟩
     · exact absurd (h9.symm.trans z.1) (by decide)
     · refine Or.inl ⟨h50, by (try dsimp only); omega, by (try dsimp only); omega, fun K c x => ?_⟩
       try dsimp only
       rw [hE K c x false, prs_comma (by omega) (by omega) e4 (by omega), show ty - p1 - 1 = ty - (p1 + 1) by omega]
       exact z.2.2.2 K c r1 true
     · exact absurd (h50.symm.trans z.1) (by decide))

end REFM2
