/-! the reference: reading points -/
section REFM

theorem prs_digit {T : Nat → Int} {f i : Nat} {K : List Pt} {c : Nat} {x num : Int} {b : Bool} {dig : Nat} (hf : 0 < f) (h : 48 ≤ T i ∧ T i ≤ 57) (hd : dig < 4) : prs T f i K c x b num dig = prs T (f - 1) (i + 1) K c x b (num * 10 + (T i - 48)) (dig + 1) := by
  obtain ⟨g, rfl⟩ : ∃ g, f = g + 1 := ⟨f - 1, by omega⟩
  rw [prs_s, if_pos h, if_neg (by omega)]
  rfl
theorem prs_five {T : Nat → Int} {f i : Nat} {K : List Pt} {c : Nat} {x num : Int} {b : Bool} (hf : 0 < f) (h : 48 ≤ T i ∧ T i ≤ 57) : (prs T f i K c x b num 4).1 = (i : Int) := by
  obtain ⟨g, rfl⟩ : ∃ g, f = g + 1 := ⟨f - 1, by omega⟩
  rw [prs_s, if_pos h, if_pos rfl]
theorem prs_none {T : Nat → Int} {f i : Nat} {K : List Pt} {c : Nat} {x : Int} {b : Bool} (h : ¬ (0 < f ∧ 48 ≤ T i ∧ T i ≤ 57)) : (prs T f i K c x b 0 0).1 = (i : Int) := by
  cases f with
  | zero =>
    unfold prs
    rw [if_neg (by omega), if_pos (Or.inl rfl)]
  | succ g =>
    rw [prs_s, if_neg (fun z => h ⟨Nat.succ_pos g, z⟩), if_neg (by omega)]
    cases b with
    | true => rw [if_pos rfl, if_neg (fun z => z.1 rfl)]
    | false => rw [if_neg (by decide), if_neg (fun z => z.1 rfl)]
theorem prs_big {T : Nat → Int} {f i : Nat} {K : List Pt} {c : Nat} {x num : Int} {b : Bool} {dig : Nat} (h : ¬ (0 < f ∧ 48 ≤ T i ∧ T i ≤ 57)) (hn : 1000 < num) : (prs T f i K c x b num dig).1 = (i : Int) - (dig : Int) := by
  cases f with
  | zero =>
    unfold prs
    rw [if_pos hn]
  | succ g => rw [prs_s, if_neg (fun z => h ⟨Nat.succ_pos g, z⟩), if_pos hn]
theorem prs_comma {T : Nat → Int} {f i : Nat} {K : List Pt} {c : Nat} {x num : Int} {dig : Nat} (hf : 0 < f) (h : T i = 44) (hn : num ≤ 1000) (hd : dig ≠ 0) : prs T f i K c x false num dig = prs T (f - 1) (i + 1) K c num true 0 0 := by
  obtain ⟨g, rfl⟩ : ∃ g, f = g + 1 := ⟨f - 1, by omega⟩
  rw [prs_s, if_neg (by omega), if_neg (by omega), if_neg (by decide), if_pos ⟨hd, h⟩]
  rfl
theorem prs_nocomma {T : Nat → Int} {f i : Nat} {K : List Pt} {c : Nat} {x num : Int} {dig : Nat} (h0 : ¬ (0 < f ∧ 48 ≤ T i ∧ T i ≤ 57)) (h : ¬ (0 < f ∧ T i = 44)) (hn : num ≤ 1000) : (prs T f i K c x false num dig).1 = (i : Int) := by
  cases f with
  | zero =>
    unfold prs
    rw [if_neg (by omega), if_pos (Or.inr rfl)]
  | succ g => rw [prs_s, if_neg (fun z => h0 ⟨Nat.succ_pos g, z⟩), if_neg (by omega), if_neg (by decide), if_neg (fun z => h ⟨Nat.succ_pos g, z.2⟩)]
theorem prs_space {T : Nat → Int} {f i : Nat} {K : List Pt} {c : Nat} {x num : Int} {dig : Nat} (hf : 0 < f) (h : T i = 32) (hn : num ≤ 1000) (hd : dig ≠ 0) (hc : c < 23) : prs T f i K c x true num dig = prs T (f - 1) (i + 1) (addP K (x, num)) (c + 1) x false 0 0 := by
  obtain ⟨g, rfl⟩ : ∃ g, f = g + 1 := ⟨f - 1, by omega⟩
  rw [prs_s, if_neg (by omega), if_neg (by omega), if_pos rfl, if_pos ⟨hd, h, hc⟩]
  rfl
theorem prs_nospace {T : Nat → Int} {f i : Nat} {K : List Pt} {c : Nat} {x num : Int} {dig : Nat} (hf : 0 < f) (h0 : ¬ (48 ≤ T i ∧ T i ≤ 57)) (h : ¬ (T i = 32 ∧ c < 23)) (hn : num ≤ 1000) : (prs T f i K c x true num dig).1 = (i : Int) := by
  obtain ⟨g, rfl⟩ : ∃ g, f = g + 1 := ⟨f - 1, by omega⟩
  rw [prs_s, if_neg h0, if_neg (by omega), if_pos rfl, if_neg (fun z => h z.2)]
theorem prs_end {T : Nat → Int} {i : Nat} {K : List Pt} {c : Nat} {x num : Int} {dig : Nat} (hn : num ≤ 1000) (hd : dig ≠ 0) : prs T 0 i K c x true num dig = (-1, addP K (x, num)) := by
  unfold prs
  rw [if_neg (by omega), if_neg (by rintro (z | z); · exact hd z
                                    · cases z)]

set_option maxRecDepth 100000 in
set_option maxHeartbeats 4000000 in
theorem c_X8_number (l : Launch) (D : va_G) (kI kC : ClassId) (b : Nat → Nat) (gp : Int) (ke : Nat) (un : Nat) (bu : Nat) (ty : Nat) (pc : Nat) (gd : Bool) (rd : Int) (po : Int) (ln : Int) (wd : Int) (T : Nat → Int) (h100 : ty ≤ 100) (hT : ∀ i, i < ty → 0 ≤ T i ∧ T i < 65536) (hp : pc ≤ ty) : Con l yX8_number wsX8_number { frames := 1, cells := 0, slots := 0, locals := 22 } D kI kC [.ref (b 0)] (mdO b gp (ke : Int) (un : Int) (bu : Int) (ty : Int) (pc : Int) gd rd po ln wd :: [(b 6, IA kC 100 T)]) (σ := Nat × Bool) (qI (fun r u => (gd = false ∧ r = 0 ∧ u = (pc, false)) ∨ (gd = true ∧ ((u.2 = false ∧ pc ≤ u.1 ∧ u.1 ≤ ty ∧ ∀ K c x q, (prs T (ty - pc) pc K c x q 0 0).1 = (u.1 : Int)) ∨ (u.2 = true ∧ 0 ≤ r ∧ r ≤ 1000 ∧ pc < u.1 ∧ u.1 ≤ ty ∧ ¬ (u.1 < ty ∧ 48 ≤ T u.1 ∧ T u.1 ≤ 57) ∧ ∃ dig, 1 ≤ dig ∧ dig ≤ 4 ∧ ∀ K c x q, prs T (ty - pc) pc K c x q 0 0 = prs T (ty - u.1) u.1 K c x q r dig))))) (fun u => (mdO b gp (ke : Int) (un : Int) (bu : Int) (ty : Int) (u.1 : Int) u.2 rd po ln wd :: [(b 6, IA kC 100 T)])) := by
  refine Con.of (cc := cX8_number) (maxL := 3) (ret := (some .int)) (by decide +kernel) rfl (List.forall_mem_cons.mpr ⟨rfl, fun _ h => absurd h List.not_mem_nil⟩) (Nat.le_of_ble_eq_true rfl) ?_
  intro pV eV sV mV bV tV cV AV XC hrV
  have XC : Cx pV _ sV mV _ tV cV cX8_number 3 RX8 wsX8_number AV D kI kC := XC
  change VV _ _ _ _ _ _ _ _ _ _ _ _ _ _ _ _ _ [some (.ref (b 0)), none, none] _ _
  dsimp only [mdO, List.cons_append, List.nil_append]
  refine V_aload_n XC 0 rfl dX8_number_0 rfl ?_
  refine V_get XC 11 flX8_number_110 0 rfl rfl dX8_number_1 ?_
  refine V_istore_n XC 1 rfl dX8_number_4 (by decide) ?_
  dsimp only [List.set]
  refine V_iconst XC dX8_number_5 ?_
  refine V_istore_n XC 2 rfl dX8_number_6 (by decide) ?_
  dsimp only [List.set]
  refine V_loop (σ := Nat × Int) (fun u => 5 - u.1) (fun u => u.1 ≤ 4 ∧ pc + u.1 ≤ ty ∧ (gd = false → u.1 = 0 ∧ u.2 = 0) ∧ (0 ≤ u.2 ∧ u.2 ≤ 9999 ∧ (u.1 = 0 → u.2 = 0) ∧ (u.1 = 1 → u.2 ≤ 9) ∧ (u.1 = 2 → u.2 ≤ 99) ∧ (u.1 = 3 → u.2 ≤ 999)) ∧ ∀ K c x q, prs T (ty - pc) pc K c x q 0 0 = prs T (ty - (pc + u.1)) (pc + u.1) K c x q u.2 u.1) (fun u => [some (.ref (b 0)), some (.int (iI (pc : Int))), some (.int (iI u.2))]) (fun u => (mdO b gp (ke : Int) (un : Int) (bu : Int) (ty : Int) ((pc + u.1 : Nat) : Int) gd rd po ln wd :: [(b 6, IA kC 100 T)])) (0, 0) ?_ rfl rfl (fun u hJ ih7 => ?_)
  · dsimp only
    exact ⟨Nat.zero_le _, hp, fun _ => ⟨rfl, rfl⟩, ⟨by decide, by decide, fun _ => rfl, fun z => absurd z (by decide), fun z => absurd z (by decide), fun z => absurd z (by decide)⟩, fun K c x q => rfl⟩
  obtain ⟨d, v⟩ := u
  try dsimp only at hJ ih7 ⊢
  try dsimp only [List.cons_append, List.nil_append, padO, mdO, shW, trW, txW, hiW, liW, woW, taW]
  obtain ⟨hd, hdt, hbad, hv, hE⟩ := hJ
  refine V_aload_n XC 0 rfl dX8_number_7 rfl ?_
  refine V_get XC 12 flX8_number_113 0 rfl rfl dX8_number_8 ?_
  refine V_bif_eq XC 66 dX8_number_11 (by decide) (fun h11 => ?_) (fun h11 => ?_)
  · skip
    have h7g := h11
    refine V_aload_n XC 0 rfl dX8_number_66 rfl ?_
    refine V_get XC 12 flX8_number_113 0 rfl rfl dX8_number_67 ?_
    refine V_bif_eq XC 100 dX8_number_70 (by decide) (fun h70 => ?_) (fun h70 => ?_)
    · skip
      refine V_aload_n XC 0 rfl dX8_number_100 rfl ?_
      refine V_get XC 12 flX8_number_113 0 rfl rfl dX8_number_101 ?_
      refine V_bif_eq XC 124 dX8_number_104 (by decide) (fun h104 => ?_) (fun h104 => ?_)
      · skip
        refine V_iload_n XC 2 rfl dX8_number_124 rfl ?_
        refine V_iret XC (_, _) hrV rfl dX8_number_125 ?_
        try dsimp only
        first
        | (obtain ⟨rfl, rfl⟩ := hbad h7g
           exact Or.inl ⟨h7g, rfl, by rw [h7g]; rfl⟩)
        | (refine Or.inr ⟨h7g, Or.inr ⟨(by first | rfl | exact h7g), by omega, by omega, by (try dsimp only); omega, by (try dsimp only); omega, ?_, d, by omega, by omega, hE⟩⟩
           try dsimp only
           first
           | (intro z
              exact hno86 (by omega))
           | (intro z
              exact hno29 (by omega)))
        | (refine Or.inr ⟨h7g, Or.inl ⟨rfl, by (try dsimp only); omega, by (try dsimp only); omega, fun K c x q => ?_⟩⟩
           rw [hE K c x q]
           try dsimp only
           first
           | (have e9 : d = 0 := by omega
              have e8 : v = 0 := by omega
              subst e9 e8
              exact prs_none (by first | omega | (intro z; exact hno29 (by omega))))
           | (have e9 : d = 4 := by omega
              subst e9
              exact prs_five (by omega) (by omega))
           | (rw [prs_big (by first | (intro z; exact hno86 (by omega)) | (intro z; exact hno29 (by omega))) (by omega)]
              omega))
      exact absurd (h7g.symm.trans h104) (by decide)
    exact absurd (h7g.symm.trans h70) (by decide)
  have h7g := h11
  refine V_aload_n XC 0 rfl dX8_number_14 rfl ?_
  refine V_get XC 11 flX8_number_110 0 rfl rfl dX8_number_15 ?_
  refine V_iload_n XC 1 rfl dX8_number_18 rfl ?_
  refine V_iconst XC dX8_number_19 ?_
  refine V_iadd XC dX8_number_20 ?_
  refine V_icmp_ge XC 66 dX8_number_21 (by decide) ⟨by omega, by omega⟩ ⟨by omega, by omega⟩ (fun h21 => ?_) (fun h21 => ?_)
  · skip
    refine V_aload_n XC 0 rfl dX8_number_66 rfl ?_
    refine V_get XC 12 flX8_number_113 0 rfl rfl dX8_number_67 ?_
    refine V_bif_eq XC 100 dX8_number_70 (by decide) (fun h70 => ?_) (fun h70 => ?_)
    · skip
      exact absurd (h7g.symm.trans h70) (by decide)
    refine V_aload_n XC 0 rfl dX8_number_73 rfl ?_
    refine V_get XC 11 flX8_number_110 0 rfl rfl dX8_number_74 ?_
    refine V_iload_n XC 1 rfl dX8_number_77 rfl ?_
    refine V_icmp_eq XC 92 dX8_number_78 (by decide) ⟨by omega, by omega⟩ ⟨by omega, by omega⟩ (fun h78 => ?_) (fun h78 => ?_)
    · skip
      refine V_aload_n XC 0 rfl dX8_number_92 rfl ?_
      refine V_iconst XC dX8_number_93 ?_
      refine V_putZ (b := false) XC 12 flX8_number_113 fpX8 pdX8_12 rfl 0 rfl (Nat.le_of_ble_eq_true rfl) dX8_number_94 ?_
      dsimp only [List.set]
      refine V_goto XC 124 dX8_number_97 (by decide) ?_
      refine V_iload_n XC 2 rfl dX8_number_124 rfl ?_
      refine V_iret XC (_, _) hrV rfl dX8_number_125 ?_
      try dsimp only
      first
      | (obtain ⟨rfl, rfl⟩ := hbad h7g
         exact Or.inl ⟨h7g, rfl, by rw [h7g]; rfl⟩)
      | (refine Or.inr ⟨h7g, Or.inr ⟨(by first | rfl | exact h7g), by omega, by omega, by (try dsimp only); omega, by (try dsimp only); omega, ?_, d, by omega, by omega, hE⟩⟩
         try dsimp only
         first
         | (intro z
            exact hno86 (by omega))
         | (intro z
            exact hno29 (by omega)))
      | (refine Or.inr ⟨h7g, Or.inl ⟨rfl, by (try dsimp only); omega, by (try dsimp only); omega, fun K c x q => ?_⟩⟩
         rw [hE K c x q]
         try dsimp only
         first
         | (have e9 : d = 0 := by omega
            have e8 : v = 0 := by omega
            subst e9 e8
            exact prs_none (by first | omega | (intro z; exact hno29 (by omega))))
         | (have e9 : d = 4 := by omega
            subst e9
            exact prs_five (by omega) (by omega))
         | (rw [prs_big (by first | (intro z; exact hno86 (by omega)) | (intro z; exact hno29 (by omega))) (by omega)]
            omega))
    refine V_aload_n XC 0 rfl dX8_number_81 rfl ?_
    refine V_bipush XC dX8_number_82 (by decide) ?_
    refine V_bipush XC dX8_number_84 (by decide) ?_
    refine V_callV (rest := _) (q0 := 0) XC (c_X8_isAt l D kI kC _ _ _ _ _ _ _ _ _ _ _ _ _ (by omega) (by assumption) (by omega) _ _ ⟨by decide, by decide⟩ ⟨by decide, by decide⟩) gX8_number_X8_isAt rfl kmX8_isAt ⟨⟨Nat.le_of_ble_eq_true rfl, Nat.le_of_ble_eq_true rfl⟩, Nat.le_of_ble_eq_true rfl, Nat.le_of_ble_eq_true rfl⟩ ⟨rfl, rfl⟩ rfl rfl (Nat.le_of_ble_eq_true rfl) [0, 1] rfl rfl (fun _ => rfl) rfl rfl dX8_number_86 (kR_of rfl (fun r86 hq86 => ?_))
    subst hq86
    refine V_bif_eq XC 100 dX8_number_89 (by decide) (fun h89 => ?_) (fun h89 => ?_)
    · skip
      have hno86 : ¬ (pc + d < ty ∧ 48 ≤ T (pc + d) ∧ T (pc + d) ≤ 57) := of_decide_eq_false h89
      refine V_aload_n XC 0 rfl dX8_number_100 rfl ?_
      refine V_get XC 12 flX8_number_113 0 rfl rfl dX8_number_101 ?_
      refine V_bif_eq XC 124 dX8_number_104 (by decide) (fun h104 => ?_) (fun h104 => ?_)
      · skip
        exact absurd (h7g.symm.trans h104) (by decide)
      refine V_iload_n XC 2 rfl dX8_number_107 rfl ?_
      refine V_sipush XC dX8_number_108 (by decide) ?_
      refine V_icmp_le XC 124 dX8_number_111 (by decide) ⟨by omega, by omega⟩ ⟨by omega, by omega⟩ (fun h111 => ?_) (fun h111 => ?_)
      · skip
        refine V_iload_n XC 2 rfl dX8_number_124 rfl ?_
        refine V_iret XC (_, _) hrV rfl dX8_number_125 ?_
        try dsimp only
        first
        | (obtain ⟨rfl, rfl⟩ := hbad h7g
           exact Or.inl ⟨h7g, rfl, by rw [h7g]; rfl⟩)
        | (refine Or.inr ⟨h7g, Or.inr ⟨(by first | rfl | exact h7g), by omega, by omega, by (try dsimp only); omega, by (try dsimp only); omega, ?_, d, by omega, by omega, hE⟩⟩
           try dsimp only
           first
           | (intro z
              exact hno86 (by omega))
           | (intro z
              exact hno29 (by omega)))
        | (refine Or.inr ⟨h7g, Or.inl ⟨rfl, by (try dsimp only); omega, by (try dsimp only); omega, fun K c x q => ?_⟩⟩
           rw [hE K c x q]
           try dsimp only
           first
           | (have e9 : d = 0 := by omega
              have e8 : v = 0 := by omega
              subst e9 e8
              exact prs_none (by first | omega | (intro z; exact hno29 (by omega))))
           | (have e9 : d = 4 := by omega
              subst e9
              exact prs_five (by omega) (by omega))
           | (rw [prs_big (by first | (intro z; exact hno86 (by omega)) | (intro z; exact hno29 (by omega))) (by omega)]
              omega))
      refine V_aload_n XC 0 rfl dX8_number_114 rfl ?_
      refine V_iconst XC dX8_number_115 ?_
      refine V_putZ (b := false) XC 12 flX8_number_113 fpX8 pdX8_12 rfl 0 rfl (Nat.le_of_ble_eq_true rfl) dX8_number_116 ?_
      dsimp only [List.set]
      refine V_aload_n XC 0 rfl dX8_number_119 rfl ?_
      refine V_iload_n XC 1 rfl dX8_number_120 rfl ?_
      refine V_putI XC 11 flX8_number_110 fpX8 pdX8_11 rfl 0 rfl (Nat.le_of_ble_eq_true rfl) dX8_number_121 ?_
      dsimp only [List.set]
      refine V_iload_n XC 2 rfl dX8_number_124 rfl ?_
      refine V_iret XC (_, _) hrV rfl dX8_number_125 ?_
      try dsimp only
      first
      | (obtain ⟨rfl, rfl⟩ := hbad h7g
         exact Or.inl ⟨h7g, rfl, by rw [h7g]; rfl⟩)
      | (refine Or.inr ⟨h7g, Or.inr ⟨(by first | rfl | exact h7g), by omega, by omega, by (try dsimp only); omega, by (try dsimp only); omega, ?_, d, by omega, by omega, hE⟩⟩
         try dsimp only
         first
         | (intro z
            exact hno86 (by omega))
         | (intro z
            exact hno29 (by omega)))
      | (refine Or.inr ⟨h7g, Or.inl ⟨rfl, by (try dsimp only); omega, by (try dsimp only); omega, fun K c x q => ?_⟩⟩
         rw [hE K c x q]
         try dsimp only
         first
         | (have e9 : d = 0 := by omega
            have e8 : v = 0 := by omega
            subst e9 e8
            exact prs_none (by first | omega | (intro z; exact hno29 (by omega))))
         | (have e9 : d = 4 := by omega
            subst e9
            exact prs_five (by omega) (by omega))
         | (rw [prs_big (by first | (intro z; exact hno86 (by omega)) | (intro z; exact hno29 (by omega))) (by omega)]
            omega))
    have hyes86 := of_decide_eq_true h89
    refine V_aload_n XC 0 rfl dX8_number_92 rfl ?_
    refine V_iconst XC dX8_number_93 ?_
    refine V_putZ (b := false) XC 12 flX8_number_113 fpX8 pdX8_12 rfl 0 rfl (Nat.le_of_ble_eq_true rfl) dX8_number_94 ?_
    dsimp only [List.set]
    refine V_goto XC 124 dX8_number_97 (by decide) ?_
    refine V_iload_n XC 2 rfl dX8_number_124 rfl ?_
    refine V_iret XC (_, _) hrV rfl dX8_number_125 ?_
    try dsimp only
    first
    | (obtain ⟨rfl, rfl⟩ := hbad h7g
       exact Or.inl ⟨h7g, rfl, by rw [h7g]; rfl⟩)
    | (refine Or.inr ⟨h7g, Or.inr ⟨(by first | rfl | exact h7g), by omega, by omega, by (try dsimp only); omega, by (try dsimp only); omega, ?_, d, by omega, by omega, hE⟩⟩
       try dsimp only
       first
       | (intro z
          exact hno86 (by omega))
       | (intro z
          exact hno29 (by omega)))
    | (refine Or.inr ⟨h7g, Or.inl ⟨rfl, by (try dsimp only); omega, by (try dsimp only); omega, fun K c x q => ?_⟩⟩
       rw [hE K c x q]
       try dsimp only
       first
       | (have e9 : d = 0 := by omega
          have e8 : v = 0 := by omega
          subst e9 e8
          exact prs_none (by first | omega | (intro z; exact hno29 (by omega))))
       | (have e9 : d = 4 := by omega
          subst e9
          exact prs_five (by omega) (by omega))
       | (rw [prs_big (by first | (intro z; exact hno86 (by omega)) | (intro z; exact hno29 (by omega))) (by omega)]
          omega))
  refine V_aload_n XC 0 rfl dX8_number_24 rfl ?_
  refine V_bipush XC dX8_number_25 (by decide) ?_
  refine V_bipush XC dX8_number_27 (by decide) ?_
  refine V_callV (rest := _) (q0 := 0) XC (c_X8_isAt l D kI kC _ _ _ _ _ _ _ _ _ _ _ _ _ (by omega) (by assumption) (by omega) _ _ ⟨by decide, by decide⟩ ⟨by decide, by decide⟩) gX8_number_X8_isAt rfl kmX8_isAt ⟨⟨Nat.le_of_ble_eq_true rfl, Nat.le_of_ble_eq_true rfl⟩, Nat.le_of_ble_eq_true rfl, Nat.le_of_ble_eq_true rfl⟩ ⟨rfl, rfl⟩ rfl rfl (Nat.le_of_ble_eq_true rfl) [0, 1] rfl rfl (fun _ => rfl) rfl rfl dX8_number_29 (kR_of rfl (fun r29 hq29 => ?_))
  subst hq29
  refine V_bif_eq XC 66 dX8_number_32 (by decide) (fun h32 => ?_) (fun h32 => ?_)
  · skip
    have hno29 : ¬ (pc + d < ty ∧ 48 ≤ T (pc + d) ∧ T (pc + d) ≤ 57) := of_decide_eq_false h32
    refine V_aload_n XC 0 rfl dX8_number_66 rfl ?_
    refine V_get XC 12 flX8_number_113 0 rfl rfl dX8_number_67 ?_
    refine V_bif_eq XC 100 dX8_number_70 (by decide) (fun h70 => ?_) (fun h70 => ?_)
    · skip
      exact absurd (h7g.symm.trans h70) (by decide)
    refine V_aload_n XC 0 rfl dX8_number_73 rfl ?_
    refine V_get XC 11 flX8_number_110 0 rfl rfl dX8_number_74 ?_
    refine V_iload_n XC 1 rfl dX8_number_77 rfl ?_
    refine V_icmp_eq XC 92 dX8_number_78 (by decide) ⟨by omega, by omega⟩ ⟨by omega, by omega⟩ (fun h78 => ?_) (fun h78 => ?_)
    · skip
      refine V_aload_n XC 0 rfl dX8_number_92 rfl ?_
      refine V_iconst XC dX8_number_93 ?_
      refine V_putZ (b := false) XC 12 flX8_number_113 fpX8 pdX8_12 rfl 0 rfl (Nat.le_of_ble_eq_true rfl) dX8_number_94 ?_
      dsimp only [List.set]
      refine V_goto XC 124 dX8_number_97 (by decide) ?_
      refine V_iload_n XC 2 rfl dX8_number_124 rfl ?_
      refine V_iret XC (_, _) hrV rfl dX8_number_125 ?_
      try dsimp only
      first
      | (obtain ⟨rfl, rfl⟩ := hbad h7g
         exact Or.inl ⟨h7g, rfl, by rw [h7g]; rfl⟩)
      | (refine Or.inr ⟨h7g, Or.inr ⟨(by first | rfl | exact h7g), by omega, by omega, by (try dsimp only); omega, by (try dsimp only); omega, ?_, d, by omega, by omega, hE⟩⟩
         try dsimp only
         first
         | (intro z
            exact hno86 (by omega))
         | (intro z
            exact hno29 (by omega)))
      | (refine Or.inr ⟨h7g, Or.inl ⟨rfl, by (try dsimp only); omega, by (try dsimp only); omega, fun K c x q => ?_⟩⟩
         rw [hE K c x q]
         try dsimp only
         first
         | (have e9 : d = 0 := by omega
            have e8 : v = 0 := by omega
            subst e9 e8
            exact prs_none (by first | omega | (intro z; exact hno29 (by omega))))
         | (have e9 : d = 4 := by omega
            subst e9
            exact prs_five (by omega) (by omega))
         | (rw [prs_big (by first | (intro z; exact hno86 (by omega)) | (intro z; exact hno29 (by omega))) (by omega)]
            omega))
    refine V_aload_n XC 0 rfl dX8_number_81 rfl ?_
    refine V_bipush XC dX8_number_82 (by decide) ?_
    refine V_bipush XC dX8_number_84 (by decide) ?_
    refine V_callV (rest := _) (q0 := 0) XC (c_X8_isAt l D kI kC _ _ _ _ _ _ _ _ _ _ _ _ _ (by omega) (by assumption) (by omega) _ _ ⟨by decide, by decide⟩ ⟨by decide, by decide⟩) gX8_number_X8_isAt rfl kmX8_isAt ⟨⟨Nat.le_of_ble_eq_true rfl, Nat.le_of_ble_eq_true rfl⟩, Nat.le_of_ble_eq_true rfl, Nat.le_of_ble_eq_true rfl⟩ ⟨rfl, rfl⟩ rfl rfl (Nat.le_of_ble_eq_true rfl) [0, 1] rfl rfl (fun _ => rfl) rfl rfl dX8_number_86 (kR_of rfl (fun r86 hq86 => ?_))
    subst hq86
    refine V_bif_eq XC 100 dX8_number_89 (by decide) (fun h89 => ?_) (fun h89 => ?_)
    · skip
      have hno86 : ¬ (pc + d < ty ∧ 48 ≤ T (pc + d) ∧ T (pc + d) ≤ 57) := of_decide_eq_false h89
      refine V_aload_n XC 0 rfl dX8_number_100 rfl ?_
      refine V_get XC 12 flX8_number_113 0 rfl rfl dX8_number_101 ?_
      refine V_bif_eq XC 124 dX8_number_104 (by decide) (fun h104 => ?_) (fun h104 => ?_)
      · skip
        exact absurd (h7g.symm.trans h104) (by decide)
      refine V_iload_n XC 2 rfl dX8_number_107 rfl ?_
      refine V_sipush XC dX8_number_108 (by decide) ?_
      refine V_icmp_le XC 124 dX8_number_111 (by decide) ⟨by omega, by omega⟩ ⟨by omega, by omega⟩ (fun h111 => ?_) (fun h111 => ?_)
      · skip
        refine V_iload_n XC 2 rfl dX8_number_124 rfl ?_
        refine V_iret XC (_, _) hrV rfl dX8_number_125 ?_
        try dsimp only
        first
        | (obtain ⟨rfl, rfl⟩ := hbad h7g
           exact Or.inl ⟨h7g, rfl, by rw [h7g]; rfl⟩)
        | (refine Or.inr ⟨h7g, Or.inr ⟨(by first | rfl | exact h7g), by omega, by omega, by (try dsimp only); omega, by (try dsimp only); omega, ?_, d, by omega, by omega, hE⟩⟩
           try dsimp only
           first
           | (intro z
              exact hno86 (by omega))
           | (intro z
              exact hno29 (by omega)))
        | (refine Or.inr ⟨h7g, Or.inl ⟨rfl, by (try dsimp only); omega, by (try dsimp only); omega, fun K c x q => ?_⟩⟩
           rw [hE K c x q]
           try dsimp only
           first
           | (have e9 : d = 0 := by omega
              have e8 : v = 0 := by omega
              subst e9 e8
              exact prs_none (by first | omega | (intro z; exact hno29 (by omega))))
           | (have e9 : d = 4 := by omega
              subst e9
              exact prs_five (by omega) (by omega))
           | (rw [prs_big (by first | (intro z; exact hno86 (by omega)) | (intro z; exact hno29 (by omega))) (by omega)]
              omega))
      refine V_aload_n XC 0 rfl dX8_number_114 rfl ?_
      refine V_iconst XC dX8_number_115 ?_
      refine V_putZ (b := false) XC 12 flX8_number_113 fpX8 pdX8_12 rfl 0 rfl (Nat.le_of_ble_eq_true rfl) dX8_number_116 ?_
      dsimp only [List.set]
      refine V_aload_n XC 0 rfl dX8_number_119 rfl ?_
      refine V_iload_n XC 1 rfl dX8_number_120 rfl ?_
      refine V_putI XC 11 flX8_number_110 fpX8 pdX8_11 rfl 0 rfl (Nat.le_of_ble_eq_true rfl) dX8_number_121 ?_
      dsimp only [List.set]
      refine V_iload_n XC 2 rfl dX8_number_124 rfl ?_
      refine V_iret XC (_, _) hrV rfl dX8_number_125 ?_
      try dsimp only
      first
      | (obtain ⟨rfl, rfl⟩ := hbad h7g
         exact Or.inl ⟨h7g, rfl, by rw [h7g]; rfl⟩)
      | (refine Or.inr ⟨h7g, Or.inr ⟨(by first | rfl | exact h7g), by omega, by omega, by (try dsimp only); omega, by (try dsimp only); omega, ?_, d, by omega, by omega, hE⟩⟩
         try dsimp only
         first
         | (intro z
            exact hno86 (by omega))
         | (intro z
            exact hno29 (by omega)))
      | (refine Or.inr ⟨h7g, Or.inl ⟨rfl, by (try dsimp only); omega, by (try dsimp only); omega, fun K c x q => ?_⟩⟩
         rw [hE K c x q]
         try dsimp only
         first
         | (have e9 : d = 0 := by omega
            have e8 : v = 0 := by omega
            subst e9 e8
            exact prs_none (by first | omega | (intro z; exact hno29 (by omega))))
         | (have e9 : d = 4 := by omega
            subst e9
            exact prs_five (by omega) (by omega))
         | (rw [prs_big (by first | (intro z; exact hno86 (by omega)) | (intro z; exact hno29 (by omega))) (by omega)]
            omega))
    have hyes86 := of_decide_eq_true h89
    refine V_aload_n XC 0 rfl dX8_number_92 rfl ?_
    refine V_iconst XC dX8_number_93 ?_
    refine V_putZ (b := false) XC 12 flX8_number_113 fpX8 pdX8_12 rfl 0 rfl (Nat.le_of_ble_eq_true rfl) dX8_number_94 ?_
    dsimp only [List.set]
    refine V_goto XC 124 dX8_number_97 (by decide) ?_
    refine V_iload_n XC 2 rfl dX8_number_124 rfl ?_
    refine V_iret XC (_, _) hrV rfl dX8_number_125 ?_
    try dsimp only
    first
    | (obtain ⟨rfl, rfl⟩ := hbad h7g
       exact Or.inl ⟨h7g, rfl, by rw [h7g]; rfl⟩)
    | (refine Or.inr ⟨h7g, Or.inr ⟨(by first | rfl | exact h7g), by omega, by omega, by (try dsimp only); omega, by (try dsimp only); omega, ?_, d, by omega, by omega, hE⟩⟩
       try dsimp only
       first
       | (intro z
          exact hno86 (by omega))
       | (intro z
          exact hno29 (by omega)))
    | (refine Or.inr ⟨h7g, Or.inl ⟨rfl, by (try dsimp only); omega, by (try dsimp only); omega, fun K c x q => ?_⟩⟩
       rw [hE K c x q]
       try dsimp only
       first
       | (have e9 : d = 0 := by omega
          have e8 : v = 0 := by omega
          subst e9 e8
          exact prs_none (by first | omega | (intro z; exact hno29 (by omega))))
       | (have e9 : d = 4 := by omega
          subst e9
          exact prs_five (by omega) (by omega))
       | (rw [prs_big (by first | (intro z; exact hno86 (by omega)) | (intro z; exact hno29 (by omega))) (by omega)]
          omega))
  have hyes := of_decide_eq_true h32
  have hTd := hT (pc + d) (by omega)
  refine V_bipush XC dX8_number_35 (by decide) ?_
  refine V_iload_n XC 2 rfl dX8_number_37 rfl ?_
  refine V_imul XC dX8_number_38 ?_
  refine V_aload_n XC 0 rfl dX8_number_39 rfl ?_
  refine V_get XC 10 flX8_number_29 0 rfl rfl dX8_number_40 ?_
  refine V_aload_n XC 0 rfl dX8_number_43 rfl ?_
  refine V_get XC 11 flX8_number_110 0 rfl rfl dX8_number_44 ?_
  refine V_cald XC (pc + d) 1 rfl (by omega) (by omega) (by decide) dX8_number_47 ?_
  refine V_iadd XC dX8_number_48 ?_
  refine V_bipush XC dX8_number_49 (by decide) ?_
  refine V_isub XC dX8_number_51 ?_
  refine V_istore_n XC 2 rfl dX8_number_52 (by decide) ?_
  dsimp only [List.set]
  refine V_aload_n XC 0 rfl dX8_number_53 rfl ?_
  refine V_dup XC dX8_number_54 rfl ?_
  refine V_get XC 11 flX8_number_110 0 rfl rfl dX8_number_55 ?_
  refine V_iconst XC dX8_number_58 ?_
  refine V_iadd XC dX8_number_59 ?_
  refine V_top (y := ((pc + (d + 1) : Nat) : Int)) (by omega) ?_
  refine V_putI XC 11 flX8_number_110 fpX8 pdX8_11 rfl 0 rfl (Nat.le_of_ble_eq_true rfl) dX8_number_60 ?_
  dsimp only [List.set]
  refine V_goto XC 7 dX8_number_63 (by decide) ?_
  refine ih7 (d + 1, 10 * v + T (pc + d) - 48) ⟨by (try dsimp only); omega, by (try dsimp only); omega, fun z => absurd (h7g.symm.trans z) (by decide), by (try dsimp only); omega, fun K c x q => ?_⟩ (by (try dsimp only); omega)
  dsimp only
  rw [hE K c x q, prs_digit (by omega) (by omega) (by omega), show v * 10 + (T (pc + d) - 48) = 10 * v + T (pc + d) - 48 by omega, show ty - (pc + d) - 1 = ty - (pc + (d + 1)) by omega]
  rfl

end REFM
