/-! the reference: the layout -/
section REFO

/-- what a layout's rows are -/
def LayR (S : List Stk) (gap : Int) (m : Nat) (TO BO BE RK : Nat → Int) (w : Nat) (WO OD : Nat → Int) : Prop :=
  m = mS S ∧ (∀ k, k < S.length → 0 ≤ BE k ∧ BE k < 16) ∧ (∀ k, k < S.length → RK (BE k).toNat = (lnS S k : Int)) ∧ (∀ i, i < mS S → RK i = (rkS S i : Int) ∧ TO i = (GS S).2.1 i ∧ BO i = (GS S).2.2.1 i) ∧
  w = (WD S gap).1 ∧ (∀ k, k < S.length → WO k = (WD S gap).2.2.1 k) ∧ ∀ p, p < S.length → OD p = (odS S p : Int)

set_option maxRecDepth 100000 in
set_option maxHeartbeats 4000000 in
theorem c_X8_layOut (l : Launch) (D : va_G) (kI kC : ClassId) (b : Nat → Nat) (gp : Int) (ke : Nat) (un : Nat) (bu : Nat) (ty : Nat) (pc : Int) (gd : Bool) (rd : Int) (po : Int) (ln : Int) (wd : Int) (G : Nat → Int) (TO : Nat → Int) (BO : Nat → Int) (BE : Nat → Int) (RK : Nat → Int) (WO : Nat → Int) (OD : Nat → Int) (S : List Stk) (hS : OkS S) (hN : NowR G S) (hg : 0 ≤ gp ∧ gp ≤ 500) : Con l yX8_layOut wsX8_layOut { frames := 4, cells := 0, slots := 0, locals := 95 } D kI kC [.ref (b 0)] (mdO b gp (ke : Int) (un : Int) (bu : Int) (ty : Int) pc gd rd po ln wd :: [(b 1, IA kI 801 G), (b 14, IA kI 16 TO), (b 15, IA kI 16 BO), (b 16, IA kI 16 BE), (b 17, IA kI 16 RK), (b 18, IA kI 16 WO), (b 19, IA kI 16 OD)]) (σ := Nat × (Nat → Int) × (Nat → Int) × (Nat → Int) × (Nat → Int) × Nat × (Nat → Int) × (Nat → Int)) (qV (fun u => LayR S gp u.1 u.2.1 u.2.2.1 u.2.2.2.1 u.2.2.2.2.1 u.2.2.2.2.2.1 u.2.2.2.2.2.2.1 u.2.2.2.2.2.2.2)) (fun u => (mdO b gp (ke : Int) (un : Int) (bu : Int) (ty : Int) pc gd rd po (u.1 : Int) (u.2.2.2.2.2.1 : Int) :: [(b 1, IA kI 801 G), (b 14, IA kI 16 u.2.1), (b 15, IA kI 16 u.2.2.1), (b 16, IA kI 16 u.2.2.2.1), (b 17, IA kI 16 u.2.2.2.2.1), (b 18, IA kI 16 u.2.2.2.2.2.2.1), (b 19, IA kI 16 u.2.2.2.2.2.2.2)])) := by
  refine Con.of (cc := cX8_layOut) (maxL := 6) (ret := none) (by decide +kernel) rfl (List.forall_mem_cons.mpr ⟨rfl, fun _ h => absurd h List.not_mem_nil⟩) (Nat.le_of_ble_eq_true rfl) ?_
  intro pV eV sV mV bV tV cV AV XC hrV
  have XC : Cx pV _ sV mV _ tV cV cX8_layOut 6 RX8 wsX8_layOut AV D kI kC := XC
  change VV _ _ _ _ _ _ _ _ _ _ _ _ _ _ _ _ _ [some (.ref (b 0)), none, none, none, none, none] _ _
  dsimp only [mdO, List.cons_append, List.nil_append]
  have hn16 : S.length ≤ 16 := hS.1
  have hN0 : G 0 = (S.length : Int) := hN.1
  refine V_aload_n XC 0 rfl dX8_layOut_0 rfl ?_
  refine V_callV (rest := _) (q0 := 0) XC (c_X8_findLines l D kI kC _ _ _ _ _ _ _ _ _ _ _ _ _ _ _ _ _ _ (by assumption) (by assumption)) gX8_layOut_X8_findLines rfl kmX8_findLines ⟨⟨Nat.le_of_ble_eq_true rfl, Nat.le_of_ble_eq_true rfl⟩, Nat.le_of_ble_eq_true rfl, Nat.le_of_ble_eq_true rfl⟩ ⟨rfl, rfl⟩ rfl rfl (Nat.le_of_ble_eq_true rfl) [0, 1, 2, 3, 4, 5] rfl rfl (fun _ => rfl) rfl rfl dX8_layOut_1 (kV_of (fun u1 hq1 => ?_))
  obtain ⟨m1, TO1, BO1, BE1, RK1⟩ := u1
  dsimp only [putW, List.set, Option.toList, List.cons_append, List.nil_append, padO, mdO, shW, trW, txW, hiW, liW, woW, taW]
  try dsimp only at hq1
  obtain ⟨hm1, hbe1, hrk1⟩ := hq1
  have hGo := GS_ok hS
  have hbE : ∀ k, k < S.length → 0 ≤ BE1 k ∧ BE1 k < 16 := fun k hk => by
    have h1 := hGo.1
    have h2 := hGo.2.1 k hk
    rw [hbe1 k hk]
    omega
  have hrE : ∀ k, k < S.length → RK1 (BE1 k).toNat = (lnS S k : Int) := fun k hk => by
    have h2 := hGo.2.1 k hk
    rw [hbe1 k hk, (hrk1 _ (by omega)).1]
    rfl
  clear hGo
  refine V_iconst XC dX8_layOut_4 ?_
  refine V_istore_n XC 1 rfl dX8_layOut_5 (by decide) ?_
  dsimp only [List.set]
  refine V_loop (σ := Nat × (Nat → Int)) (fun u => S.length - u.1) (fun u => u.1 ≤ S.length ∧ ∀ k, k < u.1 → u.2 (plS S k) = (k : Int)) (fun u => [some (.ref (b 0)), some (.int (iI (u.1 : Int))), none, none, none, none]) (fun u => (mdO b gp (ke : Int) (un : Int) (bu : Int) (ty : Int) pc gd rd po (m1 : Int) wd :: [(b 1, IA kI 801 G), (b 14, IA kI 16 TO1), (b 15, IA kI 16 BO1), (b 16, IA kI 16 BE1), (b 17, IA kI 16 RK1), (b 18, IA kI 16 WO), (b 19, IA kI 16 u.2)])) (0, OD) ?_ rfl rfl (fun u hJ ih6 => ?_)
  · dsimp only
    exact ⟨Nat.zero_le _, fun q hq => absurd hq (Nat.not_lt_zero q)⟩
  obtain ⟨s, OD2⟩ := u
  try dsimp only at hJ ih6 ⊢
  try dsimp only [List.cons_append, List.nil_append, padO, mdO, shW, trW, txW, hiW, liW, woW, taW]
  obtain ⟨hs, hO⟩ := hJ
  refine V_iload_n XC 1 rfl dX8_layOut_6 rfl ?_
  refine V_aload_n XC 0 rfl dX8_layOut_7 rfl ?_
  refine V_callV (rest := _) (q0 := 0) XC (c_X8_strokes l D kI kC _ _ _ _ _ _ _ _ _ _ _ _ _ ) gX8_layOut_X8_strokes rfl kmX8_strokes ⟨⟨Nat.le_of_ble_eq_true rfl, Nat.le_of_ble_eq_true rfl⟩, Nat.le_of_ble_eq_true rfl, Nat.le_of_ble_eq_true rfl⟩ ⟨rfl, rfl⟩ rfl rfl (Nat.le_of_ble_eq_true rfl) [0, 1] rfl rfl (fun _ => rfl) rfl rfl dX8_layOut_8 (kR_of rfl (fun r8 hq8 => ?_))
  subst hq8
  rw [hN0]
  refine V_icmp_ge XC 31 dX8_layOut_11 (by decide) ⟨by omega, by omega⟩ ⟨by omega, by omega⟩ (fun h11 => ?_) (fun h11 => ?_)
  · skip
    obtain rfl : s = S.length := by omega
    have hod : ∀ p, p < S.length → OD2 p = (odS S p : Int) := fun p hp => by
      obtain ⟨h1, h2⟩ := plS_od (S := S) hp
      have h3 := hO _ h1
      rwa [h2] at h3
    refine V_aload_n XC 0 rfl dX8_layOut_31 rfl ?_
    refine V_iconst XC dX8_layOut_32 ?_
    refine V_top (y := ((0 : Nat) : Int)) rfl ?_
    refine V_putI XC 27 flX8_layOut_217 fpX8 pdX8_27 rfl 0 rfl (Nat.le_of_ble_eq_true rfl) dX8_layOut_33 ?_
    dsimp only [List.set]
    refine V_iconst XC dX8_layOut_36 ?_
    refine V_istore_n XC 1 rfl dX8_layOut_37 (by decide) ?_
    dsimp only [List.set]
    refine V_iconst XC dX8_layOut_38 ?_
    refine V_istore_n XC 2 rfl dX8_layOut_39 (by decide) ?_
    dsimp only [List.set]
    refine V_loop (σ := Nat × (Nat → Int)) (fun u => S.length - u.1) (fun u => u.1 ≤ S.length ∧ ∀ q, q < u.1 → u.2 (odS S q) = (wdA S gp wd0 u.1).2.2.1 (odS S q)) (fun u => [some (.ref (b 0)), some (.int (iI (RtF S gp u.1))), some (.int (iI (u.1 : Int))), none, none, none]) (fun u => (mdO b gp (ke : Int) (un : Int) (bu : Int) (ty : Int) pc gd rd po (m1 : Int) (((wdA S gp wd0 u.1).1 : Nat) : Int) :: [(b 1, IA kI 801 G), (b 14, IA kI 16 TO1), (b 15, IA kI 16 BO1), (b 16, IA kI 16 BE1), (b 17, IA kI 16 RK1), (b 18, IA kI 16 u.2), (b 19, IA kI 16 OD2)])) (0, WO) ?_ rfl rfl (fun u hJ ih40 => ?_)
    · dsimp only
      exact ⟨Nat.zero_le _, fun q hq => absurd hq (Nat.not_lt_zero q)⟩
    obtain ⟨k, WO2⟩ := u
    try dsimp only at hJ ih40 ⊢
    try dsimp only [List.cons_append, List.nil_append, padO, mdO, shW, trW, txW, hiW, liW, woW, taW]
    obtain ⟨hk, hW⟩ := hJ
    have hWI := WI_run (S := S) (gap := gp) k hk
    have hrt := RtF_rng (S := S) (gap := gp) hS hk
    have hw0 := hWI.1.2.1
    have hwk := hWI.1.1
    generalize hwg : (wdA S gp wd0 k).1 = w at hw0 hwk ⊢
    refine V_iload_n XC 2 rfl dX8_layOut_40 rfl ?_
    refine V_aload_n XC 0 rfl dX8_layOut_41 rfl ?_
    refine V_callV (rest := _) (q0 := 0) XC (c_X8_strokes l D kI kC _ _ _ _ _ _ _ _ _ _ _ _ _ ) gX8_layOut_X8_strokes rfl kmX8_strokes ⟨⟨Nat.le_of_ble_eq_true rfl, Nat.le_of_ble_eq_true rfl⟩, Nat.le_of_ble_eq_true rfl, Nat.le_of_ble_eq_true rfl⟩ ⟨rfl, rfl⟩ rfl rfl (Nat.le_of_ble_eq_true rfl) [0, 1] rfl rfl (fun _ => rfl) rfl rfl dX8_layOut_42 (kR_of rfl (fun r42 hq42 => ?_))
    subst hq42
    rw [hN0]
    refine V_icmp_ge XC 166 dX8_layOut_45 (by decide) ⟨by omega, by omega⟩ ⟨by omega, by omega⟩ (fun h45 => ?_) (fun h45 => ?_)
    · skip
      obtain rfl : k = S.length := by omega
      refine V_vret XC (m1, TO1, BO1, BE1, RK1, w, WO2, OD2) hrV rfl dX8_layOut_166 ?_
      refine ⟨hm1, hbE, hrE, hrk1, hwg.symm, fun q hq => ?_, hod⟩
      have h9 := hW (plS S q) (plS_lt hq)
      rw [odS_pl hq] at h9
      exact h9
    have hst := WI_step (S := S) (gap := gp) (p := k) (by omega) hWI
    have hodk := hod k (by omega)
    have hok := (plS_od (S := S) (p := k) (by omega)).1
    have hbs := (bdS hS hok).2
    have hls := lnS_lt hS hok
    have hm9 := (GS_ok hS).1
    clear hWI
    refine V_aload_n XC 0 rfl dX8_layOut_48 rfl ?_
    refine V_get XC 29 flX8_layOut_69 0 rfl rfl dX8_layOut_49 ?_
    refine V_iload_n XC 2 rfl dX8_layOut_52 rfl ?_
    refine V_iald XC (k) 7 rfl (by omega) (by omega) (by decide) dX8_layOut_53 ?_
    rw [hodk]
    refine V_istore_n XC 3 rfl dX8_layOut_54 (by decide) ?_
    dsimp only [List.set]
    refine V_iload_n XC 2 rfl dX8_layOut_55 rfl ?_
    refine V_if_eq XC 95 dX8_layOut_56 (by decide) ⟨by omega, by omega⟩ (fun h56 => ?_) (fun h56 => ?_)
    · skip
      have hbg : bgF S gp k := Or.inl (by omega)
      refine V_iconst XC dX8_layOut_95 ?_
      refine V_goto XC 100 dX8_layOut_96 (by decide) ?_
      refine V_istore XC dX8_layOut_100 (by decide) ?_
      dsimp only [List.set]
      refine V_aload_n XC 0 rfl dX8_layOut_102 rfl ?_
      refine V_dup XC dX8_layOut_103 rfl ?_
      refine V_get XC 27 flX8_layOut_217 0 rfl rfl dX8_layOut_104 ?_
      refine V_iload XC dX8_layOut_107 rfl ?_
      refine V_if_eq XC 116 dX8_layOut_109 (by decide) ⟨by decide, by decide⟩ (fun h109 => absurd h109 (by decide)) (fun h109 => ?_)
      refine V_iconst XC dX8_layOut_112 ?_
      refine V_goto XC 117 dX8_layOut_113 (by decide) ?_
      refine V_iadd XC dX8_layOut_117 ?_
      first | refine V_top (y := ((w + 1 : Nat) : Int)) (by omega) ?_ | refine V_top (y := (w : Int)) (by omega) ?_
      refine V_putI XC 27 flX8_layOut_217 fpX8 pdX8_27 rfl 0 rfl (Nat.le_of_ble_eq_true rfl) dX8_layOut_118 ?_
      dsimp only [List.set]
      refine V_aload_n XC 0 rfl dX8_layOut_121 rfl ?_
      refine V_iload_n XC 3 rfl dX8_layOut_122 rfl ?_
      refine V_iconst XC dX8_layOut_123 ?_
      refine V_iconst XC dX8_layOut_124 ?_
      refine V_callV (rest := _) (q0 := 0) XC (c_X8_bound l D kI kC _ _ _ _ _ _ _ _ _ _ _ _ _ (odS S k) false true (by omega) (NowR_ok hN hS hok)) gX8_layOut_X8_bound rfl kmX8_bound ⟨⟨Nat.le_of_ble_eq_true rfl, Nat.le_of_ble_eq_true rfl⟩, Nat.le_of_ble_eq_true rfl, Nat.le_of_ble_eq_true rfl⟩ ⟨rfl, rfl⟩ rfl rfl (Nat.le_of_ble_eq_true rfl) [0, 1] rfl rfl (fun _ => rfl) rfl rfl dX8_layOut_125 (kR_of rfl (fun r125 hq125 => ?_))
      subst hq125
      rw [show bdR (skR G (odS S k)) false true = rtS S (odS S k) from by unfold rtS; rw [NowR_at hN hok]; rfl]
      refine V_istore XC dX8_layOut_128 (by decide) ?_
      dsimp only [List.set]
      refine V_iload XC dX8_layOut_130 rfl ?_
      refine V_if_ne XC 141 dX8_layOut_132 (by decide) ⟨by decide, by decide⟩ (fun h132 => ?_) (fun h132 => absurd h132 (by decide))
      refine V_iload XC dX8_layOut_141 rfl ?_
      refine V_goto XC 147 dX8_layOut_143 (by decide) ?_
      first | refine V_top (y := max (rtS S (odS S k)) (RtF S gp k)) (by omega) ?_ | skip
      refine V_istore_n XC 1 rfl dX8_layOut_147 (by decide) ?_
      dsimp only [List.set]
      refine V_aload_n XC 0 rfl dX8_layOut_148 rfl ?_
      refine V_get XC 28 flX8_layOut_66 0 rfl rfl dX8_layOut_149 ?_
      refine V_iload_n XC 3 rfl dX8_layOut_152 rfl ?_
      refine V_aload_n XC 0 rfl dX8_layOut_153 rfl ?_
      refine V_get XC 27 flX8_layOut_217 0 rfl rfl dX8_layOut_154 ?_
      refine V_iconst XC dX8_layOut_157 ?_
      refine V_isub XC dX8_layOut_158 ?_
      first | refine V_top (y := (w : Int)) (by omega) ?_ | refine V_top (y := ((w - 1 : Nat) : Int)) (by omega) ?_
      refine V_iast XC (odS S k) 6 rfl (by omega) (by omega) (by decide) dX8_layOut_159 ?_
      dsimp only [List.set]
      refine V_iinc XC dX8_layOut_160 rfl (by decide) ?_
      dsimp only [List.set]
      refine V_goto XC 40 dX8_layOut_163 (by decide) ?_
      refine V_kill 3 ?_
      dsimp only [List.set]
      refine V_kill 4 ?_
      dsimp only [List.set]
      refine V_kill 5 ?_
      dsimp only [List.set]
      first
      | (obtain ⟨e1, e2, e3⟩ := hst.2.1 hbg
         rw [hwg] at e1 e3
         have ih9 := ih40 (k + 1, upz WO2 (odS S k) (w : Int))
         try dsimp only at ih9
         rw [e1, e2] at ih9
         refine ih9 ⟨by omega, fun q hq => ?_⟩ (by omega)
         rw [e3]
         rcases Nat.lt_or_ge q k with z | z
         · have hne : odS S q ≠ odS S k := fun e => by have := odS_inj (by omega) (by omega) e; omega
           rw [upz_n hne, upz_n hne]; exact hW q z
         · obtain rfl : q = k := by omega
           rw [upz_s, upz_s])
      | (obtain ⟨e1, e2, e3⟩ := hst.2.2 hbg
         rw [hwg] at e1 e3
         have ih9 := ih40 (k + 1, upz WO2 (odS S k) ((w - 1 : Nat) : Int))
         try dsimp only at ih9
         rw [e1, e2] at ih9
         refine ih9 ⟨by omega, fun q hq => ?_⟩ (by omega)
         rw [e3]
         rcases Nat.lt_or_ge q k with z | z
         · have hne : odS S q ≠ odS S k := fun e => by have := odS_inj (by omega) (by omega) e; omega
           rw [upz_n hne, upz_n hne]; exact hW q z
         · obtain rfl : q = k := by omega
           rw [upz_s, upz_s])
    have hodk1 := hod (k - 1) (by omega)
    have hok1 := (plS_od (S := S) (p := k - 1) (by omega)).1
    have hls1 := lnS_lt hS hok1
    refine V_aload_n XC 0 rfl dX8_layOut_59 rfl ?_
    refine V_iload_n XC 3 rfl dX8_layOut_60 rfl ?_
    refine V_callV (rest := _) (q0 := 0) XC (c_X8_lineOf l D kI kC _ _ _ _ _ _ _ _ _ _ _ _ _ _ (odS S k) (by omega) (hbE _ hok)) gX8_layOut_X8_lineOf rfl kmX8_lineOf ⟨⟨Nat.le_of_ble_eq_true rfl, Nat.le_of_ble_eq_true rfl⟩, Nat.le_of_ble_eq_true rfl, Nat.le_of_ble_eq_true rfl⟩ ⟨rfl, rfl⟩ rfl rfl (Nat.le_of_ble_eq_true rfl) [0, 4, 5] rfl rfl (fun _ => rfl) rfl rfl dX8_layOut_61 (kR_of rfl (fun r61 hq61 => ?_))
    subst hq61
    rw [hrE _ hok]
    refine V_aload_n XC 0 rfl dX8_layOut_64 rfl ?_
    refine V_aload_n XC 0 rfl dX8_layOut_65 rfl ?_
    refine V_get XC 29 flX8_layOut_69 0 rfl rfl dX8_layOut_66 ?_
    refine V_iload_n XC 2 rfl dX8_layOut_69 rfl ?_
    refine V_iconst XC dX8_layOut_70 ?_
    refine V_isub XC dX8_layOut_71 ?_
    refine V_iald XC (k - 1) 7 rfl (by omega) (by omega) (by decide) dX8_layOut_72 ?_
    rw [hodk1]
    refine V_callV (rest := _) (q0 := 0) XC (c_X8_lineOf l D kI kC _ _ _ _ _ _ _ _ _ _ _ _ _ _ (odS S (k - 1)) (by omega) (hbE _ hok1)) gX8_layOut_X8_lineOf rfl kmX8_lineOf ⟨⟨Nat.le_of_ble_eq_true rfl, Nat.le_of_ble_eq_true rfl⟩, Nat.le_of_ble_eq_true rfl, Nat.le_of_ble_eq_true rfl⟩ ⟨rfl, rfl⟩ rfl rfl (Nat.le_of_ble_eq_true rfl) [0, 4, 5] rfl rfl (fun _ => rfl) rfl rfl dX8_layOut_73 (kR_of rfl (fun r73 hq73 => ?_))
    subst hq73
    rw [hrE _ hok1]
    refine V_icmp_ne XC 95 dX8_layOut_76 (by decide) ⟨by omega, by omega⟩ ⟨by omega, by omega⟩ (fun h76 => ?_) (fun h76 => ?_)
    · skip
      have hbg : bgF S gp k := Or.inr (Or.inl (by omega))
      refine V_iconst XC dX8_layOut_95 ?_
      refine V_goto XC 100 dX8_layOut_96 (by decide) ?_
      refine V_istore XC dX8_layOut_100 (by decide) ?_
      dsimp only [List.set]
      refine V_aload_n XC 0 rfl dX8_layOut_102 rfl ?_
      refine V_dup XC dX8_layOut_103 rfl ?_
      refine V_get XC 27 flX8_layOut_217 0 rfl rfl dX8_layOut_104 ?_
      refine V_iload XC dX8_layOut_107 rfl ?_
      refine V_if_eq XC 116 dX8_layOut_109 (by decide) ⟨by decide, by decide⟩ (fun h109 => absurd h109 (by decide)) (fun h109 => ?_)
      refine V_iconst XC dX8_layOut_112 ?_
      refine V_goto XC 117 dX8_layOut_113 (by decide) ?_
      refine V_iadd XC dX8_layOut_117 ?_
      first | refine V_top (y := ((w + 1 : Nat) : Int)) (by omega) ?_ | refine V_top (y := (w : Int)) (by omega) ?_
      refine V_putI XC 27 flX8_layOut_217 fpX8 pdX8_27 rfl 0 rfl (Nat.le_of_ble_eq_true rfl) dX8_layOut_118 ?_
      dsimp only [List.set]
      refine V_aload_n XC 0 rfl dX8_layOut_121 rfl ?_
      refine V_iload_n XC 3 rfl dX8_layOut_122 rfl ?_
      refine V_iconst XC dX8_layOut_123 ?_
      refine V_iconst XC dX8_layOut_124 ?_
      refine V_callV (rest := _) (q0 := 0) XC (c_X8_bound l D kI kC _ _ _ _ _ _ _ _ _ _ _ _ _ (odS S k) false true (by omega) (NowR_ok hN hS hok)) gX8_layOut_X8_bound rfl kmX8_bound ⟨⟨Nat.le_of_ble_eq_true rfl, Nat.le_of_ble_eq_true rfl⟩, Nat.le_of_ble_eq_true rfl, Nat.le_of_ble_eq_true rfl⟩ ⟨rfl, rfl⟩ rfl rfl (Nat.le_of_ble_eq_true rfl) [0, 1] rfl rfl (fun _ => rfl) rfl rfl dX8_layOut_125 (kR_of rfl (fun r125 hq125 => ?_))
      subst hq125
      rw [show bdR (skR G (odS S k)) false true = rtS S (odS S k) from by unfold rtS; rw [NowR_at hN hok]; rfl]
      refine V_istore XC dX8_layOut_128 (by decide) ?_
      dsimp only [List.set]
      refine V_iload XC dX8_layOut_130 rfl ?_
      refine V_if_ne XC 141 dX8_layOut_132 (by decide) ⟨by decide, by decide⟩ (fun h132 => ?_) (fun h132 => absurd h132 (by decide))
      refine V_iload XC dX8_layOut_141 rfl ?_
      refine V_goto XC 147 dX8_layOut_143 (by decide) ?_
      first | refine V_top (y := max (rtS S (odS S k)) (RtF S gp k)) (by omega) ?_ | skip
      refine V_istore_n XC 1 rfl dX8_layOut_147 (by decide) ?_
      dsimp only [List.set]
      refine V_aload_n XC 0 rfl dX8_layOut_148 rfl ?_
      refine V_get XC 28 flX8_layOut_66 0 rfl rfl dX8_layOut_149 ?_
      refine V_iload_n XC 3 rfl dX8_layOut_152 rfl ?_
      refine V_aload_n XC 0 rfl dX8_layOut_153 rfl ?_
      refine V_get XC 27 flX8_layOut_217 0 rfl rfl dX8_layOut_154 ?_
      refine V_iconst XC dX8_layOut_157 ?_
      refine V_isub XC dX8_layOut_158 ?_
      first | refine V_top (y := (w : Int)) (by omega) ?_ | refine V_top (y := ((w - 1 : Nat) : Int)) (by omega) ?_
      refine V_iast XC (odS S k) 6 rfl (by omega) (by omega) (by decide) dX8_layOut_159 ?_
      dsimp only [List.set]
      refine V_iinc XC dX8_layOut_160 rfl (by decide) ?_
      dsimp only [List.set]
      refine V_goto XC 40 dX8_layOut_163 (by decide) ?_
      refine V_kill 3 ?_
      dsimp only [List.set]
      refine V_kill 4 ?_
      dsimp only [List.set]
      refine V_kill 5 ?_
      dsimp only [List.set]
      first
      | (obtain ⟨e1, e2, e3⟩ := hst.2.1 hbg
         rw [hwg] at e1 e3
         have ih9 := ih40 (k + 1, upz WO2 (odS S k) (w : Int))
         try dsimp only at ih9
         rw [e1, e2] at ih9
         refine ih9 ⟨by omega, fun q hq => ?_⟩ (by omega)
         rw [e3]
         rcases Nat.lt_or_ge q k with z | z
         · have hne : odS S q ≠ odS S k := fun e => by have := odS_inj (by omega) (by omega) e; omega
           rw [upz_n hne, upz_n hne]; exact hW q z
         · obtain rfl : q = k := by omega
           rw [upz_s, upz_s])
      | (obtain ⟨e1, e2, e3⟩ := hst.2.2 hbg
         rw [hwg] at e1 e3
         have ih9 := ih40 (k + 1, upz WO2 (odS S k) ((w - 1 : Nat) : Int))
         try dsimp only at ih9
         rw [e1, e2] at ih9
         refine ih9 ⟨by omega, fun q hq => ?_⟩ (by omega)
         rw [e3]
         rcases Nat.lt_or_ge q k with z | z
         · have hne : odS S q ≠ odS S k := fun e => by have := odS_inj (by omega) (by omega) e; omega
           rw [upz_n hne, upz_n hne]; exact hW q z
         · obtain rfl : q = k := by omega
           rw [upz_s, upz_s])
    refine V_aload_n XC 0 rfl dX8_layOut_79 rfl ?_
    refine V_iload_n XC 3 rfl dX8_layOut_80 rfl ?_
    refine V_iconst XC dX8_layOut_81 ?_
    refine V_iconst XC dX8_layOut_82 ?_
    refine V_callV (rest := _) (q0 := 0) XC (c_X8_bound l D kI kC _ _ _ _ _ _ _ _ _ _ _ _ _ (odS S k) false false (by omega) (NowR_ok hN hS hok)) gX8_layOut_X8_bound rfl kmX8_bound ⟨⟨Nat.le_of_ble_eq_true rfl, Nat.le_of_ble_eq_true rfl⟩, Nat.le_of_ble_eq_true rfl, Nat.le_of_ble_eq_true rfl⟩ ⟨rfl, rfl⟩ rfl rfl (Nat.le_of_ble_eq_true rfl) [0, 1] rfl rfl (fun _ => rfl) rfl rfl dX8_layOut_83 (kR_of rfl (fun r83 hq83 => ?_))
    subst hq83
    rw [show bdR (skR G (odS S k)) false false = lfS S (odS S k) from by unfold lfS; rw [NowR_at hN hok]; rfl]
    refine V_iload_n XC 1 rfl dX8_layOut_86 rfl ?_
    refine V_aload_n XC 0 rfl dX8_layOut_87 rfl ?_
    refine V_get XC 1 flX8_layOut_13 0 rfl rfl dX8_layOut_88 ?_
    refine V_iadd XC dX8_layOut_91 ?_
    refine V_icmp_le XC 99 dX8_layOut_92 (by decide) ⟨by omega, by omega⟩ ⟨by omega, by omega⟩ (fun h92 => ?_) (fun h92 => ?_)
    · skip
      have hbg : ¬ bgF S gp k := by
        rintro (z | z | z)
        · omega
        · omega
        · omega
      have hw1 := (hw0 (by omega)).1
      refine V_iconst XC dX8_layOut_99 ?_
      refine V_istore XC dX8_layOut_100 (by decide) ?_
      dsimp only [List.set]
      refine V_aload_n XC 0 rfl dX8_layOut_102 rfl ?_
      refine V_dup XC dX8_layOut_103 rfl ?_
      refine V_get XC 27 flX8_layOut_217 0 rfl rfl dX8_layOut_104 ?_
      refine V_iload XC dX8_layOut_107 rfl ?_
      refine V_if_eq XC 116 dX8_layOut_109 (by decide) ⟨by decide, by decide⟩ (fun h109 => ?_) (fun h109 => absurd h109 (by decide))
      refine V_iconst XC dX8_layOut_116 ?_
      refine V_iadd XC dX8_layOut_117 ?_
      first | refine V_top (y := ((w + 1 : Nat) : Int)) (by omega) ?_ | refine V_top (y := (w : Int)) (by omega) ?_
      refine V_putI XC 27 flX8_layOut_217 fpX8 pdX8_27 rfl 0 rfl (Nat.le_of_ble_eq_true rfl) dX8_layOut_118 ?_
      dsimp only [List.set]
      refine V_aload_n XC 0 rfl dX8_layOut_121 rfl ?_
      refine V_iload_n XC 3 rfl dX8_layOut_122 rfl ?_
      refine V_iconst XC dX8_layOut_123 ?_
      refine V_iconst XC dX8_layOut_124 ?_
      refine V_callV (rest := _) (q0 := 0) XC (c_X8_bound l D kI kC _ _ _ _ _ _ _ _ _ _ _ _ _ (odS S k) false true (by omega) (NowR_ok hN hS hok)) gX8_layOut_X8_bound rfl kmX8_bound ⟨⟨Nat.le_of_ble_eq_true rfl, Nat.le_of_ble_eq_true rfl⟩, Nat.le_of_ble_eq_true rfl, Nat.le_of_ble_eq_true rfl⟩ ⟨rfl, rfl⟩ rfl rfl (Nat.le_of_ble_eq_true rfl) [0, 1] rfl rfl (fun _ => rfl) rfl rfl dX8_layOut_125 (kR_of rfl (fun r125 hq125 => ?_))
      subst hq125
      rw [show bdR (skR G (odS S k)) false true = rtS S (odS S k) from by unfold rtS; rw [NowR_at hN hok]; rfl]
      refine V_istore XC dX8_layOut_128 (by decide) ?_
      dsimp only [List.set]
      refine V_iload XC dX8_layOut_130 rfl ?_
      refine V_if_ne XC 141 dX8_layOut_132 (by decide) ⟨by decide, by decide⟩ (fun h132 => absurd h132 (by decide)) (fun h132 => ?_)
      refine V_iload XC dX8_layOut_135 rfl ?_
      refine V_iload_n XC 1 rfl dX8_layOut_137 rfl ?_
      refine V_icmp_le XC 146 dX8_layOut_138 (by decide) ⟨by omega, by omega⟩ ⟨by omega, by omega⟩ (fun h138 => ?_) (fun h138 => ?_)
      · skip
        refine V_iload_n XC 1 rfl dX8_layOut_146 rfl ?_
        first | refine V_top (y := max (rtS S (odS S k)) (RtF S gp k)) (by omega) ?_ | skip
        refine V_istore_n XC 1 rfl dX8_layOut_147 (by decide) ?_
        dsimp only [List.set]
        refine V_aload_n XC 0 rfl dX8_layOut_148 rfl ?_
        refine V_get XC 28 flX8_layOut_66 0 rfl rfl dX8_layOut_149 ?_
        refine V_iload_n XC 3 rfl dX8_layOut_152 rfl ?_
        refine V_aload_n XC 0 rfl dX8_layOut_153 rfl ?_
        refine V_get XC 27 flX8_layOut_217 0 rfl rfl dX8_layOut_154 ?_
        refine V_iconst XC dX8_layOut_157 ?_
        refine V_isub XC dX8_layOut_158 ?_
        first | refine V_top (y := (w : Int)) (by omega) ?_ | refine V_top (y := ((w - 1 : Nat) : Int)) (by omega) ?_
        refine V_iast XC (odS S k) 6 rfl (by omega) (by omega) (by decide) dX8_layOut_159 ?_
        dsimp only [List.set]
        refine V_iinc XC dX8_layOut_160 rfl (by decide) ?_
        dsimp only [List.set]
        refine V_goto XC 40 dX8_layOut_163 (by decide) ?_
        refine V_kill 3 ?_
        dsimp only [List.set]
        refine V_kill 4 ?_
        dsimp only [List.set]
        refine V_kill 5 ?_
        dsimp only [List.set]
        first
        | (obtain ⟨e1, e2, e3⟩ := hst.2.1 hbg
           rw [hwg] at e1 e3
           have ih9 := ih40 (k + 1, upz WO2 (odS S k) (w : Int))
           try dsimp only at ih9
           rw [e1, e2] at ih9
           refine ih9 ⟨by omega, fun q hq => ?_⟩ (by omega)
           rw [e3]
           rcases Nat.lt_or_ge q k with z | z
           · have hne : odS S q ≠ odS S k := fun e => by have := odS_inj (by omega) (by omega) e; omega
             rw [upz_n hne, upz_n hne]; exact hW q z
           · obtain rfl : q = k := by omega
             rw [upz_s, upz_s])
        | (obtain ⟨e1, e2, e3⟩ := hst.2.2 hbg
           rw [hwg] at e1 e3
           have ih9 := ih40 (k + 1, upz WO2 (odS S k) ((w - 1 : Nat) : Int))
           try dsimp only at ih9
           rw [e1, e2] at ih9
           refine ih9 ⟨by omega, fun q hq => ?_⟩ (by omega)
           rw [e3]
           rcases Nat.lt_or_ge q k with z | z
           · have hne : odS S q ≠ odS S k := fun e => by have := odS_inj (by omega) (by omega) e; omega
             rw [upz_n hne, upz_n hne]; exact hW q z
           · obtain rfl : q = k := by omega
             rw [upz_s, upz_s])
      refine V_iload XC dX8_layOut_141 rfl ?_
      refine V_goto XC 147 dX8_layOut_143 (by decide) ?_
      first | refine V_top (y := max (rtS S (odS S k)) (RtF S gp k)) (by omega) ?_ | skip
      refine V_istore_n XC 1 rfl dX8_layOut_147 (by decide) ?_
      dsimp only [List.set]
      refine V_aload_n XC 0 rfl dX8_layOut_148 rfl ?_
      refine V_get XC 28 flX8_layOut_66 0 rfl rfl dX8_layOut_149 ?_
      refine V_iload_n XC 3 rfl dX8_layOut_152 rfl ?_
      refine V_aload_n XC 0 rfl dX8_layOut_153 rfl ?_
      refine V_get XC 27 flX8_layOut_217 0 rfl rfl dX8_layOut_154 ?_
      refine V_iconst XC dX8_layOut_157 ?_
      refine V_isub XC dX8_layOut_158 ?_
      first | refine V_top (y := (w : Int)) (by omega) ?_ | refine V_top (y := ((w - 1 : Nat) : Int)) (by omega) ?_
      refine V_iast XC (odS S k) 6 rfl (by omega) (by omega) (by decide) dX8_layOut_159 ?_
      dsimp only [List.set]
      refine V_iinc XC dX8_layOut_160 rfl (by decide) ?_
      dsimp only [List.set]
      refine V_goto XC 40 dX8_layOut_163 (by decide) ?_
      refine V_kill 3 ?_
      dsimp only [List.set]
      refine V_kill 4 ?_
      dsimp only [List.set]
      refine V_kill 5 ?_
      dsimp only [List.set]
      first
      | (obtain ⟨e1, e2, e3⟩ := hst.2.1 hbg
         rw [hwg] at e1 e3
         have ih9 := ih40 (k + 1, upz WO2 (odS S k) (w : Int))
         try dsimp only at ih9
         rw [e1, e2] at ih9
         refine ih9 ⟨by omega, fun q hq => ?_⟩ (by omega)
         rw [e3]
         rcases Nat.lt_or_ge q k with z | z
         · have hne : odS S q ≠ odS S k := fun e => by have := odS_inj (by omega) (by omega) e; omega
           rw [upz_n hne, upz_n hne]; exact hW q z
         · obtain rfl : q = k := by omega
           rw [upz_s, upz_s])
      | (obtain ⟨e1, e2, e3⟩ := hst.2.2 hbg
         rw [hwg] at e1 e3
         have ih9 := ih40 (k + 1, upz WO2 (odS S k) ((w - 1 : Nat) : Int))
         try dsimp only at ih9
         rw [e1, e2] at ih9
         refine ih9 ⟨by omega, fun q hq => ?_⟩ (by omega)
         rw [e3]
         rcases Nat.lt_or_ge q k with z | z
         · have hne : odS S q ≠ odS S k := fun e => by have := odS_inj (by omega) (by omega) e; omega
           rw [upz_n hne, upz_n hne]; exact hW q z
         · obtain rfl : q = k := by omega
           rw [upz_s, upz_s])
    have hbg : bgF S gp k := Or.inr (Or.inr (by omega))
    refine V_iconst XC dX8_layOut_95 ?_
    refine V_goto XC 100 dX8_layOut_96 (by decide) ?_
    refine V_istore XC dX8_layOut_100 (by decide) ?_
    dsimp only [List.set]
    refine V_aload_n XC 0 rfl dX8_layOut_102 rfl ?_
    refine V_dup XC dX8_layOut_103 rfl ?_
    refine V_get XC 27 flX8_layOut_217 0 rfl rfl dX8_layOut_104 ?_
    refine V_iload XC dX8_layOut_107 rfl ?_
    refine V_if_eq XC 116 dX8_layOut_109 (by decide) ⟨by decide, by decide⟩ (fun h109 => absurd h109 (by decide)) (fun h109 => ?_)
    refine V_iconst XC dX8_layOut_112 ?_
    refine V_goto XC 117 dX8_layOut_113 (by decide) ?_
    refine V_iadd XC dX8_layOut_117 ?_
    first | refine V_top (y := ((w + 1 : Nat) : Int)) (by omega) ?_ | refine V_top (y := (w : Int)) (by omega) ?_
    refine V_putI XC 27 flX8_layOut_217 fpX8 pdX8_27 rfl 0 rfl (Nat.le_of_ble_eq_true rfl) dX8_layOut_118 ?_
    dsimp only [List.set]
    refine V_aload_n XC 0 rfl dX8_layOut_121 rfl ?_
    refine V_iload_n XC 3 rfl dX8_layOut_122 rfl ?_
    refine V_iconst XC dX8_layOut_123 ?_
    refine V_iconst XC dX8_layOut_124 ?_
    refine V_callV (rest := _) (q0 := 0) XC (c_X8_bound l D kI kC _ _ _ _ _ _ _ _ _ _ _ _ _ (odS S k) false true (by omega) (NowR_ok hN hS hok)) gX8_layOut_X8_bound rfl kmX8_bound ⟨⟨Nat.le_of_ble_eq_true rfl, Nat.le_of_ble_eq_true rfl⟩, Nat.le_of_ble_eq_true rfl, Nat.le_of_ble_eq_true rfl⟩ ⟨rfl, rfl⟩ rfl rfl (Nat.le_of_ble_eq_true rfl) [0, 1] rfl rfl (fun _ => rfl) rfl rfl dX8_layOut_125 (kR_of rfl (fun r125 hq125 => ?_))
    subst hq125
    rw [show bdR (skR G (odS S k)) false true = rtS S (odS S k) from by unfold rtS; rw [NowR_at hN hok]; rfl]
    refine V_istore XC dX8_layOut_128 (by decide) ?_
    dsimp only [List.set]
    refine V_iload XC dX8_layOut_130 rfl ?_
    refine V_if_ne XC 141 dX8_layOut_132 (by decide) ⟨by decide, by decide⟩ (fun h132 => ?_) (fun h132 => absurd h132 (by decide))
    refine V_iload XC dX8_layOut_141 rfl ?_
    refine V_goto XC 147 dX8_layOut_143 (by decide) ?_
    first | refine V_top (y := max (rtS S (odS S k)) (RtF S gp k)) (by omega) ?_ | skip
    refine V_istore_n XC 1 rfl dX8_layOut_147 (by decide) ?_
    dsimp only [List.set]
    refine V_aload_n XC 0 rfl dX8_layOut_148 rfl ?_
    refine V_get XC 28 flX8_layOut_66 0 rfl rfl dX8_layOut_149 ?_
    refine V_iload_n XC 3 rfl dX8_layOut_152 rfl ?_
    refine V_aload_n XC 0 rfl dX8_layOut_153 rfl ?_
    refine V_get XC 27 flX8_layOut_217 0 rfl rfl dX8_layOut_154 ?_
    refine V_iconst XC dX8_layOut_157 ?_
    refine V_isub XC dX8_layOut_158 ?_
    first | refine V_top (y := (w : Int)) (by omega) ?_ | refine V_top (y := ((w - 1 : Nat) : Int)) (by omega) ?_
    refine V_iast XC (odS S k) 6 rfl (by omega) (by omega) (by decide) dX8_layOut_159 ?_
    dsimp only [List.set]
    refine V_iinc XC dX8_layOut_160 rfl (by decide) ?_
    dsimp only [List.set]
    refine V_goto XC 40 dX8_layOut_163 (by decide) ?_
    refine V_kill 3 ?_
    dsimp only [List.set]
    refine V_kill 4 ?_
    dsimp only [List.set]
    refine V_kill 5 ?_
    dsimp only [List.set]
    first
    | (obtain ⟨e1, e2, e3⟩ := hst.2.1 hbg
       rw [hwg] at e1 e3
       have ih9 := ih40 (k + 1, upz WO2 (odS S k) (w : Int))
       try dsimp only at ih9
       rw [e1, e2] at ih9
       refine ih9 ⟨by omega, fun q hq => ?_⟩ (by omega)
       rw [e3]
       rcases Nat.lt_or_ge q k with z | z
       · have hne : odS S q ≠ odS S k := fun e => by have := odS_inj (by omega) (by omega) e; omega
         rw [upz_n hne, upz_n hne]; exact hW q z
       · obtain rfl : q = k := by omega
         rw [upz_s, upz_s])
    | (obtain ⟨e1, e2, e3⟩ := hst.2.2 hbg
       rw [hwg] at e1 e3
       have ih9 := ih40 (k + 1, upz WO2 (odS S k) ((w - 1 : Nat) : Int))
       try dsimp only at ih9
       rw [e1, e2] at ih9
       refine ih9 ⟨by omega, fun q hq => ?_⟩ (by omega)
       rw [e3]
       rcases Nat.lt_or_ge q k with z | z
       · have hne : odS S q ≠ odS S k := fun e => by have := odS_inj (by omega) (by omega) e; omega
         rw [upz_n hne, upz_n hne]; exact hW q z
       · obtain rfl : q = k := by omega
         rw [upz_s, upz_s])
  have hpl := plS_lt (S := S) (k := s) (by omega)
  refine V_aload_n XC 0 rfl dX8_layOut_14 rfl ?_
  refine V_get XC 29 flX8_layOut_69 0 rfl rfl dX8_layOut_15 ?_
  refine V_aload_n XC 0 rfl dX8_layOut_18 rfl ?_
  refine V_iload_n XC 1 rfl dX8_layOut_19 rfl ?_
  refine V_callV (rest := _) (q0 := 0) XC (c_X8_placeOf l D kI kC _ _ _ _ _ _ _ _ _ _ _ _ _ _ _ S hS hN hbE hrE s (by omega)) gX8_layOut_X8_placeOf rfl kmX8_placeOf ⟨⟨Nat.le_of_ble_eq_true rfl, Nat.le_of_ble_eq_true rfl⟩, Nat.le_of_ble_eq_true rfl, Nat.le_of_ble_eq_true rfl⟩ ⟨rfl, rfl⟩ rfl rfl (Nat.le_of_ble_eq_true rfl) [0, 1, 4, 5] rfl rfl (fun _ => rfl) rfl rfl dX8_layOut_20 (kR_of rfl (fun r20 hq20 => ?_))
  subst hq20
  refine V_iload_n XC 1 rfl dX8_layOut_23 rfl ?_
  refine V_iast XC (plS S s) 7 rfl (by omega) (by omega) (by decide) dX8_layOut_24 ?_
  dsimp only [List.set]
  refine V_iinc XC dX8_layOut_25 rfl (by decide) ?_
  dsimp only [List.set]
  refine V_goto XC 6 dX8_layOut_28 (by decide) ?_
  refine ih6 (s + 1, upz OD2 (plS S s) (s : Int)) ⟨by (try dsimp only); omega, fun q hq => ?_⟩ (by (try dsimp only); omega)
  try dsimp only at hq ⊢
  by_cases z : q = s
  · subst z; rw [upz_s]
  · have hne : plS S q ≠ plS S s := fun e => z (rk_inj (by omega) (by omega) e)
    rw [upz_n hne]; exact hO q (by omega)

end REFO
