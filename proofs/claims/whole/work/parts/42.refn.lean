/-! the reference: the lines -/
section REFN

set_option maxRecDepth 100000 in
set_option maxHeartbeats 4000000 in
theorem c_X8_findLines (l : Launch) (D : va_G) (kI kC : ClassId) (b : Nat → Nat) (gp : Int) (ke : Nat) (un : Nat) (bu : Nat) (ty : Nat) (pc : Int) (gd : Bool) (rd : Int) (po : Int) (ln : Int) (wd : Int) (G : Nat → Int) (TO : Nat → Int) (BO : Nat → Int) (BE : Nat → Int) (RK : Nat → Int) (S : List Stk) (hS : OkS S) (hN : NowR G S)  : Con l yX8_findLines wsX8_findLines { frames := 2, cells := 0, slots := 0, locals := 51 } D kI kC [.ref (b 0)] (mdO b gp (ke : Int) (un : Int) (bu : Int) (ty : Int) pc gd rd po ln wd :: [(b 1, IA kI 801 G), (b 14, IA kI 16 TO), (b 15, IA kI 16 BO), (b 16, IA kI 16 BE), (b 17, IA kI 16 RK)]) (σ := Nat × (Nat → Int) × (Nat → Int) × (Nat → Int) × (Nat → Int)) (qV (fun u => u.1 = mS S ∧ (∀ k, k < S.length → u.2.2.2.1 k = (GS S).2.2.2 k) ∧ ∀ i, i < mS S → u.2.2.2.2 i = (rkS S i : Int) ∧ u.2.1 i = (GS S).2.1 i ∧ u.2.2.1 i = (GS S).2.2.1 i)) (fun u => (mdO b gp (ke : Int) (un : Int) (bu : Int) (ty : Int) pc gd rd po (u.1 : Int) wd :: [(b 1, IA kI 801 G), (b 14, IA kI 16 u.2.1), (b 15, IA kI 16 u.2.2.1), (b 16, IA kI 16 u.2.2.2.1), (b 17, IA kI 16 u.2.2.2.2)])) := by
  refine Con.of (cc := cX8_findLines) (maxL := 6) (ret := none) (by decide +kernel) rfl (List.forall_mem_cons.mpr ⟨rfl, fun _ h => absurd h List.not_mem_nil⟩) (Nat.le_of_ble_eq_true rfl) ?_
  intro pV eV sV mV bV tV cV AV XC hrV
  have XC : Cx pV _ sV mV _ tV cV cX8_findLines 6 RX8 wsX8_findLines AV D kI kC := XC
  change VV _ _ _ _ _ _ _ _ _ _ _ _ _ _ _ _ _ [some (.ref (b 0)), none, none, none, none, none] _ _
  dsimp only [mdO, List.cons_append, List.nil_append]
  have hn16 : S.length ≤ 16 := hS.1
  have hN0 : G 0 = (S.length : Int) := hN.1
  refine V_aload_n XC 0 rfl dX8_findLines_0 rfl ?_
  refine V_iconst XC dX8_findLines_1 ?_
  refine V_top (y := ((0 : Nat) : Int)) rfl ?_
  refine V_putI XC 22 flX8_findLines_192 fpX8 pdX8_22 rfl 0 rfl (Nat.le_of_ble_eq_true rfl) dX8_findLines_2 ?_
  dsimp only [List.set]
  refine V_iconst XC dX8_findLines_5 ?_
  refine V_istore_n XC 1 rfl dX8_findLines_6 (by decide) ?_
  dsimp only [List.set]
  refine V_loop (σ := Nat × (Nat → Int) × (Nat → Int) × (Nat → Int)) (fun u => S.length - u.1) (fun u => u.1 ≤ S.length ∧ (∀ i, i < (grL (tpS S) (boS S) u.1).1 → u.2.1 i = (grL (tpS S) (boS S) u.1).2.1 i ∧ u.2.2.1 i = (grL (tpS S) (boS S) u.1).2.2.1 i) ∧ (∀ j, j < u.1 → u.2.2.2 j = (grL (tpS S) (boS S) u.1).2.2.2 j)) (fun u => [some (.ref (b 0)), some (.int (iI (u.1 : Int))), none, none, none, none]) (fun u => (mdO b gp (ke : Int) (un : Int) (bu : Int) (ty : Int) pc gd rd po (((grL (tpS S) (boS S) u.1).1 : Nat) : Int) wd :: [(b 1, IA kI 801 G), (b 14, IA kI 16 u.2.1), (b 15, IA kI 16 u.2.2.1), (b 16, IA kI 16 u.2.2.2), (b 17, IA kI 16 RK)])) (0, TO, BO, BE) ?_ rfl rfl (fun u hJ ih7 => ?_)
  · dsimp only
    exact ⟨Nat.zero_le _, fun q hq => absurd hq (Nat.not_lt_zero q), fun q hq => absurd hq (Nat.not_lt_zero q)⟩
  obtain ⟨k, TO2, BO2, BE2⟩ := u
  try dsimp only at hJ ih7 ⊢
  try dsimp only [List.cons_append, List.nil_append, padO, mdO, shW, trW, txW, hiW, liW, woW, taW]
  obtain ⟨hk, hb, hl⟩ := hJ
  have hgo := grL_ok (tp := tpS S) (bo := boS S) (N := S.length) (fun k hk => (bdS hS hk).1) hk
  have hgs := grL_s (tpS S) (boS S) k
  generalize hG : grL (tpS S) (boS S) k = Gq at hb hl hgo hgs ⊢
  obtain ⟨m, gt, gb, gl⟩ := Gq
  dsimp only [mdO] at hb hl hgo hgs ⊢
  try dsimp only at hb hl hgo hgs
  refine V_iload_n XC 1 rfl dX8_findLines_7 rfl ?_
  refine V_aload_n XC 0 rfl dX8_findLines_8 rfl ?_
  refine V_callV (rest := _) (q0 := 0) XC (c_X8_strokes l D kI kC _ _ _ _ _ _ _ _ _ _ _ _ _ ) gX8_findLines_X8_strokes rfl kmX8_strokes ⟨⟨Nat.le_of_ble_eq_true rfl, Nat.le_of_ble_eq_true rfl⟩, Nat.le_of_ble_eq_true rfl, Nat.le_of_ble_eq_true rfl⟩ ⟨rfl, rfl⟩ rfl rfl (Nat.le_of_ble_eq_true rfl) [0, 1] rfl rfl (fun _ => rfl) rfl rfl dX8_findLines_9 (kR_of rfl (fun r9 hq9 => ?_))
  subst hq9
  rw [hN0]
  refine V_icmp_ge XC 201 dX8_findLines_12 (by decide) ⟨by omega, by omega⟩ ⟨by omega, by omega⟩ (fun h12 => ?_) (fun h12 => ?_)
  · skip
    obtain rfl : k = S.length := by omega
    have hGS : GS S = (m, gt, gb, gl) := by
      unfold GS
      exact hG
    have hlb : ∀ i, i < m → 0 ≤ TO2 i ∧ TO2 i ≤ 1000 ∧ 0 ≤ BO2 i ∧ BO2 i ≤ 1000 := fun i hi => by rw [(hb i hi).1, (hb i hi).2]; exact hgo.2.2.1 i hi
    have hmS : mS S = m := by unfold mS; rw [hGS]
    have hrk : ∀ i, i < m → rk TO2 BO2 m i = rkS S i := fun i hi => by
      unfold rkS
      rw [hmS, hGS]
      exact rk_congr hi hb
    have hm16 : m ≤ 16 := by omega
    refine V_iconst XC dX8_findLines_201 ?_
    refine V_istore_n XC 1 rfl dX8_findLines_202 (by decide) ?_
    dsimp only [List.set]
    refine V_loop (σ := Nat × (Nat → Int)) (fun u => m - u.1) (fun u => u.1 ≤ m ∧ ∀ q, q < u.1 → u.2 q = (rk TO2 BO2 m q : Int)) (fun u => [some (.ref (b 0)), some (.int (iI (u.1 : Int))), none, none, none, none]) (fun u => (mdO b gp (ke : Int) (un : Int) (bu : Int) (ty : Int) pc gd rd po (m : Int) wd :: [(b 1, IA kI 801 G), (b 14, IA kI 16 TO2), (b 15, IA kI 16 BO2), (b 16, IA kI 16 BE2), (b 17, IA kI 16 u.2)])) (0, RK) ?_ rfl rfl (fun u hJ ih203 => ?_)
    · dsimp only
      exact ⟨Nat.zero_le _, fun q hq => absurd hq (Nat.not_lt_zero q)⟩
    obtain ⟨i, RK2⟩ := u
    try dsimp only at hJ ih203 ⊢
    try dsimp only [List.cons_append, List.nil_append, padO, mdO, shW, trW, txW, hiW, liW, woW, taW]
    obtain ⟨hi, hR⟩ := hJ
    refine V_iload_n XC 1 rfl dX8_findLines_203 rfl ?_
    refine V_aload_n XC 0 rfl dX8_findLines_204 rfl ?_
    refine V_get XC 22 flX8_findLines_192 0 rfl rfl dX8_findLines_205 ?_
    refine V_icmp_ge XC 263 dX8_findLines_208 (by decide) ⟨by omega, by omega⟩ ⟨by omega, by omega⟩ (fun h208 => ?_) (fun h208 => ?_)
    · skip
      refine V_vret XC (m, TO2, BO2, BE2, RK2) hrV rfl dX8_findLines_263 ?_
      obtain rfl : m = i := by omega
      rw [hmS, hGS]
      try dsimp only
      exact ⟨rfl, hl, fun i hi => ⟨by rw [hR i hi, hrk i hi], hb i hi⟩⟩
    have hli := hlb i (by omega)
    refine V_aload_n XC 0 rfl dX8_findLines_211 rfl ?_
    refine V_get XC 26 flX8_findLines_63 0 rfl rfl dX8_findLines_212 ?_
    refine V_iload_n XC 1 rfl dX8_findLines_215 rfl ?_
    refine V_iconst XC dX8_findLines_216 ?_
    refine V_iast XC (i) 5 rfl (by omega) (by omega) (by decide) dX8_findLines_217 ?_
    dsimp only [List.set]
    refine V_iconst XC dX8_findLines_218 ?_
    refine V_istore_n XC 2 rfl dX8_findLines_219 (by decide) ?_
    dsimp only [List.set]
    refine V_loop (σ := Nat) (fun u => m - u) (fun u => u ≤ m) (fun u => [some (.ref (b 0)), some (.int (iI (i : Int))), some (.int (iI (u : Int))), none, none, none]) (fun u => (mdO b gp (ke : Int) (un : Int) (bu : Int) (ty : Int) pc gd rd po (m : Int) wd :: [(b 1, IA kI 801 G), (b 14, IA kI 16 TO2), (b 15, IA kI 16 BO2), (b 16, IA kI 16 BE2), (b 17, IA kI 16 (upz RK2 i ((fb_ct (fun o => lx TO2 BO2 o i) u : Nat) : Int)))])) (0) (Nat.zero_le _) rfl rfl (fun u hJ ih220 => ?_)
    obtain ⟨o, rfl⟩ : ∃ z, z = u := ⟨_, rfl⟩
    try dsimp only at hJ ih220 ⊢
    try dsimp only [List.cons_append, List.nil_append, padO, mdO, shW, trW, txW, hiW, liW, woW, taW]
    obtain ho := hJ
    refine V_iload_n XC 2 rfl dX8_findLines_220 rfl ?_
    refine V_aload_n XC 0 rfl dX8_findLines_221 rfl ?_
    refine V_get XC 22 flX8_findLines_192 0 rfl rfl dX8_findLines_222 ?_
    refine V_icmp_ge XC 257 dX8_findLines_225 (by decide) ⟨by omega, by omega⟩ ⟨by omega, by omega⟩ (fun h225 => ?_) (fun h225 => ?_)
    · skip
      obtain rfl : m = o := by omega
      refine V_iinc XC dX8_findLines_257 rfl (by decide) ?_
      dsimp only [List.set]
      refine V_goto XC 203 dX8_findLines_260 (by decide) ?_
      refine V_kill 2 ?_
      dsimp only [List.set]
      refine ih203 (i + 1, upz RK2 i (rk TO2 BO2 m i : Int)) ⟨by (try dsimp only); omega, fun q hq => ?_⟩ (by (try dsimp only); omega)
      try dsimp only at hq ⊢
      by_cases z : q = i
      · subst z; rw [upz_s]
      · rw [upz_n z]; exact hR q (by omega)
    have hlo := hlb o (by omega)
    have i1 : IR (TO2 o) := ⟨by omega, by omega⟩
    have i2 : IR (TO2 i) := ⟨by omega, by omega⟩
    have i3 : IR (BO2 o) := ⟨by omega, by omega⟩
    have i4 : IR (BO2 i) := ⟨by omega, by omega⟩
    refine V_aload_n XC 0 rfl dX8_findLines_228 rfl ?_
    refine V_get XC 26 flX8_findLines_63 0 rfl rfl dX8_findLines_229 ?_
    refine V_iload_n XC 1 rfl dX8_findLines_232 rfl ?_
    refine V_dup2 XC dX8_findLines_233 rfl rfl ?_
    refine V_iald XC (i) 5 rfl (by omega) (by omega) (by decide) dX8_findLines_234 ?_
    rw [upz_s]
    refine V_aload_n XC 0 rfl dX8_findLines_235 rfl ?_
    refine V_iload_n XC 2 rfl dX8_findLines_236 rfl ?_
    refine V_iload_n XC 1 rfl dX8_findLines_237 rfl ?_
    refine V_callV (rest := _) (q0 := 0) XC (c_X8_isAbove l D kI kC _ _ _ _ _ _ _ _ _ _ _ _ _ _ _ _ (by omega) (by omega) (by assumption) (by assumption) (by assumption) (by assumption)) gX8_findLines_X8_isAbove rfl kmX8_isAbove ⟨⟨Nat.le_of_ble_eq_true rfl, Nat.le_of_ble_eq_true rfl⟩, Nat.le_of_ble_eq_true rfl, Nat.le_of_ble_eq_true rfl⟩ ⟨rfl, rfl⟩ rfl rfl (Nat.le_of_ble_eq_true rfl) [0, 2, 3] rfl rfl (fun _ => rfl) rfl rfl dX8_findLines_238 (kR_of rfl (fun r238 hq238 => ?_))
    subst hq238
    refine V_bif_eq XC 248 dX8_findLines_241 (by decide) (fun h241 => ?_) (fun h241 => ?_)
    · skip
      refine V_iconst XC dX8_findLines_248 ?_
      refine V_iadd XC dX8_findLines_249 ?_
      refine V_iast XC (i) 5 rfl (by omega) (by omega) (by decide) dX8_findLines_250 ?_
      dsimp only [List.set]
      rw [upz_uu]
      refine V_iinc XC dX8_findLines_251 rfl (by decide) ?_
      dsimp only [List.set]
      refine V_goto XC 220 dX8_findLines_254 (by decide) ?_
      first
      | (rw [ct_s1 (p := fun o => lx TO2 BO2 o i) h241]; exact ih220 (o + 1) (by omega) (by omega))
      | (rw [ct_s0 (p := fun o => lx TO2 BO2 o i) h241]; exact ih220 (o + 1) (by omega) (by omega))
    refine V_iconst XC dX8_findLines_244 ?_
    refine V_goto XC 249 dX8_findLines_245 (by decide) ?_
    refine V_iadd XC dX8_findLines_249 ?_
    refine V_iast XC (i) 5 rfl (by omega) (by omega) (by decide) dX8_findLines_250 ?_
    dsimp only [List.set]
    rw [upz_uu]
    refine V_iinc XC dX8_findLines_251 rfl (by decide) ?_
    dsimp only [List.set]
    refine V_goto XC 220 dX8_findLines_254 (by decide) ?_
    first
    | (rw [ct_s1 (p := fun o => lx TO2 BO2 o i) h241]; exact ih220 (o + 1) (by omega) (by omega))
    | (rw [ct_s0 (p := fun o => lx TO2 BO2 o i) h241]; exact ih220 (o + 1) (by omega) (by omega))
  have hbd := (bdS hS (k := k) (by omega)).1
  refine V_aload_n XC 0 rfl dX8_findLines_15 rfl ?_
  refine V_iload_n XC 1 rfl dX8_findLines_16 rfl ?_
  refine V_iconst XC dX8_findLines_17 ?_
  refine V_iconst XC dX8_findLines_18 ?_
  refine V_callV (rest := _) (q0 := 0) XC (c_X8_bound l D kI kC _ _ _ _ _ _ _ _ _ _ _ _ _ k true false (by omega) (NowR_ok hN hS (by omega))) gX8_findLines_X8_bound rfl kmX8_bound ⟨⟨Nat.le_of_ble_eq_true rfl, Nat.le_of_ble_eq_true rfl⟩, Nat.le_of_ble_eq_true rfl, Nat.le_of_ble_eq_true rfl⟩ ⟨rfl, rfl⟩ rfl rfl (Nat.le_of_ble_eq_true rfl) [0, 1] rfl rfl (fun _ => rfl) rfl rfl dX8_findLines_19 (kR_of rfl (fun r19 hq19 => ?_))
  subst hq19
  rw [show bdR (skR G k) true false = tpS S k from by unfold tpS; rw [NowR_at hN (by omega)]; rfl]
  refine V_istore_n XC 2 rfl dX8_findLines_22 (by decide) ?_
  dsimp only [List.set]
  refine V_aload_n XC 0 rfl dX8_findLines_23 rfl ?_
  refine V_iload_n XC 1 rfl dX8_findLines_24 rfl ?_
  refine V_iconst XC dX8_findLines_25 ?_
  refine V_iconst XC dX8_findLines_26 ?_
  refine V_callV (rest := _) (q0 := 0) XC (c_X8_bound l D kI kC _ _ _ _ _ _ _ _ _ _ _ _ _ k true true (by omega) (NowR_ok hN hS (by omega))) gX8_findLines_X8_bound rfl kmX8_bound ⟨⟨Nat.le_of_ble_eq_true rfl, Nat.le_of_ble_eq_true rfl⟩, Nat.le_of_ble_eq_true rfl, Nat.le_of_ble_eq_true rfl⟩ ⟨rfl, rfl⟩ rfl rfl (Nat.le_of_ble_eq_true rfl) [0, 1] rfl rfl (fun _ => rfl) rfl rfl dX8_findLines_27 (kR_of rfl (fun r27 hq27 => ?_))
  subst hq27
  rw [show bdR (skR G k) true true = boS S k from by unfold boS; rw [NowR_at hN (by omega)]; rfl]
  refine V_istore_n XC 3 rfl dX8_findLines_30 (by decide) ?_
  dsimp only [List.set]
  refine V_bipush XC dX8_findLines_31 (by decide) ?_
  refine V_istore XC dX8_findLines_33 (by decide) ?_
  dsimp only [List.set]
  refine V_iconst XC dX8_findLines_35 ?_
  refine V_istore XC dX8_findLines_36 (by decide) ?_
  dsimp only [List.set]
  refine V_loopR (σ := Nat) (fun u => m - u) (fun u => u ≤ m) (fun u => [some (.ref (b 0)), some (.int (iI (k : Int))), some (.int (iI (tpS S k))), some (.int (iI (boS S k))), some (.int (iI (bf TO2 BO2 (tpS S k) (boS S k) u).1)), some (.int (iI (u : Int)))]) (0) (Nat.zero_le _) rfl (fun u hJ ih38 => ?_)
  obtain ⟨i, rfl⟩ : ∃ z, z = u := ⟨_, rfl⟩
  try dsimp only at hJ ih38 ⊢
  obtain hi := hJ
  refine V_iload XC dX8_findLines_38 rfl ?_
  refine V_aload_n XC 0 rfl dX8_findLines_40 rfl ?_
  refine V_get XC 22 flX8_findLines_192 0 rfl rfl dX8_findLines_41 ?_
  refine V_icmp_ge XC 92 dX8_findLines_44 (by decide) ⟨by omega, by omega⟩ ⟨by omega, by omega⟩ (fun h44 => ?_) (fun h44 => ?_)
  · skip
    obtain rfl : m = i := by omega
    rw [bf_congr hb]
    have hbr := bf_rng (bt := gt) (bb := gb) (t := tpS S k) (b := boS S k) (m := m)
    refine V_iload XC dX8_findLines_92 rfl ?_
    refine V_if_ge XC 129 dX8_findLines_94 (by decide) ⟨by omega, by omega⟩ (fun h94 => ?_) (fun h94 => ?_)
    · skip
      have he : ¬ (bf gt gb (tpS S k) (boS S k) m).1 = -5 := by omega
      obtain ⟨r, hr⟩ : ∃ r : Nat, (bf gt gb (tpS S k) (boS S k) m).1 = (r : Int) := ⟨(bf gt gb (tpS S k) (boS S k) m).1.toNat, by omega⟩
      have hbr2 := hb r (by omega)
      have hgr2 := hgo.2.2.1 r (by omega)
      have hgmn : min (tpS S k) (gt r) = tpS S k ∨ min (tpS S k) (gt r) = gt r := by omega
      rw [hr]
      refine V_aload_n XC 0 rfl dX8_findLines_129 rfl ?_
      refine V_get XC 23 flX8_findLines_54 0 rfl rfl dX8_findLines_130 ?_
      refine V_iload XC dX8_findLines_133 rfl ?_
      refine V_iload_n XC 2 rfl dX8_findLines_135 rfl ?_
      refine V_aload_n XC 0 rfl dX8_findLines_136 rfl ?_
      refine V_get XC 23 flX8_findLines_54 0 rfl rfl dX8_findLines_137 ?_
      refine V_iload XC dX8_findLines_140 rfl ?_
      refine V_iald XC (_) 2 rfl rfl (by omega) (by decide) dX8_findLines_142 ?_
      first | rw [upz_s] | rw [hbr2.1]
      refine V_icmp_ge XC 150 dX8_findLines_143 (by decide) ⟨by omega, by omega⟩ ⟨by omega, by omega⟩ (fun h143 => ?_) (fun h143 => ?_)
      · skip
        first | (exact absurd (Int.le_refl _) (by omega)) | skip
        refine V_aload_n XC 0 rfl dX8_findLines_150 rfl ?_
        refine V_get XC 23 flX8_findLines_54 0 rfl rfl dX8_findLines_151 ?_
        refine V_iload XC dX8_findLines_154 rfl ?_
        refine V_iald XC (_) 2 rfl rfl (by omega) (by decide) dX8_findLines_156 ?_
        first | rw [upz_s] | rw [hbr2.1]
        refine V_iast XC (_) 2 rfl rfl (by omega) (by decide) dX8_findLines_157 ?_
        dsimp only [List.set]
        first | rw [upz_uu] | rw [show tpS S k = min (tpS S k) (gt r) by omega] | rw [show gt r = min (tpS S k) (gt r) by omega]
        refine V_aload_n XC 0 rfl dX8_findLines_158 rfl ?_
        refine V_get XC 24 flX8_findLines_57 0 rfl rfl dX8_findLines_159 ?_
        refine V_iload XC dX8_findLines_162 rfl ?_
        refine V_iload_n XC 3 rfl dX8_findLines_164 rfl ?_
        refine V_aload_n XC 0 rfl dX8_findLines_165 rfl ?_
        refine V_get XC 24 flX8_findLines_57 0 rfl rfl dX8_findLines_166 ?_
        refine V_iload XC dX8_findLines_169 rfl ?_
        refine V_iald XC (_) 3 rfl rfl (by omega) (by decide) dX8_findLines_171 ?_
        first | rw [upz_s] | rw [hbr2.2]
        refine V_icmp_le XC 179 dX8_findLines_172 (by decide) ⟨by omega, by omega⟩ ⟨by omega, by omega⟩ (fun h172 => ?_) (fun h172 => ?_)
        · skip
          skip
          refine V_aload_n XC 0 rfl dX8_findLines_179 rfl ?_
          refine V_get XC 24 flX8_findLines_57 0 rfl rfl dX8_findLines_180 ?_
          refine V_iload XC dX8_findLines_183 rfl ?_
          refine V_iald XC (_) 3 rfl rfl (by omega) (by decide) dX8_findLines_185 ?_
          first | rw [upz_s] | rw [hbr2.2]
          refine V_iast XC (_) 3 rfl rfl (by omega) (by decide) dX8_findLines_186 ?_
          dsimp only [List.set]
          first | rw [upz_uu] | rw [show boS S k = max (boS S k) (gb r) by omega] | rw [show gb r = max (boS S k) (gb r) by omega]
          refine V_aload_n XC 0 rfl dX8_findLines_187 rfl ?_
          refine V_get XC 25 flX8_findLines_60 0 rfl rfl dX8_findLines_188 ?_
          refine V_iload_n XC 1 rfl dX8_findLines_191 rfl ?_
          refine V_iload XC dX8_findLines_192 rfl ?_
          refine V_iast XC (k) 4 rfl (by omega) (by omega) (by decide) dX8_findLines_194 ?_
          dsimp only [List.set]
          refine V_iinc XC dX8_findLines_195 rfl (by decide) ?_
          dsimp only [List.set]
          refine V_goto XC 7 dX8_findLines_198 (by decide) ?_
          refine V_kill 2 ?_
          dsimp only [List.set]
          refine V_kill 3 ?_
          dsimp only [List.set]
          refine V_kill 4 ?_
          dsimp only [List.set]
          refine V_kill 5 ?_
          dsimp only [List.set]
          first
          | (have hg2 : grLT (tpS S) (boS S) k (m, gt, gb, gl) = (m + 1, upz gt m (tpS S k), upz gb m (boS S k), upz gl k (m : Int)) := if_pos he
             rw [hg2] at hgs
             have hih := ih7 (k + 1, upz TO2 m (tpS S k), upz BO2 m (boS S k), upz BE2 k (m : Int))
             try dsimp only at hih
             rw [hgs] at hih
             try dsimp only at hih
             refine hih ⟨by omega, fun i hi => ?_, fun i hi => ?_⟩ (by omega)
             · try dsimp only at hi ⊢
               by_cases z : i = m
               · subst z; rw [upz_s, upz_s, upz_s, upz_s]; exact ⟨rfl, rfl⟩
               · rw [upz_n z, upz_n z, upz_n z, upz_n z]; exact hb i (by omega)
             · try dsimp only
               by_cases z : i = k
               · subst z; rw [upz_s, upz_s]
               · rw [upz_n z, upz_n z]; exact hl i (by omega))
          | (have hg2 : grLT (tpS S) (boS S) k (m, gt, gb, gl) = (m, upz gt r (min (tpS S k) (gt r)), upz gb r (max (boS S k) (gb r)), upz gl k (r : Int)) := by
               unfold grLT
               rw [if_neg he]
               try dsimp only
               rw [hr, Int.toNat_natCast]
             rw [hg2] at hgs
             have hih := ih7 (k + 1, upz TO2 r (min (tpS S k) (gt r)), upz BO2 r (max (boS S k) (gb r)), upz BE2 k (r : Int))
             try dsimp only at hih
             rw [hgs] at hih
             try dsimp only at hih
             refine hih ⟨by omega, fun i hi => ?_, fun i hi => ?_⟩ (by omega)
             · try dsimp only at hi ⊢
               by_cases z : i = r
               · subst z; rw [upz_s, upz_s, upz_s, upz_s]; exact ⟨rfl, rfl⟩
               · rw [upz_n z, upz_n z, upz_n z, upz_n z]; exact hb i (by omega)
             · try dsimp only
               by_cases z : i = k
               · subst z; rw [upz_s, upz_s]
               · rw [upz_n z, upz_n z]; exact hl i (by omega))
        refine V_iload_n XC 3 rfl dX8_findLines_175 rfl ?_
        refine V_goto XC 186 dX8_findLines_176 (by decide) ?_
        refine V_iast XC (_) 3 rfl rfl (by omega) (by decide) dX8_findLines_186 ?_
        dsimp only [List.set]
        first | rw [upz_uu] | rw [show boS S k = max (boS S k) (gb r) by omega] | rw [show gb r = max (boS S k) (gb r) by omega]
        refine V_aload_n XC 0 rfl dX8_findLines_187 rfl ?_
        refine V_get XC 25 flX8_findLines_60 0 rfl rfl dX8_findLines_188 ?_
        refine V_iload_n XC 1 rfl dX8_findLines_191 rfl ?_
        refine V_iload XC dX8_findLines_192 rfl ?_
        refine V_iast XC (k) 4 rfl (by omega) (by omega) (by decide) dX8_findLines_194 ?_
        dsimp only [List.set]
        refine V_iinc XC dX8_findLines_195 rfl (by decide) ?_
        dsimp only [List.set]
        refine V_goto XC 7 dX8_findLines_198 (by decide) ?_
        refine V_kill 2 ?_
        dsimp only [List.set]
        refine V_kill 3 ?_
        dsimp only [List.set]
        refine V_kill 4 ?_
        dsimp only [List.set]
        refine V_kill 5 ?_
        dsimp only [List.set]
        first
        | (have hg2 : grLT (tpS S) (boS S) k (m, gt, gb, gl) = (m + 1, upz gt m (tpS S k), upz gb m (boS S k), upz gl k (m : Int)) := if_pos he
           rw [hg2] at hgs
           have hih := ih7 (k + 1, upz TO2 m (tpS S k), upz BO2 m (boS S k), upz BE2 k (m : Int))
           try dsimp only at hih
           rw [hgs] at hih
           try dsimp only at hih
           refine hih ⟨by omega, fun i hi => ?_, fun i hi => ?_⟩ (by omega)
           · try dsimp only at hi ⊢
             by_cases z : i = m
             · subst z; rw [upz_s, upz_s, upz_s, upz_s]; exact ⟨rfl, rfl⟩
             · rw [upz_n z, upz_n z, upz_n z, upz_n z]; exact hb i (by omega)
           · try dsimp only
             by_cases z : i = k
             · subst z; rw [upz_s, upz_s]
             · rw [upz_n z, upz_n z]; exact hl i (by omega))
        | (have hg2 : grLT (tpS S) (boS S) k (m, gt, gb, gl) = (m, upz gt r (min (tpS S k) (gt r)), upz gb r (max (boS S k) (gb r)), upz gl k (r : Int)) := by
             unfold grLT
             rw [if_neg he]
             try dsimp only
             rw [hr, Int.toNat_natCast]
           rw [hg2] at hgs
           have hih := ih7 (k + 1, upz TO2 r (min (tpS S k) (gt r)), upz BO2 r (max (boS S k) (gb r)), upz BE2 k (r : Int))
           try dsimp only at hih
           rw [hgs] at hih
           try dsimp only at hih
           refine hih ⟨by omega, fun i hi => ?_, fun i hi => ?_⟩ (by omega)
           · try dsimp only at hi ⊢
             by_cases z : i = r
             · subst z; rw [upz_s, upz_s, upz_s, upz_s]; exact ⟨rfl, rfl⟩
             · rw [upz_n z, upz_n z, upz_n z, upz_n z]; exact hb i (by omega)
           · try dsimp only
             by_cases z : i = k
             · subst z; rw [upz_s, upz_s]
             · rw [upz_n z, upz_n z]; exact hl i (by omega))
      refine V_iload_n XC 2 rfl dX8_findLines_146 rfl ?_
      refine V_goto XC 157 dX8_findLines_147 (by decide) ?_
      refine V_iast XC (_) 2 rfl rfl (by omega) (by decide) dX8_findLines_157 ?_
      dsimp only [List.set]
      first | rw [upz_uu] | rw [show tpS S k = min (tpS S k) (gt r) by omega] | rw [show gt r = min (tpS S k) (gt r) by omega]
      refine V_aload_n XC 0 rfl dX8_findLines_158 rfl ?_
      refine V_get XC 24 flX8_findLines_57 0 rfl rfl dX8_findLines_159 ?_
      refine V_iload XC dX8_findLines_162 rfl ?_
      refine V_iload_n XC 3 rfl dX8_findLines_164 rfl ?_
      refine V_aload_n XC 0 rfl dX8_findLines_165 rfl ?_
      refine V_get XC 24 flX8_findLines_57 0 rfl rfl dX8_findLines_166 ?_
      refine V_iload XC dX8_findLines_169 rfl ?_
      refine V_iald XC (_) 3 rfl rfl (by omega) (by decide) dX8_findLines_171 ?_
      first | rw [upz_s] | rw [hbr2.2]
      refine V_icmp_le XC 179 dX8_findLines_172 (by decide) ⟨by omega, by omega⟩ ⟨by omega, by omega⟩ (fun h172 => ?_) (fun h172 => ?_)
      · skip
        skip
        refine V_aload_n XC 0 rfl dX8_findLines_179 rfl ?_
        refine V_get XC 24 flX8_findLines_57 0 rfl rfl dX8_findLines_180 ?_
        refine V_iload XC dX8_findLines_183 rfl ?_
        refine V_iald XC (_) 3 rfl rfl (by omega) (by decide) dX8_findLines_185 ?_
        first | rw [upz_s] | rw [hbr2.2]
        refine V_iast XC (_) 3 rfl rfl (by omega) (by decide) dX8_findLines_186 ?_
        dsimp only [List.set]
        first | rw [upz_uu] | rw [show boS S k = max (boS S k) (gb r) by omega] | rw [show gb r = max (boS S k) (gb r) by omega]
        refine V_aload_n XC 0 rfl dX8_findLines_187 rfl ?_
        refine V_get XC 25 flX8_findLines_60 0 rfl rfl dX8_findLines_188 ?_
        refine V_iload_n XC 1 rfl dX8_findLines_191 rfl ?_
        refine V_iload XC dX8_findLines_192 rfl ?_
        refine V_iast XC (k) 4 rfl (by omega) (by omega) (by decide) dX8_findLines_194 ?_
        dsimp only [List.set]
        refine V_iinc XC dX8_findLines_195 rfl (by decide) ?_
        dsimp only [List.set]
        refine V_goto XC 7 dX8_findLines_198 (by decide) ?_
        refine V_kill 2 ?_
        dsimp only [List.set]
        refine V_kill 3 ?_
        dsimp only [List.set]
        refine V_kill 4 ?_
        dsimp only [List.set]
        refine V_kill 5 ?_
        dsimp only [List.set]
        first
        | (have hg2 : grLT (tpS S) (boS S) k (m, gt, gb, gl) = (m + 1, upz gt m (tpS S k), upz gb m (boS S k), upz gl k (m : Int)) := if_pos he
           rw [hg2] at hgs
           have hih := ih7 (k + 1, upz TO2 m (tpS S k), upz BO2 m (boS S k), upz BE2 k (m : Int))
           try dsimp only at hih
           rw [hgs] at hih
           try dsimp only at hih
           refine hih ⟨by omega, fun i hi => ?_, fun i hi => ?_⟩ (by omega)
           · try dsimp only at hi ⊢
             by_cases z : i = m
             · subst z; rw [upz_s, upz_s, upz_s, upz_s]; exact ⟨rfl, rfl⟩
             · rw [upz_n z, upz_n z, upz_n z, upz_n z]; exact hb i (by omega)
           · try dsimp only
             by_cases z : i = k
             · subst z; rw [upz_s, upz_s]
             · rw [upz_n z, upz_n z]; exact hl i (by omega))
        | (have hg2 : grLT (tpS S) (boS S) k (m, gt, gb, gl) = (m, upz gt r (min (tpS S k) (gt r)), upz gb r (max (boS S k) (gb r)), upz gl k (r : Int)) := by
             unfold grLT
             rw [if_neg he]
             try dsimp only
             rw [hr, Int.toNat_natCast]
           rw [hg2] at hgs
           have hih := ih7 (k + 1, upz TO2 r (min (tpS S k) (gt r)), upz BO2 r (max (boS S k) (gb r)), upz BE2 k (r : Int))
           try dsimp only at hih
           rw [hgs] at hih
           try dsimp only at hih
           refine hih ⟨by omega, fun i hi => ?_, fun i hi => ?_⟩ (by omega)
           · try dsimp only at hi ⊢
             by_cases z : i = r
             · subst z; rw [upz_s, upz_s, upz_s, upz_s]; exact ⟨rfl, rfl⟩
             · rw [upz_n z, upz_n z, upz_n z, upz_n z]; exact hb i (by omega)
           · try dsimp only
             by_cases z : i = k
             · subst z; rw [upz_s, upz_s]
             · rw [upz_n z, upz_n z]; exact hl i (by omega))
      refine V_iload_n XC 3 rfl dX8_findLines_175 rfl ?_
      refine V_goto XC 186 dX8_findLines_176 (by decide) ?_
      refine V_iast XC (_) 3 rfl rfl (by omega) (by decide) dX8_findLines_186 ?_
      dsimp only [List.set]
      first | rw [upz_uu] | rw [show boS S k = max (boS S k) (gb r) by omega] | rw [show gb r = max (boS S k) (gb r) by omega]
      refine V_aload_n XC 0 rfl dX8_findLines_187 rfl ?_
      refine V_get XC 25 flX8_findLines_60 0 rfl rfl dX8_findLines_188 ?_
      refine V_iload_n XC 1 rfl dX8_findLines_191 rfl ?_
      refine V_iload XC dX8_findLines_192 rfl ?_
      refine V_iast XC (k) 4 rfl (by omega) (by omega) (by decide) dX8_findLines_194 ?_
      dsimp only [List.set]
      refine V_iinc XC dX8_findLines_195 rfl (by decide) ?_
      dsimp only [List.set]
      refine V_goto XC 7 dX8_findLines_198 (by decide) ?_
      refine V_kill 2 ?_
      dsimp only [List.set]
      refine V_kill 3 ?_
      dsimp only [List.set]
      refine V_kill 4 ?_
      dsimp only [List.set]
      refine V_kill 5 ?_
      dsimp only [List.set]
      first
      | (have hg2 : grLT (tpS S) (boS S) k (m, gt, gb, gl) = (m + 1, upz gt m (tpS S k), upz gb m (boS S k), upz gl k (m : Int)) := if_pos he
         rw [hg2] at hgs
         have hih := ih7 (k + 1, upz TO2 m (tpS S k), upz BO2 m (boS S k), upz BE2 k (m : Int))
         try dsimp only at hih
         rw [hgs] at hih
         try dsimp only at hih
         refine hih ⟨by omega, fun i hi => ?_, fun i hi => ?_⟩ (by omega)
         · try dsimp only at hi ⊢
           by_cases z : i = m
           · subst z; rw [upz_s, upz_s, upz_s, upz_s]; exact ⟨rfl, rfl⟩
           · rw [upz_n z, upz_n z, upz_n z, upz_n z]; exact hb i (by omega)
         · try dsimp only
           by_cases z : i = k
           · subst z; rw [upz_s, upz_s]
           · rw [upz_n z, upz_n z]; exact hl i (by omega))
      | (have hg2 : grLT (tpS S) (boS S) k (m, gt, gb, gl) = (m, upz gt r (min (tpS S k) (gt r)), upz gb r (max (boS S k) (gb r)), upz gl k (r : Int)) := by
           unfold grLT
           rw [if_neg he]
           try dsimp only
           rw [hr, Int.toNat_natCast]
         rw [hg2] at hgs
         have hih := ih7 (k + 1, upz TO2 r (min (tpS S k) (gt r)), upz BO2 r (max (boS S k) (gb r)), upz BE2 k (r : Int))
         try dsimp only at hih
         rw [hgs] at hih
         try dsimp only at hih
         refine hih ⟨by omega, fun i hi => ?_, fun i hi => ?_⟩ (by omega)
         · try dsimp only at hi ⊢
           by_cases z : i = r
           · subst z; rw [upz_s, upz_s, upz_s, upz_s]; exact ⟨rfl, rfl⟩
           · rw [upz_n z, upz_n z, upz_n z, upz_n z]; exact hb i (by omega)
         · try dsimp only
           by_cases z : i = k
           · subst z; rw [upz_s, upz_s]
           · rw [upz_n z, upz_n z]; exact hl i (by omega))
    have he : (bf gt gb (tpS S k) (boS S k) m).1 = -5 := by omega
    refine V_aload_n XC 0 rfl dX8_findLines_97 rfl ?_
    refine V_get XC 22 flX8_findLines_192 0 rfl rfl dX8_findLines_98 ?_
    refine V_istore XC dX8_findLines_101 (by decide) ?_
    dsimp only [List.set]
    refine V_aload_n XC 0 rfl dX8_findLines_103 rfl ?_
    refine V_get XC 23 flX8_findLines_54 0 rfl rfl dX8_findLines_104 ?_
    refine V_iload XC dX8_findLines_107 rfl ?_
    refine V_iload_n XC 2 rfl dX8_findLines_109 rfl ?_
    refine V_iast XC (_) 2 rfl rfl (by omega) (by decide) dX8_findLines_110 ?_
    dsimp only [List.set]
    refine V_aload_n XC 0 rfl dX8_findLines_111 rfl ?_
    refine V_get XC 24 flX8_findLines_57 0 rfl rfl dX8_findLines_112 ?_
    refine V_iload XC dX8_findLines_115 rfl ?_
    refine V_iload_n XC 3 rfl dX8_findLines_117 rfl ?_
    refine V_iast XC (_) 3 rfl rfl (by omega) (by decide) dX8_findLines_118 ?_
    dsimp only [List.set]
    refine V_aload_n XC 0 rfl dX8_findLines_119 rfl ?_
    refine V_dup XC dX8_findLines_120 rfl ?_
    refine V_get XC 22 flX8_findLines_192 0 rfl rfl dX8_findLines_121 ?_
    refine V_iconst XC dX8_findLines_124 ?_
    refine V_iadd XC dX8_findLines_125 ?_
    refine V_top (y := ((m + 1 : Nat) : Int)) (by omega) ?_
    refine V_putI XC 22 flX8_findLines_192 fpX8 pdX8_22 rfl 0 rfl (Nat.le_of_ble_eq_true rfl) dX8_findLines_126 ?_
    dsimp only [List.set]
    refine V_aload_n XC 0 rfl dX8_findLines_129 rfl ?_
    refine V_get XC 23 flX8_findLines_54 0 rfl rfl dX8_findLines_130 ?_
    refine V_iload XC dX8_findLines_133 rfl ?_
    refine V_iload_n XC 2 rfl dX8_findLines_135 rfl ?_
    refine V_aload_n XC 0 rfl dX8_findLines_136 rfl ?_
    refine V_get XC 23 flX8_findLines_54 0 rfl rfl dX8_findLines_137 ?_
    refine V_iload XC dX8_findLines_140 rfl ?_
    refine V_iald XC (_) 2 rfl rfl (by omega) (by decide) dX8_findLines_142 ?_
    first | rw [upz_s] | rw [hbr2.1]
    refine V_icmp_ge XC 150 dX8_findLines_143 (by decide) ⟨by omega, by omega⟩ ⟨by omega, by omega⟩ (fun h143 => ?_) (fun h143 => ?_)
    · skip
      first | (exact absurd (Int.le_refl _) (by omega)) | skip
      refine V_aload_n XC 0 rfl dX8_findLines_150 rfl ?_
      refine V_get XC 23 flX8_findLines_54 0 rfl rfl dX8_findLines_151 ?_
      refine V_iload XC dX8_findLines_154 rfl ?_
      refine V_iald XC (_) 2 rfl rfl (by omega) (by decide) dX8_findLines_156 ?_
      first | rw [upz_s] | rw [hbr2.1]
      refine V_iast XC (_) 2 rfl rfl (by omega) (by decide) dX8_findLines_157 ?_
      dsimp only [List.set]
      first | rw [upz_uu] | rw [show tpS S k = min (tpS S k) (gt r) by omega] | rw [show gt r = min (tpS S k) (gt r) by omega]
      refine V_aload_n XC 0 rfl dX8_findLines_158 rfl ?_
      refine V_get XC 24 flX8_findLines_57 0 rfl rfl dX8_findLines_159 ?_
      refine V_iload XC dX8_findLines_162 rfl ?_
      refine V_iload_n XC 3 rfl dX8_findLines_164 rfl ?_
      refine V_aload_n XC 0 rfl dX8_findLines_165 rfl ?_
      refine V_get XC 24 flX8_findLines_57 0 rfl rfl dX8_findLines_166 ?_
      refine V_iload XC dX8_findLines_169 rfl ?_
      refine V_iald XC (_) 3 rfl rfl (by omega) (by decide) dX8_findLines_171 ?_
      first | rw [upz_s] | rw [hbr2.2]
      refine V_icmp_le XC 179 dX8_findLines_172 (by decide) ⟨by omega, by omega⟩ ⟨by omega, by omega⟩ (fun h172 => ?_) (fun h172 => ?_)
      · skip
        skip
        refine V_aload_n XC 0 rfl dX8_findLines_179 rfl ?_
        refine V_get XC 24 flX8_findLines_57 0 rfl rfl dX8_findLines_180 ?_
        refine V_iload XC dX8_findLines_183 rfl ?_
        refine V_iald XC (_) 3 rfl rfl (by omega) (by decide) dX8_findLines_185 ?_
        first | rw [upz_s] | rw [hbr2.2]
        refine V_iast XC (_) 3 rfl rfl (by omega) (by decide) dX8_findLines_186 ?_
        dsimp only [List.set]
        first | rw [upz_uu] | rw [show boS S k = max (boS S k) (gb r) by omega] | rw [show gb r = max (boS S k) (gb r) by omega]
        refine V_aload_n XC 0 rfl dX8_findLines_187 rfl ?_
        refine V_get XC 25 flX8_findLines_60 0 rfl rfl dX8_findLines_188 ?_
        refine V_iload_n XC 1 rfl dX8_findLines_191 rfl ?_
        refine V_iload XC dX8_findLines_192 rfl ?_
        refine V_iast XC (k) 4 rfl (by omega) (by omega) (by decide) dX8_findLines_194 ?_
        dsimp only [List.set]
        refine V_iinc XC dX8_findLines_195 rfl (by decide) ?_
        dsimp only [List.set]
        refine V_goto XC 7 dX8_findLines_198 (by decide) ?_
        refine V_kill 2 ?_
        dsimp only [List.set]
        refine V_kill 3 ?_
        dsimp only [List.set]
        refine V_kill 4 ?_
        dsimp only [List.set]
        refine V_kill 5 ?_
        dsimp only [List.set]
        first
        | (have hg2 : grLT (tpS S) (boS S) k (m, gt, gb, gl) = (m + 1, upz gt m (tpS S k), upz gb m (boS S k), upz gl k (m : Int)) := if_pos he
           rw [hg2] at hgs
           have hih := ih7 (k + 1, upz TO2 m (tpS S k), upz BO2 m (boS S k), upz BE2 k (m : Int))
           try dsimp only at hih
           rw [hgs] at hih
           try dsimp only at hih
           refine hih ⟨by omega, fun i hi => ?_, fun i hi => ?_⟩ (by omega)
           · try dsimp only at hi ⊢
             by_cases z : i = m
             · subst z; rw [upz_s, upz_s, upz_s, upz_s]; exact ⟨rfl, rfl⟩
             · rw [upz_n z, upz_n z, upz_n z, upz_n z]; exact hb i (by omega)
           · try dsimp only
             by_cases z : i = k
             · subst z; rw [upz_s, upz_s]
             · rw [upz_n z, upz_n z]; exact hl i (by omega))
        | (have hg2 : grLT (tpS S) (boS S) k (m, gt, gb, gl) = (m, upz gt r (min (tpS S k) (gt r)), upz gb r (max (boS S k) (gb r)), upz gl k (r : Int)) := by
             unfold grLT
             rw [if_neg he]
             try dsimp only
             rw [hr, Int.toNat_natCast]
           rw [hg2] at hgs
           have hih := ih7 (k + 1, upz TO2 r (min (tpS S k) (gt r)), upz BO2 r (max (boS S k) (gb r)), upz BE2 k (r : Int))
           try dsimp only at hih
           rw [hgs] at hih
           try dsimp only at hih
           refine hih ⟨by omega, fun i hi => ?_, fun i hi => ?_⟩ (by omega)
           · try dsimp only at hi ⊢
             by_cases z : i = r
             · subst z; rw [upz_s, upz_s, upz_s, upz_s]; exact ⟨rfl, rfl⟩
             · rw [upz_n z, upz_n z, upz_n z, upz_n z]; exact hb i (by omega)
           · try dsimp only
             by_cases z : i = k
             · subst z; rw [upz_s, upz_s]
             · rw [upz_n z, upz_n z]; exact hl i (by omega))
      refine V_iload_n XC 3 rfl dX8_findLines_175 rfl ?_
      refine V_goto XC 186 dX8_findLines_176 (by decide) ?_
      refine V_iast XC (_) 3 rfl rfl (by omega) (by decide) dX8_findLines_186 ?_
      dsimp only [List.set]
      first | rw [upz_uu] | rw [show boS S k = max (boS S k) (gb r) by omega] | rw [show gb r = max (boS S k) (gb r) by omega]
      refine V_aload_n XC 0 rfl dX8_findLines_187 rfl ?_
      refine V_get XC 25 flX8_findLines_60 0 rfl rfl dX8_findLines_188 ?_
      refine V_iload_n XC 1 rfl dX8_findLines_191 rfl ?_
      refine V_iload XC dX8_findLines_192 rfl ?_
      refine V_iast XC (k) 4 rfl (by omega) (by omega) (by decide) dX8_findLines_194 ?_
      dsimp only [List.set]
      refine V_iinc XC dX8_findLines_195 rfl (by decide) ?_
      dsimp only [List.set]
      refine V_goto XC 7 dX8_findLines_198 (by decide) ?_
      refine V_kill 2 ?_
      dsimp only [List.set]
      refine V_kill 3 ?_
      dsimp only [List.set]
      refine V_kill 4 ?_
      dsimp only [List.set]
      refine V_kill 5 ?_
      dsimp only [List.set]
      first
      | (have hg2 : grLT (tpS S) (boS S) k (m, gt, gb, gl) = (m + 1, upz gt m (tpS S k), upz gb m (boS S k), upz gl k (m : Int)) := if_pos he
         rw [hg2] at hgs
         have hih := ih7 (k + 1, upz TO2 m (tpS S k), upz BO2 m (boS S k), upz BE2 k (m : Int))
         try dsimp only at hih
         rw [hgs] at hih
         try dsimp only at hih
         refine hih ⟨by omega, fun i hi => ?_, fun i hi => ?_⟩ (by omega)
         · try dsimp only at hi ⊢
           by_cases z : i = m
           · subst z; rw [upz_s, upz_s, upz_s, upz_s]; exact ⟨rfl, rfl⟩
           · rw [upz_n z, upz_n z, upz_n z, upz_n z]; exact hb i (by omega)
         · try dsimp only
           by_cases z : i = k
           · subst z; rw [upz_s, upz_s]
           · rw [upz_n z, upz_n z]; exact hl i (by omega))
      | (have hg2 : grLT (tpS S) (boS S) k (m, gt, gb, gl) = (m, upz gt r (min (tpS S k) (gt r)), upz gb r (max (boS S k) (gb r)), upz gl k (r : Int)) := by
           unfold grLT
           rw [if_neg he]
           try dsimp only
           rw [hr, Int.toNat_natCast]
         rw [hg2] at hgs
         have hih := ih7 (k + 1, upz TO2 r (min (tpS S k) (gt r)), upz BO2 r (max (boS S k) (gb r)), upz BE2 k (r : Int))
         try dsimp only at hih
         rw [hgs] at hih
         try dsimp only at hih
         refine hih ⟨by omega, fun i hi => ?_, fun i hi => ?_⟩ (by omega)
         · try dsimp only at hi ⊢
           by_cases z : i = r
           · subst z; rw [upz_s, upz_s, upz_s, upz_s]; exact ⟨rfl, rfl⟩
           · rw [upz_n z, upz_n z, upz_n z, upz_n z]; exact hb i (by omega)
         · try dsimp only
           by_cases z : i = k
           · subst z; rw [upz_s, upz_s]
           · rw [upz_n z, upz_n z]; exact hl i (by omega))
    refine V_iload_n XC 2 rfl dX8_findLines_146 rfl ?_
    refine V_goto XC 157 dX8_findLines_147 (by decide) ?_
    refine V_iast XC (_) 2 rfl rfl (by omega) (by decide) dX8_findLines_157 ?_
    dsimp only [List.set]
    first | rw [upz_uu] | rw [show tpS S k = min (tpS S k) (gt r) by omega] | rw [show gt r = min (tpS S k) (gt r) by omega]
    refine V_aload_n XC 0 rfl dX8_findLines_158 rfl ?_
    refine V_get XC 24 flX8_findLines_57 0 rfl rfl dX8_findLines_159 ?_
    refine V_iload XC dX8_findLines_162 rfl ?_
    refine V_iload_n XC 3 rfl dX8_findLines_164 rfl ?_
    refine V_aload_n XC 0 rfl dX8_findLines_165 rfl ?_
    refine V_get XC 24 flX8_findLines_57 0 rfl rfl dX8_findLines_166 ?_
    refine V_iload XC dX8_findLines_169 rfl ?_
    refine V_iald XC (_) 3 rfl rfl (by omega) (by decide) dX8_findLines_171 ?_
    first | rw [upz_s] | rw [hbr2.2]
    refine V_icmp_le XC 179 dX8_findLines_172 (by decide) ⟨by omega, by omega⟩ ⟨by omega, by omega⟩ (fun h172 => ?_) (fun h172 => ?_)
    · skip
      skip
      refine V_aload_n XC 0 rfl dX8_findLines_179 rfl ?_
      refine V_get XC 24 flX8_findLines_57 0 rfl rfl dX8_findLines_180 ?_
      refine V_iload XC dX8_findLines_183 rfl ?_
      refine V_iald XC (_) 3 rfl rfl (by omega) (by decide) dX8_findLines_185 ?_
      first | rw [upz_s] | rw [hbr2.2]
      refine V_iast XC (_) 3 rfl rfl (by omega) (by decide) dX8_findLines_186 ?_
      dsimp only [List.set]
      first | rw [upz_uu] | rw [show boS S k = max (boS S k) (gb r) by omega] | rw [show gb r = max (boS S k) (gb r) by omega]
      refine V_aload_n XC 0 rfl dX8_findLines_187 rfl ?_
      refine V_get XC 25 flX8_findLines_60 0 rfl rfl dX8_findLines_188 ?_
      refine V_iload_n XC 1 rfl dX8_findLines_191 rfl ?_
      refine V_iload XC dX8_findLines_192 rfl ?_
      refine V_iast XC (k) 4 rfl (by omega) (by omega) (by decide) dX8_findLines_194 ?_
      dsimp only [List.set]
      refine V_iinc XC dX8_findLines_195 rfl (by decide) ?_
      dsimp only [List.set]
      refine V_goto XC 7 dX8_findLines_198 (by decide) ?_
      refine V_kill 2 ?_
      dsimp only [List.set]
      refine V_kill 3 ?_
      dsimp only [List.set]
      refine V_kill 4 ?_
      dsimp only [List.set]
      refine V_kill 5 ?_
      dsimp only [List.set]
      first
      | (have hg2 : grLT (tpS S) (boS S) k (m, gt, gb, gl) = (m + 1, upz gt m (tpS S k), upz gb m (boS S k), upz gl k (m : Int)) := if_pos he
         rw [hg2] at hgs
         have hih := ih7 (k + 1, upz TO2 m (tpS S k), upz BO2 m (boS S k), upz BE2 k (m : Int))
         try dsimp only at hih
         rw [hgs] at hih
         try dsimp only at hih
         refine hih ⟨by omega, fun i hi => ?_, fun i hi => ?_⟩ (by omega)
         · try dsimp only at hi ⊢
           by_cases z : i = m
           · subst z; rw [upz_s, upz_s, upz_s, upz_s]; exact ⟨rfl, rfl⟩
           · rw [upz_n z, upz_n z, upz_n z, upz_n z]; exact hb i (by omega)
         · try dsimp only
           by_cases z : i = k
           · subst z; rw [upz_s, upz_s]
           · rw [upz_n z, upz_n z]; exact hl i (by omega))
      | (have hg2 : grLT (tpS S) (boS S) k (m, gt, gb, gl) = (m, upz gt r (min (tpS S k) (gt r)), upz gb r (max (boS S k) (gb r)), upz gl k (r : Int)) := by
           unfold grLT
           rw [if_neg he]
           try dsimp only
           rw [hr, Int.toNat_natCast]
         rw [hg2] at hgs
         have hih := ih7 (k + 1, upz TO2 r (min (tpS S k) (gt r)), upz BO2 r (max (boS S k) (gb r)), upz BE2 k (r : Int))
         try dsimp only at hih
         rw [hgs] at hih
         try dsimp only at hih
         refine hih ⟨by omega, fun i hi => ?_, fun i hi => ?_⟩ (by omega)
         · try dsimp only at hi ⊢
           by_cases z : i = r
           · subst z; rw [upz_s, upz_s, upz_s, upz_s]; exact ⟨rfl, rfl⟩
           · rw [upz_n z, upz_n z, upz_n z, upz_n z]; exact hb i (by omega)
         · try dsimp only
           by_cases z : i = k
           · subst z; rw [upz_s, upz_s]
           · rw [upz_n z, upz_n z]; exact hl i (by omega))
    refine V_iload_n XC 3 rfl dX8_findLines_175 rfl ?_
    refine V_goto XC 186 dX8_findLines_176 (by decide) ?_
    refine V_iast XC (_) 3 rfl rfl (by omega) (by decide) dX8_findLines_186 ?_
    dsimp only [List.set]
    first | rw [upz_uu] | rw [show boS S k = max (boS S k) (gb r) by omega] | rw [show gb r = max (boS S k) (gb r) by omega]
    refine V_aload_n XC 0 rfl dX8_findLines_187 rfl ?_
    refine V_get XC 25 flX8_findLines_60 0 rfl rfl dX8_findLines_188 ?_
    refine V_iload_n XC 1 rfl dX8_findLines_191 rfl ?_
    refine V_iload XC dX8_findLines_192 rfl ?_
    refine V_iast XC (k) 4 rfl (by omega) (by omega) (by decide) dX8_findLines_194 ?_
    dsimp only [List.set]
    refine V_iinc XC dX8_findLines_195 rfl (by decide) ?_
    dsimp only [List.set]
    refine V_goto XC 7 dX8_findLines_198 (by decide) ?_
    refine V_kill 2 ?_
    dsimp only [List.set]
    refine V_kill 3 ?_
    dsimp only [List.set]
    refine V_kill 4 ?_
    dsimp only [List.set]
    refine V_kill 5 ?_
    dsimp only [List.set]
    first
    | (have hg2 : grLT (tpS S) (boS S) k (m, gt, gb, gl) = (m + 1, upz gt m (tpS S k), upz gb m (boS S k), upz gl k (m : Int)) := if_pos he
       rw [hg2] at hgs
       have hih := ih7 (k + 1, upz TO2 m (tpS S k), upz BO2 m (boS S k), upz BE2 k (m : Int))
       try dsimp only at hih
       rw [hgs] at hih
       try dsimp only at hih
       refine hih ⟨by omega, fun i hi => ?_, fun i hi => ?_⟩ (by omega)
       · try dsimp only at hi ⊢
         by_cases z : i = m
         · subst z; rw [upz_s, upz_s, upz_s, upz_s]; exact ⟨rfl, rfl⟩
         · rw [upz_n z, upz_n z, upz_n z, upz_n z]; exact hb i (by omega)
       · try dsimp only
         by_cases z : i = k
         · subst z; rw [upz_s, upz_s]
         · rw [upz_n z, upz_n z]; exact hl i (by omega))
    | (have hg2 : grLT (tpS S) (boS S) k (m, gt, gb, gl) = (m, upz gt r (min (tpS S k) (gt r)), upz gb r (max (boS S k) (gb r)), upz gl k (r : Int)) := by
         unfold grLT
         rw [if_neg he]
         try dsimp only
         rw [hr, Int.toNat_natCast]
       rw [hg2] at hgs
       have hih := ih7 (k + 1, upz TO2 r (min (tpS S k) (gt r)), upz BO2 r (max (boS S k) (gb r)), upz BE2 k (r : Int))
       try dsimp only at hih
       rw [hgs] at hih
       try dsimp only at hih
       refine hih ⟨by omega, fun i hi => ?_, fun i hi => ?_⟩ (by omega)
       · try dsimp only at hi ⊢
         by_cases z : i = r
         · subst z; rw [upz_s, upz_s, upz_s, upz_s]; exact ⟨rfl, rfl⟩
         · rw [upz_n z, upz_n z, upz_n z, upz_n z]; exact hb i (by omega)
       · try dsimp only
         by_cases z : i = k
         · subst z; rw [upz_s, upz_s]
         · rw [upz_n z, upz_n z]; exact hl i (by omega))
  have hb9 := hb i (by omega)
  have hg9 := hgo.2.2.1 i (by omega)
  have hbr := bf_rng (bt := TO2) (bb := BO2) (t := tpS S k) (b := boS S k) (m := i)
  refine V_aload_n XC 0 rfl dX8_findLines_47 rfl ?_
  refine V_iload_n XC 2 rfl dX8_findLines_48 rfl ?_
  refine V_iload_n XC 3 rfl dX8_findLines_49 rfl ?_
  refine V_iload XC dX8_findLines_50 rfl ?_
  refine V_callV (rest := _) (q0 := 0) XC (c_X8_mayJoin l D kI kC _ _ _ _ _ _ _ _ _ _ _ _ _ _ _ _ _ (by omega) (by omega) (by omega) (by omega) (by omega)) gX8_findLines_X8_mayJoin rfl kmX8_mayJoin ⟨⟨Nat.le_of_ble_eq_true rfl, Nat.le_of_ble_eq_true rfl⟩, Nat.le_of_ble_eq_true rfl, Nat.le_of_ble_eq_true rfl⟩ ⟨rfl, rfl⟩ rfl rfl (Nat.le_of_ble_eq_true rfl) [0, 2, 3] rfl rfl (fun _ => rfl) rfl rfl dX8_findLines_52 (kR_of rfl (fun r52 hq52 => ?_))
  subst hq52
  refine V_bif_eq XC 86 dX8_findLines_55 (by decide) (fun h55 => ?_) (fun h55 => ?_)
  · skip
    refine V_iinc XC dX8_findLines_86 rfl (by decide) ?_
    dsimp only [List.set]
    refine V_goto XC 38 dX8_findLines_89 (by decide) ?_
    have ih9 := ih38 (i + 1) (by omega) (by omega)
    first
    | (rw [bf_no1 h55] at ih9; exact ih9)
    | (rw [bf_yes h55 (by omega)] at ih9; exact ih9)
    | (rw [bf_no2 (by omega)] at ih9; exact ih9)
  have hm9 : 1 ≤ shF TO2 BO2 (tpS S k) (boS S k) i := (of_decide_eq_true h55).1
  refine V_iload XC dX8_findLines_58 rfl ?_
  refine V_if_lt XC 82 dX8_findLines_60 (by decide) ⟨by omega, by omega⟩ (fun h60 => ?_) (fun h60 => ?_)
  · skip
    have h2z : (bf TO2 BO2 (tpS S k) (boS S k) i).2 = 0 := by
      rcases bf_sh (bt := TO2) (bb := BO2) (t := tpS S k) (b := boS S k) i with z | ⟨j, -, e1, -⟩
      · exact z.2
      · exact absurd h60 (by omega)
    refine V_iload XC dX8_findLines_82 rfl ?_
    refine V_istore XC dX8_findLines_84 (by decide) ?_
    dsimp only [List.set]
    refine V_iinc XC dX8_findLines_86 rfl (by decide) ?_
    dsimp only [List.set]
    refine V_goto XC 38 dX8_findLines_89 (by decide) ?_
    have ih9 := ih38 (i + 1) (by omega) (by omega)
    first
    | (rw [bf_no1 h55] at ih9; exact ih9)
    | (rw [bf_yes h55 (by omega)] at ih9; exact ih9)
    | (rw [bf_no2 (by omega)] at ih9; exact ih9)
  obtain ⟨j, hj, e1, e2, e3⟩ : ∃ j : Nat, j < i ∧ (bf TO2 BO2 (tpS S k) (boS S k) i).1 = (j : Int) ∧ (bf TO2 BO2 (tpS S k) (boS S k) i).2 = shF TO2 BO2 (tpS S k) (boS S k) j ∧ 1 ≤ (bf TO2 BO2 (tpS S k) (boS S k) i).2 := by
    rcases bf_sh (bt := TO2) (bb := BO2) (t := tpS S k) (b := boS S k) i with z | z
    · exact absurd z.1 (by omega)
    · exact z
  have hbj := hb j (by omega)
  have hgj := hgo.2.2.1 j (by omega)
  have hshi : -1000 ≤ shF TO2 BO2 (tpS S k) (boS S k) i ∧ shF TO2 BO2 (tpS S k) (boS S k) i ≤ 1001 := by unfold shF; omega
  have hshj : -1000 ≤ shF TO2 BO2 (tpS S k) (boS S k) j ∧ shF TO2 BO2 (tpS S k) (boS S k) j ≤ 1001 := by unfold shF; omega
  refine V_aload_n XC 0 rfl dX8_findLines_63 rfl ?_
  refine V_iload_n XC 2 rfl dX8_findLines_64 rfl ?_
  refine V_iload_n XC 3 rfl dX8_findLines_65 rfl ?_
  refine V_iload XC dX8_findLines_66 rfl ?_
  refine V_callV (rest := _) (q0 := 0) XC (c_X8_shared l D kI kC _ _ _ _ _ _ _ _ _ _ _ _ _ _ _ _ _ (by omega) (by omega) (by omega) (by omega) (by omega)) gX8_findLines_X8_shared rfl kmX8_shared ⟨⟨Nat.le_of_ble_eq_true rfl, Nat.le_of_ble_eq_true rfl⟩, Nat.le_of_ble_eq_true rfl, Nat.le_of_ble_eq_true rfl⟩ ⟨rfl, rfl⟩ rfl rfl (Nat.le_of_ble_eq_true rfl) [0, 2, 3] rfl rfl (fun _ => rfl) rfl rfl dX8_findLines_68 (kR_of rfl (fun r68 hq68 => ?_))
  subst hq68
  refine V_aload_n XC 0 rfl dX8_findLines_71 rfl ?_
  refine V_iload_n XC 2 rfl dX8_findLines_72 rfl ?_
  refine V_iload_n XC 3 rfl dX8_findLines_73 rfl ?_
  refine V_iload XC dX8_findLines_74 rfl ?_
  refine V_top (y := (j : Int)) e1 ?_
  refine V_callV (rest := _) (q0 := 0) XC (c_X8_shared l D kI kC _ _ _ _ _ _ _ _ _ _ _ _ _ _ _ _ _ (by omega) (by omega) (by omega) (by omega) (by omega)) gX8_findLines_X8_shared rfl kmX8_shared ⟨⟨Nat.le_of_ble_eq_true rfl, Nat.le_of_ble_eq_true rfl⟩, Nat.le_of_ble_eq_true rfl, Nat.le_of_ble_eq_true rfl⟩ ⟨rfl, rfl⟩ rfl rfl (Nat.le_of_ble_eq_true rfl) [0, 2, 3] rfl rfl (fun _ => rfl) rfl rfl dX8_findLines_76 (kR_of rfl (fun r76 hq76 => ?_))
  subst hq76
  refine V_icmp_le XC 86 dX8_findLines_79 (by decide) ⟨by omega, by omega⟩ ⟨by omega, by omega⟩ (fun h79 => ?_) (fun h79 => ?_)
  · skip
    refine V_iinc XC dX8_findLines_86 rfl (by decide) ?_
    dsimp only [List.set]
    refine V_goto XC 38 dX8_findLines_89 (by decide) ?_
    have ih9 := ih38 (i + 1) (by omega) (by omega)
    first
    | (rw [bf_no1 h55] at ih9; exact ih9)
    | (rw [bf_yes h55 (by omega)] at ih9; exact ih9)
    | (rw [bf_no2 (by omega)] at ih9; exact ih9)
  refine V_iload XC dX8_findLines_82 rfl ?_
  refine V_istore XC dX8_findLines_84 (by decide) ?_
  dsimp only [List.set]
  refine V_iinc XC dX8_findLines_86 rfl (by decide) ?_
  dsimp only [List.set]
  refine V_goto XC 38 dX8_findLines_89 (by decide) ?_
  have ih9 := ih38 (i + 1) (by omega) (by omega)
  first
  | (rw [bf_no1 h55] at ih9; exact ih9)
  | (rw [bf_yes h55 (by omega)] at ih9; exact ih9)
  | (rw [bf_no2 (by omega)] at ih9; exact ih9)

end REFN
