/-! shapes and texts -/
section LAW5

theorem P_mergeS {p : Program} {l : Launch} {e : Env} {R : Room} {s : State} {m : MethodId} {args : Array Value} {below : List Frame} {meth : Method} {c : Code} {nL : Nat} {A : Nat → Prop} {D : va_G} {kI kC : ClassId} {Q : State → Prop} {pa pg pw : Nat → Nat} {cells slots pc : Nat} {lv : List (Option Value)} {st : List Value} {σ : PS} {J : Int → PS → Prop} (jp d : Nat)
    (k : (∀ (z : Int) (τ : PS), J z τ → PP p l e R s m args below meth c nL A D Q kI kC pa pg pw cells slots jp lv (.int (iI z) :: st.drop d) τ) → PP p l e R s m args below meth c nL A D Q kI kC pa pg pw cells slots pc lv st σ)
    (hk : ∀ (z : Int) (τ : PS), J z τ → PP p l e R s m args below meth c nL A D Q kI kC pa pg pw cells slots jp lv (.int (iI z) :: st.drop d) τ) : PP p l e R s m args below meth c nL A D Q kI kC pa pg pw cells slots pc lv st σ := k hk
theorem prX_def (X : List Int) : prs (fun i => X.getD i 0) X.length 0 [] 0 0 false 0 0 = prX X := rfl
theorem TXI_first2 {u : Nat} {a d : Int} (h0 : u = 0) (ha : a = 49 + (u : Int)) (hd : 48 ≤ d ∧ d ≤ 57) : TXI (u + 1) ((([] ++ [a]) ++ [44]) ++ [d]) := by
  subst h0
  have e : a = 49 := by omega
  rw [e]
  exact TXI_first hd

set_option maxRecDepth 100000 in
set_option maxHeartbeats 4000000 in
theorem c_L_shapes (l : Launch) (D : va_G) (kI kC : ClassId) (pa pg pw : Nat → Nat) (σ : PS) (k : Nat) (g h : Int) (hk : k < σ.1.1.length) (hg : IR g) (hh : IR h) : PCon l yL_shapes wsL_shapes { frames := 8, cells := 0, slots := 0, locals := 186 } D kI kC pa pg pw [.ref (pa 0), .int (iI (k : Int)), .int (iI g), .int (iI h)] σ (qT (fun r σ2 => r = 1 ∧ ∃ o, σ2 = (actS σ.1 o, σ.2.1, σ.2.2.1, σ.2.2.2))) := by
  refine PCon.of (cc := cL_shapes) (maxL := 19) (ret := (some .boolean)) (by decide +kernel) rfl (Nat.le_of_ble_eq_true rfl) ?_
  intro pV eV sV mV bV tV cV AV Qf XC hrV hQ
  have XC : Cx pV _ sV mV _ tV cV cL_shapes 19 RL wsL_shapes AV D kI kC := XC
  change PP _ _ _ _ _ _ _ _ _ _ _ _ _ _ _ _ _ _ _ _ _ _ [some (.ref (pa 0)), some (.int (iI (k : Int))), some (.int (iI g)), some (.int (iI h)), none, none, none, none, none, none, none, none, none, none, none, none, none, none, none] _ _
  refine P_ok (fun hok => ?_)
  have hS := ok_S hok
  have h16 := ok_16 hok
  have hz := ok_sz hS hk
  have hx1 := ok_xy hS hk (i := 0) (by omega)
  have hx2 := ok_xy hS hk (i := szk (gk σ.1.1 k) - 1) (by omega)
  have hle := lenF_rng (px (gk σ.1.1 k)) (py (gk σ.1.1 k)) (szk (gk σ.1.1 k))
  refine P_aload_n XC 0 rfl dL_shapes_0 rfl ?_
  refine P_iload_n XC 1 rfl dL_shapes_1 rfl ?_
  refine P_iconst XC dL_shapes_2 ?_
  refine P_X7_stroke XC (by first | (with_reducible assumption) | (unfold IR; omega) | (unfold IR at *; omega)) (by first | (with_reducible assumption) | (unfold IR; omega) | (unfold IR at *; omega)) gL_shapes_X7_stroke ⟨⟨(Nat.le_of_ble_eq_true rfl), (Nat.le_of_ble_eq_true rfl)⟩, (Nat.le_of_ble_eq_true rfl), (Nat.le_of_ble_eq_true rfl)⟩ (Nat.le_of_ble_eq_true rfl) dL_shapes_3 ?_
  refine P_top (y := (szk (gk σ.1.1 k) : Int)) (st_1 hk) ?_
  refine P_istore XC dL_shapes_6 rfl (by decide) ?_
  dsimp only [List.set]
  refine P_aload_n XC 0 rfl dL_shapes_8 rfl ?_
  refine P_iload_n XC 1 rfl dL_shapes_9 rfl ?_
  refine P_iconst XC dL_shapes_10 ?_
  refine P_iconst XC dL_shapes_11 ?_
  refine P_X7_point XC (by first | (with_reducible assumption) | (unfold IR; omega) | (unfold IR at *; omega)) (by first | (with_reducible assumption) | (unfold IR; omega) | (unfold IR at *; omega)) (by first | (with_reducible assumption) | (unfold IR; omega) | (unfold IR at *; omega)) gL_shapes_X7_point ⟨⟨(Nat.le_of_ble_eq_true rfl), (Nat.le_of_ble_eq_true rfl)⟩, (Nat.le_of_ble_eq_true rfl), (Nat.le_of_ble_eq_true rfl)⟩ (Nat.le_of_ble_eq_true rfl) dL_shapes_12 ?_
  refine P_top (y := px (gk σ.1.1 k) 0) (pt_0 (i := 0) hk (by omega)) ?_
  refine P_istore XC dL_shapes_15 rfl (by decide) ?_
  dsimp only [List.set]
  refine P_aload_n XC 0 rfl dL_shapes_17 rfl ?_
  refine P_iload_n XC 1 rfl dL_shapes_18 rfl ?_
  refine P_iconst XC dL_shapes_19 ?_
  refine P_iconst XC dL_shapes_20 ?_
  refine P_X7_point XC (by first | (with_reducible assumption) | (unfold IR; omega) | (unfold IR at *; omega)) (by first | (with_reducible assumption) | (unfold IR; omega) | (unfold IR at *; omega)) (by first | (with_reducible assumption) | (unfold IR; omega) | (unfold IR at *; omega)) gL_shapes_X7_point ⟨⟨(Nat.le_of_ble_eq_true rfl), (Nat.le_of_ble_eq_true rfl)⟩, (Nat.le_of_ble_eq_true rfl), (Nat.le_of_ble_eq_true rfl)⟩ (Nat.le_of_ble_eq_true rfl) dL_shapes_21 ?_
  refine P_top (y := py (gk σ.1.1 k) 0) (pt_1 (i := 0) hk (by omega)) ?_
  refine P_istore XC dL_shapes_24 rfl (by decide) ?_
  dsimp only [List.set]
  refine P_aload_n XC 0 rfl dL_shapes_26 rfl ?_
  refine P_iload_n XC 1 rfl dL_shapes_27 rfl ?_
  refine P_iload XC dL_shapes_28 rfl ?_
  refine P_iconst XC dL_shapes_30 ?_
  refine P_isub XC dL_shapes_31 ?_
  refine P_top (y := ((szk (gk σ.1.1 k) - 1 : Nat) : Int)) (by omega) ?_
  refine P_iconst XC dL_shapes_32 ?_
  refine P_X7_point XC (by first | (with_reducible assumption) | (unfold IR; omega) | (unfold IR at *; omega)) (by first | (with_reducible assumption) | (unfold IR; omega) | (unfold IR at *; omega)) (by first | (with_reducible assumption) | (unfold IR; omega) | (unfold IR at *; omega)) gL_shapes_X7_point ⟨⟨(Nat.le_of_ble_eq_true rfl), (Nat.le_of_ble_eq_true rfl)⟩, (Nat.le_of_ble_eq_true rfl), (Nat.le_of_ble_eq_true rfl)⟩ (Nat.le_of_ble_eq_true rfl) dL_shapes_33 ?_
  refine P_top (y := px (gk σ.1.1 k) (szk (gk σ.1.1 k) - 1)) (pt_0 hk (by omega)) ?_
  refine P_istore XC dL_shapes_36 rfl (by decide) ?_
  dsimp only [List.set]
  refine P_aload_n XC 0 rfl dL_shapes_38 rfl ?_
  refine P_iload_n XC 1 rfl dL_shapes_39 rfl ?_
  refine P_iload XC dL_shapes_40 rfl ?_
  refine P_iconst XC dL_shapes_42 ?_
  refine P_isub XC dL_shapes_43 ?_
  refine P_top (y := ((szk (gk σ.1.1 k) - 1 : Nat) : Int)) (by omega) ?_
  refine P_iconst XC dL_shapes_44 ?_
  refine P_X7_point XC (by first | (with_reducible assumption) | (unfold IR; omega) | (unfold IR at *; omega)) (by first | (with_reducible assumption) | (unfold IR; omega) | (unfold IR at *; omega)) (by first | (with_reducible assumption) | (unfold IR; omega) | (unfold IR at *; omega)) gL_shapes_X7_point ⟨⟨(Nat.le_of_ble_eq_true rfl), (Nat.le_of_ble_eq_true rfl)⟩, (Nat.le_of_ble_eq_true rfl), (Nat.le_of_ble_eq_true rfl)⟩ (Nat.le_of_ble_eq_true rfl) dL_shapes_45 ?_
  refine P_top (y := py (gk σ.1.1 k) (szk (gk σ.1.1 k) - 1)) (pt_1 hk (by omega)) ?_
  refine P_istore XC dL_shapes_48 rfl (by decide) ?_
  dsimp only [List.set]
  refine P_aload_n XC 0 rfl dL_shapes_50 rfl ?_
  refine P_iconst XC dL_shapes_51 ?_
  refine P_X7_count XC (by first | (with_reducible assumption) | (unfold IR; omega) | (unfold IR at *; omega)) gL_shapes_X7_count ⟨⟨(Nat.le_of_ble_eq_true rfl), (Nat.le_of_ble_eq_true rfl)⟩, (Nat.le_of_ble_eq_true rfl), (Nat.le_of_ble_eq_true rfl)⟩ (Nat.le_of_ble_eq_true rfl) dL_shapes_52 (fun r52 hr52 => ?_)
  obtain rfl := cn_0 hr52
  refine P_istore XC dL_shapes_55 rfl (by decide) ?_
  dsimp only [List.set]
  refine P_aload_n XC 0 rfl dL_shapes_57 rfl ?_
  refine P_iload_n XC 1 rfl dL_shapes_58 rfl ?_
  refine P_bipush XC dL_shapes_59 (by decide) ?_
  refine P_X7_stroke XC (by first | (with_reducible assumption) | (unfold IR; omega) | (unfold IR at *; omega)) (by first | (with_reducible assumption) | (unfold IR; omega) | (unfold IR at *; omega)) gL_shapes_X7_stroke ⟨⟨(Nat.le_of_ble_eq_true rfl), (Nat.le_of_ble_eq_true rfl)⟩, (Nat.le_of_ble_eq_true rfl), (Nat.le_of_ble_eq_true rfl)⟩ (Nat.le_of_ble_eq_true rfl) dL_shapes_61 ?_
  refine P_top (y := lenF (px (gk σ.1.1 k)) (py (gk σ.1.1 k)) (szk (gk σ.1.1 k))) (st_6 hk) ?_
  refine P_istore XC dL_shapes_64 rfl (by decide) ?_
  dsimp only [List.set]
  refine P_aload_n XC 0 rfl dL_shapes_66 rfl ?_
  refine P_call (rest := _) XC (c_L_whole l D kI kC pa pg pw σ) gL_shapes_L_whole rfl kmL_whole ⟨⟨(Nat.le_of_ble_eq_true rfl), (Nat.le_of_ble_eq_true rfl)⟩, (Nat.le_of_ble_eq_true rfl), (Nat.le_of_ble_eq_true rfl)⟩ ⟨rfl, rfl⟩ rfl rfl (Nat.le_of_ble_eq_true rfl) dL_shapes_67 (kL_of ?_)
  dsimp only [Option.toList, List.cons_append, List.nil_append]
  refine P_lstore XC dL_shapes_70 rfl (by decide) ?_
  dsimp only [List.set]
  refine P_iload_n XC 2 rfl dL_shapes_72 rfl ?_
  refine P_iconst XC dL_shapes_73 ?_
  refine P_iand XC dL_shapes_74 ?_
  refine P_any (fun z74 hz74 ez74 => ?_)
  refine P_merge (J := fun z => 0 ≤ z ∧ z ≤ 1) 83 1 (fun kj75 => ?_) (fun z75 hz75 => ?_)
  · try dsimp only [List.drop] at kj75
    refine P_if_ne XC 82 dL_shapes_75 (by decide) (by first | (with_reducible assumption) | (unfold IR; omega) | (unfold IR at *; omega)) (fun h75 => ?_) (fun h75 => ?_)
    · skip
      refine P_iconst XC dL_shapes_82 ?_
      exact kj75 _ (by (try dsimp only); omega)
    refine P_iconst XC dL_shapes_78 ?_
    refine P_goto XC 83 dL_shapes_79 (by decide) ?_
    exact kj75 _ (by (try dsimp only); omega)
  try dsimp only [List.drop]
  try dsimp only at hz75
  refine P_istore XC dL_shapes_83 rfl (by decide) ?_
  dsimp only [List.set]
  refine P_iconst XC dL_shapes_85 ?_
  refine P_iload_n XC 3 rfl dL_shapes_86 rfl ?_
  refine P_bipush XC dL_shapes_87 (by decide) ?_
  refine P_call (rest := _) XC (c_L_low l D kI kC pa pg pw _ _ _ hh (by decide)) gL_shapes_L_low rfl kmL_low ⟨⟨(Nat.le_of_ble_eq_true rfl), (Nat.le_of_ble_eq_true rfl)⟩, (Nat.le_of_ble_eq_true rfl), (Nat.le_of_ble_eq_true rfl)⟩ ⟨rfl, rfl⟩ rfl rfl (Nat.le_of_ble_eq_true rfl) dL_shapes_89 (kS_of (fun r89 hr89 => ?_))
  dsimp only [Option.toList, List.cons_append, List.nil_append]
  refine P_iadd XC dL_shapes_92 ?_
  obtain ⟨dd, hdd⟩ : ∃ z, z = 1 + r89 := ⟨_, rfl⟩
  rw [← hdd]
  refine P_istore XC dL_shapes_93 rfl (by decide) ?_
  dsimp only [List.set]
  refine P_iload XC dL_shapes_95 rfl ?_
  refine P_mergeS (J := fun z τ => JSh σ k z75 dd z τ) 123 1 (fun kj97 => ?_) (fun z97 τ hz97 => ?_)
  · try dsimp only [List.drop] at kj97
    refine P_if_eq XC 116 dL_shapes_97 (by decide) (by first | (with_reducible assumption) | (unfold IR; omega) | (unfold IR at *; omega)) (fun h97 => ?_) (fun h97 => ?_)
    · skip
      refine P_aload_n XC 0 rfl dL_shapes_116 rfl ?_
      refine P_iload_n XC 1 rfl dL_shapes_117 rfl ?_
      refine P_iload XC dL_shapes_118 rfl ?_
      refine P_X7_thin XC (by first | (with_reducible assumption) | (unfold IR; omega) | (unfold IR at *; omega)) (by first | (with_reducible assumption) | (unfold IR; omega) | (unfold IR at *; omega)) gL_shapes_X7_thin ⟨⟨(Nat.le_of_ble_eq_true rfl), (Nat.le_of_ble_eq_true rfl)⟩, (Nat.le_of_ble_eq_true rfl), (Nat.le_of_ble_eq_true rfl)⟩ (Nat.le_of_ble_eq_true rfl) dL_shapes_120 ?_
      first | exact kj97 _ _ (smooth_JS hS hk (by omega) (by omega)) | exact kj97 _ _ (thin_JS hS hk (by omega))
    refine P_aload_n XC 0 rfl dL_shapes_100 rfl ?_
    refine P_iload_n XC 1 rfl dL_shapes_101 rfl ?_
    refine P_iconst XC dL_shapes_102 ?_
    refine P_iload_n XC 3 rfl dL_shapes_103 rfl ?_
    refine P_bipush XC dL_shapes_104 (by decide) ?_
    refine P_call (rest := _) XC (c_L_low l D kI kC pa pg pw _ _ _ hh (by decide)) gL_shapes_L_low rfl kmL_low ⟨⟨(Nat.le_of_ble_eq_true rfl), (Nat.le_of_ble_eq_true rfl)⟩, (Nat.le_of_ble_eq_true rfl), (Nat.le_of_ble_eq_true rfl)⟩ ⟨rfl, rfl⟩ rfl rfl (Nat.le_of_ble_eq_true rfl) dL_shapes_106 (kS_of (fun r106 hr106 => ?_))
    dsimp only [Option.toList, List.cons_append, List.nil_append]
    refine P_iadd XC dL_shapes_109 ?_
    refine P_X7_smooth XC (by first | (with_reducible assumption) | (unfold IR; omega) | (unfold IR at *; omega)) (by first | (with_reducible assumption) | (unfold IR; omega) | (unfold IR at *; omega)) gL_shapes_X7_smooth ⟨⟨(Nat.le_of_ble_eq_true rfl), (Nat.le_of_ble_eq_true rfl)⟩, (Nat.le_of_ble_eq_true rfl), (Nat.le_of_ble_eq_true rfl)⟩ (Nat.le_of_ble_eq_true rfl) dL_shapes_110 ?_
    refine P_goto XC 123 dL_shapes_113 (by decide) ?_
    first | exact kj97 _ _ (smooth_JS hS hk (by omega) (by omega)) | exact kj97 _ _ (thin_JS hS hk (by omega))
  try dsimp only [List.drop]
  try dsimp only at hz97
  obtain ⟨⟨oo, hoo⟩, hJ2⟩ := hz97
  have hzI : IR z97 := by
    rcases hJ2 with ⟨e, -⟩ | ⟨ps, -, e, hsf, -⟩
    · rw [e]; exact ⟨by decide, by decide⟩
    · have := hsf.2.1
      rw [e]; exact ⟨by omega, by omega⟩
  refine P_ok (fun hokt => ?_)
  have hSt := ok_S hokt
  have h16t := ok_16 hokt
  refine P_istore XC dL_shapes_123 rfl (by decide) ?_
  dsimp only [List.set]
  refine P_iload XC dL_shapes_125 rfl ?_
  refine P_bipush XC dL_shapes_127 (by decide) ?_
  refine P_icmp_ne XC 148 dL_shapes_129 (by decide) hzI (by first | (with_reducible assumption) | (unfold IR; omega) | (unfold IR at *; omega)) (fun h129 => ?_) (fun h129 => ?_)
  · skip
    obtain ⟨ps, hp1, hp2, hsf, hth⟩ : ∃ ps : List Pt, τ.1.1 = σ.1.1.set k ((gk σ.1.1 k).1, ps) ∧ z97 = (ps.length : Int) ∧ SHF (gk σ.1.1 k) ps ∧ (z75 = 0 → THF (gk σ.1.1 k) dd ps) := hJ2.resolve_left (fun z => h129 z.1)
    subst hp2
    have hlt : τ.1.1.length = σ.1.1.length := by rw [hp1, List.length_set]
    have hkt : k < τ.1.1.length := by omega
    have hgk : gk τ.1.1 k = ((gk σ.1.1 k).1, ps) := by rw [hp1]; exact gk_set hk
    have hzt := ok_sz hSt hkt
    rw [hgk] at hzt
    have hzs : szk ((gk σ.1.1 k).1, ps) = ps.length := rfl
    rw [hzs] at hzt
    obtain ⟨hs1, hs2, hs3, hs4, hs5, hs6⟩ := hsf
    have hxt : ∀ i, i < ps.length → 0 ≤ qx ps i ∧ qx ps i ≤ 1000 ∧ 0 ≤ qy ps i ∧ qy ps i ≤ 1000 := fun i hi => by
      have h9 := ok_xy hSt hkt (i := i) (by rw [hgk]; exact hi)
      rw [hgk] at h9
      exact h9
    refine P_aload_n XC 0 rfl dL_shapes_148 rfl ?_
    refine P_iload_n XC 1 rfl dL_shapes_149 rfl ?_
    refine P_iconst XC dL_shapes_150 ?_
    refine P_X7_stroke XC (by first | (with_reducible assumption) | (unfold IR; omega) | (unfold IR at *; omega)) (by first | (with_reducible assumption) | (unfold IR; omega) | (unfold IR at *; omega)) gL_shapes_X7_stroke ⟨⟨(Nat.le_of_ble_eq_true rfl), (Nat.le_of_ble_eq_true rfl)⟩, (Nat.le_of_ble_eq_true rfl), (Nat.le_of_ble_eq_true rfl)⟩ (Nat.le_of_ble_eq_true rfl) dL_shapes_151 ?_
    refine P_top (y := (ps.length : Int)) ((st_1 hkt).trans (by rw [hgk]; rfl)) ?_
    refine P_istore XC dL_shapes_154 rfl (by decide) ?_
    dsimp only [List.set]
    refine P_aload_n XC 0 rfl dL_shapes_156 rfl ?_
    refine P_iload_n XC 1 rfl dL_shapes_157 rfl ?_
    refine P_iconst XC dL_shapes_158 ?_
    refine P_iconst XC dL_shapes_159 ?_
    refine P_X7_point XC (by first | (with_reducible assumption) | (unfold IR; omega) | (unfold IR at *; omega)) (by first | (with_reducible assumption) | (unfold IR; omega) | (unfold IR at *; omega)) (by first | (with_reducible assumption) | (unfold IR; omega) | (unfold IR at *; omega)) gL_shapes_X7_point ⟨⟨(Nat.le_of_ble_eq_true rfl), (Nat.le_of_ble_eq_true rfl)⟩, (Nat.le_of_ble_eq_true rfl), (Nat.le_of_ble_eq_true rfl)⟩ (Nat.le_of_ble_eq_true rfl) dL_shapes_160 ?_
    refine P_top (y := px (gk σ.1.1 k) 0) ((pt_0 (i := 0) hkt (by rw [hgk, hzs]; omega)).trans (by rw [hgk]; exact hs3)) ?_
    refine P_iload XC dL_shapes_163 rfl ?_
    refine P_icmp_ne XC 214 dL_shapes_165 (by decide) (by first | (with_reducible assumption) | (unfold IR; omega) | (unfold IR at *; omega)) (by first | (with_reducible assumption) | (unfold IR; omega) | (unfold IR at *; omega)) (fun h165 => ?_) (fun h165 => ?_)
    · exfalso
      omega
    refine P_aload_n XC 0 rfl dL_shapes_168 rfl ?_
    refine P_iload_n XC 1 rfl dL_shapes_169 rfl ?_
    refine P_iconst XC dL_shapes_170 ?_
    refine P_iconst XC dL_shapes_171 ?_
    refine P_X7_point XC (by first | (with_reducible assumption) | (unfold IR; omega) | (unfold IR at *; omega)) (by first | (with_reducible assumption) | (unfold IR; omega) | (unfold IR at *; omega)) (by first | (with_reducible assumption) | (unfold IR; omega) | (unfold IR at *; omega)) gL_shapes_X7_point ⟨⟨(Nat.le_of_ble_eq_true rfl), (Nat.le_of_ble_eq_true rfl)⟩, (Nat.le_of_ble_eq_true rfl), (Nat.le_of_ble_eq_true rfl)⟩ (Nat.le_of_ble_eq_true rfl) dL_shapes_172 ?_
    refine P_top (y := py (gk σ.1.1 k) 0) ((pt_1 (i := 0) hkt (by rw [hgk, hzs]; omega)).trans (by rw [hgk]; exact hs4)) ?_
    refine P_iload XC dL_shapes_175 rfl ?_
    refine P_icmp_ne XC 214 dL_shapes_177 (by decide) (by first | (with_reducible assumption) | (unfold IR; omega) | (unfold IR at *; omega)) (by first | (with_reducible assumption) | (unfold IR; omega) | (unfold IR at *; omega)) (fun h177 => ?_) (fun h177 => ?_)
    · exfalso
      omega
    refine P_aload_n XC 0 rfl dL_shapes_180 rfl ?_
    refine P_iload_n XC 1 rfl dL_shapes_181 rfl ?_
    refine P_iload XC dL_shapes_182 rfl ?_
    refine P_iconst XC dL_shapes_184 ?_
    refine P_isub XC dL_shapes_185 ?_
    refine P_top (y := ((ps.length - 1 : Nat) : Int)) (by omega) ?_
    refine P_iconst XC dL_shapes_186 ?_
    refine P_X7_point XC (by first | (with_reducible assumption) | (unfold IR; omega) | (unfold IR at *; omega)) (by first | (with_reducible assumption) | (unfold IR; omega) | (unfold IR at *; omega)) (by first | (with_reducible assumption) | (unfold IR; omega) | (unfold IR at *; omega)) gL_shapes_X7_point ⟨⟨(Nat.le_of_ble_eq_true rfl), (Nat.le_of_ble_eq_true rfl)⟩, (Nat.le_of_ble_eq_true rfl), (Nat.le_of_ble_eq_true rfl)⟩ (Nat.le_of_ble_eq_true rfl) dL_shapes_187 ?_
    refine P_top (y := px (gk σ.1.1 k) (szk (gk σ.1.1 k) - 1)) ((pt_0 hkt (by rw [hgk, hzs]; omega)).trans (by rw [hgk]; exact hs5)) ?_
    refine P_iload XC dL_shapes_190 rfl ?_
    refine P_icmp_ne XC 214 dL_shapes_192 (by decide) (by first | (with_reducible assumption) | (unfold IR; omega) | (unfold IR at *; omega)) (by first | (with_reducible assumption) | (unfold IR; omega) | (unfold IR at *; omega)) (fun h192 => ?_) (fun h192 => ?_)
    · exfalso
      omega
    refine P_aload_n XC 0 rfl dL_shapes_195 rfl ?_
    refine P_iload_n XC 1 rfl dL_shapes_196 rfl ?_
    refine P_iload XC dL_shapes_197 rfl ?_
    refine P_iconst XC dL_shapes_199 ?_
    refine P_isub XC dL_shapes_200 ?_
    refine P_top (y := ((ps.length - 1 : Nat) : Int)) (by omega) ?_
    refine P_iconst XC dL_shapes_201 ?_
    refine P_X7_point XC (by first | (with_reducible assumption) | (unfold IR; omega) | (unfold IR at *; omega)) (by first | (with_reducible assumption) | (unfold IR; omega) | (unfold IR at *; omega)) (by first | (with_reducible assumption) | (unfold IR; omega) | (unfold IR at *; omega)) gL_shapes_X7_point ⟨⟨(Nat.le_of_ble_eq_true rfl), (Nat.le_of_ble_eq_true rfl)⟩, (Nat.le_of_ble_eq_true rfl), (Nat.le_of_ble_eq_true rfl)⟩ (Nat.le_of_ble_eq_true rfl) dL_shapes_202 ?_
    refine P_top (y := py (gk σ.1.1 k) (szk (gk σ.1.1 k) - 1)) ((pt_1 hkt (by rw [hgk, hzs]; omega)).trans (by rw [hgk]; exact hs6)) ?_
    refine P_iload XC dL_shapes_205 rfl ?_
    refine P_icmp_ne XC 214 dL_shapes_207 (by decide) (by first | (with_reducible assumption) | (unfold IR; omega) | (unfold IR at *; omega)) (by first | (with_reducible assumption) | (unfold IR; omega) | (unfold IR at *; omega)) (fun h207 => ?_) (fun h207 => ?_)
    · exfalso
      omega
    refine P_iconst XC dL_shapes_210 ?_
    refine P_goto XC 215 dL_shapes_211 (by decide) ?_
    refine P_istore XC dL_shapes_215 rfl (by decide) ?_
    dsimp only [List.set]
    refine P_iload XC dL_shapes_217 rfl ?_
    refine P_iload XC dL_shapes_219 rfl ?_
    refine P_icmp_ne XC 246 dL_shapes_221 (by decide) (by first | (with_reducible assumption) | (unfold IR; omega) | (unfold IR at *; omega)) (by first | (with_reducible assumption) | (unfold IR; omega) | (unfold IR at *; omega)) (fun h221 => ?_) (fun h221 => ?_)
    · exfalso
      omega
    refine P_iload XC dL_shapes_224 rfl ?_
    refine P_iload XC dL_shapes_226 rfl ?_
    refine P_icmp_gt XC 246 dL_shapes_228 (by decide) (by first | (with_reducible assumption) | (unfold IR; omega) | (unfold IR at *; omega)) (by first | (with_reducible assumption) | (unfold IR; omega) | (unfold IR at *; omega)) (fun h228 => ?_) (fun h228 => ?_)
    · exfalso
      omega
    refine P_iload XC dL_shapes_231 rfl ?_
    refine P_if_eq XC 246 dL_shapes_233 (by decide) (by first | (with_reducible assumption) | (unfold IR; omega) | (unfold IR at *; omega)) (fun h233 => ?_) (fun h233 => ?_)
    · exfalso
      omega
    refine P_aload_n XC 0 rfl dL_shapes_236 rfl ?_
    refine P_iconst XC dL_shapes_237 ?_
    refine P_X7_count XC (by first | (with_reducible assumption) | (unfold IR; omega) | (unfold IR at *; omega)) gL_shapes_X7_count ⟨⟨(Nat.le_of_ble_eq_true rfl), (Nat.le_of_ble_eq_true rfl)⟩, (Nat.le_of_ble_eq_true rfl), (Nat.le_of_ble_eq_true rfl)⟩ (Nat.le_of_ble_eq_true rfl) dL_shapes_238 (fun r238 hr238 => ?_)
    obtain rfl := cn_0 hr238
    refine P_iload XC dL_shapes_241 rfl ?_
    refine P_icmp_eq XC 248 dL_shapes_243 (by decide) (by first | (with_reducible assumption) | (unfold IR; omega) | (unfold IR at *; omega)) (by first | (with_reducible assumption) | (unfold IR; omega) | (unfold IR at *; omega)) (fun h243 => ?_) (fun h243 => ?_)
    rotate_left
    · exfalso
      omega
    refine P_iconst XC dL_shapes_248 ?_
    refine P_istore XC dL_shapes_249 rfl (by decide) ?_
    dsimp only [List.set]
    refine P_loopR (τ := Nat) (fun u => ps.length - u) (fun u => 1 ≤ u ∧ u ≤ ps.length + 1) (fun u => [some (.ref (pa 0)), some (.int (iI (k : Int))), some (.int (iI g)), some (.int (iI h)), some (.int (iI ((szk (gk σ.1.1 k) : Int)))), some (.int (iI (px (gk σ.1.1 k) 0))), some (.int (iI (py (gk σ.1.1 k) 0))), some (.int (iI (px (gk σ.1.1 k) (szk (gk σ.1.1 k) - 1)))), some (.int (iI (py (gk σ.1.1 k) (szk (gk σ.1.1 k) - 1)))), some (.int (iI ((σ.1.1.length : Int)))), some (.int (iI (lenF (px (gk σ.1.1 k)) (py (gk σ.1.1 k)) (szk (gk σ.1.1 k))))), some (.long (hsS σ.1.1)), none, some (.int (iI (z75))), some (.int (iI (dd))), some (.int (iI ((ps.length : Int)))), some (.int (iI ((ps.length : Int)))), some (.int (iI (1))), some (.int (iI (u : Int)))]) (1) ⟨Nat.le_refl 1, by omega⟩ rfl (fun u hJ ih251 => ?_)
    obtain ⟨i, rfl⟩ : ∃ z, z = u := ⟨_, rfl⟩
    try dsimp only at hJ ih251 ⊢
    obtain ⟨hi1, hi2⟩ := hJ
    refine P_iload XC dL_shapes_251 rfl ?_
    refine P_iconst XC dL_shapes_253 ?_
    refine P_iadd XC dL_shapes_254 ?_
    refine P_iload XC dL_shapes_255 rfl ?_
    refine P_icmp_ge XC 322 dL_shapes_257 (by decide) (by first | (with_reducible assumption) | (unfold IR; omega) | (unfold IR at *; omega)) (by first | (with_reducible assumption) | (unfold IR; omega) | (unfold IR at *; omega)) (fun h257 => ?_) (fun h257 => ?_)
    · skip
      refine P_iload XC dL_shapes_322 rfl ?_
      refine P_if_ne XC 346 dL_shapes_324 (by decide) (by first | (with_reducible assumption) | (unfold IR; omega) | (unfold IR at *; omega)) (fun h324 => ?_) (fun h324 => ?_)
      · skip
        refine P_aload_n XC 0 rfl dL_shapes_346 rfl ?_
        refine P_iload_n XC 1 rfl dL_shapes_347 rfl ?_
        refine P_bipush XC dL_shapes_348 (by decide) ?_
        refine P_X7_smooth XC (by first | (with_reducible assumption) | (unfold IR; omega) | (unfold IR at *; omega)) (by first | (with_reducible assumption) | (unfold IR; omega) | (unfold IR at *; omega)) gL_shapes_X7_smooth ⟨⟨(Nat.le_of_ble_eq_true rfl), (Nat.le_of_ble_eq_true rfl)⟩, (Nat.le_of_ble_eq_true rfl), (Nat.le_of_ble_eq_true rfl)⟩ (Nat.le_of_ble_eq_true rfl) dL_shapes_350 ?_
        rw [smooth_bad hkt]
        refine P_top (y := -2) rfl ?_
        change PP _ _ _ _ _ _ _ _ _ _ _ _ _ _ _ _ _ _ _ _ _ _ _ _ τ
        refine P_bipush XC dL_shapes_353 (by decide) ?_
        refine P_icmp_ne XC 378 dL_shapes_355 (by decide) (by first | (with_reducible assumption) | (unfold IR; omega) | (unfold IR at *; omega)) (by first | (with_reducible assumption) | (unfold IR; omega) | (unfold IR at *; omega)) (fun h355 => ?_) (fun h355 => ?_)
        · exfalso
          omega
        refine P_aload_n XC 0 rfl dL_shapes_358 rfl ?_
        refine P_iload_n XC 1 rfl dL_shapes_359 rfl ?_
        refine P_iconst XC dL_shapes_360 ?_
        refine P_X7_thin XC (by first | (with_reducible assumption) | (unfold IR; omega) | (unfold IR at *; omega)) (by first | (with_reducible assumption) | (unfold IR; omega) | (unfold IR at *; omega)) gL_shapes_X7_thin ⟨⟨(Nat.le_of_ble_eq_true rfl), (Nat.le_of_ble_eq_true rfl)⟩, (Nat.le_of_ble_eq_true rfl), (Nat.le_of_ble_eq_true rfl)⟩ (Nat.le_of_ble_eq_true rfl) dL_shapes_361 ?_
        rw [thin_bad hkt]
        refine P_top (y := -2) rfl ?_
        change PP _ _ _ _ _ _ _ _ _ _ _ _ _ _ _ _ _ _ _ _ _ _ _ _ τ
        refine P_bipush XC dL_shapes_364 (by decide) ?_
        refine P_icmp_ne XC 378 dL_shapes_366 (by decide) (by first | (with_reducible assumption) | (unfold IR; omega) | (unfold IR at *; omega)) (by first | (with_reducible assumption) | (unfold IR; omega) | (unfold IR at *; omega)) (fun h366 => ?_) (fun h366 => ?_)
        · exfalso
          omega
        refine P_iload XC dL_shapes_369 rfl ?_
        refine P_if_lt XC 378 dL_shapes_371 (by decide) (by first | (with_reducible assumption) | (unfold IR; omega) | (unfold IR at *; omega)) (fun h371 => ?_) (fun h371 => ?_)
        · exfalso
          omega
        refine P_iconst XC dL_shapes_374 ?_
        refine P_goto XC 379 dL_shapes_375 (by decide) ?_
        exact P_zret (r := true) XC hrV dL_shapes_379 (fun u hu => hQ _ _ u ⟨1, rfl, rfl, _, hoo⟩ hu)
      have hth1 := hth (by omega)
      have hth2 := hth1.2.1
      refine P_iload XC dL_shapes_327 rfl ?_
      refine P_iload XC dL_shapes_329 rfl ?_
      refine P_icmp_ge XC 378 dL_shapes_331 (by decide) (by first | (with_reducible assumption) | (unfold IR; omega) | (unfold IR at *; omega)) (by first | (with_reducible assumption) | (unfold IR; omega) | (unfold IR at *; omega)) (fun h331 => ?_) (fun h331 => ?_)
      · exfalso
        omega
      refine P_aload_n XC 0 rfl dL_shapes_334 rfl ?_
      refine P_iload_n XC 1 rfl dL_shapes_335 rfl ?_
      refine P_iload XC dL_shapes_336 rfl ?_
      refine P_X7_thin XC (by first | (with_reducible assumption) | (unfold IR; omega) | (unfold IR at *; omega)) (by first | (with_reducible assumption) | (unfold IR; omega) | (unfold IR at *; omega)) gL_shapes_X7_thin ⟨⟨(Nat.le_of_ble_eq_true rfl), (Nat.le_of_ble_eq_true rfl)⟩, (Nat.le_of_ble_eq_true rfl), (Nat.le_of_ble_eq_true rfl)⟩ (Nat.le_of_ble_eq_true rfl) dL_shapes_338 ?_
      rw [thin_again hkt hgk (by omega) hth1.2.2]
      refine P_top (y := -5) rfl ?_
      change PP _ _ _ _ _ _ _ _ _ _ _ _ _ _ _ _ _ _ _ _ _ _ _ _ τ
      refine P_bipush XC dL_shapes_341 (by decide) ?_
      refine P_icmp_ne XC 378 dL_shapes_343 (by decide) (by first | (with_reducible assumption) | (unfold IR; omega) | (unfold IR at *; omega)) (by first | (with_reducible assumption) | (unfold IR; omega) | (unfold IR at *; omega)) (fun h343 => ?_) (fun h343 => ?_)
      · exfalso
        omega
      refine P_aload_n XC 0 rfl dL_shapes_346 rfl ?_
      refine P_iload_n XC 1 rfl dL_shapes_347 rfl ?_
      refine P_bipush XC dL_shapes_348 (by decide) ?_
      refine P_X7_smooth XC (by first | (with_reducible assumption) | (unfold IR; omega) | (unfold IR at *; omega)) (by first | (with_reducible assumption) | (unfold IR; omega) | (unfold IR at *; omega)) gL_shapes_X7_smooth ⟨⟨(Nat.le_of_ble_eq_true rfl), (Nat.le_of_ble_eq_true rfl)⟩, (Nat.le_of_ble_eq_true rfl), (Nat.le_of_ble_eq_true rfl)⟩ (Nat.le_of_ble_eq_true rfl) dL_shapes_350 ?_
      rw [smooth_bad hkt]
      refine P_top (y := -2) rfl ?_
      change PP _ _ _ _ _ _ _ _ _ _ _ _ _ _ _ _ _ _ _ _ _ _ _ _ τ
      refine P_bipush XC dL_shapes_353 (by decide) ?_
      refine P_icmp_ne XC 378 dL_shapes_355 (by decide) (by first | (with_reducible assumption) | (unfold IR; omega) | (unfold IR at *; omega)) (by first | (with_reducible assumption) | (unfold IR; omega) | (unfold IR at *; omega)) (fun h355 => ?_) (fun h355 => ?_)
      · exfalso
        omega
      refine P_aload_n XC 0 rfl dL_shapes_358 rfl ?_
      refine P_iload_n XC 1 rfl dL_shapes_359 rfl ?_
      refine P_iconst XC dL_shapes_360 ?_
      refine P_X7_thin XC (by first | (with_reducible assumption) | (unfold IR; omega) | (unfold IR at *; omega)) (by first | (with_reducible assumption) | (unfold IR; omega) | (unfold IR at *; omega)) gL_shapes_X7_thin ⟨⟨(Nat.le_of_ble_eq_true rfl), (Nat.le_of_ble_eq_true rfl)⟩, (Nat.le_of_ble_eq_true rfl), (Nat.le_of_ble_eq_true rfl)⟩ (Nat.le_of_ble_eq_true rfl) dL_shapes_361 ?_
      rw [thin_bad hkt]
      refine P_top (y := -2) rfl ?_
      change PP _ _ _ _ _ _ _ _ _ _ _ _ _ _ _ _ _ _ _ _ _ _ _ _ τ
      refine P_bipush XC dL_shapes_364 (by decide) ?_
      refine P_icmp_ne XC 378 dL_shapes_366 (by decide) (by first | (with_reducible assumption) | (unfold IR; omega) | (unfold IR at *; omega)) (by first | (with_reducible assumption) | (unfold IR; omega) | (unfold IR at *; omega)) (fun h366 => ?_) (fun h366 => ?_)
      · exfalso
        omega
      refine P_iload XC dL_shapes_369 rfl ?_
      refine P_if_lt XC 378 dL_shapes_371 (by decide) (by first | (with_reducible assumption) | (unfold IR; omega) | (unfold IR at *; omega)) (fun h371 => ?_) (fun h371 => ?_)
      · exfalso
        omega
      refine P_iconst XC dL_shapes_374 ?_
      refine P_goto XC 379 dL_shapes_375 (by decide) ?_
      exact P_zret (r := true) XC hrV dL_shapes_379 (fun u hu => hQ _ _ u ⟨1, rfl, rfl, _, hoo⟩ hu)
    have hi : i + 1 < ps.length := by omega
    refine P_iload XC dL_shapes_260 rfl ?_
    refine P_if_ne XC 322 dL_shapes_262 (by decide) (by first | (with_reducible assumption) | (unfold IR; omega) | (unfold IR at *; omega)) (fun h262 => ?_) (fun h262 => ?_)
    · skip
      refine P_iload XC dL_shapes_322 rfl ?_
      refine P_if_ne XC 346 dL_shapes_324 (by decide) (by first | (with_reducible assumption) | (unfold IR; omega) | (unfold IR at *; omega)) (fun h324 => ?_) (fun h324 => ?_)
      · skip
        refine P_aload_n XC 0 rfl dL_shapes_346 rfl ?_
        refine P_iload_n XC 1 rfl dL_shapes_347 rfl ?_
        refine P_bipush XC dL_shapes_348 (by decide) ?_
        refine P_X7_smooth XC (by first | (with_reducible assumption) | (unfold IR; omega) | (unfold IR at *; omega)) (by first | (with_reducible assumption) | (unfold IR; omega) | (unfold IR at *; omega)) gL_shapes_X7_smooth ⟨⟨(Nat.le_of_ble_eq_true rfl), (Nat.le_of_ble_eq_true rfl)⟩, (Nat.le_of_ble_eq_true rfl), (Nat.le_of_ble_eq_true rfl)⟩ (Nat.le_of_ble_eq_true rfl) dL_shapes_350 ?_
        rw [smooth_bad hkt]
        refine P_top (y := -2) rfl ?_
        change PP _ _ _ _ _ _ _ _ _ _ _ _ _ _ _ _ _ _ _ _ _ _ _ _ τ
        refine P_bipush XC dL_shapes_353 (by decide) ?_
        refine P_icmp_ne XC 378 dL_shapes_355 (by decide) (by first | (with_reducible assumption) | (unfold IR; omega) | (unfold IR at *; omega)) (by first | (with_reducible assumption) | (unfold IR; omega) | (unfold IR at *; omega)) (fun h355 => ?_) (fun h355 => ?_)
        · exfalso
          omega
        refine P_aload_n XC 0 rfl dL_shapes_358 rfl ?_
        refine P_iload_n XC 1 rfl dL_shapes_359 rfl ?_
        refine P_iconst XC dL_shapes_360 ?_
        refine P_X7_thin XC (by first | (with_reducible assumption) | (unfold IR; omega) | (unfold IR at *; omega)) (by first | (with_reducible assumption) | (unfold IR; omega) | (unfold IR at *; omega)) gL_shapes_X7_thin ⟨⟨(Nat.le_of_ble_eq_true rfl), (Nat.le_of_ble_eq_true rfl)⟩, (Nat.le_of_ble_eq_true rfl), (Nat.le_of_ble_eq_true rfl)⟩ (Nat.le_of_ble_eq_true rfl) dL_shapes_361 ?_
        rw [thin_bad hkt]
        refine P_top (y := -2) rfl ?_
        change PP _ _ _ _ _ _ _ _ _ _ _ _ _ _ _ _ _ _ _ _ _ _ _ _ τ
        refine P_bipush XC dL_shapes_364 (by decide) ?_
        refine P_icmp_ne XC 378 dL_shapes_366 (by decide) (by first | (with_reducible assumption) | (unfold IR; omega) | (unfold IR at *; omega)) (by first | (with_reducible assumption) | (unfold IR; omega) | (unfold IR at *; omega)) (fun h366 => ?_) (fun h366 => ?_)
        · exfalso
          omega
        refine P_iload XC dL_shapes_369 rfl ?_
        refine P_if_lt XC 378 dL_shapes_371 (by decide) (by first | (with_reducible assumption) | (unfold IR; omega) | (unfold IR at *; omega)) (fun h371 => ?_) (fun h371 => ?_)
        · exfalso
          omega
        refine P_iconst XC dL_shapes_374 ?_
        refine P_goto XC 379 dL_shapes_375 (by decide) ?_
        exact P_zret (r := true) XC hrV dL_shapes_379 (fun u hu => hQ _ _ u ⟨1, rfl, rfl, _, hoo⟩ hu)
      have hth1 := hth (by omega)
      have hth2 := hth1.2.1
      refine P_iload XC dL_shapes_327 rfl ?_
      refine P_iload XC dL_shapes_329 rfl ?_
      refine P_icmp_ge XC 378 dL_shapes_331 (by decide) (by first | (with_reducible assumption) | (unfold IR; omega) | (unfold IR at *; omega)) (by first | (with_reducible assumption) | (unfold IR; omega) | (unfold IR at *; omega)) (fun h331 => ?_) (fun h331 => ?_)
      · exfalso
        omega
      refine P_aload_n XC 0 rfl dL_shapes_334 rfl ?_
      refine P_iload_n XC 1 rfl dL_shapes_335 rfl ?_
      refine P_iload XC dL_shapes_336 rfl ?_
      refine P_X7_thin XC (by first | (with_reducible assumption) | (unfold IR; omega) | (unfold IR at *; omega)) (by first | (with_reducible assumption) | (unfold IR; omega) | (unfold IR at *; omega)) gL_shapes_X7_thin ⟨⟨(Nat.le_of_ble_eq_true rfl), (Nat.le_of_ble_eq_true rfl)⟩, (Nat.le_of_ble_eq_true rfl), (Nat.le_of_ble_eq_true rfl)⟩ (Nat.le_of_ble_eq_true rfl) dL_shapes_338 ?_
      rw [thin_again hkt hgk (by omega) hth1.2.2]
      refine P_top (y := -5) rfl ?_
      change PP _ _ _ _ _ _ _ _ _ _ _ _ _ _ _ _ _ _ _ _ _ _ _ _ τ
      refine P_bipush XC dL_shapes_341 (by decide) ?_
      refine P_icmp_ne XC 378 dL_shapes_343 (by decide) (by first | (with_reducible assumption) | (unfold IR; omega) | (unfold IR at *; omega)) (by first | (with_reducible assumption) | (unfold IR; omega) | (unfold IR at *; omega)) (fun h343 => ?_) (fun h343 => ?_)
      · exfalso
        omega
      refine P_aload_n XC 0 rfl dL_shapes_346 rfl ?_
      refine P_iload_n XC 1 rfl dL_shapes_347 rfl ?_
      refine P_bipush XC dL_shapes_348 (by decide) ?_
      refine P_X7_smooth XC (by first | (with_reducible assumption) | (unfold IR; omega) | (unfold IR at *; omega)) (by first | (with_reducible assumption) | (unfold IR; omega) | (unfold IR at *; omega)) gL_shapes_X7_smooth ⟨⟨(Nat.le_of_ble_eq_true rfl), (Nat.le_of_ble_eq_true rfl)⟩, (Nat.le_of_ble_eq_true rfl), (Nat.le_of_ble_eq_true rfl)⟩ (Nat.le_of_ble_eq_true rfl) dL_shapes_350 ?_
      rw [smooth_bad hkt]
      refine P_top (y := -2) rfl ?_
      change PP _ _ _ _ _ _ _ _ _ _ _ _ _ _ _ _ _ _ _ _ _ _ _ _ τ
      refine P_bipush XC dL_shapes_353 (by decide) ?_
      refine P_icmp_ne XC 378 dL_shapes_355 (by decide) (by first | (with_reducible assumption) | (unfold IR; omega) | (unfold IR at *; omega)) (by first | (with_reducible assumption) | (unfold IR; omega) | (unfold IR at *; omega)) (fun h355 => ?_) (fun h355 => ?_)
      · exfalso
        omega
      refine P_aload_n XC 0 rfl dL_shapes_358 rfl ?_
      refine P_iload_n XC 1 rfl dL_shapes_359 rfl ?_
      refine P_iconst XC dL_shapes_360 ?_
      refine P_X7_thin XC (by first | (with_reducible assumption) | (unfold IR; omega) | (unfold IR at *; omega)) (by first | (with_reducible assumption) | (unfold IR; omega) | (unfold IR at *; omega)) gL_shapes_X7_thin ⟨⟨(Nat.le_of_ble_eq_true rfl), (Nat.le_of_ble_eq_true rfl)⟩, (Nat.le_of_ble_eq_true rfl), (Nat.le_of_ble_eq_true rfl)⟩ (Nat.le_of_ble_eq_true rfl) dL_shapes_361 ?_
      rw [thin_bad hkt]
      refine P_top (y := -2) rfl ?_
      change PP _ _ _ _ _ _ _ _ _ _ _ _ _ _ _ _ _ _ _ _ _ _ _ _ τ
      refine P_bipush XC dL_shapes_364 (by decide) ?_
      refine P_icmp_ne XC 378 dL_shapes_366 (by decide) (by first | (with_reducible assumption) | (unfold IR; omega) | (unfold IR at *; omega)) (by first | (with_reducible assumption) | (unfold IR; omega) | (unfold IR at *; omega)) (fun h366 => ?_) (fun h366 => ?_)
      · exfalso
        omega
      refine P_iload XC dL_shapes_369 rfl ?_
      refine P_if_lt XC 378 dL_shapes_371 (by decide) (by first | (with_reducible assumption) | (unfold IR; omega) | (unfold IR at *; omega)) (fun h371 => ?_) (fun h371 => ?_)
      · exfalso
        omega
      refine P_iconst XC dL_shapes_374 ?_
      refine P_goto XC 379 dL_shapes_375 (by decide) ?_
      exact P_zret (r := true) XC hrV dL_shapes_379 (fun u hu => hQ _ _ u ⟨1, rfl, rfl, _, hoo⟩ hu)
    have hth0 := hth (by omega)
    have hdq := hth0.1 i hi1 hi
    have hx1 := hxt i (by omega)
    have hx2 := hxt (i - 1) (by omega)
    have hq1 := sqb (x := qx ps i - qx ps (i - 1)) (B := 1000) (by omega) (by omega)
    have hq2 := sqb (x := qy ps i - qy ps (i - 1)) (B := 1000) (by omega) (by omega)
    have hq3 := sqb (x := dd) (B := 120) (by omega) (by omega)
    unfold dq at hdq
    refine P_aload_n XC 0 rfl dL_shapes_265 rfl ?_
    refine P_iload_n XC 1 rfl dL_shapes_266 rfl ?_
    refine P_iload XC dL_shapes_267 rfl ?_
    refine P_iconst XC dL_shapes_269 ?_
    refine P_X7_point XC (by first | (with_reducible assumption) | (unfold IR; omega) | (unfold IR at *; omega)) (by first | (with_reducible assumption) | (unfold IR; omega) | (unfold IR at *; omega)) (by first | (with_reducible assumption) | (unfold IR; omega) | (unfold IR at *; omega)) gL_shapes_X7_point ⟨⟨(Nat.le_of_ble_eq_true rfl), (Nat.le_of_ble_eq_true rfl)⟩, (Nat.le_of_ble_eq_true rfl), (Nat.le_of_ble_eq_true rfl)⟩ (Nat.le_of_ble_eq_true rfl) dL_shapes_270 ?_
    refine P_top (y := qx ps i) ((pt_0 hkt (by rw [hgk, hzs]; omega)).trans (by rw [hgk]; rfl)) ?_
    refine P_aload_n XC 0 rfl dL_shapes_273 rfl ?_
    refine P_iload_n XC 1 rfl dL_shapes_274 rfl ?_
    refine P_iload XC dL_shapes_275 rfl ?_
    refine P_iconst XC dL_shapes_277 ?_
    refine P_isub XC dL_shapes_278 ?_
    refine P_top (y := ((i - 1 : Nat) : Int)) (by omega) ?_
    refine P_iconst XC dL_shapes_279 ?_
    refine P_X7_point XC (by first | (with_reducible assumption) | (unfold IR; omega) | (unfold IR at *; omega)) (by first | (with_reducible assumption) | (unfold IR; omega) | (unfold IR at *; omega)) (by first | (with_reducible assumption) | (unfold IR; omega) | (unfold IR at *; omega)) gL_shapes_X7_point ⟨⟨(Nat.le_of_ble_eq_true rfl), (Nat.le_of_ble_eq_true rfl)⟩, (Nat.le_of_ble_eq_true rfl), (Nat.le_of_ble_eq_true rfl)⟩ (Nat.le_of_ble_eq_true rfl) dL_shapes_280 ?_
    refine P_top (y := qx ps (i - 1)) ((pt_0 hkt (by rw [hgk, hzs]; omega)).trans (by rw [hgk]; rfl)) ?_
    refine P_isub XC dL_shapes_283 ?_
    refine P_aload_n XC 0 rfl dL_shapes_284 rfl ?_
    refine P_iload_n XC 1 rfl dL_shapes_285 rfl ?_
    refine P_iload XC dL_shapes_286 rfl ?_
    refine P_iconst XC dL_shapes_288 ?_
    refine P_X7_point XC (by first | (with_reducible assumption) | (unfold IR; omega) | (unfold IR at *; omega)) (by first | (with_reducible assumption) | (unfold IR; omega) | (unfold IR at *; omega)) (by first | (with_reducible assumption) | (unfold IR; omega) | (unfold IR at *; omega)) gL_shapes_X7_point ⟨⟨(Nat.le_of_ble_eq_true rfl), (Nat.le_of_ble_eq_true rfl)⟩, (Nat.le_of_ble_eq_true rfl), (Nat.le_of_ble_eq_true rfl)⟩ (Nat.le_of_ble_eq_true rfl) dL_shapes_289 ?_
    refine P_top (y := qy ps i) ((pt_1 hkt (by rw [hgk, hzs]; omega)).trans (by rw [hgk]; rfl)) ?_
    refine P_aload_n XC 0 rfl dL_shapes_292 rfl ?_
    refine P_iload_n XC 1 rfl dL_shapes_293 rfl ?_
    refine P_iload XC dL_shapes_294 rfl ?_
    refine P_iconst XC dL_shapes_296 ?_
    refine P_isub XC dL_shapes_297 ?_
    refine P_top (y := ((i - 1 : Nat) : Int)) (by omega) ?_
    refine P_iconst XC dL_shapes_298 ?_
    refine P_X7_point XC (by first | (with_reducible assumption) | (unfold IR; omega) | (unfold IR at *; omega)) (by first | (with_reducible assumption) | (unfold IR; omega) | (unfold IR at *; omega)) (by first | (with_reducible assumption) | (unfold IR; omega) | (unfold IR at *; omega)) gL_shapes_X7_point ⟨⟨(Nat.le_of_ble_eq_true rfl), (Nat.le_of_ble_eq_true rfl)⟩, (Nat.le_of_ble_eq_true rfl), (Nat.le_of_ble_eq_true rfl)⟩ (Nat.le_of_ble_eq_true rfl) dL_shapes_299 ?_
    refine P_top (y := qy ps (i - 1)) ((pt_1 hkt (by rw [hgk, hzs]; omega)).trans (by rw [hgk]; rfl)) ?_
    refine P_isub XC dL_shapes_302 ?_
    refine P_call (rest := _) XC (c_L_far l D kI kC pa pg pw _ _ _) gL_shapes_L_far rfl kmL_far ⟨⟨(Nat.le_of_ble_eq_true rfl), (Nat.le_of_ble_eq_true rfl)⟩, (Nat.le_of_ble_eq_true rfl), (Nat.le_of_ble_eq_true rfl)⟩ ⟨rfl, rfl⟩ rfl rfl (Nat.le_of_ble_eq_true rfl) dL_shapes_303 (kS_of (fun r303 hr303 => ?_))
    dsimp only [Option.toList, List.cons_append, List.nil_append]
    subst hr303
    refine P_iload XC dL_shapes_306 rfl ?_
    refine P_iload XC dL_shapes_308 rfl ?_
    refine P_imul XC dL_shapes_310 ?_
    refine P_icmp_ge XC 316 dL_shapes_311 (by decide) (by first | (with_reducible assumption) | (unfold IR; omega) | (unfold IR at *; omega)) (by first | (with_reducible assumption) | (unfold IR; omega) | (unfold IR at *; omega)) (fun h311 => ?_) (fun h311 => ?_)
    rotate_left
    · exfalso
      omega
    refine P_iinc XC dL_shapes_316 rfl rfl (by decide) ?_
    dsimp only [List.set]
    refine P_goto XC 251 dL_shapes_319 (by decide) ?_
    exact ih251 (i + 1) (by (try dsimp only); omega) (by (try dsimp only); omega)
  have hSe : τ.1.1 = σ.1.1 := by
    rcases hJ2 with ⟨_, e⟩ | ⟨ps, _, e, hsf, _⟩
    · exact e
    · have := hsf.1; omega
  refine P_aload_n XC 0 rfl dL_shapes_132 rfl ?_
  refine P_call (rest := _) XC (c_L_whole l D kI kC pa pg pw τ) gL_shapes_L_whole rfl kmL_whole ⟨⟨(Nat.le_of_ble_eq_true rfl), (Nat.le_of_ble_eq_true rfl)⟩, (Nat.le_of_ble_eq_true rfl), (Nat.le_of_ble_eq_true rfl)⟩ ⟨rfl, rfl⟩ rfl rfl (Nat.le_of_ble_eq_true rfl) dL_shapes_133 (kL_of ?_)
  dsimp only [Option.toList, List.cons_append, List.nil_append]
  refine P_lload XC dL_shapes_136 rfl ?_
  refine P_lcmp XC dL_shapes_138 ?_
  refine P_lc_ne XC 146 dL_shapes_139 (by decide) (fun h139 => ?_) (fun h139 => ?_)
  · exfalso
    exact h139 (by rw [hSe])
  refine P_iconst XC dL_shapes_142 ?_
  refine P_goto XC 147 dL_shapes_143 (by decide) ?_
  exact P_zret (r := true) XC hrV dL_shapes_147 (fun u hu => hQ _ _ u ⟨1, rfl, rfl, _, hoo⟩ hu)

set_option maxRecDepth 100000 in
set_option maxHeartbeats 4000000 in
theorem c_L_texts (l : Launch) (D : va_G) (kI kC : ClassId) (pa pg pw : Nat → Nat) (σ : PS) (g : Int) (hg : IR g) : PCon l yL_texts wsL_texts { frames := 7, cells := 0, slots := 0, locals := 161 } D kI kC pa pg pw [.ref (pa 0), .int (iI g)] σ (qT (fun r σ2 => r = 1 ∧ ∃ X', σ2 = (σ.1, [], X', σ.2.2.2))) := by
  refine PCon.of (cc := cL_texts) (maxL := 6) (ret := (some .boolean)) (by decide +kernel) rfl (Nat.le_of_ble_eq_true rfl) ?_
  intro pV eV sV mV bV tV cV AV Qf XC hrV hQ
  have XC : Cx pV _ sV mV _ tV cV cL_texts 6 RL wsL_texts AV D kI kC := XC
  change PP _ _ _ _ _ _ _ _ _ _ _ _ _ _ _ _ _ _ _ _ _ _ [some (.ref (pa 0)), some (.int (iI g)), none, none, none, none] _ _
  refine P_ok (fun hok => ?_)
  have hS := ok_S hok
  have h16 := ok_16 hok
  refine P_aload_n XC 0 rfl dL_texts_0 rfl ?_
  refine P_X7_clearText XC  gL_texts_X7_clearText ⟨⟨(Nat.le_of_ble_eq_true rfl), (Nat.le_of_ble_eq_true rfl)⟩, (Nat.le_of_ble_eq_true rfl), (Nat.le_of_ble_eq_true rfl)⟩ (Nat.le_of_ble_eq_true rfl) dL_texts_1 ?_
  try dsimp only
  refine P_pop XC dL_texts_4 rfl ?_
  refine P_iconst XC dL_texts_5 ?_
  refine P_iload_n XC 1 rfl dL_texts_6 rfl ?_
  refine P_iconst XC dL_texts_7 ?_
  refine P_call (rest := _) XC (c_L_low l D kI kC pa pg pw _ _ _ hg (by decide)) gL_texts_L_low rfl kmL_low ⟨⟨(Nat.le_of_ble_eq_true rfl), (Nat.le_of_ble_eq_true rfl)⟩, (Nat.le_of_ble_eq_true rfl), (Nat.le_of_ble_eq_true rfl)⟩ ⟨rfl, rfl⟩ rfl rfl (Nat.le_of_ble_eq_true rfl) dL_texts_8 (kS_of (fun r8 hr8 => ?_))
  dsimp only [Option.toList, List.cons_append, List.nil_append]
  refine P_iadd XC dL_texts_11 ?_
  obtain ⟨m, hm⟩ : ∃ m : Nat, (m : Int) = 1 + r8 := ⟨(1 + r8).toNat, by omega⟩
  rw [← hm]
  have hm5 : 1 ≤ m ∧ m ≤ 5 := by omega
  refine P_istore_n XC 2 rfl dL_texts_12 rfl (by decide) ?_
  dsimp only [List.set]
  refine P_iconst XC dL_texts_13 ?_
  refine P_istore_n XC 3 rfl dL_texts_14 rfl (by decide) ?_
  dsimp only [List.set]
  refine P_iconst XC dL_texts_15 ?_
  refine P_istore XC dL_texts_16 rfl (by decide) ?_
  dsimp only [List.set]
  refine P_loop (τ := Nat × List Int × Int) (fun u => m - u.1) (fun u => TXI u.1 u.2.1 ∧ u.1 ≤ m ∧ (0 < u.1 → u.2.2 = (u.2.1.length : Int))) (fun u => [some (.ref (pa 0)), some (.int (iI g)), some (.int (iI (m : Int))), some (.int (iI u.2.2)), some (.int (iI (u.1 : Int))), none]) (fun u => ((σ.1, σ.2.1, u.2.1, σ.2.2.2) : PS)) (0, [], 0) ⟨Or.inl ⟨rfl, rfl⟩, Nat.zero_le _, fun z => absurd z (Nat.lt_irrefl 0)⟩ rfl rfl (fun u hJ ih18 => ?_)
  obtain ⟨u, X, len⟩ := u
  try dsimp only at hJ ih18 ⊢
  obtain ⟨hT, hum, hlen⟩ := hJ
  refine P_iload XC dL_texts_18 rfl ?_
  refine P_iload_n XC 2 rfl dL_texts_20 rfl ?_
  refine P_icmp_ge XC 91 dL_texts_21 (by decide) (by first | (with_reducible assumption) | (unfold IR; omega) | (unfold IR at *; omega)) (by first | (with_reducible assumption) | (unfold IR; omega) | (unfold IR at *; omega)) (fun h21 => ?_) (fun h21 => ?_)
  · skip
    have hue : u = m := by omega
    subst hue
    obtain ⟨hXl, ⟨K, hK, hKl⟩, hC⟩ := TXI_end (by omega) hT
    have hlen2 := hlen (by omega)
    have hKl2 : K.length = u := hKl
    refine P_aload_n XC 0 rfl dL_texts_91 rfl ?_
    refine P_X7_readPoints XC  gL_texts_X7_readPoints ⟨⟨(Nat.le_of_ble_eq_true rfl), (Nat.le_of_ble_eq_true rfl)⟩, (Nat.le_of_ble_eq_true rfl), (Nat.le_of_ble_eq_true rfl)⟩ (Nat.le_of_ble_eq_true rfl) dL_texts_92 ?_
    try dsimp only
    rw [prX_def X, hK]
    (try dsimp only)
    rw [if_pos rfl, if_pos rfl]
    refine P_iload_n XC 2 rfl dL_texts_95 rfl ?_
    refine P_icmp_ne XC 109 dL_texts_96 (by decide) (by first | (with_reducible assumption) | (unfold IR; omega) | (unfold IR at *; omega)) (by first | (with_reducible assumption) | (unfold IR; omega) | (unfold IR at *; omega)) (fun h96 => ?_) (fun h96 => ?_)
    · exfalso
      omega
    refine P_aload_n XC 0 rfl dL_texts_99 rfl ?_
    refine P_bipush XC dL_texts_100 (by decide) ?_
    refine P_X7_count XC (by first | (with_reducible assumption) | (unfold IR; omega) | (unfold IR at *; omega)) gL_texts_X7_count ⟨⟨(Nat.le_of_ble_eq_true rfl), (Nat.le_of_ble_eq_true rfl)⟩, (Nat.le_of_ble_eq_true rfl), (Nat.le_of_ble_eq_true rfl)⟩ (Nat.le_of_ble_eq_true rfl) dL_texts_102 (fun r102 hr102 => ?_)
    have hc7 : r102 = (K.length : Int) := cn_7 hr102
    subst hc7
    refine P_iload_n XC 2 rfl dL_texts_105 rfl ?_
    refine P_icmp_eq XC 111 dL_texts_106 (by decide) (by first | (with_reducible assumption) | (unfold IR; omega) | (unfold IR at *; omega)) (by first | (with_reducible assumption) | (unfold IR; omega) | (unfold IR at *; omega)) (fun h106 => ?_) (fun h106 => ?_)
    rotate_left
    · exfalso
      omega
    refine P_aload_n XC 0 rfl dL_texts_111 rfl ?_
    refine P_bipush XC dL_texts_112 (by decide) ?_
    refine P_X7_type XC (by omega) (by (try dsimp only); (try simp only [List.length_append, List.length_singleton, List.length_cons, List.length_nil]); omega) gL_texts_X7_type ⟨⟨(Nat.le_of_ble_eq_true rfl), (Nat.le_of_ble_eq_true rfl)⟩, (Nat.le_of_ble_eq_true rfl), (Nat.le_of_ble_eq_true rfl)⟩ (Nat.le_of_ble_eq_true rfl) dL_texts_114 ?_
    try dsimp only
    refine P_pop XC dL_texts_117 rfl ?_
    refine P_aload_n XC 0 rfl dL_texts_118 rfl ?_
    refine P_X7_readPoints XC  gL_texts_X7_readPoints ⟨⟨(Nat.le_of_ble_eq_true rfl), (Nat.le_of_ble_eq_true rfl)⟩, (Nat.le_of_ble_eq_true rfl), (Nat.le_of_ble_eq_true rfl)⟩ (Nat.le_of_ble_eq_true rfl) dL_texts_119 ?_
    try dsimp only
    rw [prX_def (X ++ [44]), hC, if_neg (by omega), if_neg (by omega)]
    refine P_bipush XC dL_texts_122 (by decide) ?_
    refine P_iload_n XC 3 rfl dL_texts_124 rfl ?_
    refine P_isub XC dL_texts_125 ?_
    refine P_icmp_ne XC 133 dL_texts_126 (by decide) (by first | (with_reducible assumption) | (unfold IR; omega) | (unfold IR at *; omega)) (by first | (with_reducible assumption) | (unfold IR; omega) | (unfold IR at *; omega)) (fun h126 => ?_) (fun h126 => ?_)
    · exfalso
      omega
    refine P_iconst XC dL_texts_129 ?_
    refine P_goto XC 134 dL_texts_130 (by decide) ?_
    refine P_istore XC dL_texts_134 rfl (by decide) ?_
    dsimp only [List.set]
    refine P_aload_n XC 0 rfl dL_texts_136 rfl ?_
    refine P_X7_clearText XC  gL_texts_X7_clearText ⟨⟨(Nat.le_of_ble_eq_true rfl), (Nat.le_of_ble_eq_true rfl)⟩, (Nat.le_of_ble_eq_true rfl), (Nat.le_of_ble_eq_true rfl)⟩ (Nat.le_of_ble_eq_true rfl) dL_texts_137 ?_
    try dsimp only
    refine P_pop XC dL_texts_140 rfl ?_
    refine P_aload_n XC 0 rfl dL_texts_141 rfl ?_
    refine P_bipush XC dL_texts_142 (by decide) ?_
    refine P_X7_type XC (by omega) (by (try dsimp only); (try simp only [List.length_append, List.length_singleton, List.length_cons, List.length_nil]); omega) gL_texts_X7_type ⟨⟨(Nat.le_of_ble_eq_true rfl), (Nat.le_of_ble_eq_true rfl)⟩, (Nat.le_of_ble_eq_true rfl), (Nat.le_of_ble_eq_true rfl)⟩ (Nat.le_of_ble_eq_true rfl) dL_texts_144 ?_
    try dsimp only
    refine P_pop XC dL_texts_147 rfl ?_
    refine P_aload_n XC 0 rfl dL_texts_148 rfl ?_
    refine P_bipush XC dL_texts_149 (by decide) ?_
    refine P_X7_type XC (by omega) (by (try dsimp only); (try simp only [List.length_append, List.length_singleton, List.length_cons, List.length_nil]); omega) gL_texts_X7_type ⟨⟨(Nat.le_of_ble_eq_true rfl), (Nat.le_of_ble_eq_true rfl)⟩, (Nat.le_of_ble_eq_true rfl), (Nat.le_of_ble_eq_true rfl)⟩ (Nat.le_of_ble_eq_true rfl) dL_texts_151 ?_
    try dsimp only
    refine P_pop XC dL_texts_154 rfl ?_
    refine P_aload_n XC 0 rfl dL_texts_155 rfl ?_
    refine P_bipush XC dL_texts_156 (by decide) ?_
    refine P_X7_type XC (by omega) (by (try dsimp only); (try simp only [List.length_append, List.length_singleton, List.length_cons, List.length_nil]); omega) gL_texts_X7_type ⟨⟨(Nat.le_of_ble_eq_true rfl), (Nat.le_of_ble_eq_true rfl)⟩, (Nat.le_of_ble_eq_true rfl), (Nat.le_of_ble_eq_true rfl)⟩ (Nat.le_of_ble_eq_true rfl) dL_texts_158 ?_
    try dsimp only
    refine P_pop XC dL_texts_161 rfl ?_
    refine P_aload_n XC 0 rfl dL_texts_162 rfl ?_
    refine P_bipush XC dL_texts_163 (by decide) ?_
    refine P_X7_type XC (by omega) (by (try dsimp only); (try simp only [List.length_append, List.length_singleton, List.length_cons, List.length_nil]); omega) gL_texts_X7_type ⟨⟨(Nat.le_of_ble_eq_true rfl), (Nat.le_of_ble_eq_true rfl)⟩, (Nat.le_of_ble_eq_true rfl), (Nat.le_of_ble_eq_true rfl)⟩ (Nat.le_of_ble_eq_true rfl) dL_texts_165 ?_
    try dsimp only
    refine P_pop XC dL_texts_168 rfl ?_
    refine P_aload_n XC 0 rfl dL_texts_169 rfl ?_
    refine P_X7_readPoints XC  gL_texts_X7_readPoints ⟨⟨(Nat.le_of_ble_eq_true rfl), (Nat.le_of_ble_eq_true rfl)⟩, (Nat.le_of_ble_eq_true rfl), (Nat.le_of_ble_eq_true rfl)⟩ (Nat.le_of_ble_eq_true rfl) dL_texts_170 ?_
    try dsimp only
    rw [prX_def ([] ++ [49] ++ [48] ++ [48] ++ [49]), show prX ([] ++ [49] ++ [48] ++ [48] ++ [49]) = (0, []) from prX_1]
    (try dsimp only)
    rw [if_neg (by decide), if_neg (by decide)]
    refine P_top (y := -100) (by decide) ?_
    refine P_bipush XC dL_texts_173 (by decide) ?_
    refine P_icmp_ne XC 182 dL_texts_175 (by decide) (by first | (with_reducible assumption) | (unfold IR; omega) | (unfold IR at *; omega)) (by first | (with_reducible assumption) | (unfold IR; omega) | (unfold IR at *; omega)) (fun h175 => ?_) (fun h175 => ?_)
    · exfalso
      omega
    refine P_iconst XC dL_texts_178 ?_
    refine P_goto XC 183 dL_texts_179 (by decide) ?_
    refine P_istore XC dL_texts_183 rfl (by decide) ?_
    dsimp only [List.set]
    refine P_aload_n XC 0 rfl dL_texts_185 rfl ?_
    refine P_bipush XC dL_texts_186 (by decide) ?_
    refine P_X7_type XC (by omega) (by (try dsimp only); (try simp only [List.length_append, List.length_singleton, List.length_cons, List.length_nil]); omega) gL_texts_X7_type ⟨⟨(Nat.le_of_ble_eq_true rfl), (Nat.le_of_ble_eq_true rfl)⟩, (Nat.le_of_ble_eq_true rfl), (Nat.le_of_ble_eq_true rfl)⟩ (Nat.le_of_ble_eq_true rfl) dL_texts_188 ?_
    try dsimp only
    refine P_pop XC dL_texts_191 rfl ?_
    refine P_iload XC dL_texts_192 rfl ?_
    refine P_if_eq XC 230 dL_texts_194 (by decide) (by first | (with_reducible assumption) | (unfold IR; omega) | (unfold IR at *; omega)) (fun h194 => ?_) (fun h194 => ?_)
    · exfalso
      omega
    refine P_iload XC dL_texts_197 rfl ?_
    refine P_if_eq XC 230 dL_texts_199 (by decide) (by first | (with_reducible assumption) | (unfold IR; omega) | (unfold IR at *; omega)) (fun h199 => ?_) (fun h199 => ?_)
    · exfalso
      omega
    refine P_aload_n XC 0 rfl dL_texts_202 rfl ?_
    refine P_X7_readPoints XC  gL_texts_X7_readPoints ⟨⟨(Nat.le_of_ble_eq_true rfl), (Nat.le_of_ble_eq_true rfl)⟩, (Nat.le_of_ble_eq_true rfl), (Nat.le_of_ble_eq_true rfl)⟩ (Nat.le_of_ble_eq_true rfl) dL_texts_203 ?_
    try dsimp only
    rw [prX_def ([] ++ [49] ++ [48] ++ [48] ++ [49] ++ [48]), show prX ([] ++ [49] ++ [48] ++ [48] ++ [49] ++ [48]) = (4, []) from prX_2]
    (try dsimp only)
    rw [if_neg (by decide), if_neg (by decide)]
    refine P_top (y := -104) (by decide) ?_
    refine P_bipush XC dL_texts_206 (by decide) ?_
    refine P_icmp_ne XC 230 dL_texts_208 (by decide) (by first | (with_reducible assumption) | (unfold IR; omega) | (unfold IR at *; omega)) (by first | (with_reducible assumption) | (unfold IR; omega) | (unfold IR at *; omega)) (fun h208 => ?_) (fun h208 => ?_)
    · exfalso
      omega
    refine P_aload_n XC 0 rfl dL_texts_211 rfl ?_
    refine P_X7_clearPoints XC  gL_texts_X7_clearPoints ⟨⟨(Nat.le_of_ble_eq_true rfl), (Nat.le_of_ble_eq_true rfl)⟩, (Nat.le_of_ble_eq_true rfl), (Nat.le_of_ble_eq_true rfl)⟩ (Nat.le_of_ble_eq_true rfl) dL_texts_212 ?_
    try dsimp only
    refine P_iload_n XC 2 rfl dL_texts_215 rfl ?_
    refine P_icmp_ne XC 230 dL_texts_216 (by decide) (by first | (with_reducible assumption) | (unfold IR; omega) | (unfold IR at *; omega)) (by first | (with_reducible assumption) | (unfold IR; omega) | (unfold IR at *; omega)) (fun h216 => ?_) (fun h216 => ?_)
    · exfalso
      omega
    refine P_aload_n XC 0 rfl dL_texts_219 rfl ?_
    refine P_X7_clearPoints XC  gL_texts_X7_clearPoints ⟨⟨(Nat.le_of_ble_eq_true rfl), (Nat.le_of_ble_eq_true rfl)⟩, (Nat.le_of_ble_eq_true rfl), (Nat.le_of_ble_eq_true rfl)⟩ (Nat.le_of_ble_eq_true rfl) dL_texts_220 ?_
    try dsimp only
    refine P_top (y := 0) rfl ?_
    refine P_if_ne XC 230 dL_texts_223 (by decide) (by first | (with_reducible assumption) | (unfold IR; omega) | (unfold IR at *; omega)) (fun h223 => ?_) (fun h223 => ?_)
    · exfalso
      omega
    refine P_iconst XC dL_texts_226 ?_
    refine P_goto XC 231 dL_texts_227 (by decide) ?_
    exact P_zret (r := true) XC hrV dL_texts_231 (fun u hu => hQ _ _ u ⟨1, rfl, rfl, _, rfl⟩ hu)
  have hum2 : u < m := by omega
  refine P_iload XC dL_texts_24 rfl ?_
  refine P_if_le XC 49 dL_texts_26 (by decide) (by first | (with_reducible assumption) | (unfold IR; omega) | (unfold IR at *; omega)) (fun h26 => ?_) (fun h26 => ?_)
  · skip
    have hu0 : u = 0 := by omega
    obtain rfl : X = [] := by
      rcases hT with ⟨_, e⟩ | ⟨e, _⟩
      · exact e
      · omega
    refine P_aload_n XC 0 rfl dL_texts_49 rfl ?_
    refine P_bipush XC dL_texts_50 (by decide) ?_
    refine P_iload XC dL_texts_52 rfl ?_
    refine P_iadd XC dL_texts_54 ?_
    refine P_i2c XC (by omega) dL_texts_55 ?_
    refine P_X7_type XC (by omega) (by (try dsimp only); (try simp only [List.length_append, List.length_singleton, List.length_cons, List.length_nil]); omega) gL_texts_X7_type ⟨⟨(Nat.le_of_ble_eq_true rfl), (Nat.le_of_ble_eq_true rfl)⟩, (Nat.le_of_ble_eq_true rfl), (Nat.le_of_ble_eq_true rfl)⟩ (Nat.le_of_ble_eq_true rfl) dL_texts_56 ?_
    try dsimp only
    refine P_pop XC dL_texts_59 rfl ?_
    refine P_aload_n XC 0 rfl dL_texts_60 rfl ?_
    refine P_bipush XC dL_texts_61 (by decide) ?_
    refine P_X7_type XC (by omega) (by (try dsimp only); (try simp only [List.length_append, List.length_singleton, List.length_cons, List.length_nil]); omega) gL_texts_X7_type ⟨⟨(Nat.le_of_ble_eq_true rfl), (Nat.le_of_ble_eq_true rfl)⟩, (Nat.le_of_ble_eq_true rfl), (Nat.le_of_ble_eq_true rfl)⟩ (Nat.le_of_ble_eq_true rfl) dL_texts_63 ?_
    try dsimp only
    refine P_pop XC dL_texts_66 rfl ?_
    refine P_aload_n XC 0 rfl dL_texts_67 rfl ?_
    refine P_bipush XC dL_texts_68 (by decide) ?_
    refine P_iload_n XC 1 rfl dL_texts_70 rfl ?_
    refine P_iload XC dL_texts_71 rfl ?_
    refine P_ishr XC dL_texts_73 ?_
    refine P_any (fun z73 hz73 ez73 => ?_)
    refine P_bipush XC dL_texts_74 (by decide) ?_
    refine P_call (rest := _) XC (c_L_low l D kI kC pa pg pw _ _ _ hz73 (by decide)) gL_texts_L_low rfl kmL_low ⟨⟨(Nat.le_of_ble_eq_true rfl), (Nat.le_of_ble_eq_true rfl)⟩, (Nat.le_of_ble_eq_true rfl), (Nat.le_of_ble_eq_true rfl)⟩ ⟨rfl, rfl⟩ rfl rfl (Nat.le_of_ble_eq_true rfl) dL_texts_76 (kS_of (fun r76 hr76 => ?_))
    dsimp only [Option.toList, List.cons_append, List.nil_append]
    refine P_iadd XC dL_texts_79 ?_
    refine P_i2c XC (by omega) dL_texts_80 ?_
    refine P_X7_type XC (by omega) (by (try dsimp only); (try simp only [List.length_append, List.length_singleton, List.length_cons, List.length_nil]); omega) gL_texts_X7_type ⟨⟨(Nat.le_of_ble_eq_true rfl), (Nat.le_of_ble_eq_true rfl)⟩, (Nat.le_of_ble_eq_true rfl), (Nat.le_of_ble_eq_true rfl)⟩ (Nat.le_of_ble_eq_true rfl) dL_texts_81 ?_
    try dsimp only
    refine P_istore_n XC 3 rfl dL_texts_84 rfl (by decide) ?_
    dsimp only [List.set]
    refine P_iinc XC dL_texts_85 rfl rfl (by decide) ?_
    dsimp only [List.set]
    refine P_goto XC 18 dL_texts_88 (by decide) ?_
    refine ih18 (u + 1, _, _) ⟨?_, by (try dsimp only); omega, ?_⟩ (by (try dsimp only); omega)
    · first | exact (TXI_blank (by omega) (by omega) hT).2 _ _ rfl (by omega) (by omega) | exact TXI_first2 hu0 rfl (by omega)
    · (try dsimp only); intro _; (try simp only [List.length_append, List.length_singleton, List.length_cons, List.length_nil]); omega
  have hbl := TXI_blank (by omega) (by omega) hT
  have hXl := hbl.1.1
  have hle : ((X ++ [32]).length : Int) = (X.length : Int) + 1 := by rw [List.length_append, List.length_singleton]; omega
  refine P_aload_n XC 0 rfl dL_texts_29 rfl ?_
  refine P_bipush XC dL_texts_30 (by decide) ?_
  refine P_X7_type XC (by omega) (by (try dsimp only); (try simp only [List.length_append, List.length_singleton, List.length_cons, List.length_nil]); omega) gL_texts_X7_type ⟨⟨(Nat.le_of_ble_eq_true rfl), (Nat.le_of_ble_eq_true rfl)⟩, (Nat.le_of_ble_eq_true rfl), (Nat.le_of_ble_eq_true rfl)⟩ (Nat.le_of_ble_eq_true rfl) dL_texts_32 ?_
  try dsimp only
  refine P_istore_n XC 3 rfl dL_texts_35 rfl (by decide) ?_
  dsimp only [List.set]
  refine P_aload_n XC 0 rfl dL_texts_36 rfl ?_
  refine P_X7_readPoints XC  gL_texts_X7_readPoints ⟨⟨(Nat.le_of_ble_eq_true rfl), (Nat.le_of_ble_eq_true rfl)⟩, (Nat.le_of_ble_eq_true rfl), (Nat.le_of_ble_eq_true rfl)⟩ (Nat.le_of_ble_eq_true rfl) dL_texts_37 ?_
  try dsimp only
  rw [prX_def (X ++ [32]), hbl.1.2, if_neg (by omega), if_neg (by omega)]
  refine P_bipush XC dL_texts_40 (by decide) ?_
  refine P_iload_n XC 3 rfl dL_texts_42 rfl ?_
  refine P_isub XC dL_texts_43 ?_
  refine P_icmp_eq XC 49 dL_texts_44 (by decide) (by first | (with_reducible assumption) | (unfold IR; omega) | (unfold IR at *; omega)) (by first | (with_reducible assumption) | (unfold IR; omega) | (unfold IR at *; omega)) (fun h44 => ?_) (fun h44 => ?_)
  rotate_left
  · exfalso
    omega
  refine P_aload_n XC 0 rfl dL_texts_49 rfl ?_
  refine P_bipush XC dL_texts_50 (by decide) ?_
  refine P_iload XC dL_texts_52 rfl ?_
  refine P_iadd XC dL_texts_54 ?_
  refine P_i2c XC (by omega) dL_texts_55 ?_
  refine P_X7_type XC (by omega) (by (try dsimp only); (try simp only [List.length_append, List.length_singleton, List.length_cons, List.length_nil]); omega) gL_texts_X7_type ⟨⟨(Nat.le_of_ble_eq_true rfl), (Nat.le_of_ble_eq_true rfl)⟩, (Nat.le_of_ble_eq_true rfl), (Nat.le_of_ble_eq_true rfl)⟩ (Nat.le_of_ble_eq_true rfl) dL_texts_56 ?_
  try dsimp only
  refine P_pop XC dL_texts_59 rfl ?_
  refine P_aload_n XC 0 rfl dL_texts_60 rfl ?_
  refine P_bipush XC dL_texts_61 (by decide) ?_
  refine P_X7_type XC (by omega) (by (try dsimp only); (try simp only [List.length_append, List.length_singleton, List.length_cons, List.length_nil]); omega) gL_texts_X7_type ⟨⟨(Nat.le_of_ble_eq_true rfl), (Nat.le_of_ble_eq_true rfl)⟩, (Nat.le_of_ble_eq_true rfl), (Nat.le_of_ble_eq_true rfl)⟩ (Nat.le_of_ble_eq_true rfl) dL_texts_63 ?_
  try dsimp only
  refine P_pop XC dL_texts_66 rfl ?_
  refine P_aload_n XC 0 rfl dL_texts_67 rfl ?_
  refine P_bipush XC dL_texts_68 (by decide) ?_
  refine P_iload_n XC 1 rfl dL_texts_70 rfl ?_
  refine P_iload XC dL_texts_71 rfl ?_
  refine P_ishr XC dL_texts_73 ?_
  refine P_any (fun z73 hz73 ez73 => ?_)
  refine P_bipush XC dL_texts_74 (by decide) ?_
  refine P_call (rest := _) XC (c_L_low l D kI kC pa pg pw _ _ _ hz73 (by decide)) gL_texts_L_low rfl kmL_low ⟨⟨(Nat.le_of_ble_eq_true rfl), (Nat.le_of_ble_eq_true rfl)⟩, (Nat.le_of_ble_eq_true rfl), (Nat.le_of_ble_eq_true rfl)⟩ ⟨rfl, rfl⟩ rfl rfl (Nat.le_of_ble_eq_true rfl) dL_texts_76 (kS_of (fun r76 hr76 => ?_))
  dsimp only [Option.toList, List.cons_append, List.nil_append]
  refine P_iadd XC dL_texts_79 ?_
  refine P_i2c XC (by omega) dL_texts_80 ?_
  refine P_X7_type XC (by omega) (by (try dsimp only); (try simp only [List.length_append, List.length_singleton, List.length_cons, List.length_nil]); omega) gL_texts_X7_type ⟨⟨(Nat.le_of_ble_eq_true rfl), (Nat.le_of_ble_eq_true rfl)⟩, (Nat.le_of_ble_eq_true rfl), (Nat.le_of_ble_eq_true rfl)⟩ (Nat.le_of_ble_eq_true rfl) dL_texts_81 ?_
  try dsimp only
  refine P_istore_n XC 3 rfl dL_texts_84 rfl (by decide) ?_
  dsimp only [List.set]
  refine P_iinc XC dL_texts_85 rfl rfl (by decide) ?_
  dsimp only [List.set]
  refine P_goto XC 18 dL_texts_88 (by decide) ?_
  refine ih18 (u + 1, _, _) ⟨?_, by (try dsimp only); omega, ?_⟩ (by (try dsimp only); omega)
  · first | exact (TXI_blank (by omega) (by omega) hT).2 _ _ rfl (by omega) (by omega) | exact TXI_first2 hu0 rfl (by omega)
  · (try dsimp only); intro _; (try simp only [List.length_append, List.length_singleton, List.length_cons, List.length_nil]); omega

end LAW5
