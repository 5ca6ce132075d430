/-! the reference: smoothing, a point -/
section REFE

theorem smN_rngR {n : Nat} {X : Nat → Int} (h : ∀ i, i < n → 0 ≤ X i ∧ X i ≤ 1000) : ∀ j i, i < n → 0 ≤ smN n X j i ∧ smN n X j i ≤ 1000
  | 0 => h
  | j + 1 => fun i hi => by exact smF_rng (smN_rngR h j) i hi
theorem inC_of {n : Nat} {X Y : Nat → Int} (hC : ∀ i, i < n → 0 ≤ X i ∧ X i ≤ 1000 ∧ 0 ≤ Y i ∧ Y i ≤ 1000) : ∀ q ∈ ptsOf n X Y, inC q := fun q hq => by
  obtain ⟨i, hi, rfl⟩ := ptsOf_mem.mp hq
  exact hC i hi
theorem dd_inC : ∀ (l acc : List Pt), (∀ q ∈ acc, inC q) → (∀ q ∈ l, inC q) → ∀ q ∈ l.foldl addP acc, inC q
  | [], _, h, _ => h
  | a :: l, acc, h, h2 => dd_inC l (addP acc a) (addP_all h (h2 a (List.mem_cons_self ..))) (fun q hq => h2 q (List.mem_cons_of_mem _ hq))
theorem dd_pos : ∀ (l acc : List Pt), 0 < acc.length + l.length → 0 < (l.foldl addP acc).length
  | [], _, h => by simpa using h
  | a :: l, acc, h => dd_pos l (addP acc a) (by have := addP_pos (l := acc) (q := a); omega)
theorem OkP_dd {n : Nat} {X Y : Nat → Int} (h0 : 1 ≤ n) (h24 : n ≤ 24) (hC : ∀ i, i < n → 0 ≤ X i ∧ X i ≤ 1000 ∧ 0 ≤ Y i ∧ Y i ≤ 1000) : OkP (dd (ptsOf n X Y)) := by
  have h1 := len_dd (ptsOf n X Y)
  rw [ptsOf_len] at h1
  exact ⟨dd_pos _ [] (by rw [ptsOf_len]; simp; omega), by omega, dd_inC _ [] (fun _ h => absurd h List.not_mem_nil) (inC_of hC), NR_dd _⟩

set_option maxRecDepth 100000 in
set_option maxHeartbeats 4000000 in
theorem c_X8_smoothOnce (l : Launch) (D : va_G) (kI kC : ClassId) (b : Nat → Nat) (gp : Int) (ke : Nat) (un : Nat) (bu : Nat) (ty : Nat) (pc : Int) (gd : Bool) (rd : Int) (po : Nat) (ln : Int) (wd : Int) (PX : Nat → Int) (PY : Nat → Int) (QX : Nat → Int) (QY : Nat → Int) (hp1 : 1 ≤ po) (hp : po ≤ 24) (hC : ∀ i, i < po → 0 ≤ PX i ∧ PX i ≤ 1000 ∧ 0 ≤ PY i ∧ PY i ≤ 1000) : Con l yX8_smoothOnce wsX8_smoothOnce { frames := 0, cells := 0, slots := 0, locals := 0 } D kI kC [.ref (b 0)] (mdO b gp (ke : Int) (un : Int) (bu : Int) (ty : Int) pc gd rd (po : Int) ln wd :: [(b 10, IA kI 24 PX), (b 11, IA kI 24 PY), (b 12, IA kI 24 QX), (b 13, IA kI 24 QY)]) (σ := (Nat → Int) × (Nat → Int) × (Nat → Int) × (Nat → Int)) (qV (fun u => ∀ i, i < po → u.1 i = smF po PX i ∧ u.2.1 i = smF po PY i)) (fun u => (mdO b gp (ke : Int) (un : Int) (bu : Int) (ty : Int) pc gd rd (po : Int) ln wd :: [(b 10, IA kI 24 u.1), (b 11, IA kI 24 u.2.1), (b 12, IA kI 24 u.2.2.1), (b 13, IA kI 24 u.2.2.2)])) := by
  refine Con.of (cc := cX8_smoothOnce) (maxL := 2) (ret := none) (by decide +kernel) rfl (List.forall_mem_cons.mpr ⟨rfl, fun _ h => absurd h List.not_mem_nil⟩) (Nat.le_of_ble_eq_true rfl) ?_
  intro pV eV sV mV bV tV cV AV XC hrV
  have XC : Cx pV _ sV mV _ tV cV cX8_smoothOnce 2 RX8 wsX8_smoothOnce AV D kI kC := XC
  change VV _ _ _ _ _ _ _ _ _ _ _ _ _ _ _ _ _ [some (.ref (b 0)), none] _ _
  dsimp only [mdO, List.cons_append, List.nil_append]
  refine V_iconst XC dX8_smoothOnce_0 ?_
  refine V_istore_n XC 1 rfl dX8_smoothOnce_1 (by decide) ?_
  dsimp only [List.set]
  refine V_loop (σ := Nat × (Nat → Int) × (Nat → Int)) (fun u => po - u.1) (fun u => 1 ≤ u.1 ∧ (u.1 + 1 ≤ po ∨ u.1 = 1) ∧ ∀ i, 1 ≤ i → i < u.1 → u.2.1 i = smF po PX i ∧ u.2.2 i = smF po PY i) (fun u => [some (.ref (b 0)), some (.int (iI (u.1 : Int)))]) (fun u => (mdO b gp (ke : Int) (un : Int) (bu : Int) (ty : Int) pc gd rd (po : Int) ln wd :: [(b 10, IA kI 24 PX), (b 11, IA kI 24 PY), (b 12, IA kI 24 u.2.1), (b 13, IA kI 24 u.2.2)])) (1, QX, QY) ?_ rfl rfl (fun u hJ ih2 => ?_)
  · dsimp only
    exact ⟨Nat.le_refl _, Or.inr rfl, fun i h1 h2 => absurd h2 (by omega)⟩
  obtain ⟨p, QX2, QY2⟩ := u
  try dsimp only at hJ ih2 ⊢
  try dsimp only [List.cons_append, List.nil_append, padO, mdO, shW, trW, txW, hiW, liW, woW, taW]
  obtain ⟨hp9, hpp, hQ⟩ := hJ
  refine V_iload_n XC 1 rfl dX8_smoothOnce_2 rfl ?_
  refine V_iconst XC dX8_smoothOnce_3 ?_
  refine V_iadd XC dX8_smoothOnce_4 ?_
  refine V_aload_n XC 0 rfl dX8_smoothOnce_5 rfl ?_
  refine V_get XC 17 flX8_smoothOnce_167 0 rfl rfl dX8_smoothOnce_6 ?_
  refine V_icmp_ge XC 86 dX8_smoothOnce_9 (by decide) ⟨by omega, by omega⟩ ⟨by omega, by omega⟩ (fun h9 => ?_) (fun h9 => ?_)
  · skip
    refine V_iconst XC dX8_smoothOnce_86 ?_
    refine V_istore_n XC 1 rfl dX8_smoothOnce_87 (by decide) ?_
    dsimp only [List.set]
    refine V_loop (σ := Nat × (Nat → Int) × (Nat → Int)) (fun u => po - u.1) (fun u => 1 ≤ u.1 ∧ (u.1 + 1 ≤ po ∨ u.1 = 1) ∧ ∀ i, i < po → (i < u.1 → u.2.1 i = smF po PX i ∧ u.2.2 i = smF po PY i) ∧ (u.1 ≤ i → u.2.1 i = PX i ∧ u.2.2 i = PY i)) (fun u => [some (.ref (b 0)), some (.int (iI (u.1 : Int)))]) (fun u => (mdO b gp (ke : Int) (un : Int) (bu : Int) (ty : Int) pc gd rd (po : Int) ln wd :: [(b 10, IA kI 24 u.2.1), (b 11, IA kI 24 u.2.2), (b 12, IA kI 24 QX2), (b 13, IA kI 24 QY2)])) (1, PX, PY) ?_ rfl rfl (fun u hJ ih88 => ?_)
    · dsimp only
      exact ⟨Nat.le_refl _, Or.inr rfl, fun i h1 => ⟨fun h2 => ⟨(if_neg (by omega)).symm, (if_neg (by omega)).symm⟩, fun _ => ⟨rfl, rfl⟩⟩⟩
    obtain ⟨m, PX2, PY2⟩ := u
    try dsimp only at hJ ih88 ⊢
    try dsimp only [List.cons_append, List.nil_append, padO, mdO, shW, trW, txW, hiW, liW, woW, taW]
    obtain ⟨hm9, hmm, hM⟩ := hJ
    refine V_iload_n XC 1 rfl dX8_smoothOnce_88 rfl ?_
    refine V_iconst XC dX8_smoothOnce_89 ?_
    refine V_iadd XC dX8_smoothOnce_90 ?_
    refine V_aload_n XC 0 rfl dX8_smoothOnce_91 rfl ?_
    refine V_get XC 17 flX8_smoothOnce_167 0 rfl rfl dX8_smoothOnce_92 ?_
    refine V_icmp_ge XC 128 dX8_smoothOnce_95 (by decide) ⟨by omega, by omega⟩ ⟨by omega, by omega⟩ (fun h95 => ?_) (fun h95 => ?_)
    · skip
      refine V_vret XC (PX2, PY2, QX2, QY2) hrV rfl dX8_smoothOnce_128 ?_
      intro i hi
      rcases Nat.lt_or_ge i m with q | q
      · exact (hM i hi).1 q
      · rw [show smF po PX i = PX i from if_neg (by omega), show smF po PY i = PY i from if_neg (by omega)]
        exact (hM i hi).2 q
    have hq := hQ m (by omega) (by omega)
    refine V_aload_n XC 0 rfl dX8_smoothOnce_98 rfl ?_
    refine V_get XC 18 flX8_smoothOnce_42 0 rfl rfl dX8_smoothOnce_99 ?_
    refine V_iload_n XC 1 rfl dX8_smoothOnce_102 rfl ?_
    refine V_aload_n XC 0 rfl dX8_smoothOnce_103 rfl ?_
    refine V_get XC 20 flX8_smoothOnce_48 0 rfl rfl dX8_smoothOnce_104 ?_
    refine V_iload_n XC 1 rfl dX8_smoothOnce_107 rfl ?_
    refine V_iald XC (m) 3 rfl (by omega) (by omega) (by decide) dX8_smoothOnce_108 ?_
    rw [hq.1]
    refine V_iast XC (m) 1 rfl (by omega) (by omega) (by decide) dX8_smoothOnce_109 ?_
    dsimp only [List.set]
    refine V_aload_n XC 0 rfl dX8_smoothOnce_110 rfl ?_
    refine V_get XC 19 flX8_smoothOnce_45 0 rfl rfl dX8_smoothOnce_111 ?_
    refine V_iload_n XC 1 rfl dX8_smoothOnce_114 rfl ?_
    refine V_aload_n XC 0 rfl dX8_smoothOnce_115 rfl ?_
    refine V_get XC 21 flX8_smoothOnce_51 0 rfl rfl dX8_smoothOnce_116 ?_
    refine V_iload_n XC 1 rfl dX8_smoothOnce_119 rfl ?_
    refine V_iald XC (m) 4 rfl (by omega) (by omega) (by decide) dX8_smoothOnce_120 ?_
    rw [hq.2]
    refine V_iast XC (m) 2 rfl (by omega) (by omega) (by decide) dX8_smoothOnce_121 ?_
    dsimp only [List.set]
    refine V_iinc XC dX8_smoothOnce_122 rfl (by decide) ?_
    dsimp only [List.set]
    refine V_goto XC 88 dX8_smoothOnce_125 (by decide) ?_
    refine ih88 (m + 1, upz PX2 m (smF po PX m), upz PY2 m (smF po PY m)) ⟨by (try dsimp only); omega, Or.inl (by (try dsimp only); omega), fun i hi => ⟨fun h2 => ?_, fun h2 => ?_⟩⟩ (by (try dsimp only); omega)
    · dsimp only at h2 ⊢
      by_cases q : i = m
      · subst q; rw [upz_s, upz_s]; exact ⟨rfl, rfl⟩
      · rw [upz_n q, upz_n q]; exact (hM i hi).1 (by omega)
    · dsimp only at h2 ⊢
      rw [upz_n (by omega), upz_n (by omega)]; exact (hM i hi).2 (by omega)
  have hc0 := hC (p - 1) (by omega)
  have hc1 := hC p (by omega)
  have hc2 := hC (p + 1) (by omega)
  refine V_aload_n XC 0 rfl dX8_smoothOnce_12 rfl ?_
  refine V_get XC 20 flX8_smoothOnce_48 0 rfl rfl dX8_smoothOnce_13 ?_
  refine V_iload_n XC 1 rfl dX8_smoothOnce_16 rfl ?_
  refine V_aload_n XC 0 rfl dX8_smoothOnce_17 rfl ?_
  refine V_get XC 18 flX8_smoothOnce_42 0 rfl rfl dX8_smoothOnce_18 ?_
  refine V_iload_n XC 1 rfl dX8_smoothOnce_21 rfl ?_
  refine V_iconst XC dX8_smoothOnce_22 ?_
  refine V_isub XC dX8_smoothOnce_23 ?_
  refine V_iald XC (p - 1) 1 rfl (by omega) (by omega) (by decide) dX8_smoothOnce_24 ?_
  refine V_iconst XC dX8_smoothOnce_25 ?_
  refine V_aload_n XC 0 rfl dX8_smoothOnce_26 rfl ?_
  refine V_get XC 18 flX8_smoothOnce_42 0 rfl rfl dX8_smoothOnce_27 ?_
  refine V_iload_n XC 1 rfl dX8_smoothOnce_30 rfl ?_
  refine V_iald XC (p) 1 rfl (by omega) (by omega) (by decide) dX8_smoothOnce_31 ?_
  refine V_imul XC dX8_smoothOnce_32 ?_
  refine V_iadd XC dX8_smoothOnce_33 ?_
  refine V_aload_n XC 0 rfl dX8_smoothOnce_34 rfl ?_
  refine V_get XC 18 flX8_smoothOnce_42 0 rfl rfl dX8_smoothOnce_35 ?_
  refine V_iload_n XC 1 rfl dX8_smoothOnce_38 rfl ?_
  refine V_iconst XC dX8_smoothOnce_39 ?_
  refine V_iadd XC dX8_smoothOnce_40 ?_
  refine V_iald XC (p + 1) 1 rfl (by omega) (by omega) (by decide) dX8_smoothOnce_41 ?_
  refine V_iadd XC dX8_smoothOnce_42 ?_
  refine V_iconst XC dX8_smoothOnce_43 ?_
  refine V_idiv XC dX8_smoothOnce_44 (by omega) (by omega) (by decide) (by decide) ?_
  refine V_iast XC (p) 3 rfl (by omega) (by omega) (by decide) dX8_smoothOnce_45 ?_
  dsimp only [List.set]
  refine V_aload_n XC 0 rfl dX8_smoothOnce_46 rfl ?_
  refine V_get XC 21 flX8_smoothOnce_51 0 rfl rfl dX8_smoothOnce_47 ?_
  refine V_iload_n XC 1 rfl dX8_smoothOnce_50 rfl ?_
  refine V_aload_n XC 0 rfl dX8_smoothOnce_51 rfl ?_
  refine V_get XC 19 flX8_smoothOnce_45 0 rfl rfl dX8_smoothOnce_52 ?_
  refine V_iload_n XC 1 rfl dX8_smoothOnce_55 rfl ?_
  refine V_iconst XC dX8_smoothOnce_56 ?_
  refine V_isub XC dX8_smoothOnce_57 ?_
  refine V_iald XC (p - 1) 2 rfl (by omega) (by omega) (by decide) dX8_smoothOnce_58 ?_
  refine V_iconst XC dX8_smoothOnce_59 ?_
  refine V_aload_n XC 0 rfl dX8_smoothOnce_60 rfl ?_
  refine V_get XC 19 flX8_smoothOnce_45 0 rfl rfl dX8_smoothOnce_61 ?_
  refine V_iload_n XC 1 rfl dX8_smoothOnce_64 rfl ?_
  refine V_iald XC (p) 2 rfl (by omega) (by omega) (by decide) dX8_smoothOnce_65 ?_
  refine V_imul XC dX8_smoothOnce_66 ?_
  refine V_iadd XC dX8_smoothOnce_67 ?_
  refine V_aload_n XC 0 rfl dX8_smoothOnce_68 rfl ?_
  refine V_get XC 19 flX8_smoothOnce_45 0 rfl rfl dX8_smoothOnce_69 ?_
  refine V_iload_n XC 1 rfl dX8_smoothOnce_72 rfl ?_
  refine V_iconst XC dX8_smoothOnce_73 ?_
  refine V_iadd XC dX8_smoothOnce_74 ?_
  refine V_iald XC (p + 1) 2 rfl (by omega) (by omega) (by decide) dX8_smoothOnce_75 ?_
  refine V_iadd XC dX8_smoothOnce_76 ?_
  refine V_iconst XC dX8_smoothOnce_77 ?_
  refine V_idiv XC dX8_smoothOnce_78 (by omega) (by omega) (by decide) (by decide) ?_
  refine V_iast XC (p) 4 rfl (by omega) (by omega) (by decide) dX8_smoothOnce_79 ?_
  dsimp only [List.set]
  refine V_iinc XC dX8_smoothOnce_80 rfl (by decide) ?_
  dsimp only [List.set]
  refine V_goto XC 2 dX8_smoothOnce_83 (by decide) ?_
  refine ih2 (p + 1, upz QX2 p ((PX (p - 1) + 2 * PX p + PX (p + 1)) / 4), upz QY2 p ((PY (p - 1) + 2 * PY p + PY (p + 1)) / 4)) ⟨by (try dsimp only); omega, Or.inl (by (try dsimp only); omega), fun i h1 hi => ?_⟩ (by (try dsimp only); omega)
  dsimp only at hi ⊢
  by_cases q : i = p
  · subst q
    rw [upz_s, upz_s]
    exact ⟨(if_pos ⟨by omega, by omega⟩).symm, (if_pos ⟨by omega, by omega⟩).symm⟩
  · rw [upz_n q, upz_n q]; exact hQ i h1 (by omega)

end REFE
