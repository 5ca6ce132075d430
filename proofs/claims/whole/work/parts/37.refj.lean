/-! the reference: nearest -/
section REFJ

set_option maxRecDepth 100000 in
set_option maxHeartbeats 4000000 in
theorem c_X8_nearest (l : Launch) (D : va_G) (kI kC : ClassId) (b : Nat → Nat) (gp : Int) (ke : Nat) (un : Nat) (bu : Nat) (ty : Nat) (pc : Int) (gd : Bool) (rd : Int) (po : Int) (ln : Int) (wd : Int) (G : Nat → Int) (S : List Stk) (hS : OkS S) (hN : NowR G S) (x y : Int) (hx : IR x) (hy : IR y) : ConR l yX8_nearest wsX8_nearest { frames := 2, cells := 0, slots := 0, locals := 42 } D kI kC [.ref (b 0), .int (iI x), .int (iI y)] (mdO b gp (ke : Int) (un : Int) (bu : Int) (ty : Int) pc gd rd po ln wd :: [(b 1, IA kI 801 G)]) (fun r => r = nearS S x y) := by
  refine Con.of (cc := cX8_nearest) (maxL := 8) (ret := (some .int)) (by decide +kernel) rfl (List.forall_mem_cons.mpr ⟨rfl, List.forall_mem_cons.mpr ⟨rfl, List.forall_mem_cons.mpr ⟨rfl, fun _ h => absurd h List.not_mem_nil⟩⟩⟩) (Nat.le_of_ble_eq_true rfl) ?_
  intro pV eV sV mV bV tV cV AV XC hrV
  have XC : Cx pV _ sV mV _ tV cV cX8_nearest 8 RX8 wsX8_nearest AV D kI kC := XC
  change VV _ _ _ _ _ _ _ _ _ _ _ _ _ _ _ _ _ [some (.ref (b 0)), some (.int (iI x)), some (.int (iI y)), none, none, none, none, none] _ _
  dsimp only [mdO, List.cons_append, List.nil_append]
  have hn16 : S.length ≤ 16 := hS.1
  have hN0 : G 0 = (S.length : Int) := hN.1
  refine V_iload_n XC 1 rfl dX8_nearest_0 rfl ?_
  refine V_callS (rest := _) XC (c_X8_isPlace l D kI kC _ hx) gX8_nearest_X8_isPlace rfl kmX8_isPlace ⟨⟨Nat.le_of_ble_eq_true rfl, Nat.le_of_ble_eq_true rfl⟩, Nat.le_of_ble_eq_true rfl, Nat.le_of_ble_eq_true rfl⟩ ⟨rfl, rfl⟩ rfl rfl (Nat.le_of_ble_eq_true rfl) [] rfl rfl (fun _ => rfl) dX8_nearest_1 (kR_of rfl (fun r1 hq1 => ?_))
  subst hq1
  refine V_bif_eq XC 14 dX8_nearest_4 (by decide) (fun h4 => ?_) (fun h4 => ?_)
  · skip
    have hp : nearS S x y = -2 := if_pos (Or.inl h4)
    refine V_bipush XC dX8_nearest_14 (by decide) ?_
    refine V_iret XC () hrV rfl dX8_nearest_16 ?_
    try dsimp only
    rw [hp]
  have hx2 := of_decide_eq_true h4
  refine V_iload_n XC 2 rfl dX8_nearest_7 rfl ?_
  refine V_callS (rest := _) XC (c_X8_isPlace l D kI kC _ hy) gX8_nearest_X8_isPlace rfl kmX8_isPlace ⟨⟨Nat.le_of_ble_eq_true rfl, Nat.le_of_ble_eq_true rfl⟩, Nat.le_of_ble_eq_true rfl, Nat.le_of_ble_eq_true rfl⟩ ⟨rfl, rfl⟩ rfl rfl (Nat.le_of_ble_eq_true rfl) [] rfl rfl (fun _ => rfl) dX8_nearest_8 (kR_of rfl (fun r8 hq8 => ?_))
  subst hq8
  refine V_bif_ne XC 17 dX8_nearest_11 (by decide) (fun h11 => ?_) (fun h11 => ?_)
  · skip
    have hy2 := of_decide_eq_true h11
    have hg : ¬ (inR x 0 1000 = false ∨ inR y 0 1000 = false) := by
      unfold inR
      rw [h4, h11]
      simp
    refine V_bipush XC dX8_nearest_17 (by decide) ?_
    refine V_istore_n XC 3 rfl dX8_nearest_19 (by decide) ?_
    dsimp only [List.set]
    refine V_iconst XC dX8_nearest_20 ?_
    refine V_istore XC dX8_nearest_21 (by decide) ?_
    dsimp only [List.set]
    refine V_iconst XC dX8_nearest_23 ?_
    refine V_istore XC dX8_nearest_24 (by decide) ?_
    dsimp only [List.set]
    refine V_loopR (σ := Nat × Int × Int) (fun u => S.length - u.1) (fun u => u.1 ≤ S.length ∧ u.2 = itr (nrK S x y) (-5, 0) u.1 ∧ (u.2.1 = -5 ∨ (0 ≤ u.2.1 ∧ u.2.1 ≤ 16)) ∧ 0 ≤ u.2.2 ∧ u.2.2 ≤ 2000000) (fun u => [some (.ref (b 0)), some (.int (iI x)), some (.int (iI y)), some (.int (iI u.2.1)), some (.int (iI u.2.2)), some (.int (iI (u.1 : Int))), none, none]) (0, -5, 0) ?_ rfl (fun u hJ ih26 => ?_)
    · dsimp only
      exact ⟨Nat.zero_le _, rfl, Or.inl rfl, by omega, by omega⟩
    obtain ⟨k, e, q⟩ := u
    try dsimp only at hJ ih26 ⊢
    obtain ⟨hk, hs, he, hq⟩ := hJ
    refine V_iload XC dX8_nearest_26 rfl ?_
    refine V_aload_n XC 0 rfl dX8_nearest_28 rfl ?_
    refine V_callV (rest := _) (q0 := 0) XC (c_X8_strokes l D kI kC _ _ _ _ _ _ _ _ _ _ _ _ _ ) gX8_nearest_X8_strokes rfl kmX8_strokes ⟨⟨Nat.le_of_ble_eq_true rfl, Nat.le_of_ble_eq_true rfl⟩, Nat.le_of_ble_eq_true rfl, Nat.le_of_ble_eq_true rfl⟩ ⟨rfl, rfl⟩ rfl rfl (Nat.le_of_ble_eq_true rfl) [0, 1] rfl rfl (fun _ => rfl) rfl rfl dX8_nearest_29 (kR_of rfl (fun r29 hq29 => ?_))
    subst hq29
    rw [hN0]
    refine V_icmp_ge XC 104 dX8_nearest_32 (by decide) ⟨by omega, by omega⟩ ⟨by omega, by omega⟩ (fun h32 => ?_) (fun h32 => ?_)
    · skip
      refine V_iload_n XC 3 rfl dX8_nearest_104 rfl ?_
      refine V_iret XC () hrV rfl dX8_nearest_105 ?_
      try dsimp only
      have hp : nearS S x y = (itr (nrK S x y) (-5, 0) S.length).1 := if_neg hg
      rw [hp, ← show k = S.length by omega, ← hs]
    have hok := NowR_ok hN hS (k := k) (by omega)
    have hat := NowR_at hN (k := k) (by omega)
    have hsz := skR_sz hok
    have hz3 := OkK_sz hok
    have hxy := fun i hi => skR_xy (F := G) (k := k) (i := i) hi
    have hxc := fun i hi => OkK_xy (t := skR G k) (i := i) hok hi
    refine V_iconst XC dX8_nearest_35 ?_
    refine V_istore XC dX8_nearest_36 (by decide) ?_
    dsimp only [List.set]
    refine V_loopR (σ := Nat × Int × Int) (fun u => 24 - u.1) (fun u => u.1 ≤ szk (skR G k) ∧ u.2 = itr (nrT x y (skR G k) k) (e, q) u.1 ∧ (u.2.1 = -5 ∨ (0 ≤ u.2.1 ∧ u.2.1 ≤ 16)) ∧ 0 ≤ u.2.2 ∧ u.2.2 ≤ 2000000) (fun u => [some (.ref (b 0)), some (.int (iI x)), some (.int (iI y)), some (.int (iI u.2.1)), some (.int (iI u.2.2)), some (.int (iI (k : Int))), some (.int (iI (u.1 : Int))), none]) (0, e, q) ?_ rfl (fun u hJ ih38 => ?_)
    · dsimp only
      exact ⟨Nat.zero_le _, rfl, he, hq⟩
    obtain ⟨i, e2, q2⟩ := u
    try dsimp only at hJ ih38 ⊢
    obtain ⟨hi, hs2, he2, hq2⟩ := hJ
    refine V_iload XC dX8_nearest_38 rfl ?_
    refine V_aload_n XC 0 rfl dX8_nearest_40 rfl ?_
    refine V_iload XC dX8_nearest_41 rfl ?_
    refine V_callV (rest := _) (q0 := 0) XC (c_X8_size l D kI kC _ _ _ _ _ _ _ _ _ _ _ _ _ k (by omega)) gX8_nearest_X8_size rfl kmX8_size ⟨⟨Nat.le_of_ble_eq_true rfl, Nat.le_of_ble_eq_true rfl⟩, Nat.le_of_ble_eq_true rfl, Nat.le_of_ble_eq_true rfl⟩ ⟨rfl, rfl⟩ rfl rfl (Nat.le_of_ble_eq_true rfl) [0, 1] rfl rfl (fun _ => rfl) rfl rfl dX8_nearest_43 (kR_of rfl (fun r43 hq43 => ?_))
    subst hq43
    rw [hsz]
    refine V_icmp_ge XC 98 dX8_nearest_46 (by decide) ⟨by omega, by omega⟩ ⟨by omega, by omega⟩ (fun h46 => ?_) (fun h46 => ?_)
    · skip
      refine V_iinc XC dX8_nearest_98 rfl (by decide) ?_
      dsimp only [List.set]
      refine V_goto XC 26 dX8_nearest_101 (by decide) ?_
      refine V_kill 6 ?_
      dsimp only [List.set]
      refine ih26 (k + 1, e2, q2) ⟨by (try dsimp only); omega, ?_, he2, hq2⟩ (by (try dsimp only); omega)
      dsimp only
      rw [itr_s, ← hs]
      unfold nrK
      rw [hat, ← show i = szk (skR G k) by omega]
      exact hs2
    have hxi := hxy i (by omega)
    have hci := hxc i (by omega)
    have q1 := sqb (x := px (skR G k) i - x) (B := 1000) (by omega) (by omega)
    have q2x := sqb (x := py (skR G k) i - y) (B := 1000) (by omega) (by omega)
    refine V_aload_n XC 0 rfl dX8_nearest_49 rfl ?_
    refine V_iload XC dX8_nearest_50 rfl ?_
    refine V_iload XC dX8_nearest_52 rfl ?_
    refine V_callV (rest := _) (q0 := 0) XC (c_X8_x l D kI kC _ _ _ _ _ _ _ _ _ _ _ _ _ k i (by omega) (by omega)) gX8_nearest_X8_x rfl kmX8_x ⟨⟨Nat.le_of_ble_eq_true rfl, Nat.le_of_ble_eq_true rfl⟩, Nat.le_of_ble_eq_true rfl, Nat.le_of_ble_eq_true rfl⟩ ⟨rfl, rfl⟩ rfl rfl (Nat.le_of_ble_eq_true rfl) [0, 1] rfl rfl (fun _ => rfl) rfl rfl dX8_nearest_54 (kR_of rfl (fun r54 hq54 => ?_))
    subst hq54
    rw [hxi.1]
    refine V_iload_n XC 1 rfl dX8_nearest_57 rfl ?_
    refine V_isub XC dX8_nearest_58 ?_
    refine V_aload_n XC 0 rfl dX8_nearest_59 rfl ?_
    refine V_iload XC dX8_nearest_60 rfl ?_
    refine V_iload XC dX8_nearest_62 rfl ?_
    refine V_callV (rest := _) (q0 := 0) XC (c_X8_y l D kI kC _ _ _ _ _ _ _ _ _ _ _ _ _ k i (by omega) (by omega)) gX8_nearest_X8_y rfl kmX8_y ⟨⟨Nat.le_of_ble_eq_true rfl, Nat.le_of_ble_eq_true rfl⟩, Nat.le_of_ble_eq_true rfl, Nat.le_of_ble_eq_true rfl⟩ ⟨rfl, rfl⟩ rfl rfl (Nat.le_of_ble_eq_true rfl) [0, 1] rfl rfl (fun _ => rfl) rfl rfl dX8_nearest_64 (kR_of rfl (fun r64 hq64 => ?_))
    subst hq64
    rw [hxi.2]
    refine V_iload_n XC 2 rfl dX8_nearest_67 rfl ?_
    refine V_isub XC dX8_nearest_68 ?_
    refine V_callS (rest := _) XC (c_X8_square l D kI kC _ _) gX8_nearest_X8_square rfl kmX8_square ⟨⟨Nat.le_of_ble_eq_true rfl, Nat.le_of_ble_eq_true rfl⟩, Nat.le_of_ble_eq_true rfl, Nat.le_of_ble_eq_true rfl⟩ ⟨rfl, rfl⟩ rfl rfl (Nat.le_of_ble_eq_true rfl) [] rfl rfl (fun _ => rfl) dX8_nearest_69 (kR_of rfl (fun r69 hq69 => ?_))
    subst hq69
    refine V_istore XC dX8_nearest_72 (by decide) ?_
    dsimp only [List.set]
    refine V_iload_n XC 3 rfl dX8_nearest_74 rfl ?_
    refine V_if_lt XC 85 dX8_nearest_75 (by decide) ⟨by omega, by omega⟩ (fun h75 => ?_) (fun h75 => ?_)
    · skip
      refine V_iload XC dX8_nearest_85 rfl ?_
      refine V_istore_n XC 3 rfl dX8_nearest_87 (by decide) ?_
      dsimp only [List.set]
      refine V_iload XC dX8_nearest_88 rfl ?_
      refine V_istore XC dX8_nearest_90 (by decide) ?_
      dsimp only [List.set]
      refine V_iinc XC dX8_nearest_92 rfl (by decide) ?_
      dsimp only [List.set]
      refine V_goto XC 38 dX8_nearest_95 (by decide) ?_
      refine V_kill 7 ?_
      dsimp only [List.set]
      first
      | (refine ih38 (i + 1, (k : Int), (px (skR G k) i - x) * (px (skR G k) i - x) + (py (skR G k) i - y) * (py (skR G k) i - y)) ⟨by (try dsimp only); omega, ?_, Or.inr ⟨by (try dsimp only); omega, by (try dsimp only); omega⟩, by (try dsimp only); omega, by (try dsimp only); omega⟩ (by (try dsimp only); omega)
         dsimp only
         rw [itr_s, ← hs2]
         exact (if_pos (by (try dsimp only); omega)).symm)
      | (refine ih38 (i + 1, e2, q2) ⟨by (try dsimp only); omega, ?_, he2, hq2⟩ (by (try dsimp only); omega)
         dsimp only
         rw [itr_s, ← hs2]
         exact (if_neg (by (try dsimp only); omega)).symm)
    refine V_iload XC dX8_nearest_78 rfl ?_
    refine V_iload XC dX8_nearest_80 rfl ?_
    refine V_icmp_ge XC 92 dX8_nearest_82 (by decide) ⟨by omega, by omega⟩ ⟨by omega, by omega⟩ (fun h82 => ?_) (fun h82 => ?_)
    · skip
      refine V_iinc XC dX8_nearest_92 rfl (by decide) ?_
      dsimp only [List.set]
      refine V_goto XC 38 dX8_nearest_95 (by decide) ?_
      refine V_kill 7 ?_
      dsimp only [List.set]
      first
      | (refine ih38 (i + 1, (k : Int), (px (skR G k) i - x) * (px (skR G k) i - x) + (py (skR G k) i - y) * (py (skR G k) i - y)) ⟨by (try dsimp only); omega, ?_, Or.inr ⟨by (try dsimp only); omega, by (try dsimp only); omega⟩, by (try dsimp only); omega, by (try dsimp only); omega⟩ (by (try dsimp only); omega)
         dsimp only
         rw [itr_s, ← hs2]
         exact (if_pos (by (try dsimp only); omega)).symm)
      | (refine ih38 (i + 1, e2, q2) ⟨by (try dsimp only); omega, ?_, he2, hq2⟩ (by (try dsimp only); omega)
         dsimp only
         rw [itr_s, ← hs2]
         exact (if_neg (by (try dsimp only); omega)).symm)
    refine V_iload XC dX8_nearest_85 rfl ?_
    refine V_istore_n XC 3 rfl dX8_nearest_87 (by decide) ?_
    dsimp only [List.set]
    refine V_iload XC dX8_nearest_88 rfl ?_
    refine V_istore XC dX8_nearest_90 (by decide) ?_
    dsimp only [List.set]
    refine V_iinc XC dX8_nearest_92 rfl (by decide) ?_
    dsimp only [List.set]
    refine V_goto XC 38 dX8_nearest_95 (by decide) ?_
    refine V_kill 7 ?_
    dsimp only [List.set]
    first
    | (refine ih38 (i + 1, (k : Int), (px (skR G k) i - x) * (px (skR G k) i - x) + (py (skR G k) i - y) * (py (skR G k) i - y)) ⟨by (try dsimp only); omega, ?_, Or.inr ⟨by (try dsimp only); omega, by (try dsimp only); omega⟩, by (try dsimp only); omega, by (try dsimp only); omega⟩ (by (try dsimp only); omega)
       dsimp only
       rw [itr_s, ← hs2]
       exact (if_pos (by (try dsimp only); omega)).symm)
    | (refine ih38 (i + 1, e2, q2) ⟨by (try dsimp only); omega, ?_, he2, hq2⟩ (by (try dsimp only); omega)
       dsimp only
       rw [itr_s, ← hs2]
       exact (if_neg (by (try dsimp only); omega)).symm)
  have hp : nearS S x y = -2 := if_pos (Or.inr h11)
  refine V_bipush XC dX8_nearest_14 (by decide) ?_
  refine V_iret XC () hrV rfl dX8_nearest_16 ?_
  try dsimp only
  rw [hp]

end REFJ
