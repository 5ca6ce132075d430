/-! the reference: cells, colors, counts -/
section REFR

theorem cnK_s {t : Stk} {n : Nat} {f : Nat → Nat} : cnK t (n + 1) f = bump (cnK t n f) (cellN (px t n) (py t n)) := rfl
theorem cnS_s {S : List Stk} {c : Int} {n : Nat} : cnS S c (n + 1) = if ofC (gk S n) c = true then cnK (gk S n) (szk (gk S n)) (cnS S c n) else cnS S c n := rfl
theorem bump_a {f : Nat → Nat} {c x : Nat} : bump f c x = if x = c then f x + 1 else f x := rfl
theorem cnK_le {t : Stk} {f : Nat → Nat} {x : Nat} : ∀ n, cnK t n f x ≤ f x + n
  | 0 => Nat.le_refl _
  | n + 1 => by
    have := cnK_le (t := t) (f := f) (x := x) n
    rw [cnK_s, bump_a]
    split <;> omega
theorem cnS_le {S : List Stk} {c : Int} (hS : OkS S) {x : Nat} : ∀ {n : Nat}, n ≤ S.length → cnS S c n x ≤ 24 * n
  | 0, _ => Nat.le_refl _
  | n + 1, hn => by
    have ih := cnS_le (c := c) hS (x := x) (n := n) (by omega)
    have hz := OkK_sz (OkS_at hS (k := n) (by omega))
    rw [cnS_s]
    split
    · have := cnK_le (t := gk S n) (f := cnS S c n) (x := x) (szk (gk S n))
      omega
    · omega
theorem cnK_out {t : Stk} (ht : OkK t) {f : Nat → Nat} {x : Nat} (hx : 10200 < x) : ∀ n, n ≤ szk t → cnK t n f x = f x
  | 0, _ => rfl
  | n + 1, hn => by
    have ih := cnK_out ht (f := f) hx n (by omega)
    have hc := OkK_xy ht (i := n) (by omega)
    have hce := (cellN_le ⟨hc.1, hc.2.1⟩ ⟨hc.2.2.1, hc.2.2.2⟩).2
    rw [cnK_s, bump_a, if_neg (by omega)]
    exact ih
theorem cnS_out {S : List Stk} {c : Int} (hS : OkS S) {x : Nat} (hx : 10200 < x) : ∀ {n : Nat}, n ≤ S.length → cnS S c n x = 0
  | 0, _ => rfl
  | n + 1, hn => by
    have ih := cnS_out (c := c) hS hx (n := n) (by omega)
    rw [cnS_s]
    split
    · rw [cnK_out (OkS_at hS (by omega)) hx _ (Nat.le_refl _)]
      exact ih
    · exact ih
theorem cnK_cc {t : Stk} {f : Nat → Nat} {x : Nat} : ∀ n, cnK t n f x = ccK t x (f x) n
  | 0 => rfl
  | n + 1 => by
    rw [cnK_s, bump_a, cnK_cc n]
    show _ = (if cellN (px t n) (py t n) = x then ccK t x (f x) n + 1 else ccK t x (f x) n)
    by_cases e : x = cellN (px t n) (py t n)
    · rw [if_pos e, if_pos e.symm]
    · rw [if_neg e, if_neg (fun z => e z.symm)]
theorem cnS_cc {S : List Stk} {x : Nat} : ∀ n, cnS S (-1) n x = itr (fun k a => ccK (gk S k) x a (szk (gk S k))) 0 n
  | 0 => rfl
  | n + 1 => by
    rw [cnS_s, if_pos (show ofC (gk S n) (-1) = true from decide_eq_true (Or.inl rfl)), cnK_cc, cnS_cc n]
    rfl

set_option maxRecDepth 100000 in
set_option maxHeartbeats 4000000 in
theorem c_X8_ink (l : Launch) (D : va_G) (kI kC : ClassId) (b : Nat → Nat) (gp : Int) (ke : Nat) (un : Nat) (bu : Nat) (ty : Nat) (pc : Int) (gd : Bool) (rd : Int) (po : Int) (ln : Int) (wd : Int) (G : Nat → Int) (IN : Nat → Int) (S : List Stk) (hS : OkS S) (hN : NowR G S) (c c2 : Int) (hc : (c = -5 ∧ c2 = -1) ∨ (c2 = c ∧ 0 ≤ c ∧ c ≤ 3)) : Con l yX8_ink wsX8_ink { frames := 1, cells := 0, slots := 0, locals := 22 } D kI kC [.ref (b 0), .int (iI c)] (mdO b gp (ke : Int) (un : Int) (bu : Int) (ty : Int) pc gd rd po ln wd :: [(b 1, IA kI 801 G), (b 20, IA kI 10201 IN)]) (σ := (Nat → Int)) (qV (fun u => ∀ x, x ≤ 10200 → u x = (cnS S c2 S.length x : Int))) (fun u => (mdO b gp (ke : Int) (un : Int) (bu : Int) (ty : Int) pc gd rd po ln wd :: [(b 1, IA kI 801 G), (b 20, IA kI 10201 u)])) := by
  refine Con.of (cc := cX8_ink) (maxL := 4) (ret := none) (by decide +kernel) rfl (List.forall_mem_cons.mpr ⟨rfl, List.forall_mem_cons.mpr ⟨rfl, fun _ h => absurd h List.not_mem_nil⟩⟩) (Nat.le_of_ble_eq_true rfl) ?_
  intro pV eV sV mV bV tV cV AV XC hrV
  have XC : Cx pV _ sV mV _ tV cV cX8_ink 4 RX8 wsX8_ink AV D kI kC := XC
  change VV _ _ _ _ _ _ _ _ _ _ _ _ _ _ _ _ _ [some (.ref (b 0)), some (.int (iI c)), none, none] _ _
  dsimp only [mdO, List.cons_append, List.nil_append]
  have hn16 : S.length ≤ 16 := hS.1
  have hN0 : G 0 = (S.length : Int) := hN.1
  refine V_iconst XC dX8_ink_0 ?_
  refine V_istore_n XC 2 rfl dX8_ink_1 (by decide) ?_
  dsimp only [List.set]
  refine V_loop (σ := Nat × (Nat → Int)) (fun u => 10201 - u.1) (fun u => u.1 ≤ 10201 ∧ ∀ i, i < u.1 → u.2 i = 0) (fun u => [some (.ref (b 0)), some (.int (iI c)), some (.int (iI (u.1 : Int))), none]) (fun u => (mdO b gp (ke : Int) (un : Int) (bu : Int) (ty : Int) pc gd rd po ln wd :: [(b 1, IA kI 801 G), (b 20, IA kI 10201 u.2)])) (0, IN) ?_ rfl rfl (fun u hJ ih2 => ?_)
  · dsimp only
    exact ⟨Nat.zero_le _, fun i hi => absurd hi (Nat.not_lt_zero i)⟩
  obtain ⟨j, IN2⟩ := u
  try dsimp only at hJ ih2 ⊢
  try dsimp only [List.cons_append, List.nil_append, padO, mdO, shW, trW, txW, hiW, liW, woW, taW]
  obtain ⟨hj, hz⟩ := hJ
  refine V_iload_n XC 2 rfl dX8_ink_2 rfl ?_
  refine V_sipush XC dX8_ink_3 (by decide) ?_
  refine V_icmp_ge XC 22 dX8_ink_6 (by decide) ⟨by omega, by omega⟩ ⟨by omega, by omega⟩ (fun h6 => ?_) (fun h6 => ?_)
  · skip
    refine V_iconst XC dX8_ink_22 ?_
    refine V_istore_n XC 2 rfl dX8_ink_23 (by decide) ?_
    dsimp only [List.set]
    refine V_loop (σ := Nat × (Nat → Int)) (fun u => S.length - u.1) (fun u => u.1 ≤ S.length ∧ ∀ x, x ≤ 10200 → u.2 x = (cnS S c2 u.1 x : Int)) (fun u => [some (.ref (b 0)), some (.int (iI c)), some (.int (iI (u.1 : Int))), none]) (fun u => (mdO b gp (ke : Int) (un : Int) (bu : Int) (ty : Int) pc gd rd po ln wd :: [(b 1, IA kI 801 G), (b 20, IA kI 10201 u.2)])) (0, IN2) ?_ rfl rfl (fun u hJ ih24 => ?_)
    · dsimp only
      exact ⟨Nat.zero_le _, fun x hx => hz x (by omega)⟩
    obtain ⟨k, IN3⟩ := u
    try dsimp only at hJ ih24 ⊢
    try dsimp only [List.cons_append, List.nil_append, padO, mdO, shW, trW, txW, hiW, liW, woW, taW]
    obtain ⟨hk, hI⟩ := hJ
    refine V_iload_n XC 2 rfl dX8_ink_24 rfl ?_
    refine V_aload_n XC 0 rfl dX8_ink_25 rfl ?_
    refine V_callV (rest := _) (q0 := 0) XC (c_X8_strokes l D kI kC _ _ _ _ _ _ _ _ _ _ _ _ _ ) gX8_ink_X8_strokes rfl kmX8_strokes ⟨⟨Nat.le_of_ble_eq_true rfl, Nat.le_of_ble_eq_true rfl⟩, Nat.le_of_ble_eq_true rfl, Nat.le_of_ble_eq_true rfl⟩ ⟨rfl, rfl⟩ rfl rfl (Nat.le_of_ble_eq_true rfl) [0, 1] rfl rfl (fun _ => rfl) rfl rfl dX8_ink_26 (kR_of rfl (fun r26 hq26 => ?_))
    subst hq26
    rw [hN0]
    refine V_icmp_ge XC 103 dX8_ink_29 (by decide) ⟨by omega, by omega⟩ ⟨by omega, by omega⟩ (fun h29 => ?_) (fun h29 => ?_)
    · skip
      refine V_vret XC (IN3) hrV rfl dX8_ink_103 ?_
      obtain rfl : k = S.length := by omega
      exact hI
    have hkn : k < S.length := by omega
    have hok := NowR_ok hN hS hkn
    have hat := NowR_at hN hkn
    have hf := skR_ok hok
    have hsz := skR_sz hok
    have hz3 := OkK_sz hok
    have hxy := fun i hi => skR_xy (F := G) (k := k) (i := i) hi
    have hxc := fun i hi => OkK_xy (t := skR G k) (i := i) hok hi
    refine V_iconst XC dX8_ink_32 ?_
    refine V_istore_n XC 3 rfl dX8_ink_33 (by decide) ?_
    dsimp only [List.set]
    refine V_loop (σ := Nat × (Nat → Int)) (fun u => szk (skR G k) - u.1) (fun u => u.1 ≤ szk (skR G k) ∧ (ofC (skR G k) c2 = true → ∀ x, x ≤ 10200 → u.2 x = (cnK (skR G k) u.1 (cnS S c2 k) x : Int)) ∧ (ofC (skR G k) c2 = false → ∀ x, x ≤ 10200 → u.2 x = (cnS S c2 k x : Int))) (fun u => [some (.ref (b 0)), some (.int (iI c)), some (.int (iI (k : Int))), some (.int (iI (u.1 : Int)))]) (fun u => (mdO b gp (ke : Int) (un : Int) (bu : Int) (ty : Int) pc gd rd po ln wd :: [(b 1, IA kI 801 G), (b 20, IA kI 10201 u.2)])) (0, IN3) ?_ rfl rfl (fun u hJ ih34 => ?_)
    · dsimp only
      exact ⟨Nat.zero_le _, fun _ x hx => hI x hx, fun _ x hx => hI x hx⟩
    obtain ⟨p, IN4⟩ := u
    try dsimp only at hJ ih34 ⊢
    try dsimp only [List.cons_append, List.nil_append, padO, mdO, shW, trW, txW, hiW, liW, woW, taW]
    obtain ⟨hp, hI1, hI0⟩ := hJ
    refine V_iload_n XC 3 rfl dX8_ink_34 rfl ?_
    refine V_aload_n XC 0 rfl dX8_ink_35 rfl ?_
    refine V_iload_n XC 2 rfl dX8_ink_36 rfl ?_
    refine V_callV (rest := _) (q0 := 0) XC (c_X8_size l D kI kC _ _ _ _ _ _ _ _ _ _ _ _ _ k (by omega)) gX8_ink_X8_size rfl kmX8_size ⟨⟨Nat.le_of_ble_eq_true rfl, Nat.le_of_ble_eq_true rfl⟩, Nat.le_of_ble_eq_true rfl, Nat.le_of_ble_eq_true rfl⟩ ⟨rfl, rfl⟩ rfl rfl (Nat.le_of_ble_eq_true rfl) [0, 1] rfl rfl (fun _ => rfl) rfl rfl dX8_ink_37 (kR_of rfl (fun r37 hq37 => ?_))
    subst hq37
    rw [hsz]
    refine V_icmp_ge XC 97 dX8_ink_40 (by decide) ⟨by omega, by omega⟩ ⟨by omega, by omega⟩ (fun h40 => ?_) (fun h40 => ?_)
    · skip
      refine V_iinc XC dX8_ink_97 rfl (by decide) ?_
      dsimp only [List.set]
      refine V_goto XC 24 dX8_ink_100 (by decide) ?_
      refine V_kill 3 ?_
      dsimp only [List.set]
      refine ih24 (k + 1, IN4) ⟨by (try dsimp only); omega, fun x hx => ?_⟩ (by (try dsimp only); omega)
      try dsimp only
      rw [cnS_s, hat]
      first
      | (rw [if_neg (by rw [hofn]; decide)]; exact hI0 hofn x hx)
      | (have e9 : p = szk (skR G k) := by omega
         subst e9
         cases hof : ofC (skR G k) c2 with
         | true => rw [if_pos rfl]; exact hI1 hof x hx
         | false => rw [if_neg (by decide)]; exact hI0 hof x hx)
    have hxp := hxy p (by omega)
    have hcp := hxc p (by omega)
    have hce := cellN_le ⟨hcp.1, hcp.2.1⟩ ⟨hcp.2.2.1, hcp.2.2.2⟩
    refine V_iload_n XC 1 rfl dX8_ink_43 rfl ?_
    refine V_if_lt XC 60 dX8_ink_44 (by decide) ⟨by omega, by omega⟩ (fun h44 => ?_) (fun h44 => ?_)
    · skip
      have hofy : ofC (skR G k) c2 = true := decide_eq_true (Or.inl (by omega))
      refine V_aload_n XC 0 rfl dX8_ink_60 rfl ?_
      refine V_get XC 30 flX8_ink_72 0 rfl rfl dX8_ink_61 ?_
      refine V_bipush XC dX8_ink_64 (by decide) ?_
      refine V_aload_n XC 0 rfl dX8_ink_66 rfl ?_
      refine V_iload_n XC 2 rfl dX8_ink_67 rfl ?_
      refine V_iload_n XC 3 rfl dX8_ink_68 rfl ?_
      refine V_callV (rest := _) (q0 := 0) XC (c_X8_y l D kI kC _ _ _ _ _ _ _ _ _ _ _ _ _ k p (by omega) (by omega)) gX8_ink_X8_y rfl kmX8_y ⟨⟨Nat.le_of_ble_eq_true rfl, Nat.le_of_ble_eq_true rfl⟩, Nat.le_of_ble_eq_true rfl, Nat.le_of_ble_eq_true rfl⟩ ⟨rfl, rfl⟩ rfl rfl (Nat.le_of_ble_eq_true rfl) [0, 1] rfl rfl (fun _ => rfl) rfl rfl dX8_ink_69 (kR_of rfl (fun r69 hq69 => ?_))
      subst hq69
      rw [hxp.2]
      refine V_bipush XC dX8_ink_72 (by decide) ?_
      refine V_idiv XC dX8_ink_74 (by omega) (by omega) (by decide) (by decide) ?_
      refine V_imul XC dX8_ink_75 ?_
      refine V_aload_n XC 0 rfl dX8_ink_76 rfl ?_
      refine V_iload_n XC 2 rfl dX8_ink_77 rfl ?_
      refine V_iload_n XC 3 rfl dX8_ink_78 rfl ?_
      refine V_callV (rest := _) (q0 := 0) XC (c_X8_x l D kI kC _ _ _ _ _ _ _ _ _ _ _ _ _ k p (by omega) (by omega)) gX8_ink_X8_x rfl kmX8_x ⟨⟨Nat.le_of_ble_eq_true rfl, Nat.le_of_ble_eq_true rfl⟩, Nat.le_of_ble_eq_true rfl, Nat.le_of_ble_eq_true rfl⟩ ⟨rfl, rfl⟩ rfl rfl (Nat.le_of_ble_eq_true rfl) [0, 1] rfl rfl (fun _ => rfl) rfl rfl dX8_ink_79 (kR_of rfl (fun r79 hq79 => ?_))
      subst hq79
      rw [hxp.1]
      refine V_bipush XC dX8_ink_82 (by decide) ?_
      refine V_idiv XC dX8_ink_84 (by omega) (by omega) (by decide) (by decide) ?_
      refine V_iadd XC dX8_ink_85 ?_
      refine V_dup2 XC dX8_ink_86 rfl rfl ?_
      refine V_iald XC (cellN (px (skR G k) p) (py (skR G k) p)) 2 rfl (by omega) (by omega) (by decide) dX8_ink_87 ?_
      refine V_iconst XC dX8_ink_88 ?_
      refine V_iadd XC dX8_ink_89 ?_
      refine V_iast XC (cellN (px (skR G k) p) (py (skR G k) p)) 2 rfl (by omega) (by omega) (by decide) dX8_ink_90 ?_
      dsimp only [List.set]
      refine V_iinc XC dX8_ink_91 rfl (by decide) ?_
      dsimp only [List.set]
      refine V_goto XC 34 dX8_ink_94 (by decide) ?_
      refine ih34 (p + 1, upz IN4 (cellN (px (skR G k) p) (py (skR G k) p)) (IN4 (cellN (px (skR G k) p) (py (skR G k) p)) + 1)) ⟨by (try dsimp only); omega, fun _ x hx => ?_, fun z => absurd (hofy.symm.trans z) (by decide)⟩ (by (try dsimp only); omega)
      try dsimp only
      rw [cnK_s, bump_a]
      by_cases q : x = cellN (px (skR G k) p) (py (skR G k) p)
      · rw [if_pos q, q, upz_s, hI1 hofy _ hce.2]; rfl
      · rw [if_neg q, upz_n q]; exact hI1 hofy x hx
    refine V_aload_n XC 0 rfl dX8_ink_47 rfl ?_
    refine V_get XC 0 flX8_ink_7 0 rfl rfl dX8_ink_48 ?_
    refine V_bipush XC dX8_ink_51 (by decide) ?_
    refine V_iload_n XC 2 rfl dX8_ink_53 rfl ?_
    refine V_iadd XC dX8_ink_54 ?_
    refine V_iald XC (17 + k) 1 rfl (by omega) (by omega) (by decide) dX8_ink_55 ?_
    refine V_iload_n XC 1 rfl dX8_ink_56 rfl ?_
    refine V_icmp_ne XC 97 dX8_ink_57 (by decide) ⟨by omega, by omega⟩ ⟨by omega, by omega⟩ (fun h57 => ?_) (fun h57 => ?_)
    · skip
      have hofn : ofC (skR G k) c2 = false := decide_eq_false (fun z => by
        have e8 : (skR G k).1 = G (17 + k) := rfl
        rcases z with z | z <;> omega)
      refine V_iinc XC dX8_ink_97 rfl (by decide) ?_
      dsimp only [List.set]
      refine V_goto XC 24 dX8_ink_100 (by decide) ?_
      refine V_kill 3 ?_
      dsimp only [List.set]
      refine ih24 (k + 1, IN4) ⟨by (try dsimp only); omega, fun x hx => ?_⟩ (by (try dsimp only); omega)
      try dsimp only
      rw [cnS_s, hat]
      first
      | (rw [if_neg (by rw [hofn]; decide)]; exact hI0 hofn x hx)
      | (have e9 : p = szk (skR G k) := by omega
         subst e9
         cases hof : ofC (skR G k) c2 with
         | true => rw [if_pos rfl]; exact hI1 hof x hx
         | false => rw [if_neg (by decide)]; exact hI0 hof x hx)
    have hofy : ofC (skR G k) c2 = true := decide_eq_true (Or.inr (by show G (17 + k) = c2; omega))
    refine V_aload_n XC 0 rfl dX8_ink_60 rfl ?_
    refine V_get XC 30 flX8_ink_72 0 rfl rfl dX8_ink_61 ?_
    refine V_bipush XC dX8_ink_64 (by decide) ?_
    refine V_aload_n XC 0 rfl dX8_ink_66 rfl ?_
    refine V_iload_n XC 2 rfl dX8_ink_67 rfl ?_
    refine V_iload_n XC 3 rfl dX8_ink_68 rfl ?_
    refine V_callV (rest := _) (q0 := 0) XC (c_X8_y l D kI kC _ _ _ _ _ _ _ _ _ _ _ _ _ k p (by omega) (by omega)) gX8_ink_X8_y rfl kmX8_y ⟨⟨Nat.le_of_ble_eq_true rfl, Nat.le_of_ble_eq_true rfl⟩, Nat.le_of_ble_eq_true rfl, Nat.le_of_ble_eq_true rfl⟩ ⟨rfl, rfl⟩ rfl rfl (Nat.le_of_ble_eq_true rfl) [0, 1] rfl rfl (fun _ => rfl) rfl rfl dX8_ink_69 (kR_of rfl (fun r69 hq69 => ?_))
    subst hq69
    rw [hxp.2]
    refine V_bipush XC dX8_ink_72 (by decide) ?_
    refine V_idiv XC dX8_ink_74 (by omega) (by omega) (by decide) (by decide) ?_
    refine V_imul XC dX8_ink_75 ?_
    refine V_aload_n XC 0 rfl dX8_ink_76 rfl ?_
    refine V_iload_n XC 2 rfl dX8_ink_77 rfl ?_
    refine V_iload_n XC 3 rfl dX8_ink_78 rfl ?_
    refine V_callV (rest := _) (q0 := 0) XC (c_X8_x l D kI kC _ _ _ _ _ _ _ _ _ _ _ _ _ k p (by omega) (by omega)) gX8_ink_X8_x rfl kmX8_x ⟨⟨Nat.le_of_ble_eq_true rfl, Nat.le_of_ble_eq_true rfl⟩, Nat.le_of_ble_eq_true rfl, Nat.le_of_ble_eq_true rfl⟩ ⟨rfl, rfl⟩ rfl rfl (Nat.le_of_ble_eq_true rfl) [0, 1] rfl rfl (fun _ => rfl) rfl rfl dX8_ink_79 (kR_of rfl (fun r79 hq79 => ?_))
    subst hq79
    rw [hxp.1]
    refine V_bipush XC dX8_ink_82 (by decide) ?_
    refine V_idiv XC dX8_ink_84 (by omega) (by omega) (by decide) (by decide) ?_
    refine V_iadd XC dX8_ink_85 ?_
    refine V_dup2 XC dX8_ink_86 rfl rfl ?_
    refine V_iald XC (cellN (px (skR G k) p) (py (skR G k) p)) 2 rfl (by omega) (by omega) (by decide) dX8_ink_87 ?_
    refine V_iconst XC dX8_ink_88 ?_
    refine V_iadd XC dX8_ink_89 ?_
    refine V_iast XC (cellN (px (skR G k) p) (py (skR G k) p)) 2 rfl (by omega) (by omega) (by decide) dX8_ink_90 ?_
    dsimp only [List.set]
    refine V_iinc XC dX8_ink_91 rfl (by decide) ?_
    dsimp only [List.set]
    refine V_goto XC 34 dX8_ink_94 (by decide) ?_
    refine ih34 (p + 1, upz IN4 (cellN (px (skR G k) p) (py (skR G k) p)) (IN4 (cellN (px (skR G k) p) (py (skR G k) p)) + 1)) ⟨by (try dsimp only); omega, fun _ x hx => ?_, fun z => absurd (hofy.symm.trans z) (by decide)⟩ (by (try dsimp only); omega)
    try dsimp only
    rw [cnK_s, bump_a]
    by_cases q : x = cellN (px (skR G k) p) (py (skR G k) p)
    · rw [if_pos q, q, upz_s, hI1 hofy _ hce.2]; rfl
    · rw [if_neg q, upz_n q]; exact hI1 hofy x hx
  refine V_aload_n XC 0 rfl dX8_ink_9 rfl ?_
  refine V_get XC 30 flX8_ink_72 0 rfl rfl dX8_ink_10 ?_
  refine V_iload_n XC 2 rfl dX8_ink_13 rfl ?_
  refine V_iconst XC dX8_ink_14 ?_
  refine V_iast XC (j) 2 rfl (by omega) (by omega) (by decide) dX8_ink_15 ?_
  dsimp only [List.set]
  refine V_iinc XC dX8_ink_16 rfl (by decide) ?_
  dsimp only [List.set]
  refine V_goto XC 2 dX8_ink_19 (by decide) ?_
  refine ih2 (j + 1, upz IN2 j 0) ⟨by (try dsimp only); omega, fun i hi => ?_⟩ (by (try dsimp only); omega)
  try dsimp only at hi ⊢
  by_cases q : i = j
  · subst q; rw [upz_s]
  · rw [upz_n q]; exact hz i (by omega)

set_option maxRecDepth 100000 in
set_option maxHeartbeats 4000000 in
theorem c_X8_inkedCells (l : Launch) (D : va_G) (kI kC : ClassId) (b : Nat → Nat) (gp : Int) (ke : Nat) (un : Nat) (bu : Nat) (ty : Nat) (pc : Int) (gd : Bool) (rd : Int) (po : Int) (ln : Int) (wd : Int) (IN : Nat → Int) (cnt : Nat → Nat) (hI : ∀ x, x ≤ 10200 → IN x = (cnt x : Int)) (hb : ∀ x, cnt x ≤ 384) : ConR l yX8_inkedCells wsX8_inkedCells { frames := 0, cells := 0, slots := 0, locals := 0 } D kI kC [.ref (b 0)] (mdO b gp (ke : Int) (un : Int) (bu : Int) (ty : Int) pc gd rd po ln wd :: [(b 20, IA kI 10201 IN)]) (fun r => r = ((fb_ct (fun x => decide (0 < cnt x)) 10201 : Nat) : Int)) := by
  refine Con.of (cc := cX8_inkedCells) (maxL := 3) (ret := (some .int)) (by decide +kernel) rfl (List.forall_mem_cons.mpr ⟨rfl, fun _ h => absurd h List.not_mem_nil⟩) (Nat.le_of_ble_eq_true rfl) ?_
  intro pV eV sV mV bV tV cV AV XC hrV
  have XC : Cx pV _ sV mV _ tV cV cX8_inkedCells 3 RX8 wsX8_inkedCells AV D kI kC := XC
  change VV _ _ _ _ _ _ _ _ _ _ _ _ _ _ _ _ _ [some (.ref (b 0)), none, none] _ _
  dsimp only [mdO, List.cons_append, List.nil_append]
  refine V_iconst XC dX8_inkedCells_0 ?_
  refine V_istore_n XC 1 rfl dX8_inkedCells_1 (by decide) ?_
  dsimp only [List.set]
  refine V_iconst XC dX8_inkedCells_2 ?_
  refine V_istore_n XC 2 rfl dX8_inkedCells_3 (by decide) ?_
  dsimp only [List.set]
  refine V_loopR (σ := Nat) (fun u => 10201 - u) (fun u => u ≤ 10201) (fun u => [some (.ref (b 0)), some (.int (iI ((fb_ct (fun x => decide (0 < cnt x)) u : Nat) : Int))), some (.int (iI (u : Int)))]) (0) (Nat.zero_le _) rfl (fun u hJ ih4 => ?_)
  obtain ⟨j, rfl⟩ : ∃ z, z = u := ⟨_, rfl⟩
  try dsimp only at hJ ih4 ⊢
  obtain hj := hJ
  refine V_iload_n XC 2 rfl dX8_inkedCells_4 rfl ?_
  refine V_sipush XC dX8_inkedCells_5 (by decide) ?_
  refine V_icmp_ge XC 34 dX8_inkedCells_8 (by decide) ⟨by omega, by omega⟩ ⟨by omega, by omega⟩ (fun h8 => ?_) (fun h8 => ?_)
  · skip
    refine V_iload_n XC 1 rfl dX8_inkedCells_34 rfl ?_
    refine V_iret XC () hrV rfl dX8_inkedCells_35 ?_
    obtain rfl : j = 10201 := by omega
    rfl
  have hIj := hI j (by omega)
  have hbj := hb j
  refine V_iload_n XC 1 rfl dX8_inkedCells_11 rfl ?_
  refine V_aload_n XC 0 rfl dX8_inkedCells_12 rfl ?_
  refine V_get XC 30 flX8_inkedCells_72 0 rfl rfl dX8_inkedCells_13 ?_
  refine V_iload_n XC 2 rfl dX8_inkedCells_16 rfl ?_
  refine V_iald XC (j) 1 rfl (by omega) (by omega) (by decide) dX8_inkedCells_17 ?_
  refine V_if_le XC 25 dX8_inkedCells_18 (by decide) ⟨by omega, by omega⟩ (fun h18 => ?_) (fun h18 => ?_)
  · skip
    refine V_iconst XC dX8_inkedCells_25 ?_
    refine V_iadd XC dX8_inkedCells_26 ?_
    refine V_istore_n XC 1 rfl dX8_inkedCells_27 (by decide) ?_
    dsimp only [List.set]
    refine V_iinc XC dX8_inkedCells_28 rfl (by decide) ?_
    dsimp only [List.set]
    refine V_goto XC 4 dX8_inkedCells_31 (by decide) ?_
    first
    | (rw [ct_s1 (p := fun x => decide (0 < cnt x)) (decide_eq_true (by omega))]; exact ih4 (j + 1) (by omega) (by omega))
    | (rw [ct_s0 (p := fun x => decide (0 < cnt x)) (decide_eq_false (by omega))]; exact ih4 (j + 1) (by omega) (by omega))
  refine V_iconst XC dX8_inkedCells_21 ?_
  refine V_goto XC 26 dX8_inkedCells_22 (by decide) ?_
  refine V_iadd XC dX8_inkedCells_26 ?_
  refine V_istore_n XC 1 rfl dX8_inkedCells_27 (by decide) ?_
  dsimp only [List.set]
  refine V_iinc XC dX8_inkedCells_28 rfl (by decide) ?_
  dsimp only [List.set]
  refine V_goto XC 4 dX8_inkedCells_31 (by decide) ?_
  first
  | (rw [ct_s1 (p := fun x => decide (0 < cnt x)) (decide_eq_true (by omega))]; exact ih4 (j + 1) (by omega) (by omega))
  | (rw [ct_s0 (p := fun x => decide (0 < cnt x)) (decide_eq_false (by omega))]; exact ih4 (j + 1) (by omega) (by omega))

set_option maxRecDepth 100000 in
set_option maxHeartbeats 4000000 in
theorem c_X8_fullest (l : Launch) (D : va_G) (kI kC : ClassId) (b : Nat → Nat) (gp : Int) (ke : Nat) (un : Nat) (bu : Nat) (ty : Nat) (pc : Int) (gd : Bool) (rd : Int) (po : Int) (ln : Int) (wd : Int) (IN : Nat → Int) (cnt : Nat → Nat) (hI : ∀ x, x ≤ 10200 → IN x = (cnt x : Int)) (hb : ∀ x, cnt x ≤ 384) : ConR l yX8_fullest wsX8_fullest { frames := 0, cells := 0, slots := 0, locals := 0 } D kI kC [.ref (b 0)] (mdO b gp (ke : Int) (un : Int) (bu : Int) (ty : Int) pc gd rd po ln wd :: [(b 20, IA kI 10201 IN)]) (fun r => 0 ≤ r ∧ (∀ x, x ≤ 10200 → (cnt x : Int) ≤ r) ∧ (r = 0 ∨ ∃ x, x ≤ 10200 ∧ (cnt x : Int) = r)) := by
  refine Con.of (cc := cX8_fullest) (maxL := 3) (ret := (some .int)) (by decide +kernel) rfl (List.forall_mem_cons.mpr ⟨rfl, fun _ h => absurd h List.not_mem_nil⟩) (Nat.le_of_ble_eq_true rfl) ?_
  intro pV eV sV mV bV tV cV AV XC hrV
  have XC : Cx pV _ sV mV _ tV cV cX8_fullest 3 RX8 wsX8_fullest AV D kI kC := XC
  change VV _ _ _ _ _ _ _ _ _ _ _ _ _ _ _ _ _ [some (.ref (b 0)), none, none] _ _
  dsimp only [mdO, List.cons_append, List.nil_append]
  refine V_iconst XC dX8_fullest_0 ?_
  refine V_istore_n XC 1 rfl dX8_fullest_1 (by decide) ?_
  dsimp only [List.set]
  refine V_iconst XC dX8_fullest_2 ?_
  refine V_istore_n XC 2 rfl dX8_fullest_3 (by decide) ?_
  dsimp only [List.set]
  refine V_loopR (σ := Nat × Int) (fun u => 10201 - u.1) (fun u => u.1 ≤ 10201 ∧ (0 ≤ u.2 ∧ u.2 ≤ 384) ∧ (∀ x, x < u.1 → (cnt x : Int) ≤ u.2) ∧ (u.2 = 0 ∨ ∃ x, x ≤ 10200 ∧ (cnt x : Int) = u.2)) (fun u => [some (.ref (b 0)), some (.int (iI u.2)), some (.int (iI (u.1 : Int)))]) (0, 0) ?_ rfl (fun u hJ ih4 => ?_)
  · dsimp only
    exact ⟨Nat.zero_le _, by omega, fun x hx => absurd hx (Nat.not_lt_zero x), Or.inl rfl⟩
  obtain ⟨j, mo⟩ := u
  try dsimp only at hJ ih4 ⊢
  obtain ⟨hj, hm, hle, hex⟩ := hJ
  refine V_iload_n XC 2 rfl dX8_fullest_4 rfl ?_
  refine V_sipush XC dX8_fullest_5 (by decide) ?_
  refine V_icmp_ge XC 38 dX8_fullest_8 (by decide) ⟨by omega, by omega⟩ ⟨by omega, by omega⟩ (fun h8 => ?_) (fun h8 => ?_)
  · skip
    refine V_iload_n XC 1 rfl dX8_fullest_38 rfl ?_
    refine V_iret XC () hrV rfl dX8_fullest_39 ?_
    obtain rfl : j = 10201 := by omega
    exact ⟨hm.1, fun x hx => hle x (by omega), hex⟩
  have hIj := hI j (by omega)
  have hbj := hb j
  refine V_aload_n XC 0 rfl dX8_fullest_11 rfl ?_
  refine V_get XC 30 flX8_fullest_72 0 rfl rfl dX8_fullest_12 ?_
  refine V_iload_n XC 2 rfl dX8_fullest_15 rfl ?_
  refine V_iald XC (_) 1 rfl rfl (by omega) (by decide) dX8_fullest_16 ?_
  refine V_iload_n XC 1 rfl dX8_fullest_17 rfl ?_
  refine V_icmp_le XC 30 dX8_fullest_18 (by decide) ⟨by omega, by omega⟩ ⟨by omega, by omega⟩ (fun h18 => ?_) (fun h18 => ?_)
  · skip
    refine V_iload_n XC 1 rfl dX8_fullest_30 rfl ?_
    refine V_istore_n XC 1 rfl dX8_fullest_31 (by decide) ?_
    dsimp only [List.set]
    refine V_iinc XC dX8_fullest_32 rfl (by decide) ?_
    dsimp only [List.set]
    refine V_goto XC 4 dX8_fullest_35 (by decide) ?_
    first
    | (refine ih4 (j + 1, mo) ⟨by (try dsimp only); omega, hm, fun x hx => ?_, hex⟩ (by (try dsimp only); omega)
       try dsimp only at hx ⊢
       rcases Nat.lt_or_ge x j with z | z
       · exact hle x z
       · rw [show x = j by omega]; omega)
    | (refine ih4 (j + 1, IN j) ⟨by (try dsimp only); omega, by (try dsimp only); omega, fun x hx => ?_, Or.inr ⟨j, by omega, hIj.symm⟩⟩ (by (try dsimp only); omega)
       try dsimp only at hx ⊢
       rcases Nat.lt_or_ge x j with z | z
       · have := hle x z; omega
       · rw [show x = j by omega]; omega)
  refine V_aload_n XC 0 rfl dX8_fullest_21 rfl ?_
  refine V_get XC 30 flX8_fullest_72 0 rfl rfl dX8_fullest_22 ?_
  refine V_iload_n XC 2 rfl dX8_fullest_25 rfl ?_
  refine V_iald XC (j) 1 rfl (by omega) (by omega) (by decide) dX8_fullest_26 ?_
  refine V_goto XC 31 dX8_fullest_27 (by decide) ?_
  refine V_istore_n XC 1 rfl dX8_fullest_31 (by decide) ?_
  dsimp only [List.set]
  refine V_iinc XC dX8_fullest_32 rfl (by decide) ?_
  dsimp only [List.set]
  refine V_goto XC 4 dX8_fullest_35 (by decide) ?_
  first
  | (refine ih4 (j + 1, mo) ⟨by (try dsimp only); omega, hm, fun x hx => ?_, hex⟩ (by (try dsimp only); omega)
     try dsimp only at hx ⊢
     rcases Nat.lt_or_ge x j with z | z
     · exact hle x z
     · rw [show x = j by omega]; omega)
  | (refine ih4 (j + 1, IN j) ⟨by (try dsimp only); omega, by (try dsimp only); omega, fun x hx => ?_, Or.inr ⟨j, by omega, hIj.symm⟩⟩ (by (try dsimp only); omega)
     try dsimp only at hx ⊢
     rcases Nat.lt_or_ge x j with z | z
     · have := hle x z; omega
     · rw [show x = j by omega]; omega)

set_option maxRecDepth 100000 in
set_option maxHeartbeats 4000000 in
theorem c_X8_cell (l : Launch) (D : va_G) (kI kC : ClassId) (b : Nat → Nat) (gp : Int) (ke : Nat) (un : Nat) (bu : Nat) (ty : Nat) (pc : Int) (gd : Bool) (rd : Int) (po : Int) (ln : Int) (wd : Int) (G : Nat → Int) (IN : Nat → Int) (S : List Stk) (hS : OkS S) (hN : NowR G S) (x y : Int) (hx : IR x) (hy : IR y) : Con l yX8_cell wsX8_cell { frames := 2, cells := 0, slots := 0, locals := 45 } D kI kC [.ref (b 0), .int (iI x), .int (iI y)] (mdO b gp (ke : Int) (un : Int) (bu : Int) (ty : Int) pc gd rd po ln wd :: [(b 1, IA kI 801 G), (b 20, IA kI 10201 IN)]) (σ := (Nat → Int)) (qI (fun r u => r = cellS S x y)) (fun u => (mdO b gp (ke : Int) (un : Int) (bu : Int) (ty : Int) pc gd rd po ln wd :: [(b 1, IA kI 801 G), (b 20, IA kI 10201 u)])) := by
  refine Con.of (cc := cX8_cell) (maxL := 3) (ret := (some .int)) (by decide +kernel) rfl (List.forall_mem_cons.mpr ⟨rfl, List.forall_mem_cons.mpr ⟨rfl, List.forall_mem_cons.mpr ⟨rfl, fun _ h => absurd h List.not_mem_nil⟩⟩⟩) (Nat.le_of_ble_eq_true rfl) ?_
  intro pV eV sV mV bV tV cV AV XC hrV
  have XC : Cx pV _ sV mV _ tV cV cX8_cell 3 RX8 wsX8_cell AV D kI kC := XC
  change VV _ _ _ _ _ _ _ _ _ _ _ _ _ _ _ _ _ [some (.ref (b 0)), some (.int (iI x)), some (.int (iI y))] _ _
  dsimp only [mdO, List.cons_append, List.nil_append]
  refine V_iload_n XC 1 rfl dX8_cell_0 rfl ?_
  refine V_callS (rest := _) XC (c_X8_isPlace l D kI kC _ hx) gX8_cell_X8_isPlace rfl kmX8_isPlace ⟨⟨Nat.le_of_ble_eq_true rfl, Nat.le_of_ble_eq_true rfl⟩, Nat.le_of_ble_eq_true rfl, Nat.le_of_ble_eq_true rfl⟩ ⟨rfl, rfl⟩ rfl rfl (Nat.le_of_ble_eq_true rfl) [] rfl rfl (fun _ => rfl) dX8_cell_1 (kR_of rfl (fun r1 hq1 => ?_))
  subst hq1
  refine V_bif_eq XC 14 dX8_cell_4 (by decide) (fun h4 => ?_) (fun h4 => ?_)
  · skip
    have hp : cellS S x y = -2 := if_pos (Or.inl h4)
    refine V_bipush XC dX8_cell_14 (by decide) ?_
    refine V_iret XC (IN) hrV rfl dX8_cell_16 ?_
    exact hp.symm
  have hx2 := of_decide_eq_true h4
  refine V_iload_n XC 2 rfl dX8_cell_7 rfl ?_
  refine V_callS (rest := _) XC (c_X8_isPlace l D kI kC _ hy) gX8_cell_X8_isPlace rfl kmX8_isPlace ⟨⟨Nat.le_of_ble_eq_true rfl, Nat.le_of_ble_eq_true rfl⟩, Nat.le_of_ble_eq_true rfl, Nat.le_of_ble_eq_true rfl⟩ ⟨rfl, rfl⟩ rfl rfl (Nat.le_of_ble_eq_true rfl) [] rfl rfl (fun _ => rfl) dX8_cell_8 (kR_of rfl (fun r8 hq8 => ?_))
  subst hq8
  refine V_bif_ne XC 17 dX8_cell_11 (by decide) (fun h11 => ?_) (fun h11 => ?_)
  · skip
    have hy2 := of_decide_eq_true h11
    have hg : ¬ (inR x 0 1000 = false ∨ inR y 0 1000 = false) := by
      unfold inR
      rw [h4, h11]
      simp
    have hce := cellN_le (x := x) (y := y) (by omega) (by omega)
    refine V_aload_n XC 0 rfl dX8_cell_17 rfl ?_
    refine V_bipush XC dX8_cell_18 (by decide) ?_
    refine V_callV (rest := _) (q0 := 0) XC (c_X8_ink l D kI kC _ _ _ _ _ _ _ _ _ _ _ _ _ _ S hS hN _ (-1) (Or.inl ⟨rfl, rfl⟩)) gX8_cell_X8_ink rfl kmX8_ink ⟨⟨Nat.le_of_ble_eq_true rfl, Nat.le_of_ble_eq_true rfl⟩, Nat.le_of_ble_eq_true rfl, Nat.le_of_ble_eq_true rfl⟩ ⟨rfl, rfl⟩ rfl rfl (Nat.le_of_ble_eq_true rfl) [0, 1, 2] rfl rfl (fun _ => rfl) rfl rfl dX8_cell_20 (kV_of (fun u20 hq20 => ?_))
    dsimp only [putW, List.set, Option.toList, List.cons_append, List.nil_append, padO, mdO, shW, trW, txW, hiW, liW, woW, taW]
    try dsimp only at hq20
    have hI20 := hq20
    refine V_aload_n XC 0 rfl dX8_cell_23 rfl ?_
    refine V_get XC 30 flX8_cell_72 0 rfl rfl dX8_cell_24 ?_
    refine V_bipush XC dX8_cell_27 (by decide) ?_
    refine V_iload_n XC 2 rfl dX8_cell_29 rfl ?_
    refine V_bipush XC dX8_cell_30 (by decide) ?_
    refine V_idiv XC dX8_cell_32 (by omega) (by omega) (by decide) (by decide) ?_
    refine V_imul XC dX8_cell_33 ?_
    refine V_iload_n XC 1 rfl dX8_cell_34 rfl ?_
    refine V_bipush XC dX8_cell_35 (by decide) ?_
    refine V_idiv XC dX8_cell_37 (by omega) (by omega) (by decide) (by decide) ?_
    refine V_iadd XC dX8_cell_38 ?_
    refine V_iald XC (cellN x y) 2 rfl (by omega) (by omega) (by decide) dX8_cell_39 ?_
    refine V_iret XC (u20) hrV rfl dX8_cell_40 ?_
    rw [hI20 _ hce.2, cnS_cc]
    exact (if_neg hg).symm
  have hp : cellS S x y = -2 := if_pos (Or.inr h11)
  refine V_bipush XC dX8_cell_14 (by decide) ?_
  refine V_iret XC (IN) hrV rfl dX8_cell_16 ?_
  exact hp.symm

def fW (what c : Int) (t : Stk) : Int := if t.1 = c then (if what = 0 then 1 else if what = 1 then (szk t : Int) else lenK t) else 0

set_option maxRecDepth 100000 in
set_option maxHeartbeats 4000000 in
theorem c_X8_color (l : Launch) (D : va_G) (kI kC : ClassId) (b : Nat → Nat) (gp : Int) (ke : Nat) (un : Nat) (bu : Nat) (ty : Nat) (pc : Int) (gd : Bool) (rd : Int) (po : Int) (ln : Int) (wd : Int) (G : Nat → Int) (IN : Nat → Int) (S : List Stk) (hS : OkS S) (hN : NowR G S) (c what : Int) (hc : IR c) (hw : IR what) : Con l yX8_color wsX8_color { frames := 2, cells := 0, slots := 0, locals := 45 } D kI kC [.ref (b 0), .int (iI c), .int (iI what)] (mdO b gp (ke : Int) (un : Int) (bu : Int) (ty : Int) pc gd rd po ln wd :: [(b 1, IA kI 801 G), (b 20, IA kI 10201 IN)]) (σ := (Nat → Int)) (qI (fun r u => r = colorS S c what)) (fun u => (mdO b gp (ke : Int) (un : Int) (bu : Int) (ty : Int) pc gd rd po ln wd :: [(b 1, IA kI 801 G), (b 20, IA kI 10201 u)])) := by
  refine Con.of (cc := cX8_color) (maxL := 5) (ret := (some .int)) (by decide +kernel) rfl (List.forall_mem_cons.mpr ⟨rfl, List.forall_mem_cons.mpr ⟨rfl, List.forall_mem_cons.mpr ⟨rfl, fun _ h => absurd h List.not_mem_nil⟩⟩⟩) (Nat.le_of_ble_eq_true rfl) ?_
  intro pV eV sV mV bV tV cV AV XC hrV
  have XC : Cx pV _ sV mV _ tV cV cX8_color 5 RX8 wsX8_color AV D kI kC := XC
  change VV _ _ _ _ _ _ _ _ _ _ _ _ _ _ _ _ _ [some (.ref (b 0)), some (.int (iI c)), some (.int (iI what)), none, none] _ _
  dsimp only [mdO, List.cons_append, List.nil_append]
  have hn16 : S.length ≤ 16 := hS.1
  have hN0 : G 0 = (S.length : Int) := hN.1
  refine V_iload_n XC 1 rfl dX8_color_0 rfl ?_
  refine V_iconst XC dX8_color_1 ?_
  refine V_iconst XC dX8_color_2 ?_
  refine V_callS (rest := _) XC (c_X8_in l D kI kC _ _ _ hc ⟨by decide, by decide⟩ ⟨by decide, by decide⟩) gX8_color_X8_in rfl kmX8_in ⟨⟨Nat.le_of_ble_eq_true rfl, Nat.le_of_ble_eq_true rfl⟩, Nat.le_of_ble_eq_true rfl, Nat.le_of_ble_eq_true rfl⟩ ⟨rfl, rfl⟩ rfl rfl (Nat.le_of_ble_eq_true rfl) [] rfl rfl (fun _ => rfl) dX8_color_3 (kR_of rfl (fun r3 hq3 => ?_))
  subst hq3
  refine V_bif_eq XC 18 dX8_color_6 (by decide) (fun h6 => ?_) (fun h6 => ?_)
  · skip
    have hp : colorS S c what = -2 := if_pos h6
    refine V_bipush XC dX8_color_18 (by decide) ?_
    refine V_iret XC (IN) hrV rfl dX8_color_20 ?_
    exact hp.symm
  have hc2 := of_decide_eq_true h6
  have hh : ¬ inR c 0 3 = false := by unfold inR; rw [h6]; decide
  refine V_iload_n XC 2 rfl dX8_color_9 rfl ?_
  refine V_iconst XC dX8_color_10 ?_
  refine V_iconst XC dX8_color_11 ?_
  refine V_callS (rest := _) XC (c_X8_in l D kI kC _ _ _ hw ⟨by decide, by decide⟩ ⟨by decide, by decide⟩) gX8_color_X8_in rfl kmX8_in ⟨⟨Nat.le_of_ble_eq_true rfl, Nat.le_of_ble_eq_true rfl⟩, Nat.le_of_ble_eq_true rfl, Nat.le_of_ble_eq_true rfl⟩ ⟨rfl, rfl⟩ rfl rfl (Nat.le_of_ble_eq_true rfl) [] rfl rfl (fun _ => rfl) dX8_color_12 (kR_of rfl (fun r12 hq12 => ?_))
  subst hq12
  refine V_bif_ne XC 21 dX8_color_15 (by decide) (fun h15 => ?_) (fun h15 => ?_)
  · skip
    have hw2 := of_decide_eq_true h15
    refine V_iconst XC dX8_color_21 ?_
    refine V_istore_n XC 3 rfl dX8_color_22 (by decide) ?_
    dsimp only [List.set]
    refine V_iconst XC dX8_color_23 ?_
    refine V_istore XC dX8_color_24 (by decide) ?_
    dsimp only [List.set]
    refine V_loopR (σ := Nat) (fun u => S.length - u) (fun u => u ≤ S.length ∧ (what = 3 → u = 0)) (fun u => [some (.ref (b 0)), some (.int (iI c)), some (.int (iI what)), some (.int (iI (itr (fun k a => a + fW what c (gk S k)) 0 u))), some (.int (iI (u : Int)))]) (0) ⟨Nat.zero_le _, fun _ => rfl⟩ rfl (fun u hJ ih26 => ?_)
    obtain ⟨k, rfl⟩ : ∃ z, z = u := ⟨_, rfl⟩
    try dsimp only at hJ ih26 ⊢
    obtain ⟨hk, hk3⟩ := hJ
    refine V_iload XC dX8_color_26 rfl ?_
    refine V_aload_n XC 0 rfl dX8_color_28 rfl ?_
    refine V_callV (rest := _) (q0 := 0) XC (c_X8_strokes l D kI kC _ _ _ _ _ _ _ _ _ _ _ _ _ ) gX8_color_X8_strokes rfl kmX8_strokes ⟨⟨Nat.le_of_ble_eq_true rfl, Nat.le_of_ble_eq_true rfl⟩, Nat.le_of_ble_eq_true rfl, Nat.le_of_ble_eq_true rfl⟩ ⟨rfl, rfl⟩ rfl rfl (Nat.le_of_ble_eq_true rfl) [0, 1] rfl rfl (fun _ => rfl) rfl rfl dX8_color_29 (kR_of rfl (fun r29 hq29 => ?_))
    subst hq29
    rw [hN0]
    refine V_icmp_ge XC 91 dX8_color_32 (by decide) ⟨by omega, by omega⟩ ⟨by omega, by omega⟩ (fun h32 => ?_) (fun h32 => ?_)
    · skip
      refine V_iload_n XC 2 rfl dX8_color_91 rfl ?_
      refine V_iconst XC dX8_color_92 ?_
      refine V_icmp_ne XC 106 dX8_color_93 (by decide) hw (by first | assumption | (unfold IR; omega)) (fun h93 => ?_) (fun h93 => ?_)
      · skip
        refine V_iload_n XC 3 rfl dX8_color_106 rfl ?_
        first | refine V_iret XC u98 hrV rfl dX8_color_107 ?_ | refine V_iret XC IN hrV rfl dX8_color_107 ?_
        unfold colorS
        rw [if_neg hh]
        first
        | (rw [if_neg (by omega), if_neg (by omega), if_neg (by omega), if_pos (by omega)]; rfl)
        | (have e9 : k = S.length := by omega
           subst e9
           have hc1 : ¬ c = -1 := by omega
           rcases (show what = 0 ∨ what = 1 ∨ what = 2 by omega) with z | z | z
           · rw [if_pos z]
             exact itr_congr (fun i a hi => by (try dsimp only); unfold fW ofC; (try dsimp only); by_cases q : (gk S i).1 = c <;> simp [q, z, bI, hc1] <;> omega)
           · rw [if_neg (by omega), if_pos z]
             exact itr_congr (fun i a hi => by (try dsimp only); unfold fW ofC; (try dsimp only); by_cases q : (gk S i).1 = c <;> simp [q, z, bI, hc1] <;> omega)
           · rw [if_neg (by omega), if_neg (by omega), if_pos z]
             exact itr_congr (fun i a hi => by (try dsimp only); unfold fW ofC; (try dsimp only); by_cases q : (gk S i).1 = c <;> simp [q, z, bI, hc1] <;> omega))
      refine V_aload_n XC 0 rfl dX8_color_96 rfl ?_
      refine V_iload_n XC 1 rfl dX8_color_97 rfl ?_
      refine V_callV (rest := _) (q0 := 0) XC (c_X8_ink l D kI kC _ _ _ _ _ _ _ _ _ _ _ _ _ _ S hS hN _ c (Or.inr ⟨rfl, by omega, by omega⟩)) gX8_color_X8_ink rfl kmX8_ink ⟨⟨Nat.le_of_ble_eq_true rfl, Nat.le_of_ble_eq_true rfl⟩, Nat.le_of_ble_eq_true rfl, Nat.le_of_ble_eq_true rfl⟩ ⟨rfl, rfl⟩ rfl rfl (Nat.le_of_ble_eq_true rfl) [0, 1, 2] rfl rfl (fun _ => rfl) rfl rfl dX8_color_98 (kV_of (fun u98 hq98 => ?_))
      dsimp only [putW, List.set, Option.toList, List.cons_append, List.nil_append, padO, mdO, shW, trW, txW, hiW, liW, woW, taW]
      try dsimp only at hq98
      have hI98 := hq98
      refine V_aload_n XC 0 rfl dX8_color_101 rfl ?_
      refine V_callV (rest := _) (q0 := 0) XC (c_X8_inkedCells l D kI kC _ _ _ _ _ _ _ _ _ _ _ _ _ (cnS S c S.length) hI98 (fun x => Nat.le_trans (cnS_le hS (Nat.le_refl _)) (by omega))) gX8_color_X8_inkedCells rfl kmX8_inkedCells ⟨⟨Nat.le_of_ble_eq_true rfl, Nat.le_of_ble_eq_true rfl⟩, Nat.le_of_ble_eq_true rfl, Nat.le_of_ble_eq_true rfl⟩ ⟨rfl, rfl⟩ rfl rfl (Nat.le_of_ble_eq_true rfl) [0, 2] rfl rfl (fun _ => rfl) rfl rfl dX8_color_102 (kR_of rfl (fun r102 hq102 => ?_))
      subst hq102
      refine V_istore_n XC 3 rfl dX8_color_105 (by decide) ?_
      dsimp only [List.set]
      refine V_iload_n XC 3 rfl dX8_color_106 rfl ?_
      first | refine V_iret XC u98 hrV rfl dX8_color_107 ?_ | refine V_iret XC IN hrV rfl dX8_color_107 ?_
      unfold colorS
      rw [if_neg hh]
      first
      | (rw [if_neg (by omega), if_neg (by omega), if_neg (by omega), if_pos (by omega)]; rfl)
      | (have e9 : k = S.length := by omega
         subst e9
         have hc1 : ¬ c = -1 := by omega
         rcases (show what = 0 ∨ what = 1 ∨ what = 2 by omega) with z | z | z
         · rw [if_pos z]
           exact itr_congr (fun i a hi => by (try dsimp only); unfold fW ofC; (try dsimp only); by_cases q : (gk S i).1 = c <;> simp [q, z, bI, hc1] <;> omega)
         · rw [if_neg (by omega), if_pos z]
           exact itr_congr (fun i a hi => by (try dsimp only); unfold fW ofC; (try dsimp only); by_cases q : (gk S i).1 = c <;> simp [q, z, bI, hc1] <;> omega)
         · rw [if_neg (by omega), if_neg (by omega), if_pos z]
           exact itr_congr (fun i a hi => by (try dsimp only); unfold fW ofC; (try dsimp only); by_cases q : (gk S i).1 = c <;> simp [q, z, bI, hc1] <;> omega))
    refine V_iload_n XC 2 rfl dX8_color_35 rfl ?_
    refine V_iconst XC dX8_color_36 ?_
    refine V_icmp_ge XC 91 dX8_color_37 (by decide) hw (by first | assumption | (unfold IR; omega)) (fun h37 => ?_) (fun h37 => ?_)
    · skip
      refine V_iload_n XC 2 rfl dX8_color_91 rfl ?_
      refine V_iconst XC dX8_color_92 ?_
      refine V_icmp_ne XC 106 dX8_color_93 (by decide) hw (by first | assumption | (unfold IR; omega)) (fun h93 => ?_) (fun h93 => ?_)
      · skip
        refine V_iload_n XC 3 rfl dX8_color_106 rfl ?_
        first | refine V_iret XC u98 hrV rfl dX8_color_107 ?_ | refine V_iret XC IN hrV rfl dX8_color_107 ?_
        unfold colorS
        rw [if_neg hh]
        first
        | (rw [if_neg (by omega), if_neg (by omega), if_neg (by omega), if_pos (by omega)]; rfl)
        | (have e9 : k = S.length := by omega
           subst e9
           have hc1 : ¬ c = -1 := by omega
           rcases (show what = 0 ∨ what = 1 ∨ what = 2 by omega) with z | z | z
           · rw [if_pos z]
             exact itr_congr (fun i a hi => by (try dsimp only); unfold fW ofC; (try dsimp only); by_cases q : (gk S i).1 = c <;> simp [q, z, bI, hc1] <;> omega)
           · rw [if_neg (by omega), if_pos z]
             exact itr_congr (fun i a hi => by (try dsimp only); unfold fW ofC; (try dsimp only); by_cases q : (gk S i).1 = c <;> simp [q, z, bI, hc1] <;> omega)
           · rw [if_neg (by omega), if_neg (by omega), if_pos z]
             exact itr_congr (fun i a hi => by (try dsimp only); unfold fW ofC; (try dsimp only); by_cases q : (gk S i).1 = c <;> simp [q, z, bI, hc1] <;> omega))
      refine V_aload_n XC 0 rfl dX8_color_96 rfl ?_
      refine V_iload_n XC 1 rfl dX8_color_97 rfl ?_
      refine V_callV (rest := _) (q0 := 0) XC (c_X8_ink l D kI kC _ _ _ _ _ _ _ _ _ _ _ _ _ _ S hS hN _ c (Or.inr ⟨rfl, by omega, by omega⟩)) gX8_color_X8_ink rfl kmX8_ink ⟨⟨Nat.le_of_ble_eq_true rfl, Nat.le_of_ble_eq_true rfl⟩, Nat.le_of_ble_eq_true rfl, Nat.le_of_ble_eq_true rfl⟩ ⟨rfl, rfl⟩ rfl rfl (Nat.le_of_ble_eq_true rfl) [0, 1, 2] rfl rfl (fun _ => rfl) rfl rfl dX8_color_98 (kV_of (fun u98 hq98 => ?_))
      dsimp only [putW, List.set, Option.toList, List.cons_append, List.nil_append, padO, mdO, shW, trW, txW, hiW, liW, woW, taW]
      try dsimp only at hq98
      have hI98 := hq98
      refine V_aload_n XC 0 rfl dX8_color_101 rfl ?_
      refine V_callV (rest := _) (q0 := 0) XC (c_X8_inkedCells l D kI kC _ _ _ _ _ _ _ _ _ _ _ _ _ (cnS S c S.length) hI98 (fun x => Nat.le_trans (cnS_le hS (Nat.le_refl _)) (by omega))) gX8_color_X8_inkedCells rfl kmX8_inkedCells ⟨⟨Nat.le_of_ble_eq_true rfl, Nat.le_of_ble_eq_true rfl⟩, Nat.le_of_ble_eq_true rfl, Nat.le_of_ble_eq_true rfl⟩ ⟨rfl, rfl⟩ rfl rfl (Nat.le_of_ble_eq_true rfl) [0, 2] rfl rfl (fun _ => rfl) rfl rfl dX8_color_102 (kR_of rfl (fun r102 hq102 => ?_))
      subst hq102
      refine V_istore_n XC 3 rfl dX8_color_105 (by decide) ?_
      dsimp only [List.set]
      refine V_iload_n XC 3 rfl dX8_color_106 rfl ?_
      first | refine V_iret XC u98 hrV rfl dX8_color_107 ?_ | refine V_iret XC IN hrV rfl dX8_color_107 ?_
      unfold colorS
      rw [if_neg hh]
      first
      | (rw [if_neg (by omega), if_neg (by omega), if_neg (by omega), if_pos (by omega)]; rfl)
      | (have e9 : k = S.length := by omega
         subst e9
         have hc1 : ¬ c = -1 := by omega
         rcases (show what = 0 ∨ what = 1 ∨ what = 2 by omega) with z | z | z
         · rw [if_pos z]
           exact itr_congr (fun i a hi => by (try dsimp only); unfold fW ofC; (try dsimp only); by_cases q : (gk S i).1 = c <;> simp [q, z, bI, hc1] <;> omega)
         · rw [if_neg (by omega), if_pos z]
           exact itr_congr (fun i a hi => by (try dsimp only); unfold fW ofC; (try dsimp only); by_cases q : (gk S i).1 = c <;> simp [q, z, bI, hc1] <;> omega)
         · rw [if_neg (by omega), if_neg (by omega), if_pos z]
           exact itr_congr (fun i a hi => by (try dsimp only); unfold fW ofC; (try dsimp only); by_cases q : (gk S i).1 = c <;> simp [q, z, bI, hc1] <;> omega))
    have hkn : k < S.length := by omega
    have hok := NowR_ok hN hS hkn
    have hat := NowR_at hN hkn
    have hf := skR_ok hok
    have hsz := skR_sz hok
    have hz3 := OkK_sz hok
    refine V_aload_n XC 0 rfl dX8_color_40 rfl ?_
    refine V_get XC 0 flX8_color_7 0 rfl rfl dX8_color_41 ?_
    refine V_bipush XC dX8_color_44 (by decide) ?_
    refine V_iload XC dX8_color_46 rfl ?_
    refine V_iadd XC dX8_color_48 ?_
    refine V_iald XC (17 + k) 1 rfl (by omega) (by omega) (by decide) dX8_color_49 ?_
    refine V_iload_n XC 1 rfl dX8_color_50 rfl ?_
    refine V_icmp_ne XC 85 dX8_color_51 (by decide) ⟨by omega, by omega⟩ hc (fun h51 => ?_) (fun h51 => ?_)
    · skip
      refine V_iinc XC dX8_color_85 rfl (by decide) ?_
      dsimp only [List.set]
      refine V_goto XC 26 dX8_color_88 (by decide) ?_
      have hs9 : itr (fun k a => a + fW what c (gk S k)) 0 (k + 1) = itr (fun k a => a + fW what c (gk S k)) 0 k + fW what c (gk S k) := rfl
      have ih9 := ih26 (k + 1) ⟨by omega, fun z => absurd z (by omega)⟩ (by omega)
      rw [hs9, hat] at ih9
      unfold fW at ih9
      have e8 : (skR G k).1 = G (17 + k) := rfl
      first
      | (rw [if_pos (by omega), if_pos (by omega)] at ih9; exact ih9)
      | (rw [if_pos (by omega), if_neg (by omega), if_pos (by omega)] at ih9; exact ih9)
      | (rw [if_pos (by omega), if_neg (by omega), if_neg (by omega)] at ih9; exact ih9)
      | (rw [if_neg (by omega), Int.add_zero] at ih9; exact ih9)
    refine V_iload_n XC 3 rfl dX8_color_54 rfl ?_
    refine V_iload_n XC 2 rfl dX8_color_55 rfl ?_
    refine V_if_ne XC 63 dX8_color_56 (by decide) hw (fun h56 => ?_) (fun h56 => ?_)
    · skip
      refine V_iload_n XC 2 rfl dX8_color_63 rfl ?_
      refine V_iconst XC dX8_color_64 ?_
      refine V_icmp_ne XC 77 dX8_color_65 (by decide) hw (by first | assumption | (unfold IR; omega)) (fun h65 => ?_) (fun h65 => ?_)
      · skip
        refine V_aload_n XC 0 rfl dX8_color_77 rfl ?_
        refine V_iload XC dX8_color_78 rfl ?_
        refine V_callV (rest := _) (q0 := 0) XC (c_X8_longOf l D kI kC _ _ _ _ _ _ _ _ _ _ _ _ _ k (by omega) hok) gX8_color_X8_longOf rfl kmX8_longOf ⟨⟨Nat.le_of_ble_eq_true rfl, Nat.le_of_ble_eq_true rfl⟩, Nat.le_of_ble_eq_true rfl, Nat.le_of_ble_eq_true rfl⟩ ⟨rfl, rfl⟩ rfl rfl (Nat.le_of_ble_eq_true rfl) [0, 1] rfl rfl (fun _ => rfl) rfl rfl dX8_color_80 (kR_of rfl (fun r80 hq80 => ?_))
        subst hq80
        refine V_iadd XC dX8_color_83 ?_
        refine V_istore_n XC 3 rfl dX8_color_84 (by decide) ?_
        dsimp only [List.set]
        refine V_iinc XC dX8_color_85 rfl (by decide) ?_
        dsimp only [List.set]
        refine V_goto XC 26 dX8_color_88 (by decide) ?_
        have hs9 : itr (fun k a => a + fW what c (gk S k)) 0 (k + 1) = itr (fun k a => a + fW what c (gk S k)) 0 k + fW what c (gk S k) := rfl
        have ih9 := ih26 (k + 1) ⟨by omega, fun z => absurd z (by omega)⟩ (by omega)
        rw [hs9, hat] at ih9
        unfold fW at ih9
        have e8 : (skR G k).1 = G (17 + k) := rfl
        first
        | (rw [if_pos (by omega), if_pos (by omega)] at ih9; exact ih9)
        | (rw [if_pos (by omega), if_neg (by omega), if_pos (by omega)] at ih9; exact ih9)
        | (rw [if_pos (by omega), if_neg (by omega), if_neg (by omega)] at ih9; exact ih9)
        | (rw [if_neg (by omega), Int.add_zero] at ih9; exact ih9)
      refine V_aload_n XC 0 rfl dX8_color_68 rfl ?_
      refine V_iload XC dX8_color_69 rfl ?_
      refine V_callV (rest := _) (q0 := 0) XC (c_X8_size l D kI kC _ _ _ _ _ _ _ _ _ _ _ _ _ k (by omega)) gX8_color_X8_size rfl kmX8_size ⟨⟨Nat.le_of_ble_eq_true rfl, Nat.le_of_ble_eq_true rfl⟩, Nat.le_of_ble_eq_true rfl, Nat.le_of_ble_eq_true rfl⟩ ⟨rfl, rfl⟩ rfl rfl (Nat.le_of_ble_eq_true rfl) [0, 1] rfl rfl (fun _ => rfl) rfl rfl dX8_color_71 (kR_of rfl (fun r71 hq71 => ?_))
      subst hq71
      rw [hsz]
      refine V_goto XC 83 dX8_color_74 (by decide) ?_
      refine V_iadd XC dX8_color_83 ?_
      refine V_istore_n XC 3 rfl dX8_color_84 (by decide) ?_
      dsimp only [List.set]
      refine V_iinc XC dX8_color_85 rfl (by decide) ?_
      dsimp only [List.set]
      refine V_goto XC 26 dX8_color_88 (by decide) ?_
      have hs9 : itr (fun k a => a + fW what c (gk S k)) 0 (k + 1) = itr (fun k a => a + fW what c (gk S k)) 0 k + fW what c (gk S k) := rfl
      have ih9 := ih26 (k + 1) ⟨by omega, fun z => absurd z (by omega)⟩ (by omega)
      rw [hs9, hat] at ih9
      unfold fW at ih9
      have e8 : (skR G k).1 = G (17 + k) := rfl
      first
      | (rw [if_pos (by omega), if_pos (by omega)] at ih9; exact ih9)
      | (rw [if_pos (by omega), if_neg (by omega), if_pos (by omega)] at ih9; exact ih9)
      | (rw [if_pos (by omega), if_neg (by omega), if_neg (by omega)] at ih9; exact ih9)
      | (rw [if_neg (by omega), Int.add_zero] at ih9; exact ih9)
    refine V_iconst XC dX8_color_59 ?_
    refine V_goto XC 83 dX8_color_60 (by decide) ?_
    refine V_iadd XC dX8_color_83 ?_
    refine V_istore_n XC 3 rfl dX8_color_84 (by decide) ?_
    dsimp only [List.set]
    refine V_iinc XC dX8_color_85 rfl (by decide) ?_
    dsimp only [List.set]
    refine V_goto XC 26 dX8_color_88 (by decide) ?_
    have hs9 : itr (fun k a => a + fW what c (gk S k)) 0 (k + 1) = itr (fun k a => a + fW what c (gk S k)) 0 k + fW what c (gk S k) := rfl
    have ih9 := ih26 (k + 1) ⟨by omega, fun z => absurd z (by omega)⟩ (by omega)
    rw [hs9, hat] at ih9
    unfold fW at ih9
    have e8 : (skR G k).1 = G (17 + k) := rfl
    first
    | (rw [if_pos (by omega), if_pos (by omega)] at ih9; exact ih9)
    | (rw [if_pos (by omega), if_neg (by omega), if_pos (by omega)] at ih9; exact ih9)
    | (rw [if_pos (by omega), if_neg (by omega), if_neg (by omega)] at ih9; exact ih9)
    | (rw [if_neg (by omega), Int.add_zero] at ih9; exact ih9)
  have hw2 := of_decide_eq_false h15
  have hp : colorS S c what = -2 := by
    unfold colorS
    rw [if_neg hh, if_neg (by omega), if_neg (by omega), if_neg (by omega), if_neg (by omega)]
  refine V_bipush XC dX8_color_18 (by decide) ?_
  refine V_iret XC (IN) hrV rfl dX8_color_20 ?_
  exact hp.symm

set_option maxRecDepth 100000 in
set_option maxHeartbeats 4000000 in
theorem c_X8_count (l : Launch) (D : va_G) (kI kC : ClassId) (b : Nat → Nat) (gp : Int) (ke : Nat) (un : Nat) (bu : Nat) (ty : Nat) (pc : Int) (gd : Bool) (rd : Int) (po : Int) (ln : Int) (wd : Int) (G : Nat → Int) (TO : Nat → Int) (BO : Nat → Int) (BE : Nat → Int) (RK : Nat → Int) (WO : Nat → Int) (OD : Nat → Int) (IN : Nat → Int) (S : List Stk) (hS : OkS S) (hN : NowR G S) (hg : 0 ≤ gp ∧ gp ≤ 500) (what : Int) (hw : IR what) : Con l yX8_count wsX8_count { frames := 5, cells := 0, slots := 0, locals := 120 } D kI kC [.ref (b 0), .int (iI what)] (mdO b gp (ke : Int) (un : Int) (bu : Int) (ty : Int) pc gd rd po ln wd :: [(b 1, IA kI 801 G), (b 14, IA kI 16 TO), (b 15, IA kI 16 BO), (b 16, IA kI 16 BE), (b 17, IA kI 16 RK), (b 18, IA kI 16 WO), (b 19, IA kI 16 OD), (b 20, IA kI 10201 IN)]) (σ := Int × (Nat → Int) × (Nat → Int) × (Nat → Int) × (Nat → Int) × Int × (Nat → Int) × (Nat → Int) × (Nat → Int)) (qI (fun r u => countR S gp (bu : Int) (ke : Int) (un : Int) what r)) (fun u => (mdO b gp (ke : Int) (un : Int) (bu : Int) (ty : Int) pc gd rd po u.1 u.2.2.2.2.2.1 :: [(b 1, IA kI 801 G), (b 14, IA kI 16 u.2.1), (b 15, IA kI 16 u.2.2.1), (b 16, IA kI 16 u.2.2.2.1), (b 17, IA kI 16 u.2.2.2.2.1), (b 18, IA kI 16 u.2.2.2.2.2.2.1), (b 19, IA kI 16 u.2.2.2.2.2.2.2.1), (b 20, IA kI 10201 u.2.2.2.2.2.2.2.2)])) := by
  refine Con.of (cc := cX8_count) (maxL := 5) (ret := (some .int)) (by decide +kernel) rfl (List.forall_mem_cons.mpr ⟨rfl, List.forall_mem_cons.mpr ⟨rfl, fun _ h => absurd h List.not_mem_nil⟩⟩) (Nat.le_of_ble_eq_true rfl) ?_
  intro pV eV sV mV bV tV cV AV XC hrV
  have XC : Cx pV _ sV mV _ tV cV cX8_count 5 RX8 wsX8_count AV D kI kC := XC
  change VV _ _ _ _ _ _ _ _ _ _ _ _ _ _ _ _ _ [some (.ref (b 0)), some (.int (iI what)), none, none, none] _ _
  dsimp only [mdO, List.cons_append, List.nil_append]
  have hn16 : S.length ≤ 16 := hS.1
  have hN0 : G 0 = (S.length : Int) := hN.1
  refine V_aload_n XC 0 rfl dX8_count_0 rfl ?_
  refine V_callV (rest := _) (q0 := 0) XC (c_X8_layOut l D kI kC _ _ _ _ _ _ _ _ _ _ _ _ _ _ _ _ _ _ _ _ (by assumption) (by assumption) (by omega)) gX8_count_X8_layOut rfl kmX8_layOut ⟨⟨Nat.le_of_ble_eq_true rfl, Nat.le_of_ble_eq_true rfl⟩, Nat.le_of_ble_eq_true rfl, Nat.le_of_ble_eq_true rfl⟩ ⟨rfl, rfl⟩ rfl rfl (Nat.le_of_ble_eq_true rfl) [0, 1, 2, 3, 4, 5, 6, 7] rfl rfl (fun _ => rfl) rfl rfl dX8_count_1 (kV_of (fun u1 hq1 => ?_))
  obtain ⟨m1, TO1, BO1, BE1, RK1, w1, WO1, OD1⟩ := u1
  dsimp only [putW, List.set, Option.toList, List.cons_append, List.nil_append, padO, mdO, shW, trW, txW, hiW, liW, woW, taW]
  try dsimp only at hq1
  have hL1 := hq1
  obtain ⟨rfl, hbE, hrE, hrk9, rfl, hWO9, hOD9⟩ := hL1
  refine V_aload_n XC 0 rfl dX8_count_4 rfl ?_
  refine V_bipush XC dX8_count_5 (by decide) ?_
  refine V_callV (rest := _) (q0 := 0) XC (c_X8_ink l D kI kC _ _ _ _ _ _ _ _ _ _ _ _ _ _ S hS hN _ (-1) (Or.inl ⟨rfl, rfl⟩)) gX8_count_X8_ink rfl kmX8_ink ⟨⟨Nat.le_of_ble_eq_true rfl, Nat.le_of_ble_eq_true rfl⟩, Nat.le_of_ble_eq_true rfl, Nat.le_of_ble_eq_true rfl⟩ ⟨rfl, rfl⟩ rfl rfl (Nat.le_of_ble_eq_true rfl) [0, 1, 8] rfl rfl (fun _ => rfl) rfl rfl dX8_count_7 (kV_of (fun u7 hq7 => ?_))
  dsimp only [putW, List.set, Option.toList, List.cons_append, List.nil_append, padO, mdO, shW, trW, txW, hiW, liW, woW, taW]
  try dsimp only at hq7
  have hI7 := hq7
  refine V_iconst XC dX8_count_10 ?_
  refine V_istore_n XC 2 rfl dX8_count_11 (by decide) ?_
  dsimp only [List.set]
  refine V_iconst XC dX8_count_12 ?_
  refine V_istore_n XC 3 rfl dX8_count_13 (by decide) ?_
  dsimp only [List.set]
  refine V_iconst XC dX8_count_14 ?_
  refine V_istore XC dX8_count_15 (by decide) ?_
  dsimp only [List.set]
  refine V_loopR (σ := Nat) (fun u => S.length - u) (fun u => u ≤ S.length) (fun u => [some (.ref (b 0)), some (.int (iI what)), some (.int (iI (itr (fun k a => a + (szk (gk S k) : Int)) 0 u))), some (.int (iI (itr (fun k a => a + lenK (gk S k)) 0 u))), some (.int (iI (u : Int)))]) (0) (Nat.zero_le _) rfl (fun u hJ ih17 => ?_)
  obtain ⟨k, rfl⟩ : ∃ z, z = u := ⟨_, rfl⟩
  try dsimp only at hJ ih17 ⊢
  obtain hk := hJ
  refine V_iload XC dX8_count_17 rfl ?_
  refine V_aload_n XC 0 rfl dX8_count_19 rfl ?_
  refine V_callV (rest := _) (q0 := 0) XC (c_X8_strokes l D kI kC _ _ _ _ _ _ _ _ _ _ _ _ _ ) gX8_count_X8_strokes rfl kmX8_strokes ⟨⟨Nat.le_of_ble_eq_true rfl, Nat.le_of_ble_eq_true rfl⟩, Nat.le_of_ble_eq_true rfl, Nat.le_of_ble_eq_true rfl⟩ ⟨rfl, rfl⟩ rfl rfl (Nat.le_of_ble_eq_true rfl) [0, 1] rfl rfl (fun _ => rfl) rfl rfl dX8_count_20 (kR_of rfl (fun r20 hq20 => ?_))
  subst hq20
  rw [hN0]
  refine V_icmp_ge XC 50 dX8_count_23 (by decide) ⟨by omega, by omega⟩ ⟨by omega, by omega⟩ (fun h23 => ?_) (fun h23 => ?_)
  · skip
    obtain rfl : k = S.length := by omega
    refine V_iload_n XC 1 rfl dX8_count_50 rfl ?_
    rcases (show (what < 0 ∨ 10 < what) ∨ what = 0 ∨ what = 1 ∨ what = 2 ∨ what = 3 ∨ what = 4 ∨ what = 5 ∨ what = 6 ∨ what = 7 ∨ what = 8 ∨ what = 9 ∨ what = 10 from by omega) with h51 | h51 | h51 | h51 | h51 | h51 | h51 | h51 | h51 | h51 | h51 | h51
    · skip
      refine V_tabOut XC 157 (by first | assumption | (unfold IR; omega)) dX8_count_51 h51 (by decide) ?_
      refine V_bipush XC dX8_count_157 (by decide) ?_
      refine V_iret XC (((mS S : Nat) : Int), TO1, BO1, BE1, RK1, (((WD S gp).1 : Nat) : Int), WO1, OD1, u7) hrV rfl dX8_count_159 ?_
      unfold countR
      rw [if_neg (by omega), if_neg (by omega), if_neg (by omega), if_neg (by omega), if_neg (by omega), if_neg (by omega), if_neg (by omega), if_neg (by omega), if_neg (by omega), if_neg (by omega), if_neg (by omega)]
    · skip
      refine V_tabIn XC 108 0 h51 dX8_count_51 (by unfold IR; decide) (by decide) (by decide) (by rfl) (by decide) ?_
      refine V_aload_n XC 0 rfl dX8_count_108 rfl ?_
      refine V_callV (rest := _) (q0 := 0) XC (c_X8_strokes l D kI kC _ _ _ _ _ _ _ _ _ _ _ _ _ ) gX8_count_X8_strokes rfl kmX8_strokes ⟨⟨Nat.le_of_ble_eq_true rfl, Nat.le_of_ble_eq_true rfl⟩, Nat.le_of_ble_eq_true rfl, Nat.le_of_ble_eq_true rfl⟩ ⟨rfl, rfl⟩ rfl rfl (Nat.le_of_ble_eq_true rfl) [0, 1] rfl rfl (fun _ => rfl) rfl rfl dX8_count_109 (kR_of rfl (fun r109 hq109 => ?_))
      subst hq109
      rw [hN0]
      refine V_iret XC (((mS S : Nat) : Int), TO1, BO1, BE1, RK1, (((WD S gp).1 : Nat) : Int), WO1, OD1, u7) hrV rfl dX8_count_112 ?_
      subst h51
      unfold countR
      rw [if_pos rfl]

    · skip
      refine V_tabIn XC 113 1 h51 dX8_count_51 (by unfold IR; decide) (by decide) (by decide) (by rfl) (by decide) ?_
      refine V_iload_n XC 2 rfl dX8_count_113 rfl ?_
      refine V_iret XC (((mS S : Nat) : Int), TO1, BO1, BE1, RK1, (((WD S gp).1 : Nat) : Int), WO1, OD1, u7) hrV rfl dX8_count_114 ?_
      subst h51
      unfold countR
      rw [if_neg (by decide), if_pos rfl]
      exact itr_congr (fun i a hi => by (try dsimp only); rw [if_pos (show ofC (gk S i) (-1) = true from decide_eq_true (Or.inl rfl))])
    · skip
      refine V_tabIn XC 115 2 h51 dX8_count_51 (by unfold IR; decide) (by decide) (by decide) (by rfl) (by decide) ?_
      refine V_iload_n XC 3 rfl dX8_count_115 rfl ?_
      refine V_iret XC (((mS S : Nat) : Int), TO1, BO1, BE1, RK1, (((WD S gp).1 : Nat) : Int), WO1, OD1, u7) hrV rfl dX8_count_116 ?_
      subst h51
      unfold countR
      rw [if_neg (by decide), if_neg (by decide), if_pos rfl]
      exact itr_congr (fun i a hi => by (try dsimp only); rw [if_pos (show ofC (gk S i) (-1) = true from decide_eq_true (Or.inl rfl))])
    · skip
      refine V_tabIn XC 117 3 h51 dX8_count_51 (by unfold IR; decide) (by decide) (by decide) (by rfl) (by decide) ?_
      refine V_aload_n XC 0 rfl dX8_count_117 rfl ?_
      refine V_get XC 22 flX8_count_192 0 rfl rfl dX8_count_118 ?_
      refine V_iret XC (((mS S : Nat) : Int), TO1, BO1, BE1, RK1, (((WD S gp).1 : Nat) : Int), WO1, OD1, u7) hrV rfl dX8_count_121 ?_
      subst h51
      unfold countR
      rw [if_neg (by decide), if_neg (by decide), if_neg (by decide), if_pos rfl]

    · skip
      refine V_tabIn XC 122 4 h51 dX8_count_51 (by unfold IR; decide) (by decide) (by decide) (by rfl) (by decide) ?_
      refine V_aload_n XC 0 rfl dX8_count_122 rfl ?_
      refine V_get XC 27 flX8_count_217 0 rfl rfl dX8_count_123 ?_
      refine V_iret XC (((mS S : Nat) : Int), TO1, BO1, BE1, RK1, (((WD S gp).1 : Nat) : Int), WO1, OD1, u7) hrV rfl dX8_count_126 ?_
      subst h51
      unfold countR
      rw [if_neg (by decide), if_neg (by decide), if_neg (by decide), if_neg (by decide), if_pos rfl]

    · skip
      refine V_tabIn XC 127 5 h51 dX8_count_51 (by unfold IR; decide) (by decide) (by decide) (by rfl) (by decide) ?_
      refine V_aload_n XC 0 rfl dX8_count_127 rfl ?_
      refine V_callV (rest := _) (q0 := 0) XC (c_X8_inkedCells l D kI kC _ _ _ _ _ _ _ _ _ _ _ _ _ (cnS S (-1) S.length) hI7 (fun x => Nat.le_trans (cnS_le hS (Nat.le_refl _)) (by omega))) gX8_count_X8_inkedCells rfl kmX8_inkedCells ⟨⟨Nat.le_of_ble_eq_true rfl, Nat.le_of_ble_eq_true rfl⟩, Nat.le_of_ble_eq_true rfl, Nat.le_of_ble_eq_true rfl⟩ ⟨rfl, rfl⟩ rfl rfl (Nat.le_of_ble_eq_true rfl) [0, 8] rfl rfl (fun _ => rfl) rfl rfl dX8_count_128 (kR_of rfl (fun r128 hq128 => ?_))
      subst hq128
      refine V_iret XC (((mS S : Nat) : Int), TO1, BO1, BE1, RK1, (((WD S gp).1 : Nat) : Int), WO1, OD1, u7) hrV rfl dX8_count_131 ?_
      subst h51
      unfold countR
      rw [if_neg (by decide), if_neg (by decide), if_neg (by decide), if_neg (by decide), if_neg (by decide), if_pos rfl]
      rfl
    · skip
      refine V_tabIn XC 132 6 h51 dX8_count_51 (by unfold IR; decide) (by decide) (by decide) (by rfl) (by decide) ?_
      refine V_aload_n XC 0 rfl dX8_count_132 rfl ?_
      refine V_callV (rest := _) (q0 := 0) XC (c_X8_fullest l D kI kC _ _ _ _ _ _ _ _ _ _ _ _ _ (cnS S (-1) S.length) hI7 (fun x => Nat.le_trans (cnS_le hS (Nat.le_refl _)) (by omega))) gX8_count_X8_fullest rfl kmX8_fullest ⟨⟨Nat.le_of_ble_eq_true rfl, Nat.le_of_ble_eq_true rfl⟩, Nat.le_of_ble_eq_true rfl, Nat.le_of_ble_eq_true rfl⟩ ⟨rfl, rfl⟩ rfl rfl (Nat.le_of_ble_eq_true rfl) [0, 8] rfl rfl (fun _ => rfl) rfl rfl dX8_count_133 (kR_of rfl (fun r133 hq133 => ?_))
      refine V_iret XC (((mS S : Nat) : Int), TO1, BO1, BE1, RK1, (((WD S gp).1 : Nat) : Int), WO1, OD1, u7) hrV rfl dX8_count_136 ?_
      subst h51
      unfold countR
      rw [if_neg (by decide), if_neg (by decide), if_neg (by decide), if_neg (by decide), if_neg (by decide), if_neg (by decide), if_pos rfl]
      refine ⟨hq133.1, fun c => ?_, hq133.2.2⟩
      rcases Nat.lt_or_ge 10200 c with z | z
      · rw [cnS_out hS z (Nat.le_refl _)]; exact hq133.1
      · exact hq133.2.1 c z
    · skip
      refine V_tabIn XC 137 7 h51 dX8_count_51 (by unfold IR; decide) (by decide) (by decide) (by rfl) (by decide) ?_
      refine V_aload_n XC 0 rfl dX8_count_137 rfl ?_
      refine V_get XC 6 flX8_count_92 0 rfl rfl dX8_count_138 ?_
      refine V_iret XC (((mS S : Nat) : Int), TO1, BO1, BE1, RK1, (((WD S gp).1 : Nat) : Int), WO1, OD1, u7) hrV rfl dX8_count_141 ?_
      subst h51
      unfold countR
      rw [if_neg (by decide), if_neg (by decide), if_neg (by decide), if_neg (by decide), if_neg (by decide), if_neg (by decide), if_neg (by decide), if_pos rfl]

    · skip
      refine V_tabIn XC 142 8 h51 dX8_count_51 (by unfold IR; decide) (by decide) (by decide) (by rfl) (by decide) ?_
      refine V_aload_n XC 0 rfl dX8_count_142 rfl ?_
      refine V_get XC 3 flX8_count_79 0 rfl rfl dX8_count_143 ?_
      refine V_iret XC (((mS S : Nat) : Int), TO1, BO1, BE1, RK1, (((WD S gp).1 : Nat) : Int), WO1, OD1, u7) hrV rfl dX8_count_146 ?_
      subst h51
      unfold countR
      rw [if_neg (by decide), if_neg (by decide), if_neg (by decide), if_neg (by decide), if_neg (by decide), if_neg (by decide), if_neg (by decide), if_neg (by decide), if_pos rfl]

    · skip
      refine V_tabIn XC 147 9 h51 dX8_count_51 (by unfold IR; decide) (by decide) (by decide) (by rfl) (by decide) ?_
      refine V_aload_n XC 0 rfl dX8_count_147 rfl ?_
      refine V_get XC 5 flX8_count_89 0 rfl rfl dX8_count_148 ?_
      refine V_iret XC (((mS S : Nat) : Int), TO1, BO1, BE1, RK1, (((WD S gp).1 : Nat) : Int), WO1, OD1, u7) hrV rfl dX8_count_151 ?_
      subst h51
      unfold countR
      rw [if_neg (by decide), if_neg (by decide), if_neg (by decide), if_neg (by decide), if_neg (by decide), if_neg (by decide), if_neg (by decide), if_neg (by decide), if_neg (by decide), if_pos rfl]

    · skip
      refine V_tabIn XC 152 10 h51 dX8_count_51 (by unfold IR; decide) (by decide) (by decide) (by rfl) (by decide) ?_
      refine V_aload_n XC 0 rfl dX8_count_152 rfl ?_
      refine V_get XC 1 flX8_count_13 0 rfl rfl dX8_count_153 ?_
      refine V_iret XC (((mS S : Nat) : Int), TO1, BO1, BE1, RK1, (((WD S gp).1 : Nat) : Int), WO1, OD1, u7) hrV rfl dX8_count_156 ?_
      subst h51
      unfold countR
      rw [if_neg (by decide), if_neg (by decide), if_neg (by decide), if_neg (by decide), if_neg (by decide), if_neg (by decide), if_neg (by decide), if_neg (by decide), if_neg (by decide), if_neg (by decide), if_pos rfl]

  have hkn : k < S.length := by omega
  have hok := NowR_ok hN hS hkn
  have hat := NowR_at hN hkn
  have hsz := skR_sz hok
  refine V_iload_n XC 2 rfl dX8_count_26 rfl ?_
  refine V_aload_n XC 0 rfl dX8_count_27 rfl ?_
  refine V_iload XC dX8_count_28 rfl ?_
  refine V_callV (rest := _) (q0 := 0) XC (c_X8_size l D kI kC _ _ _ _ _ _ _ _ _ _ _ _ _ k (by omega)) gX8_count_X8_size rfl kmX8_size ⟨⟨Nat.le_of_ble_eq_true rfl, Nat.le_of_ble_eq_true rfl⟩, Nat.le_of_ble_eq_true rfl, Nat.le_of_ble_eq_true rfl⟩ ⟨rfl, rfl⟩ rfl rfl (Nat.le_of_ble_eq_true rfl) [0, 1] rfl rfl (fun _ => rfl) rfl rfl dX8_count_30 (kR_of rfl (fun r30 hq30 => ?_))
  subst hq30
  rw [hsz]
  refine V_iadd XC dX8_count_33 ?_
  refine V_istore_n XC 2 rfl dX8_count_34 (by decide) ?_
  dsimp only [List.set]
  refine V_iload_n XC 3 rfl dX8_count_35 rfl ?_
  refine V_aload_n XC 0 rfl dX8_count_36 rfl ?_
  refine V_iload XC dX8_count_37 rfl ?_
  refine V_callV (rest := _) (q0 := 0) XC (c_X8_longOf l D kI kC _ _ _ _ _ _ _ _ _ _ _ _ _ k (by omega) hok) gX8_count_X8_longOf rfl kmX8_longOf ⟨⟨Nat.le_of_ble_eq_true rfl, Nat.le_of_ble_eq_true rfl⟩, Nat.le_of_ble_eq_true rfl, Nat.le_of_ble_eq_true rfl⟩ ⟨rfl, rfl⟩ rfl rfl (Nat.le_of_ble_eq_true rfl) [0, 1] rfl rfl (fun _ => rfl) rfl rfl dX8_count_39 (kR_of rfl (fun r39 hq39 => ?_))
  subst hq39
  refine V_iadd XC dX8_count_42 ?_
  refine V_istore_n XC 3 rfl dX8_count_43 (by decide) ?_
  dsimp only [List.set]
  refine V_iinc XC dX8_count_44 rfl (by decide) ?_
  dsimp only [List.set]
  refine V_goto XC 17 dX8_count_47 (by decide) ?_
  have ih9 := ih17 (k + 1) (by omega) (by omega)
  rw [itr_s, itr_s] at ih9
  try dsimp only at ih9
  rw [hat] at ih9
  exact ih9

end REFR
