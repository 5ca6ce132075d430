/-! the reference: rubbing -/
section REFL

theorem endC_nil {c : Int} {D : List Stk} : endC c (D, []) = D := if_pos rfl
theorem endC_cons {c : Int} {D : List Stk} {ps : List Pt} (h : ps ≠ []) : endC c (D, ps) = D ++ [(c, ps)] := if_neg h
theorem endC_len {c : Int} {D : List Stk} {ps : List Pt} : D.length ≤ (endC c (D, ps)).length := by
  unfold endC
  split
  · exact Nat.le_refl _
  · rw [List.length_append]; exact Nat.le_add_right _ _
theorem rubC_yes {gone : Pt → Bool} {c : Int} {st : List Stk × List Pt} {q : Pt} (h : gone q = true) : rubC gone c st q = (endC c st, []) := if_pos h
theorem rubC_nn {gone : Pt → Bool} {c : Int} {st : List Stk × List Pt} {q : Pt} (h : gone q = false) : rubC gone c st q = (st.1, st.2 ++ [q]) := if_neg (by rw [h]; decide)
theorem rubF_s {gone : Pt → Bool} {c : Int} {st0 : List Stk × List Pt} {l : List Pt} {i : Nat} {q : Pt} (h : l[i]? = some q) : (l.take (i + 1)).foldl (rubC gone c) st0 = rubC gone c ((l.take i).foldl (rubC gone c) st0) q := by
  rw [take_s h, List.foldl_append]
  rfl
theorem endC_all {t : Int} {st : List Stk × List Pt} (h0 : ∀ s ∈ st.1, OkK s) (h1 : st.2 ≠ [] → OkK (t, st.2)) : ∀ s ∈ endC t st, OkK s := by
  intro s hs
  unfold endC at hs
  split at hs
  · exact h0 s hs
  · rename_i h
    rcases List.mem_append.mp hs with z | z
    · exact h0 s z
    · rw [List.mem_singleton.mp z]; exact h1 h
theorem rubK_all {gone : Pt → Bool} {Dl : List Stk} {t : Stk} (hD : ∀ s ∈ Dl, OkK s) (ht : OkK t) : ∀ s ∈ rubK gone Dl t, OkK s := by
  have hnr : NR t.2 := ht.2.2.2.2.2
  have h24 : t.2.length ≤ 24 := ht.2.2.2.1
  have hin := ht.2.2.2.2.1
  have key : ∀ i, i ≤ t.2.length → (∀ s ∈ ((t.2.take i).foldl (rubC gone t.1) (Dl, [])).1, OkK s) ∧ ∀ q ∈ ((t.2.take i).foldl (rubC gone t.1) (Dl, [])).2, inC q := by
    intro i
    induction i with
    | zero => intro _; exact ⟨hD, fun q hq => absurd hq List.not_mem_nil⟩
    | succ i ih =>
      intro hi
      obtain ⟨h1, h2⟩ := ih (by omega)
      obtain ⟨r1, r2, -⟩ := rub_cur (gone := gone) (col := t.1) (Dl := Dl) hnr i (by omega)
      have hq : t.2[i]? = some t.2[i] := List.getElem?_eq_getElem (by omega)
      rw [rubF_s hq]
      generalize (t.2.take i).foldl (rubC gone t.1) (Dl, []) = st at h1 h2 r1 r2 ⊢
      cases hg : gone t.2[i] with
      | true =>
        rw [rubC_yes hg]
        exact ⟨endC_all h1 (fun hne => ⟨ht.1, ht.2.1, by have := List.length_pos_iff.mpr hne; exact this, by show st.2.length ≤ 24; omega, h2, r1⟩), fun q hq => absurd hq List.not_mem_nil⟩
      | false =>
        rw [rubC_nn hg]
        refine ⟨h1, fun q hq => ?_⟩
        rcases List.mem_append.mp hq with z | z
        · exact h2 q z
        · rw [List.mem_singleton.mp z]; exact hin _ (List.getElem_mem _)
  obtain ⟨h1, h2⟩ := key t.2.length (Nat.le_refl _)
  obtain ⟨r1, r2, -⟩ := rub_cur (gone := gone) (col := t.1) (Dl := Dl) hnr t.2.length (Nat.le_refl _)
  unfold rubK
  rw [List.take_length] at h1 h2 r1 r2
  exact endC_all h1 (fun hne => ⟨ht.1, ht.2.1, by have := List.length_pos_iff.mpr hne; exact this, by show (List.foldl (rubC gone t.1) (Dl, []) t.2).2.length ≤ 24; omega, h2, r1⟩)
theorem rubL_all {gone : Pt → Bool} : ∀ (S Dl : List Stk), (∀ s ∈ Dl, OkK s) → (∀ s ∈ S, OkK s) → ∀ s ∈ S.foldl (rubK gone) Dl, OkK s
  | [], _, h, _ => h
  | a :: S, Dl, h, h2 => rubL_all S (rubK gone Dl a) (rubK_all h (h2 a List.mem_cons_self)) (fun s hs => h2 s (List.mem_cons_of_mem _ hs))
theorem countP_s {gone : Pt → Bool} {l : List Pt} {i : Nat} {q : Pt} (h : l[i]? = some q) : (l.take (i + 1)).countP gone = (l.take i).countP gone + (if gone q = true then 1 else 0) := by
  rw [take_s h, List.countP_append]
  congr 1
  rw [List.countP_cons, List.countP_nil, Nat.zero_add]

set_option maxRecDepth 100000 in
set_option maxHeartbeats 4000000 in
theorem c_X8_rub (l : Launch) (D : va_G) (kI kC : ClassId) (b : Nat → Nat) (gp : Int) (ke : Nat) (un : Nat) (bu : Nat) (ty : Nat) (pc : Int) (gd : Bool) (rd : Int) (po : Int) (ln : Int) (wd : Int) (G : Nat → Int) (H : Nat → Int) (X : Nat → Int) (A : Nat → Int) (S : List Stk) (past fut : List (List Stk)) (h3 : Ok3 (S, past, fut)) (hN : NowR G S) (hH : RH (S, past, fut) ke un H A) (x y rad : Int) (hx : IR x) (hy : IR y) (hr : IR rad) : Con l yX8_rub wsX8_rub { frames := 4, cells := 0, slots := 0, locals := 85 } D kI kC [.ref (b 0), .int (iI x), .int (iI y), .int (iI rad)] (mdO b gp (ke : Int) (un : Int) (bu : Int) (ty : Int) pc gd rd po ln wd :: [(b 1, IA kI 801 G), (b 2, IA kI 4806 H), (b 9, IA kI 801 X)]) (σ := (Nat → Int) × Nat × Nat × (Nat → Int) × (Nat → Int)) (qI (fun r u => r = (rubS S x y rad).1 ∧ NowR u.1 (actS (S, past, fut) (rubS S x y rad).2).1 ∧ RH (actS (S, past, fut) (rubS S x y rad).2) u.2.1 u.2.2.1 u.2.2.2.1 A ∧ Ok3 (actS (S, past, fut) (rubS S x y rad).2))) (fun u => (mdO b gp (u.2.1 : Int) (u.2.2.1 : Int) (bu : Int) (ty : Int) pc gd rd po ln wd :: [(b 1, IA kI 801 u.1), (b 2, IA kI 4806 u.2.2.2.1), (b 9, IA kI 801 u.2.2.2.2)])) := by
  refine Con.of (cc := cX8_rub) (maxL := 9) (ret := (some .int)) (by decide +kernel) rfl (List.forall_mem_cons.mpr ⟨rfl, List.forall_mem_cons.mpr ⟨rfl, List.forall_mem_cons.mpr ⟨rfl, List.forall_mem_cons.mpr ⟨rfl, fun _ h => absurd h List.not_mem_nil⟩⟩⟩⟩) (Nat.le_of_ble_eq_true rfl) ?_
  intro pV eV sV mV bV tV cV AV XC hrV
  have XC : Cx pV _ sV mV _ tV cV cX8_rub 9 RX8 wsX8_rub AV D kI kC := XC
  change VV _ _ _ _ _ _ _ _ _ _ _ _ _ _ _ _ _ [some (.ref (b 0)), some (.int (iI x)), some (.int (iI y)), some (.int (iI rad)), none, none, none, none, none] _ _
  dsimp only [mdO, List.cons_append, List.nil_append]
  have hn16 : S.length ≤ 16 := h3.1.1
  have hS : OkS S := h3.1
  have hk6 : ke ≤ 6 := by rw [hH.1]; exact h3.2.1.1
  have hN0 : G 0 = (S.length : Int) := hN.1
  refine V_iload_n XC 1 rfl dX8_rub_0 rfl ?_
  refine V_callS (rest := _) XC (c_X8_isPlace l D kI kC _ hx) gX8_rub_X8_isPlace rfl kmX8_isPlace ⟨⟨Nat.le_of_ble_eq_true rfl, Nat.le_of_ble_eq_true rfl⟩, Nat.le_of_ble_eq_true rfl, Nat.le_of_ble_eq_true rfl⟩ ⟨rfl, rfl⟩ rfl rfl (Nat.le_of_ble_eq_true rfl) [] rfl rfl (fun _ => rfl) dX8_rub_1 (kR_of rfl (fun r1 hq1 => ?_))
  subst hq1
  refine V_bif_eq XC 25 dX8_rub_4 (by decide) (fun h4 => ?_) (fun h4 => ?_)
  · skip
    have hp : rubS S x y rad = (-2, none) := if_pos (Or.inl h4)
    refine V_bipush XC dX8_rub_25 (by decide) ?_
    refine V_iret XC (G, ke, un, H, X) hrV rfl dX8_rub_27 ?_
    rw [hp]
    exact ⟨rfl, hN, hH, h3⟩
  have hx2 := of_decide_eq_true h4
  refine V_iload_n XC 2 rfl dX8_rub_7 rfl ?_
  refine V_callS (rest := _) XC (c_X8_isPlace l D kI kC _ hy) gX8_rub_X8_isPlace rfl kmX8_isPlace ⟨⟨Nat.le_of_ble_eq_true rfl, Nat.le_of_ble_eq_true rfl⟩, Nat.le_of_ble_eq_true rfl, Nat.le_of_ble_eq_true rfl⟩ ⟨rfl, rfl⟩ rfl rfl (Nat.le_of_ble_eq_true rfl) [] rfl rfl (fun _ => rfl) dX8_rub_8 (kR_of rfl (fun r8 hq8 => ?_))
  subst hq8
  refine V_bif_eq XC 25 dX8_rub_11 (by decide) (fun h11 => ?_) (fun h11 => ?_)
  · skip
    have hp : rubS S x y rad = (-2, none) := if_pos (Or.inr (Or.inl h11))
    refine V_bipush XC dX8_rub_25 (by decide) ?_
    refine V_iret XC (G, ke, un, H, X) hrV rfl dX8_rub_27 ?_
    rw [hp]
    exact ⟨rfl, hN, hH, h3⟩
  have hy2 := of_decide_eq_true h11
  refine V_iload_n XC 3 rfl dX8_rub_14 rfl ?_
  refine V_iconst XC dX8_rub_15 ?_
  refine V_sipush XC dX8_rub_16 (by decide) ?_
  refine V_callS (rest := _) XC (c_X8_in l D kI kC _ _ _ hr ⟨by decide, by decide⟩ ⟨by decide, by decide⟩) gX8_rub_X8_in rfl kmX8_in ⟨⟨Nat.le_of_ble_eq_true rfl, Nat.le_of_ble_eq_true rfl⟩, Nat.le_of_ble_eq_true rfl, Nat.le_of_ble_eq_true rfl⟩ ⟨rfl, rfl⟩ rfl rfl (Nat.le_of_ble_eq_true rfl) [] rfl rfl (fun _ => rfl) dX8_rub_19 (kR_of rfl (fun r19 hq19 => ?_))
  subst hq19
  refine V_bif_ne XC 28 dX8_rub_22 (by decide) (fun h22 => ?_) (fun h22 => ?_)
  · skip
    have hr2 := of_decide_eq_true h22
    have hrr : ¬ (inR x 0 1000 = false ∨ inR y 0 1000 = false ∨ inR rad 0 500 = false) := by unfold inR; rw [h4, h11, h22]; simp
    have hrad := sqb (x := rad) (B := 500) (by omega) (by omega)
    refine V_aload_n XC 0 rfl dX8_rub_28 rfl ?_
    refine V_callV (rest := _) (q0 := 0) XC (c_X8_begin l D kI kC _ _ _ _ _ _ _ _ _ _ _ _ _ ) gX8_rub_X8_begin rfl kmX8_begin ⟨⟨Nat.le_of_ble_eq_true rfl, Nat.le_of_ble_eq_true rfl⟩, Nat.le_of_ble_eq_true rfl, Nat.le_of_ble_eq_true rfl⟩ ⟨rfl, rfl⟩ rfl rfl (Nat.le_of_ble_eq_true rfl) [0, 3] rfl rfl (fun _ => rfl) rfl rfl dX8_rub_29 (kV_of (fun u29 hq29 => ?_))
    dsimp only [putW, List.set, Option.toList, List.cons_append, List.nil_append, padO, mdO, shW, trW, txW, hiW, liW, woW, taW]
    try dsimp only at hq29
    refine V_iconst XC dX8_rub_32 ?_
    refine V_istore XC dX8_rub_33 (by decide) ?_
    dsimp only [List.set]
    refine V_iconst XC dX8_rub_35 ?_
    refine V_istore XC dX8_rub_36 (by decide) ?_
    dsimp only [List.set]
    refine V_loop (σ := Nat × Nat × (Nat → Int)) (fun u => S.length - u.1) (fun u => u.1 ≤ S.length ∧ NxR u.2.2 (rubL (goneB x y rad) (S.take u.1)) ∧ u.2.1 = goneN (goneB x y rad) (S.take u.1) ∧ u.2.1 ≤ 24 * u.1 ∧ (rubL (goneB x y rad) (S.take u.1)).length ≤ 24 * u.1) (fun u => [some (.ref (b 0)), some (.int (iI x)), some (.int (iI y)), some (.int (iI rad)), some (.int (iI (u.2.1 : Int))), some (.int (iI (u.1 : Int))), none, none, none]) (fun u => (mdO b gp (ke : Int) (un : Int) (bu : Int) (ty : Int) pc gd rd po ln wd :: [(b 1, IA kI 801 G), (b 2, IA kI 4806 H), (b 9, IA kI 801 u.2.2)])) (0, 0, upz X 0 0) ?_ rfl rfl (fun u hJ ih38 => ?_)
    · dsimp only
      exact ⟨Nat.zero_le _, NxR_0, rfl, Nat.le_refl _, Nat.zero_le _⟩
    obtain ⟨k, cnt, X2⟩ := u
    try dsimp only at hJ ih38 ⊢
    try dsimp only [List.cons_append, List.nil_append, padO, mdO, shW, trW, txW, hiW, liW, woW, taW]
    obtain ⟨hk, hX2, hcnt, hc24, hl24⟩ := hJ
    refine V_iload XC dX8_rub_38 rfl ?_
    refine V_aload_n XC 0 rfl dX8_rub_40 rfl ?_
    refine V_callV (rest := _) (q0 := 0) XC (c_X8_strokes l D kI kC _ _ _ _ _ _ _ _ _ _ _ _ _ ) gX8_rub_X8_strokes rfl kmX8_strokes ⟨⟨Nat.le_of_ble_eq_true rfl, Nat.le_of_ble_eq_true rfl⟩, Nat.le_of_ble_eq_true rfl, Nat.le_of_ble_eq_true rfl⟩ ⟨rfl, rfl⟩ rfl rfl (Nat.le_of_ble_eq_true rfl) [0, 1] rfl rfl (fun _ => rfl) rfl rfl dX8_rub_41 (kR_of rfl (fun r41 hq41 => ?_))
    subst hq41
    rw [hN0]
    refine V_icmp_ge XC 188 dX8_rub_44 (by decide) ⟨by omega, by omega⟩ ⟨by omega, by omega⟩ (fun h44 => ?_) (fun h44 => ?_)
    · skip
      obtain rfl : k = S.length := by omega
      rw [List.take_of_length_le (Nat.le_refl _)] at hX2 hcnt hl24
      refine V_aload_n XC 0 rfl dX8_rub_188 rfl ?_
      refine V_get XC 16 flX8_rub_39 0 rfl rfl dX8_rub_189 ?_
      refine V_iconst XC dX8_rub_192 ?_
      refine V_iald XC (0) 3 rfl rfl (by decide) (by decide) dX8_rub_193 ?_
      rw [hX2.1]
      refine V_bipush XC dX8_rub_194 (by decide) ?_
      refine V_icmp_le XC 202 dX8_rub_196 (by decide) ⟨by omega, by omega⟩ ⟨by omega, by omega⟩ (fun h196 => ?_) (fun h196 => ?_)
      · skip
        refine V_iload XC dX8_rub_202 rfl ?_
        refine V_if_ne XC 210 dX8_rub_204 (by decide) ⟨by omega, by omega⟩ (fun h204 => ?_) (fun h204 => ?_)
        · skip
          have hE : OkS (rubL (goneB x y rad) S) := ⟨by omega, rubL_all S [] (fun _ h => absurd h List.not_mem_nil) hS.2⟩
          have hNb := NowR_become (G := G) hX2 hE
          have hp : rubS S x y rad = ((cnt : Int), some (rubL (goneB x y rad) S)) := by
            unfold rubS
            rw [if_neg hrr, if_neg (by omega), if_neg (by omega), ← hcnt]
          refine V_aload_n XC 0 rfl dX8_rub_210 rfl ?_
          refine V_callV (rest := _) (q0 := 0) XC (c_X8_become l D kI kC _ _ _ _ _ _ _ _ _ _ _ _ _ _ _ (by omega)) gX8_rub_X8_become rfl kmX8_become ⟨⟨Nat.le_of_ble_eq_true rfl, Nat.le_of_ble_eq_true rfl⟩, Nat.le_of_ble_eq_true rfl, Nat.le_of_ble_eq_true rfl⟩ ⟨rfl, rfl⟩ rfl rfl (Nat.le_of_ble_eq_true rfl) [0, 1, 2, 3] rfl rfl (fun _ => rfl) rfl rfl dX8_rub_211 (kV_of (fun u211 hq211 => ?_))
          dsimp only [putW, List.set, Option.toList, List.cons_append, List.nil_append, padO, mdO, shW, trW, txW, hiW, liW, woW, taW]
          try dsimp only at hq211
          refine V_iload XC dX8_rub_214 rfl ?_
          refine V_iret XC (cpz X2 G 0 0 801, min (ke + 1) 6, 0, pushH G H ke, X2) hrV rfl dX8_rub_216 ?_
          rw [hp]
          exact ⟨rfl, act_endR h3 hH hN hE hNb⟩
        have hp : rubS S x y rad = (-5, none) := by
          unfold rubS
          rw [if_neg hrr, if_neg (by omega), if_pos (by omega)]
        refine V_bipush XC dX8_rub_207 (by decide) ?_
        refine V_iret XC (G, ke, un, H, X2) hrV rfl dX8_rub_209 ?_
        rw [hp]
        exact ⟨rfl, hN, hH, h3⟩
      have hp : rubS S x y rad = (-3, none) := by
        unfold rubS
        rw [if_neg hrr, if_pos (by omega)]
      refine V_bipush XC dX8_rub_199 (by decide) ?_
      refine V_iret XC (G, ke, un, H, X2) hrV rfl dX8_rub_201 ?_
      rw [hp]
      exact ⟨rfl, hN, hH, h3⟩
    have hkn : k < S.length := by omega
    have hok := NowR_ok hN hS hkn
    have hat := NowR_at hN hkn
    have hf := skR_ok hok
    have hsz := skR_sz hok
    have hz3 := OkK_sz hok
    have hxy := fun i hi => skR_xy (F := G) (k := k) (i := i) hi
    have hxc := fun i hi => OkK_xy (t := skR G k) (i := i) hok hi
    refine V_iconst XC dX8_rub_47 ?_
    refine V_istore XC dX8_rub_48 (by decide) ?_
    dsimp only [List.set]
    refine V_iconst XC dX8_rub_50 ?_
    refine V_istore XC dX8_rub_51 (by decide) ?_
    dsimp only [List.set]
    refine V_loop (σ := Nat × Bool × Nat × (Nat → Int) × List Stk × List Pt) (fun u => szk (skR G k) - u.1) (fun u => u.1 ≤ szk (skR G k) ∧ ((skR G k).2.take u.1).foldl (rubC (goneB x y rad) (skR G k).1) (rubL (goneB x y rad) (S.take k), []) = (u.2.2.2.2.1, u.2.2.2.2.2) ∧ NxR u.2.2.2.1 (endC (skR G k).1 (u.2.2.2.2.1, u.2.2.2.2.2)) ∧ (u.2.1 = true → u.2.2.2.2.2 ≠ []) ∧ (u.2.1 = false → u.2.2.2.2.2 = []) ∧ u.2.2.2.2.2.length ≤ u.1 ∧ (endC (skR G k).1 (u.2.2.2.2.1, u.2.2.2.2.2)).length ≤ 24 * k + u.1 ∧ u.2.2.1 = cnt + ((skR G k).2.take u.1).countP (goneB x y rad) ∧ u.2.2.1 ≤ 24 * k + u.1) (fun u => [some (.ref (b 0)), some (.int (iI x)), some (.int (iI y)), some (.int (iI rad)), some (.int (iI (u.2.2.1 : Int))), some (.int (iI (k : Int))), some (.int (iI (bI u.2.1))), some (.int (iI (u.1 : Int))), none]) (fun u => (mdO b gp (ke : Int) (un : Int) (bu : Int) (ty : Int) pc gd rd po ln wd :: [(b 1, IA kI 801 G), (b 2, IA kI 4806 H), (b 9, IA kI 801 u.2.2.2.1)])) (0, false, cnt, X2, rubL (goneB x y rad) (S.take k), []) ?_ rfl rfl (fun u hJ ih53 => ?_)
    · dsimp only
      exact ⟨Nat.zero_le _, rfl, by rw [endC_nil]; exact hX2, fun z => absurd (show false = true from z) (by decide), fun _ => rfl, Nat.le_refl _, by rw [endC_nil]; omega, rfl, by omega⟩
    obtain ⟨p, go, n2, X3, D3, ps⟩ := u
    try dsimp only at hJ ih53 ⊢
    try dsimp only [List.cons_append, List.nil_append, padO, mdO, shW, trW, txW, hiW, liW, woW, taW]
    obtain ⟨hp9, hfo, hX3, hg1, hg0, hps, hel, hct, hn2⟩ := hJ
    refine V_iload XC dX8_rub_53 rfl ?_
    refine V_aload_n XC 0 rfl dX8_rub_55 rfl ?_
    refine V_iload XC dX8_rub_56 rfl ?_
    refine V_callV (rest := _) (q0 := 0) XC (c_X8_size l D kI kC _ _ _ _ _ _ _ _ _ _ _ _ _ k (by omega)) gX8_rub_X8_size rfl kmX8_size ⟨⟨Nat.le_of_ble_eq_true rfl, Nat.le_of_ble_eq_true rfl⟩, Nat.le_of_ble_eq_true rfl, Nat.le_of_ble_eq_true rfl⟩ ⟨rfl, rfl⟩ rfl rfl (Nat.le_of_ble_eq_true rfl) [0, 1] rfl rfl (fun _ => rfl) rfl rfl dX8_rub_58 (kR_of rfl (fun r58 hq58 => ?_))
    subst hq58
    rw [hsz]
    refine V_icmp_ge XC 182 dX8_rub_61 (by decide) ⟨by omega, by omega⟩ ⟨by omega, by omega⟩ (fun h61 => ?_) (fun h61 => ?_)
    · skip
      refine V_iinc XC dX8_rub_182 rfl (by decide) ?_
      dsimp only [List.set]
      refine V_goto XC 38 dX8_rub_185 (by decide) ?_
      refine V_kill 6 ?_
      dsimp only [List.set]
      refine V_kill 7 ?_
      dsimp only [List.set]
      obtain rfl : p = szk (skR G k) := by omega
      have hte : (skR G k).2.take (szk (skR G k)) = (skR G k).2 := List.take_of_length_le (Nat.le_refl _)
      rw [hte] at hfo hct
      have hSk := gk_at (S := S) (k := k) (by omega)
      have hRk : rubL (goneB x y rad) (S.take (k + 1)) = endC (skR G k).1 (D3, ps) := by
        rw [rubL_s hSk, hat]
        unfold rubK
        rw [hfo]
      refine ih38 (k + 1, n2, X3) ⟨by (try dsimp only); omega, ?_, ?_, by (try dsimp only); omega, ?_⟩ (by (try dsimp only); omega)
      · dsimp only
        rw [hRk]
        exact hX3
      · dsimp only
        rw [goneN_s hSk, ← hcnt, hat, hct]
      · dsimp only
        rw [hRk]
        omega
    have hxp := hxy p (by omega)
    have hcp := hxc p (by omega)
    have hdl := endC_len (c := (skR G k).1) (D := D3) (ps := ps)
    have q1 := sqb (x := px (skR G k) p - x) (B := 1000) (by omega) (by omega)
    have q2 := sqb (x := py (skR G k) p - y) (B := 1000) (by omega) (by omega)
    refine V_aload_n XC 0 rfl dX8_rub_64 rfl ?_
    refine V_iload XC dX8_rub_65 rfl ?_
    refine V_iload XC dX8_rub_67 rfl ?_
    refine V_callV (rest := _) (q0 := 0) XC (c_X8_x l D kI kC _ _ _ _ _ _ _ _ _ _ _ _ _ k p (by omega) (by omega)) gX8_rub_X8_x rfl kmX8_x ⟨⟨Nat.le_of_ble_eq_true rfl, Nat.le_of_ble_eq_true rfl⟩, Nat.le_of_ble_eq_true rfl, Nat.le_of_ble_eq_true rfl⟩ ⟨rfl, rfl⟩ rfl rfl (Nat.le_of_ble_eq_true rfl) [0, 1] rfl rfl (fun _ => rfl) rfl rfl dX8_rub_69 (kR_of rfl (fun r69 hq69 => ?_))
    subst hq69
    rw [hxp.1]
    refine V_iload_n XC 1 rfl dX8_rub_72 rfl ?_
    refine V_isub XC dX8_rub_73 ?_
    refine V_aload_n XC 0 rfl dX8_rub_74 rfl ?_
    refine V_iload XC dX8_rub_75 rfl ?_
    refine V_iload XC dX8_rub_77 rfl ?_
    refine V_callV (rest := _) (q0 := 0) XC (c_X8_y l D kI kC _ _ _ _ _ _ _ _ _ _ _ _ _ k p (by omega) (by omega)) gX8_rub_X8_y rfl kmX8_y ⟨⟨Nat.le_of_ble_eq_true rfl, Nat.le_of_ble_eq_true rfl⟩, Nat.le_of_ble_eq_true rfl, Nat.le_of_ble_eq_true rfl⟩ ⟨rfl, rfl⟩ rfl rfl (Nat.le_of_ble_eq_true rfl) [0, 1] rfl rfl (fun _ => rfl) rfl rfl dX8_rub_79 (kR_of rfl (fun r79 hq79 => ?_))
    subst hq79
    rw [hxp.2]
    refine V_iload_n XC 2 rfl dX8_rub_82 rfl ?_
    refine V_isub XC dX8_rub_83 ?_
    refine V_callS (rest := _) XC (c_X8_square l D kI kC _ _) gX8_rub_X8_square rfl kmX8_square ⟨⟨Nat.le_of_ble_eq_true rfl, Nat.le_of_ble_eq_true rfl⟩, Nat.le_of_ble_eq_true rfl, Nat.le_of_ble_eq_true rfl⟩ ⟨rfl, rfl⟩ rfl rfl (Nat.le_of_ble_eq_true rfl) [] rfl rfl (fun _ => rfl) dX8_rub_84 (kR_of rfl (fun r84 hq84 => ?_))
    subst hq84
    refine V_iload_n XC 3 rfl dX8_rub_87 rfl ?_
    refine V_iload_n XC 3 rfl dX8_rub_88 rfl ?_
    refine V_imul XC dX8_rub_89 ?_
    refine V_icmp_gt XC 97 dX8_rub_90 (by decide) ⟨by omega, by omega⟩ ⟨by omega, by omega⟩ (fun h90 => ?_) (fun h90 => ?_)
    · skip
      refine V_iconst XC dX8_rub_97 ?_
      refine V_istore XC dX8_rub_98 (by decide) ?_
      dsimp only [List.set]
      refine V_iload XC dX8_rub_100 rfl ?_
      refine V_if_ne XC 124 dX8_rub_102 (by decide) ⟨by decide, by decide⟩ (fun h102 => absurd h102 (by decide)) (fun h102 => ?_)
      refine V_iload XC dX8_rub_105 rfl ?_
      refine V_bif_ne XC 124 dX8_rub_107 (by decide) (fun h107 => ?_) (fun h107 => ?_)
      · skip
        have hne := hg1 h107
        have hXa : NxR X3 (D3 ++ [(G (17 + k), ps)]) := by
          rw [endC_cons hne] at hX3
          exact hX3
        rw [endC_cons hne, List.length_append, List.length_singleton] at hel
        refine V_iload XC dX8_rub_124 rfl ?_
        refine V_if_ne XC 149 dX8_rub_126 (by decide) ⟨by decide, by decide⟩ (fun h126 => absurd h126 (by decide)) (fun h126 => ?_)
        refine V_aload_n XC 0 rfl dX8_rub_129 rfl ?_
        refine V_aload_n XC 0 rfl dX8_rub_130 rfl ?_
        refine V_iload XC dX8_rub_131 rfl ?_
        refine V_iload XC dX8_rub_133 rfl ?_
        refine V_callV (rest := _) (q0 := 0) XC (c_X8_x l D kI kC _ _ _ _ _ _ _ _ _ _ _ _ _ k p (by omega) (by omega)) gX8_rub_X8_x rfl kmX8_x ⟨⟨Nat.le_of_ble_eq_true rfl, Nat.le_of_ble_eq_true rfl⟩, Nat.le_of_ble_eq_true rfl, Nat.le_of_ble_eq_true rfl⟩ ⟨rfl, rfl⟩ rfl rfl (Nat.le_of_ble_eq_true rfl) [0, 1] rfl rfl (fun _ => rfl) rfl rfl dX8_rub_135 (kR_of rfl (fun r135 hq135 => ?_))
        subst hq135
        rw [hxp.1]
        refine V_aload_n XC 0 rfl dX8_rub_138 rfl ?_
        refine V_iload XC dX8_rub_139 rfl ?_
        refine V_iload XC dX8_rub_141 rfl ?_
        refine V_callV (rest := _) (q0 := 0) XC (c_X8_y l D kI kC _ _ _ _ _ _ _ _ _ _ _ _ _ k p (by omega) (by omega)) gX8_rub_X8_y rfl kmX8_y ⟨⟨Nat.le_of_ble_eq_true rfl, Nat.le_of_ble_eq_true rfl⟩, Nat.le_of_ble_eq_true rfl, Nat.le_of_ble_eq_true rfl⟩ ⟨rfl, rfl⟩ rfl rfl (Nat.le_of_ble_eq_true rfl) [0, 1] rfl rfl (fun _ => rfl) rfl rfl dX8_rub_143 (kR_of rfl (fun r143 hq143 => ?_))
        subst hq143
        rw [hxp.2]
        refine V_callV (rest := _) (q0 := 0) XC (c_X8_addPoint l D kI kC _ _ _ _ _ _ _ _ _ _ _ _ _ D3 (G (17 + k)) ps hXa (by omega) (by omega) _ _) gX8_rub_X8_addPoint rfl kmX8_addPoint ⟨⟨Nat.le_of_ble_eq_true rfl, Nat.le_of_ble_eq_true rfl⟩, Nat.le_of_ble_eq_true rfl, Nat.le_of_ble_eq_true rfl⟩ ⟨rfl, rfl⟩ rfl rfl (Nat.le_of_ble_eq_true rfl) [0, 3] rfl rfl (fun _ => rfl) rfl rfl dX8_rub_146 (kV_of (fun u146 hq146 => ?_))
        dsimp only [putW, List.set, Option.toList, List.cons_append, List.nil_append, padO, mdO, shW, trW, txW, hiW, liW, woW, taW]
        try dsimp only at hq146
        refine V_iload XC dX8_rub_149 rfl ?_
        refine V_if_ne XC 158 dX8_rub_151 (by decide) ⟨by decide, by decide⟩ (fun h151 => absurd h151 (by decide)) (fun h151 => ?_)
        refine V_iconst XC dX8_rub_154 ?_
        refine V_goto XC 159 dX8_rub_155 (by decide) ?_
        refine V_istore XC dX8_rub_159 (by decide) ?_
        dsimp only [List.set]
        refine V_iload XC dX8_rub_161 rfl ?_
        refine V_iload XC dX8_rub_163 rfl ?_
        refine V_if_eq XC 172 dX8_rub_165 (by decide) ⟨by decide, by decide⟩ (fun h165 => ?_) (fun h165 => absurd h165 (by decide))
        refine V_iconst XC dX8_rub_172 ?_
        refine V_iadd XC dX8_rub_173 ?_
        first | refine V_top (y := ((n2 + 1 : Nat) : Int)) (by omega) ?_ | refine V_top (y := (n2 : Int)) (by omega) ?_
        refine V_istore XC dX8_rub_174 (by decide) ?_
        dsimp only [List.set]
        refine V_iinc XC dX8_rub_176 rfl (by decide) ?_
        dsimp only [List.set]
        refine V_goto XC 53 dX8_rub_179 (by decide) ?_
        refine V_kill 8 ?_
        dsimp only [List.set]
        have hpt := pxy_at (t := skR G k) (i := p) (by omega)
        have hfs := rubF_s (gone := goneB x y rad) (c := (skR G k).1) (st0 := (rubL (goneB x y rad) (S.take k), [])) hpt
        have hcs := countP_s (gone := goneB x y rad) hpt
        rw [hfo] at hfs
        first
        | (have hgn : goneB x y rad (px (skR G k) p, py (skR G k) p) = true := decide_eq_true (by dsimp only; omega)
           rw [rubC_yes hgn] at hfs
           rw [if_pos hgn] at hcs
           refine ih53 (p + 1, false, n2 + 1, X3, endC (skR G k).1 (D3, ps), []) ⟨by (try dsimp only); omega, hfs, by (try dsimp only); rw [endC_nil]; exact hX3, fun z => absurd (show false = true from z) (by decide), fun _ => rfl, Nat.zero_le _, by (try dsimp only); rw [endC_nil]; omega, by (try dsimp only); rw [hcs]; omega, by (try dsimp only); omega⟩ (by (try dsimp only); omega))
        | (have hgn : goneB x y rad (px (skR G k) p, py (skR G k) p) = false := decide_eq_false (by dsimp only; omega)
           rw [rubC_nn hgn] at hfs
           rw [if_neg (by rw [hgn]; decide)] at hcs
           have hX9 := NxR_point (x := px (skR G k) p) (y := py (skR G k) p) hXa (by omega)
           have hne9 : ps ++ [(px (skR G k) p, py (skR G k) p)] ≠ [] := by simp
           refine ih53 (p + 1, true, n2, _, D3, ps ++ [(px (skR G k) p, py (skR G k) p)]) ⟨by (try dsimp only); omega, hfs, by (try dsimp only); rw [endC_cons hne9]; exact hX9, fun _ => hne9, fun z => absurd (show true = false from z) (by decide), by (try dsimp only); rw [List.length_append, List.length_singleton]; omega, by (try dsimp only); rw [endC_cons hne9, List.length_append, List.length_singleton]; omega, by (try dsimp only); rw [hcs]; omega, by (try dsimp only); omega⟩ (by (try dsimp only); omega))
      have hne := hg0 h107
      have hXD : NxR X3 D3 := by
        rw [hne, endC_nil] at hX3
        exact hX3
      have hXa : NxR (asF X3 D3.length (G (17 + k))) (D3 ++ [(G (17 + k), ps)]) := by
        rw [hne]
        exact NxR_stroke hXD
      rw [hne, endC_nil] at hel
      refine V_aload_n XC 0 rfl dX8_rub_110 rfl ?_
      refine V_aload_n XC 0 rfl dX8_rub_111 rfl ?_
      refine V_get XC 0 flX8_rub_7 0 rfl rfl dX8_rub_112 ?_
      refine V_bipush XC dX8_rub_115 (by decide) ?_
      refine V_iload XC dX8_rub_117 rfl ?_
      refine V_iadd XC dX8_rub_119 ?_
      refine V_iald XC (17 + k) 1 rfl (by omega) (by omega) (by decide) dX8_rub_120 ?_
      refine V_callV (rest := _) (q0 := 0) XC (c_X8_addStroke l D kI kC _ _ _ _ _ _ _ _ _ _ _ _ _ D3 hXD (by omega) _) gX8_rub_X8_addStroke rfl kmX8_addStroke ⟨⟨Nat.le_of_ble_eq_true rfl, Nat.le_of_ble_eq_true rfl⟩, Nat.le_of_ble_eq_true rfl, Nat.le_of_ble_eq_true rfl⟩ ⟨rfl, rfl⟩ rfl rfl (Nat.le_of_ble_eq_true rfl) [0, 3] rfl rfl (fun _ => rfl) rfl rfl dX8_rub_121 (kV_of (fun u121 hq121 => ?_))
      dsimp only [putW, List.set, Option.toList, List.cons_append, List.nil_append, padO, mdO, shW, trW, txW, hiW, liW, woW, taW]
      try dsimp only at hq121
      refine V_iload XC dX8_rub_124 rfl ?_
      refine V_if_ne XC 149 dX8_rub_126 (by decide) ⟨by decide, by decide⟩ (fun h126 => absurd h126 (by decide)) (fun h126 => ?_)
      refine V_aload_n XC 0 rfl dX8_rub_129 rfl ?_
      refine V_aload_n XC 0 rfl dX8_rub_130 rfl ?_
      refine V_iload XC dX8_rub_131 rfl ?_
      refine V_iload XC dX8_rub_133 rfl ?_
      refine V_callV (rest := _) (q0 := 0) XC (c_X8_x l D kI kC _ _ _ _ _ _ _ _ _ _ _ _ _ k p (by omega) (by omega)) gX8_rub_X8_x rfl kmX8_x ⟨⟨Nat.le_of_ble_eq_true rfl, Nat.le_of_ble_eq_true rfl⟩, Nat.le_of_ble_eq_true rfl, Nat.le_of_ble_eq_true rfl⟩ ⟨rfl, rfl⟩ rfl rfl (Nat.le_of_ble_eq_true rfl) [0, 1] rfl rfl (fun _ => rfl) rfl rfl dX8_rub_135 (kR_of rfl (fun r135 hq135 => ?_))
      subst hq135
      rw [hxp.1]
      refine V_aload_n XC 0 rfl dX8_rub_138 rfl ?_
      refine V_iload XC dX8_rub_139 rfl ?_
      refine V_iload XC dX8_rub_141 rfl ?_
      refine V_callV (rest := _) (q0 := 0) XC (c_X8_y l D kI kC _ _ _ _ _ _ _ _ _ _ _ _ _ k p (by omega) (by omega)) gX8_rub_X8_y rfl kmX8_y ⟨⟨Nat.le_of_ble_eq_true rfl, Nat.le_of_ble_eq_true rfl⟩, Nat.le_of_ble_eq_true rfl, Nat.le_of_ble_eq_true rfl⟩ ⟨rfl, rfl⟩ rfl rfl (Nat.le_of_ble_eq_true rfl) [0, 1] rfl rfl (fun _ => rfl) rfl rfl dX8_rub_143 (kR_of rfl (fun r143 hq143 => ?_))
      subst hq143
      rw [hxp.2]
      refine V_callV (rest := _) (q0 := 0) XC (c_X8_addPoint l D kI kC _ _ _ _ _ _ _ _ _ _ _ _ _ D3 (G (17 + k)) ps hXa (by omega) (by omega) _ _) gX8_rub_X8_addPoint rfl kmX8_addPoint ⟨⟨Nat.le_of_ble_eq_true rfl, Nat.le_of_ble_eq_true rfl⟩, Nat.le_of_ble_eq_true rfl, Nat.le_of_ble_eq_true rfl⟩ ⟨rfl, rfl⟩ rfl rfl (Nat.le_of_ble_eq_true rfl) [0, 3] rfl rfl (fun _ => rfl) rfl rfl dX8_rub_146 (kV_of (fun u146 hq146 => ?_))
      dsimp only [putW, List.set, Option.toList, List.cons_append, List.nil_append, padO, mdO, shW, trW, txW, hiW, liW, woW, taW]
      try dsimp only at hq146
      refine V_iload XC dX8_rub_149 rfl ?_
      refine V_if_ne XC 158 dX8_rub_151 (by decide) ⟨by decide, by decide⟩ (fun h151 => absurd h151 (by decide)) (fun h151 => ?_)
      refine V_iconst XC dX8_rub_154 ?_
      refine V_goto XC 159 dX8_rub_155 (by decide) ?_
      refine V_istore XC dX8_rub_159 (by decide) ?_
      dsimp only [List.set]
      refine V_iload XC dX8_rub_161 rfl ?_
      refine V_iload XC dX8_rub_163 rfl ?_
      refine V_if_eq XC 172 dX8_rub_165 (by decide) ⟨by decide, by decide⟩ (fun h165 => ?_) (fun h165 => absurd h165 (by decide))
      refine V_iconst XC dX8_rub_172 ?_
      refine V_iadd XC dX8_rub_173 ?_
      first | refine V_top (y := ((n2 + 1 : Nat) : Int)) (by omega) ?_ | refine V_top (y := (n2 : Int)) (by omega) ?_
      refine V_istore XC dX8_rub_174 (by decide) ?_
      dsimp only [List.set]
      refine V_iinc XC dX8_rub_176 rfl (by decide) ?_
      dsimp only [List.set]
      refine V_goto XC 53 dX8_rub_179 (by decide) ?_
      refine V_kill 8 ?_
      dsimp only [List.set]
      have hpt := pxy_at (t := skR G k) (i := p) (by omega)
      have hfs := rubF_s (gone := goneB x y rad) (c := (skR G k).1) (st0 := (rubL (goneB x y rad) (S.take k), [])) hpt
      have hcs := countP_s (gone := goneB x y rad) hpt
      rw [hfo] at hfs
      first
      | (have hgn : goneB x y rad (px (skR G k) p, py (skR G k) p) = true := decide_eq_true (by dsimp only; omega)
         rw [rubC_yes hgn] at hfs
         rw [if_pos hgn] at hcs
         refine ih53 (p + 1, false, n2 + 1, X3, endC (skR G k).1 (D3, ps), []) ⟨by (try dsimp only); omega, hfs, by (try dsimp only); rw [endC_nil]; exact hX3, fun z => absurd (show false = true from z) (by decide), fun _ => rfl, Nat.zero_le _, by (try dsimp only); rw [endC_nil]; omega, by (try dsimp only); rw [hcs]; omega, by (try dsimp only); omega⟩ (by (try dsimp only); omega))
      | (have hgn : goneB x y rad (px (skR G k) p, py (skR G k) p) = false := decide_eq_false (by dsimp only; omega)
         rw [rubC_nn hgn] at hfs
         rw [if_neg (by rw [hgn]; decide)] at hcs
         have hX9 := NxR_point (x := px (skR G k) p) (y := py (skR G k) p) hXa (by omega)
         have hne9 : ps ++ [(px (skR G k) p, py (skR G k) p)] ≠ [] := by simp
         refine ih53 (p + 1, true, n2, _, D3, ps ++ [(px (skR G k) p, py (skR G k) p)]) ⟨by (try dsimp only); omega, hfs, by (try dsimp only); rw [endC_cons hne9]; exact hX9, fun _ => hne9, fun z => absurd (show true = false from z) (by decide), by (try dsimp only); rw [List.length_append, List.length_singleton]; omega, by (try dsimp only); rw [endC_cons hne9, List.length_append, List.length_singleton]; omega, by (try dsimp only); rw [hcs]; omega, by (try dsimp only); omega⟩ (by (try dsimp only); omega))
    refine V_iconst XC dX8_rub_93 ?_
    refine V_goto XC 98 dX8_rub_94 (by decide) ?_
    refine V_istore XC dX8_rub_98 (by decide) ?_
    dsimp only [List.set]
    refine V_iload XC dX8_rub_100 rfl ?_
    refine V_if_ne XC 124 dX8_rub_102 (by decide) ⟨by decide, by decide⟩ (fun h102 => ?_) (fun h102 => absurd h102 (by decide))
    refine V_iload XC dX8_rub_124 rfl ?_
    refine V_if_ne XC 149 dX8_rub_126 (by decide) ⟨by decide, by decide⟩ (fun h126 => ?_) (fun h126 => absurd h126 (by decide))
    refine V_iload XC dX8_rub_149 rfl ?_
    refine V_if_ne XC 158 dX8_rub_151 (by decide) ⟨by decide, by decide⟩ (fun h151 => ?_) (fun h151 => absurd h151 (by decide))
    refine V_iconst XC dX8_rub_158 ?_
    refine V_istore XC dX8_rub_159 (by decide) ?_
    dsimp only [List.set]
    refine V_iload XC dX8_rub_161 rfl ?_
    refine V_iload XC dX8_rub_163 rfl ?_
    refine V_if_eq XC 172 dX8_rub_165 (by decide) ⟨by decide, by decide⟩ (fun h165 => absurd h165 (by decide)) (fun h165 => ?_)
    refine V_iconst XC dX8_rub_168 ?_
    refine V_goto XC 173 dX8_rub_169 (by decide) ?_
    refine V_iadd XC dX8_rub_173 ?_
    first | refine V_top (y := ((n2 + 1 : Nat) : Int)) (by omega) ?_ | refine V_top (y := (n2 : Int)) (by omega) ?_
    refine V_istore XC dX8_rub_174 (by decide) ?_
    dsimp only [List.set]
    refine V_iinc XC dX8_rub_176 rfl (by decide) ?_
    dsimp only [List.set]
    refine V_goto XC 53 dX8_rub_179 (by decide) ?_
    refine V_kill 8 ?_
    dsimp only [List.set]
    have hpt := pxy_at (t := skR G k) (i := p) (by omega)
    have hfs := rubF_s (gone := goneB x y rad) (c := (skR G k).1) (st0 := (rubL (goneB x y rad) (S.take k), [])) hpt
    have hcs := countP_s (gone := goneB x y rad) hpt
    rw [hfo] at hfs
    first
    | (have hgn : goneB x y rad (px (skR G k) p, py (skR G k) p) = true := decide_eq_true (by dsimp only; omega)
       rw [rubC_yes hgn] at hfs
       rw [if_pos hgn] at hcs
       refine ih53 (p + 1, false, n2 + 1, X3, endC (skR G k).1 (D3, ps), []) ⟨by (try dsimp only); omega, hfs, by (try dsimp only); rw [endC_nil]; exact hX3, fun z => absurd (show false = true from z) (by decide), fun _ => rfl, Nat.zero_le _, by (try dsimp only); rw [endC_nil]; omega, by (try dsimp only); rw [hcs]; omega, by (try dsimp only); omega⟩ (by (try dsimp only); omega))
    | (have hgn : goneB x y rad (px (skR G k) p, py (skR G k) p) = false := decide_eq_false (by dsimp only; omega)
       rw [rubC_nn hgn] at hfs
       rw [if_neg (by rw [hgn]; decide)] at hcs
       have hX9 := NxR_point (x := px (skR G k) p) (y := py (skR G k) p) hXa (by omega)
       have hne9 : ps ++ [(px (skR G k) p, py (skR G k) p)] ≠ [] := by simp
       refine ih53 (p + 1, true, n2, _, D3, ps ++ [(px (skR G k) p, py (skR G k) p)]) ⟨by (try dsimp only); omega, hfs, by (try dsimp only); rw [endC_cons hne9]; exact hX9, fun _ => hne9, fun z => absurd (show true = false from z) (by decide), by (try dsimp only); rw [List.length_append, List.length_singleton]; omega, by (try dsimp only); rw [endC_cons hne9, List.length_append, List.length_singleton]; omega, by (try dsimp only); rw [hcs]; omega, by (try dsimp only); omega⟩ (by (try dsimp only); omega))
  have hp : rubS S x y rad = (-2, none) := if_pos (Or.inr (Or.inr h22))
  refine V_bipush XC dX8_rub_25 (by decide) ?_
  refine V_iret XC (G, ke, un, H, X) hrV rfl dX8_rub_27 ?_
  rw [hp]
  exact ⟨rfl, hN, hH, h3⟩

end REFL
