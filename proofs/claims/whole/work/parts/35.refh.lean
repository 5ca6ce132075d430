/-! the reference: join -/
section REFH

theorem OkP_join {t o : Stk} (ht : OkK t) (ho : OkK o) (hl : szk t + szk o - joinF t o ≤ 24) : OkP (t.2 ++ o.2.drop (joinF t o)) := by
  have h1 := OkK_sz ht
  have h2 := OkK_sz ho
  have hj : joinF t o = 0 ∨ joinF t o = 1 := by unfold joinF; split <;> simp
  have e1 : t.2.length = szk t := rfl
  have e2 : o.2.length = szk o := rfl
  refine ⟨by rw [List.length_append, List.length_drop]; omega, by rw [List.length_append, List.length_drop]; omega, fun q hq => ?_, ?_⟩
  · rcases List.mem_append.mp hq with z | z
    · exact ht.2.2.2.2.1 q z
    · exact ho.2.2.2.2.1 q (List.mem_of_mem_drop z)
  have hno := ho.2.2.2.2.2
  refine NR_cat ht.2.2.2.2.2 ?_ (fun x hx e => ?_)
  · rcases hj with e | e
    · rw [e]; exact hno
    · rw [e]
      cases hO : o.2 with
      | nil => exact trivial
      | cons a l => rw [hO] at hno; exact NR_tail hno
  · rw [← pxy_pts t, ptsOf_last (by omega)] at e
    have e3 := Option.some.inj e
    subst e3
    rw [List.getElem?_drop, Nat.add_zero] at hx
    rcases hj with e9 | e9
    · rw [e9, pxy_at (t := o) (i := 0) (by omega)] at hx
      have h9 := Option.some.inj hx
      have ha : px o 0 = px t (szk t - 1) := congrArg Prod.fst h9
      have hb : py o 0 = py t (szk t - 1) := congrArg Prod.snd h9
      unfold joinF at e9
      rw [if_pos ⟨ha.symm, hb.symm⟩] at e9
      cases e9
    · rw [e9] at hx
      have h3 := NR_at (l := o.2) (i := 0) hno (by have := (List.getElem?_eq_some_iff.mp hx).1; omega)
      unfold joinF at e9
      by_cases w : px t (szk t - 1) = px o 0 ∧ py t (szk t - 1) = py o 0
      · rw [pxy_at (t := o) (i := 0) (by omega), ← w.1, ← w.2] at h3
        exact h3 hx.symm
      · rw [if_neg w] at e9
        cases e9

set_option maxRecDepth 100000 in
set_option maxHeartbeats 4000000 in
theorem c_X8_join (l : Launch) (D : va_G) (kI kC : ClassId) (b : Nat → Nat) (gp : Int) (ke : Nat) (un : Nat) (bu : Nat) (ty : Nat) (pc : Int) (gd : Bool) (rd : Int) (po : Int) (ln : Int) (wd : Int) (G : Nat → Int) (H : Nat → Int) (X : Nat → Int) (A : Nat → Int) (S : List Stk) (past fut : List (List Stk)) (h3 : Ok3 (S, past, fut)) (hN : NowR G S) (hH : RH (S, past, fut) ke un H A) (z o : Int) (hz : IR z) (ho : IR o) : Con l yX8_join wsX8_join { frames := 4, cells := 0, slots := 0, locals := 85 } D kI kC [.ref (b 0), .int (iI z), .int (iI o)] (mdO b gp (ke : Int) (un : Int) (bu : Int) (ty : Int) pc gd rd po ln wd :: [(b 1, IA kI 801 G), (b 2, IA kI 4806 H), (b 9, IA kI 801 X)]) (σ := (Nat → Int) × Nat × Nat × (Nat → Int) × (Nat → Int)) (qI (fun r u => r = (joinS S z o).1 ∧ NowR u.1 (actS (S, past, fut) (joinS S z o).2).1 ∧ RH (actS (S, past, fut) (joinS S z o).2) u.2.1 u.2.2.1 u.2.2.2.1 A ∧ Ok3 (actS (S, past, fut) (joinS S z o).2))) (fun u => (mdO b gp (u.2.1 : Int) (u.2.2.1 : Int) (bu : Int) (ty : Int) pc gd rd po ln wd :: [(b 1, IA kI 801 u.1), (b 2, IA kI 4806 u.2.2.2.1), (b 9, IA kI 801 u.2.2.2.2)])) := by
  refine Con.of (cc := cX8_join) (maxL := 7) (ret := (some .int)) (by decide +kernel) rfl (List.forall_mem_cons.mpr ⟨rfl, List.forall_mem_cons.mpr ⟨rfl, List.forall_mem_cons.mpr ⟨rfl, fun _ h => absurd h List.not_mem_nil⟩⟩⟩) (Nat.le_of_ble_eq_true rfl) ?_
  intro pV eV sV mV bV tV cV AV XC hrV
  have XC : Cx pV _ sV mV _ tV cV cX8_join 7 RX8 wsX8_join AV D kI kC := XC
  change VV _ _ _ _ _ _ _ _ _ _ _ _ _ _ _ _ _ [some (.ref (b 0)), some (.int (iI z)), some (.int (iI o)), none, none, none, none] _ _
  dsimp only [mdO, List.cons_append, List.nil_append]
  have hn16 : S.length ≤ 16 := h3.1.1
  have hS : OkS S := h3.1
  have hk6 : ke ≤ 6 := by rw [hH.1]; exact h3.2.1.1
  have hN0 : G 0 = (S.length : Int) := hN.1
  refine V_aload_n XC 0 rfl dX8_join_0 rfl ?_
  refine V_iload_n XC 1 rfl dX8_join_1 rfl ?_
  refine V_callV (rest := _) (q0 := 0) XC (c_X8_noStroke l D kI kC _ _ _ _ _ _ _ _ _ _ _ _ _ S.length hn16 hN0 _ hz) gX8_join_X8_noStroke rfl kmX8_noStroke ⟨⟨Nat.le_of_ble_eq_true rfl, Nat.le_of_ble_eq_true rfl⟩, Nat.le_of_ble_eq_true rfl, Nat.le_of_ble_eq_true rfl⟩ ⟨rfl, rfl⟩ rfl rfl (Nat.le_of_ble_eq_true rfl) [0, 1] rfl rfl (fun _ => rfl) rfl rfl dX8_join_2 (kR_of rfl (fun r2 hq2 => ?_))
  subst hq2
  refine V_bif_ne XC 16 dX8_join_5 (by decide) (fun h5 => ?_) (fun h5 => ?_)
  · skip
    have hp : joinS S z o = (-1, none) := if_pos (Or.inl (by have h99 := h5; simp at h99; unfold hasS; exact decide_eq_false (show ¬ (0 ≤ z ∧ z < (S.length : Int)) by omega)))
    refine V_iconst XC dX8_join_16 ?_
    refine V_iret XC (G, ke, un, H, X) hrV rfl dX8_join_17 ?_
    rw [hp]
    exact ⟨rfl, hN, hH, h3⟩
  have hz5 : 0 ≤ z ∧ z < (S.length : Int) := by simpa using h5
  obtain ⟨k, rfl⟩ : ∃ k : Nat, z = (k : Int) := ⟨z.toNat, by omega⟩
  have hknk : k < S.length := by omega
  have hokk := NowR_ok hN hS hknk
  have hatk := NowR_at hN hknk
  have hfk := skR_ok hokk
  have hszk := skR_sz hokk
  have hzzk := OkK_sz hokk
  have hxyk := fun i hi => skR_xy (F := G) (k := k) (i := i) hi
  have hxck := fun i hi => OkK_xy (t := skR G k) (i := i) hokk hi
  have hbk : hasS S (k : Int) = true := by unfold hasS; rw [decide_eq_true hz5]
  refine V_aload_n XC 0 rfl dX8_join_8 rfl ?_
  refine V_iload_n XC 2 rfl dX8_join_9 rfl ?_
  refine V_callV (rest := _) (q0 := 0) XC (c_X8_noStroke l D kI kC _ _ _ _ _ _ _ _ _ _ _ _ _ S.length hn16 hN0 _ ho) gX8_join_X8_noStroke rfl kmX8_noStroke ⟨⟨Nat.le_of_ble_eq_true rfl, Nat.le_of_ble_eq_true rfl⟩, Nat.le_of_ble_eq_true rfl, Nat.le_of_ble_eq_true rfl⟩ ⟨rfl, rfl⟩ rfl rfl (Nat.le_of_ble_eq_true rfl) [0, 1] rfl rfl (fun _ => rfl) rfl rfl dX8_join_10 (kR_of rfl (fun r10 hq10 => ?_))
  subst hq10
  refine V_bif_eq XC 18 dX8_join_13 (by decide) (fun h13 => ?_) (fun h13 => ?_)
  · skip
    have hz13 : 0 ≤ o ∧ o < (S.length : Int) := by simpa using h13
    obtain ⟨j, rfl⟩ : ∃ j : Nat, o = (j : Int) := ⟨o.toNat, by omega⟩
    have hknj : j < S.length := by omega
    have hokj := NowR_ok hN hS hknj
    have hatj := NowR_at hN hknj
    have hfj := skR_ok hokj
    have hszj := skR_sz hokj
    have hzzj := OkK_sz hokj
    have hxyj := fun i hi => skR_xy (F := G) (k := j) (i := i) hi
    have hxcj := fun i hi => OkK_xy (t := skR G j) (i := i) hokj hi
    have hbj : hasS S (j : Int) = true := by unfold hasS; rw [decide_eq_true hz13]
    have hhs : ¬ (hasS S (k : Int) = false ∨ hasS S (j : Int) = false) := by rw [hbk, hbj]; simp
    refine V_iload_n XC 1 rfl dX8_join_18 rfl ?_
    refine V_iload_n XC 2 rfl dX8_join_19 rfl ?_
    refine V_icmp_ne XC 26 dX8_join_20 (by decide) ⟨by omega, by omega⟩ ⟨by omega, by omega⟩ (fun h20 => ?_) (fun h20 => ?_)
    · skip
      refine V_aload_n XC 0 rfl dX8_join_26 rfl ?_
      refine V_iload_n XC 1 rfl dX8_join_27 rfl ?_
      refine V_callV (rest := _) (q0 := 0) XC (c_X8_size l D kI kC _ _ _ _ _ _ _ _ _ _ _ _ _ k (by omega)) gX8_join_X8_size rfl kmX8_size ⟨⟨Nat.le_of_ble_eq_true rfl, Nat.le_of_ble_eq_true rfl⟩, Nat.le_of_ble_eq_true rfl, Nat.le_of_ble_eq_true rfl⟩ ⟨rfl, rfl⟩ rfl rfl (Nat.le_of_ble_eq_true rfl) [0, 1] rfl rfl (fun _ => rfl) rfl rfl dX8_join_28 (kR_of rfl (fun r28 hq28 => ?_))
      subst hq28
      rw [hszk]
      refine V_iconst XC dX8_join_31 ?_
      refine V_isub XC dX8_join_32 ?_
      rw [show (szk (skR G k) : Int) - 1 = ((szk (skR G k) - 1 : Nat) : Int) by omega]
      have hl1 := hxck (szk (skR G k) - 1) (by omega)
      have hl2 := hxcj 0 (by omega)
      refine V_istore_n XC 3 rfl dX8_join_33 (by decide) ?_
      dsimp only [List.set]
      refine V_aload_n XC 0 rfl dX8_join_34 rfl ?_
      refine V_iload_n XC 1 rfl dX8_join_35 rfl ?_
      refine V_iload_n XC 3 rfl dX8_join_36 rfl ?_
      refine V_callV (rest := _) (q0 := 0) XC (c_X8_x l D kI kC _ _ _ _ _ _ _ _ _ _ _ _ _ k (szk (skR G k) - 1) (by omega) (by omega)) gX8_join_X8_x rfl kmX8_x ⟨⟨Nat.le_of_ble_eq_true rfl, Nat.le_of_ble_eq_true rfl⟩, Nat.le_of_ble_eq_true rfl, Nat.le_of_ble_eq_true rfl⟩ ⟨rfl, rfl⟩ rfl rfl (Nat.le_of_ble_eq_true rfl) [0, 1] rfl rfl (fun _ => rfl) rfl rfl dX8_join_37 (kR_of rfl (fun r37 hq37 => ?_))
      subst hq37
      rw [(hxyk _ (by omega)).1]
      refine V_aload_n XC 0 rfl dX8_join_40 rfl ?_
      refine V_iload_n XC 2 rfl dX8_join_41 rfl ?_
      refine V_iconst XC dX8_join_42 ?_
      refine V_callV (rest := _) (q0 := 0) XC (c_X8_x l D kI kC _ _ _ _ _ _ _ _ _ _ _ _ _ j 0 (by omega) (by omega)) gX8_join_X8_x rfl kmX8_x ⟨⟨Nat.le_of_ble_eq_true rfl, Nat.le_of_ble_eq_true rfl⟩, Nat.le_of_ble_eq_true rfl, Nat.le_of_ble_eq_true rfl⟩ ⟨rfl, rfl⟩ rfl rfl (Nat.le_of_ble_eq_true rfl) [0, 1] rfl rfl (fun _ => rfl) rfl rfl dX8_join_43 (kR_of rfl (fun r43 hq43 => ?_))
      subst hq43
      rw [(hxyj 0 (by omega)).1]
      refine V_icmp_ne XC 68 dX8_join_46 (by decide) ⟨by omega, by omega⟩ ⟨by omega, by omega⟩ (fun h46 => ?_) (fun h46 => ?_)
      · skip
        have hfr : joinF (skR G k) (skR G j) = 0 := if_neg (fun w => h46 w.1)
        refine V_iconst XC dX8_join_68 ?_
        refine V_top (y := ((joinF (skR G k) (skR G j) : Nat) : Int)) (by rw [hfr]; rfl) ?_
        refine V_istore XC dX8_join_69 (by decide) ?_
        dsimp only [List.set]
        refine V_aload_n XC 0 rfl dX8_join_71 rfl ?_
        refine V_iload_n XC 1 rfl dX8_join_72 rfl ?_
        refine V_callV (rest := _) (q0 := 0) XC (c_X8_size l D kI kC _ _ _ _ _ _ _ _ _ _ _ _ _ k (by omega)) gX8_join_X8_size rfl kmX8_size ⟨⟨Nat.le_of_ble_eq_true rfl, Nat.le_of_ble_eq_true rfl⟩, Nat.le_of_ble_eq_true rfl, Nat.le_of_ble_eq_true rfl⟩ ⟨rfl, rfl⟩ rfl rfl (Nat.le_of_ble_eq_true rfl) [0, 1] rfl rfl (fun _ => rfl) rfl rfl dX8_join_73 (kR_of rfl (fun r73 hq73 => ?_))
        subst hq73
        rw [hszk]
        refine V_aload_n XC 0 rfl dX8_join_76 rfl ?_
        refine V_iload_n XC 2 rfl dX8_join_77 rfl ?_
        refine V_callV (rest := _) (q0 := 0) XC (c_X8_size l D kI kC _ _ _ _ _ _ _ _ _ _ _ _ _ j (by omega)) gX8_join_X8_size rfl kmX8_size ⟨⟨Nat.le_of_ble_eq_true rfl, Nat.le_of_ble_eq_true rfl⟩, Nat.le_of_ble_eq_true rfl, Nat.le_of_ble_eq_true rfl⟩ ⟨rfl, rfl⟩ rfl rfl (Nat.le_of_ble_eq_true rfl) [0, 1] rfl rfl (fun _ => rfl) rfl rfl dX8_join_78 (kR_of rfl (fun r78 hq78 => ?_))
        subst hq78
        rw [hszj]
        refine V_iadd XC dX8_join_81 ?_
        refine V_iload XC dX8_join_82 rfl ?_
        refine V_isub XC dX8_join_84 ?_
        refine V_bipush XC dX8_join_85 (by decide) ?_
        refine V_icmp_le XC 93 dX8_join_87 (by decide) ⟨by omega, by omega⟩ ⟨by omega, by omega⟩ (fun h87 => ?_) (fun h87 => ?_)
        · skip
          have hjok := OkP_join hokk hokj (by omega)
          have hE : OkS ((S.set k ((skR G k).1, (skR G k).2 ++ (skR G j).2.drop (joinF (skR G k) (skR G j)))).eraseIdx j) := OkS_erase (OkS_set hS ⟨hokk.1, hokk.2.1, hjok⟩)
          have ell : (skR G k).2.length = szk (skR G k) := rfl
          have elo : (skR G j).2.length = szk (skR G j) := rfl
          refine V_aload_n XC 0 rfl dX8_join_93 rfl ?_
          refine V_callV (rest := _) (q0 := 0) XC (c_X8_begin l D kI kC _ _ _ _ _ _ _ _ _ _ _ _ _ ) gX8_join_X8_begin rfl kmX8_begin ⟨⟨Nat.le_of_ble_eq_true rfl, Nat.le_of_ble_eq_true rfl⟩, Nat.le_of_ble_eq_true rfl, Nat.le_of_ble_eq_true rfl⟩ ⟨rfl, rfl⟩ rfl rfl (Nat.le_of_ble_eq_true rfl) [0, 3] rfl rfl (fun _ => rfl) rfl rfl dX8_join_94 (kV_of (fun u94 hq94 => ?_))
          dsimp only [putW, List.set, Option.toList, List.cons_append, List.nil_append, padO, mdO, shW, trW, txW, hiW, liW, woW, taW]
          try dsimp only at hq94
          refine V_iconst XC dX8_join_97 ?_
          refine V_istore XC dX8_join_98 (by decide) ?_
          dsimp only [List.set]
          refine V_kill 3 ?_
          dsimp only [List.set]
          refine V_loop (σ := Nat × (Nat → Int)) (fun u => S.length - u.1) (fun u => u.1 ≤ S.length ∧ NxR u.2 (((S.set k ((skR G k).1, (skR G k).2 ++ (skR G j).2.drop (joinF (skR G k) (skR G j)))).take u.1).eraseIdx j)) (fun u => [some (.ref (b 0)), some (.int (iI (k : Int))), some (.int (iI (j : Int))), none, some (.int (iI ((joinF (skR G k) (skR G j) : Nat) : Int))), some (.int (iI (u.1 : Int))), none]) (fun u => (mdO b gp (ke : Int) (un : Int) (bu : Int) (ty : Int) pc gd rd po ln wd :: [(b 1, IA kI 801 G), (b 2, IA kI 4806 H), (b 9, IA kI 801 u.2)])) (0, upz X 0 0) ?_ rfl rfl (fun u hJ ih100 => ?_)
          · dsimp only
            exact ⟨Nat.zero_le _, by rw [List.take_zero]; exact NxR_0⟩
          obtain ⟨m, X2⟩ := u
          try dsimp only at hJ ih100 ⊢
          try dsimp only [List.cons_append, List.nil_append, padO, mdO, shW, trW, txW, hiW, liW, woW, taW]
          obtain ⟨hm, hX2⟩ := hJ
          refine V_iload XC dX8_join_100 rfl ?_
          refine V_aload_n XC 0 rfl dX8_join_102 rfl ?_
          refine V_callV (rest := _) (q0 := 0) XC (c_X8_strokes l D kI kC _ _ _ _ _ _ _ _ _ _ _ _ _ ) gX8_join_X8_strokes rfl kmX8_strokes ⟨⟨Nat.le_of_ble_eq_true rfl, Nat.le_of_ble_eq_true rfl⟩, Nat.le_of_ble_eq_true rfl, Nat.le_of_ble_eq_true rfl⟩ ⟨rfl, rfl⟩ rfl rfl (Nat.le_of_ble_eq_true rfl) [0, 1] rfl rfl (fun _ => rfl) rfl rfl dX8_join_103 (kR_of rfl (fun r103 hq103 => ?_))
          subst hq103
          rw [hN0]
          refine V_icmp_ge XC 171 dX8_join_106 (by decide) ⟨by omega, by omega⟩ ⟨by omega, by omega⟩ (fun h106 => ?_) (fun h106 => ?_)
          · skip
            obtain rfl : m = S.length := by omega
            rw [List.take_of_length_le (by rw [List.length_set]; omega)] at hX2
            have hNb := NowR_become (G := G) hX2 hE
            have hp : joinS S (k : Int) (j : Int) = (if (j : Int) < (k : Int) then (k : Int) - 1 else (k : Int), some ((S.set k ((skR G k).1, (skR G k).2 ++ (skR G j).2.drop (joinF (skR G k) (skR G j)))).eraseIdx j)) := by
              unfold joinS
              rw [if_neg hhs, if_neg (by omega), Int.toNat_natCast, Int.toNat_natCast, hatk, hatj, if_neg (by omega)]
            refine V_aload_n XC 0 rfl dX8_join_171 rfl ?_
            refine V_callV (rest := _) (q0 := 0) XC (c_X8_become l D kI kC _ _ _ _ _ _ _ _ _ _ _ _ _ _ _ (by omega)) gX8_join_X8_become rfl kmX8_become ⟨⟨Nat.le_of_ble_eq_true rfl, Nat.le_of_ble_eq_true rfl⟩, Nat.le_of_ble_eq_true rfl, Nat.le_of_ble_eq_true rfl⟩ ⟨rfl, rfl⟩ rfl rfl (Nat.le_of_ble_eq_true rfl) [0, 1, 2, 3] rfl rfl (fun _ => rfl) rfl rfl dX8_join_172 (kV_of (fun u172 hq172 => ?_))
            dsimp only [putW, List.set, Option.toList, List.cons_append, List.nil_append, padO, mdO, shW, trW, txW, hiW, liW, woW, taW]
            try dsimp only at hq172
            refine V_iload_n XC 2 rfl dX8_join_175 rfl ?_
            refine V_iload_n XC 1 rfl dX8_join_176 rfl ?_
            refine V_icmp_ge XC 186 dX8_join_177 (by decide) ⟨by omega, by omega⟩ ⟨by omega, by omega⟩ (fun h177 => ?_) (fun h177 => ?_)
            · skip
              refine V_iload_n XC 1 rfl dX8_join_186 rfl ?_
              refine V_iret XC (cpz X2 G 0 0 801, min (ke + 1) 6, 0, pushH G H ke, X2) hrV rfl dX8_join_187 ?_
              rw [hp]
              refine ⟨?_, act_endR h3 hH hN hE hNb⟩
              dsimp only
              first | exact (if_pos (by omega)).symm | exact (if_neg (by omega)).symm
            refine V_iload_n XC 1 rfl dX8_join_180 rfl ?_
            refine V_iconst XC dX8_join_181 ?_
            refine V_isub XC dX8_join_182 ?_
            refine V_goto XC 187 dX8_join_183 (by decide) ?_
            refine V_iret XC (cpz X2 G 0 0 801, min (ke + 1) 6, 0, pushH G H ke, X2) hrV rfl dX8_join_187 ?_
            rw [hp]
            refine ⟨?_, act_endR h3 hH hN hE hNb⟩
            dsimp only
            first | exact (if_pos (by omega)).symm | exact (if_neg (by omega)).symm
          refine V_iload XC dX8_join_109 rfl ?_
          refine V_iload_n XC 2 rfl dX8_join_111 rfl ?_
          refine V_icmp_eq XC 121 dX8_join_112 (by decide) ⟨by omega, by omega⟩ ⟨by omega, by omega⟩ (fun h112 => ?_) (fun h112 => ?_)
          · skip
            refine V_iload XC dX8_join_121 rfl ?_
            refine V_istore XC dX8_join_123 (by decide) ?_
            dsimp only [List.set]
            refine V_loop (σ := Nat × (Nat → Int)) (fun u => szk (skR G j) - u.1) (fun u => (m ≠ k → NxR u.2 (((S.set k ((skR G k).1, (skR G k).2 ++ (skR G j).2.drop (joinF (skR G k) (skR G j)))).take (m + 1)).eraseIdx j)) ∧ (m = k → joinF (skR G k) (skR G j) ≤ u.1 ∧ u.1 ≤ szk (skR G j) ∧ NxR u.2 (((S.set k ((skR G k).1, (skR G k).2 ++ (skR G j).2.drop (joinF (skR G k) (skR G j)))).take m).eraseIdx j ++ [((skR G k).1, (skR G k).2 ++ ((skR G j).2.take u.1).drop (joinF (skR G k) (skR G j)))]))) (fun u => [some (.ref (b 0)), some (.int (iI (k : Int))), some (.int (iI (j : Int))), none, some (.int (iI ((joinF (skR G k) (skR G j) : Nat) : Int))), some (.int (iI (m : Int))), some (.int (iI (u.1 : Int)))]) (fun u => (mdO b gp (ke : Int) (un : Int) (bu : Int) (ty : Int) pc gd rd po ln wd :: [(b 1, IA kI 801 G), (b 2, IA kI 4806 H), (b 9, IA kI 801 u.2)])) (joinF (skR G k) (skR G j), _) ?_ rfl rfl (fun u hJ ih125 => ?_)
            · dsimp only
              first
              | (refine ⟨fun q => ?_, fun q => ⟨Nat.le_refl _, by omega, ?_⟩⟩
                 · rw [er_s (S := S.set k ((skR G k).1, (skR G k).2 ++ (skR G j).2.drop (joinF (skR G k) (skR G j)))) (t := gk S m) (by rw [List.getElem?_set_ne (by omega)]; exact gk_at (by omega)) (by omega)]
                   exact hX118
                 · rw [show List.drop (joinF (skR G k) (skR G j)) ((skR G j).2.take (joinF (skR G k) (skR G j))) = [] from List.drop_of_length_le (by rw [List.length_take]; omega), List.append_nil]
                   have h99 := hX118
                   rw [show gk S m = skR G k by rw [q, hatk]] at h99
                   exact h99)
              | (refine ⟨fun q => ?_, fun q => absurd q (by omega)⟩
                 have hmj : m = j := by omega
                 rw [hmj] at hX2 ⊢
                 rw [er_same (by rw [List.length_set]; omega)]
                 exact hX2)
            obtain ⟨p, X3⟩ := u
            try dsimp only at hJ ih125 ⊢
            try dsimp only [List.cons_append, List.nil_append, padO, mdO, shW, trW, txW, hiW, liW, woW, taW]
            obtain ⟨hJ1, hJ2⟩ := hJ
            refine V_iload XC dX8_join_125 rfl ?_
            refine V_iload_n XC 1 rfl dX8_join_127 rfl ?_
            refine V_icmp_ne XC 165 dX8_join_128 (by decide) ⟨by omega, by omega⟩ ⟨by omega, by omega⟩ (fun h128 => ?_) (fun h128 => ?_)
            · skip
              refine V_iinc XC dX8_join_165 rfl (by decide) ?_
              dsimp only [List.set]
              refine V_goto XC 100 dX8_join_168 (by decide) ?_
              refine V_kill 6 ?_
              dsimp only [List.set]
              first
              | (have hmk : m = k := by omega
                 have hpz : p = szk (skR G j) := by omega
                 refine ih100 (m + 1, X3) ⟨by (try dsimp only); omega, ?_⟩ (by (try dsimp only); omega)
                 dsimp only
                 have h99 := (hJ2 hmk).2.2
                 rw [er_s (S := S.set k ((skR G k).1, (skR G k).2 ++ (skR G j).2.drop (joinF (skR G k) (skR G j)))) (t := ((skR G k).1, (skR G k).2 ++ (skR G j).2.drop (joinF (skR G k) (skR G j)))) (by rw [hmk, List.getElem?_set_self hknk]) (by omega)]
                 rw [hpz, List.take_of_length_le (Nat.le_of_eq elo)] at h99
                 exact h99)
              | exact ih100 (m + 1, X3) ⟨by (try dsimp only); omega, hJ1 (by omega)⟩ (by (try dsimp only); omega)
            refine V_iload XC dX8_join_131 rfl ?_
            refine V_aload_n XC 0 rfl dX8_join_133 rfl ?_
            refine V_iload_n XC 2 rfl dX8_join_134 rfl ?_
            refine V_callV (rest := _) (q0 := 0) XC (c_X8_size l D kI kC _ _ _ _ _ _ _ _ _ _ _ _ _ j (by omega)) gX8_join_X8_size rfl kmX8_size ⟨⟨Nat.le_of_ble_eq_true rfl, Nat.le_of_ble_eq_true rfl⟩, Nat.le_of_ble_eq_true rfl, Nat.le_of_ble_eq_true rfl⟩ ⟨rfl, rfl⟩ rfl rfl (Nat.le_of_ble_eq_true rfl) [0, 1] rfl rfl (fun _ => rfl) rfl rfl dX8_join_135 (kR_of rfl (fun r135 hq135 => ?_))
            subst hq135
            rw [hszj]
            refine V_icmp_ge XC 165 dX8_join_138 (by decide) ⟨by omega, by omega⟩ ⟨by omega, by omega⟩ (fun h138 => ?_) (fun h138 => ?_)
            · skip
              refine V_iinc XC dX8_join_165 rfl (by decide) ?_
              dsimp only [List.set]
              refine V_goto XC 100 dX8_join_168 (by decide) ?_
              refine V_kill 6 ?_
              dsimp only [List.set]
              first
              | (have hmk : m = k := by omega
                 have hpz : p = szk (skR G j) := by omega
                 refine ih100 (m + 1, X3) ⟨by (try dsimp only); omega, ?_⟩ (by (try dsimp only); omega)
                 dsimp only
                 have h99 := (hJ2 hmk).2.2
                 rw [er_s (S := S.set k ((skR G k).1, (skR G k).2 ++ (skR G j).2.drop (joinF (skR G k) (skR G j)))) (t := ((skR G k).1, (skR G k).2 ++ (skR G j).2.drop (joinF (skR G k) (skR G j)))) (by rw [hmk, List.getElem?_set_self hknk]) (by omega)]
                 rw [hpz, List.take_of_length_le (Nat.le_of_eq elo)] at h99
                 exact h99)
              | exact ih100 (m + 1, X3) ⟨by (try dsimp only); omega, hJ1 (by omega)⟩ (by (try dsimp only); omega)
            have hxp := hxyj p (by omega)
            have hmk9 : m = k := by omega
            refine V_aload_n XC 0 rfl dX8_join_141 rfl ?_
            refine V_aload_n XC 0 rfl dX8_join_142 rfl ?_
            refine V_iload_n XC 2 rfl dX8_join_143 rfl ?_
            refine V_iload XC dX8_join_144 rfl ?_
            refine V_callV (rest := _) (q0 := 0) XC (c_X8_x l D kI kC _ _ _ _ _ _ _ _ _ _ _ _ _ j p (by omega) (by omega)) gX8_join_X8_x rfl kmX8_x ⟨⟨Nat.le_of_ble_eq_true rfl, Nat.le_of_ble_eq_true rfl⟩, Nat.le_of_ble_eq_true rfl, Nat.le_of_ble_eq_true rfl⟩ ⟨rfl, rfl⟩ rfl rfl (Nat.le_of_ble_eq_true rfl) [0, 1] rfl rfl (fun _ => rfl) rfl rfl dX8_join_146 (kR_of rfl (fun r146 hq146 => ?_))
            subst hq146
            rw [hxp.1]
            refine V_aload_n XC 0 rfl dX8_join_149 rfl ?_
            refine V_iload_n XC 2 rfl dX8_join_150 rfl ?_
            refine V_iload XC dX8_join_151 rfl ?_
            refine V_callV (rest := _) (q0 := 0) XC (c_X8_y l D kI kC _ _ _ _ _ _ _ _ _ _ _ _ _ j p (by omega) (by omega)) gX8_join_X8_y rfl kmX8_y ⟨⟨Nat.le_of_ble_eq_true rfl, Nat.le_of_ble_eq_true rfl⟩, Nat.le_of_ble_eq_true rfl, Nat.le_of_ble_eq_true rfl⟩ ⟨rfl, rfl⟩ rfl rfl (Nat.le_of_ble_eq_true rfl) [0, 1] rfl rfl (fun _ => rfl) rfl rfl dX8_join_153 (kR_of rfl (fun r153 hq153 => ?_))
            subst hq153
            rw [hxp.2]
            refine V_callV (rest := _) (q0 := 0) XC (c_X8_addPoint l D kI kC _ _ _ _ _ _ _ _ _ _ _ _ _ _ _ _ (hJ2 hmk9).2.2 (by have h99 := List.length_eraseIdx_le ((S.set k ((skR G k).1, (skR G k).2 ++ (skR G j).2.drop (joinF (skR G k) (skR G j)))).take m) j; rw [List.length_take, List.length_set] at h99; omega) (by have h98 := (hJ2 hmk9).1; rw [List.length_append, List.length_drop, List.length_take]; omega) _ _) gX8_join_X8_addPoint rfl kmX8_addPoint ⟨⟨Nat.le_of_ble_eq_true rfl, Nat.le_of_ble_eq_true rfl⟩, Nat.le_of_ble_eq_true rfl, Nat.le_of_ble_eq_true rfl⟩ ⟨rfl, rfl⟩ rfl rfl (Nat.le_of_ble_eq_true rfl) [0, 3] rfl rfl (fun _ => rfl) rfl rfl dX8_join_156 (kV_of (fun u156 hq156 => ?_))
            dsimp only [putW, List.set, Option.toList, List.cons_append, List.nil_append, padO, mdO, shW, trW, txW, hiW, liW, woW, taW]
            try dsimp only at hq156
            refine V_iinc XC dX8_join_159 rfl (by decide) ?_
            dsimp only [List.set]
            refine V_goto XC 125 dX8_join_162 (by decide) ?_
            obtain ⟨e1, e2, e3⟩ := hJ2 (by omega)
            have h99 := NxR_point (x := px (skR G j) p) (y := py (skR G j) p) e3 (by rw [List.length_append, List.length_drop, List.length_take]; omega)
            refine ih125 (p + 1, _) ⟨fun q => absurd (show m = k by omega) q, fun _ => ⟨by (try dsimp only); omega, by (try dsimp only); omega, ?_⟩⟩ (by (try dsimp only); omega)
            dsimp only
            rw [take_s (pxy_at (t := skR G j) (i := p) (by omega)), List.drop_append_of_le_length (by rw [List.length_take]; omega), ← List.append_assoc]
            exact h99
          refine V_aload_n XC 0 rfl dX8_join_115 rfl ?_
          refine V_iload XC dX8_join_116 rfl ?_
          refine V_callV (rest := _) (q0 := 0) XC (c_X8_copyStroke l D kI kC _ _ _ _ _ _ _ _ _ _ _ _ _ _ S hS hN _ hX2 (by have h99 := List.length_eraseIdx_le ((S.set k ((skR G k).1, (skR G k).2 ++ (skR G j).2.drop (joinF (skR G k) (skR G j)))).take m) j; rw [List.length_take, List.length_set] at h99; omega) m (by omega)) gX8_join_X8_copyStroke rfl kmX8_copyStroke ⟨⟨Nat.le_of_ble_eq_true rfl, Nat.le_of_ble_eq_true rfl⟩, Nat.le_of_ble_eq_true rfl, Nat.le_of_ble_eq_true rfl⟩ ⟨rfl, rfl⟩ rfl rfl (Nat.le_of_ble_eq_true rfl) [0, 1, 3] rfl rfl (fun _ => rfl) rfl rfl dX8_join_118 (kV_of (fun u118 hq118 => ?_))
          dsimp only [putW, List.set, Option.toList, List.cons_append, List.nil_append, padO, mdO, shW, trW, txW, hiW, liW, woW, taW]
          try dsimp only at hq118
          have hX118 := hq118
          refine V_iload XC dX8_join_121 rfl ?_
          refine V_istore XC dX8_join_123 (by decide) ?_
          dsimp only [List.set]
          refine V_loop (σ := Nat × (Nat → Int)) (fun u => szk (skR G j) - u.1) (fun u => (m ≠ k → NxR u.2 (((S.set k ((skR G k).1, (skR G k).2 ++ (skR G j).2.drop (joinF (skR G k) (skR G j)))).take (m + 1)).eraseIdx j)) ∧ (m = k → joinF (skR G k) (skR G j) ≤ u.1 ∧ u.1 ≤ szk (skR G j) ∧ NxR u.2 (((S.set k ((skR G k).1, (skR G k).2 ++ (skR G j).2.drop (joinF (skR G k) (skR G j)))).take m).eraseIdx j ++ [((skR G k).1, (skR G k).2 ++ ((skR G j).2.take u.1).drop (joinF (skR G k) (skR G j)))]))) (fun u => [some (.ref (b 0)), some (.int (iI (k : Int))), some (.int (iI (j : Int))), none, some (.int (iI ((joinF (skR G k) (skR G j) : Nat) : Int))), some (.int (iI (m : Int))), some (.int (iI (u.1 : Int)))]) (fun u => (mdO b gp (ke : Int) (un : Int) (bu : Int) (ty : Int) pc gd rd po ln wd :: [(b 1, IA kI 801 G), (b 2, IA kI 4806 H), (b 9, IA kI 801 u.2)])) (joinF (skR G k) (skR G j), _) ?_ rfl rfl (fun u hJ ih125 => ?_)
          · dsimp only
            first
            | (refine ⟨fun q => ?_, fun q => ⟨Nat.le_refl _, by omega, ?_⟩⟩
               · rw [er_s (S := S.set k ((skR G k).1, (skR G k).2 ++ (skR G j).2.drop (joinF (skR G k) (skR G j)))) (t := gk S m) (by rw [List.getElem?_set_ne (by omega)]; exact gk_at (by omega)) (by omega)]
                 exact hX118
               · rw [show List.drop (joinF (skR G k) (skR G j)) ((skR G j).2.take (joinF (skR G k) (skR G j))) = [] from List.drop_of_length_le (by rw [List.length_take]; omega), List.append_nil]
                 have h99 := hX118
                 rw [show gk S m = skR G k by rw [q, hatk]] at h99
                 exact h99)
            | (refine ⟨fun q => ?_, fun q => absurd q (by omega)⟩
               have hmj : m = j := by omega
               rw [hmj] at hX2 ⊢
               rw [er_same (by rw [List.length_set]; omega)]
               exact hX2)
          obtain ⟨p, X3⟩ := u
          try dsimp only at hJ ih125 ⊢
          try dsimp only [List.cons_append, List.nil_append, padO, mdO, shW, trW, txW, hiW, liW, woW, taW]
          obtain ⟨hJ1, hJ2⟩ := hJ
          refine V_iload XC dX8_join_125 rfl ?_
          refine V_iload_n XC 1 rfl dX8_join_127 rfl ?_
          refine V_icmp_ne XC 165 dX8_join_128 (by decide) ⟨by omega, by omega⟩ ⟨by omega, by omega⟩ (fun h128 => ?_) (fun h128 => ?_)
          · skip
            refine V_iinc XC dX8_join_165 rfl (by decide) ?_
            dsimp only [List.set]
            refine V_goto XC 100 dX8_join_168 (by decide) ?_
            refine V_kill 6 ?_
            dsimp only [List.set]
            first
            | (have hmk : m = k := by omega
               have hpz : p = szk (skR G j) := by omega
               refine ih100 (m + 1, X3) ⟨by (try dsimp only); omega, ?_⟩ (by (try dsimp only); omega)
               dsimp only
               have h99 := (hJ2 hmk).2.2
               rw [er_s (S := S.set k ((skR G k).1, (skR G k).2 ++ (skR G j).2.drop (joinF (skR G k) (skR G j)))) (t := ((skR G k).1, (skR G k).2 ++ (skR G j).2.drop (joinF (skR G k) (skR G j)))) (by rw [hmk, List.getElem?_set_self hknk]) (by omega)]
               rw [hpz, List.take_of_length_le (Nat.le_of_eq elo)] at h99
               exact h99)
            | exact ih100 (m + 1, X3) ⟨by (try dsimp only); omega, hJ1 (by omega)⟩ (by (try dsimp only); omega)
          refine V_iload XC dX8_join_131 rfl ?_
          refine V_aload_n XC 0 rfl dX8_join_133 rfl ?_
          refine V_iload_n XC 2 rfl dX8_join_134 rfl ?_
          refine V_callV (rest := _) (q0 := 0) XC (c_X8_size l D kI kC _ _ _ _ _ _ _ _ _ _ _ _ _ j (by omega)) gX8_join_X8_size rfl kmX8_size ⟨⟨Nat.le_of_ble_eq_true rfl, Nat.le_of_ble_eq_true rfl⟩, Nat.le_of_ble_eq_true rfl, Nat.le_of_ble_eq_true rfl⟩ ⟨rfl, rfl⟩ rfl rfl (Nat.le_of_ble_eq_true rfl) [0, 1] rfl rfl (fun _ => rfl) rfl rfl dX8_join_135 (kR_of rfl (fun r135 hq135 => ?_))
          subst hq135
          rw [hszj]
          refine V_icmp_ge XC 165 dX8_join_138 (by decide) ⟨by omega, by omega⟩ ⟨by omega, by omega⟩ (fun h138 => ?_) (fun h138 => ?_)
          · skip
            refine V_iinc XC dX8_join_165 rfl (by decide) ?_
            dsimp only [List.set]
            refine V_goto XC 100 dX8_join_168 (by decide) ?_
            refine V_kill 6 ?_
            dsimp only [List.set]
            first
            | (have hmk : m = k := by omega
               have hpz : p = szk (skR G j) := by omega
               refine ih100 (m + 1, X3) ⟨by (try dsimp only); omega, ?_⟩ (by (try dsimp only); omega)
               dsimp only
               have h99 := (hJ2 hmk).2.2
               rw [er_s (S := S.set k ((skR G k).1, (skR G k).2 ++ (skR G j).2.drop (joinF (skR G k) (skR G j)))) (t := ((skR G k).1, (skR G k).2 ++ (skR G j).2.drop (joinF (skR G k) (skR G j)))) (by rw [hmk, List.getElem?_set_self hknk]) (by omega)]
               rw [hpz, List.take_of_length_le (Nat.le_of_eq elo)] at h99
               exact h99)
            | exact ih100 (m + 1, X3) ⟨by (try dsimp only); omega, hJ1 (by omega)⟩ (by (try dsimp only); omega)
          have hxp := hxyj p (by omega)
          have hmk9 : m = k := by omega
          refine V_aload_n XC 0 rfl dX8_join_141 rfl ?_
          refine V_aload_n XC 0 rfl dX8_join_142 rfl ?_
          refine V_iload_n XC 2 rfl dX8_join_143 rfl ?_
          refine V_iload XC dX8_join_144 rfl ?_
          refine V_callV (rest := _) (q0 := 0) XC (c_X8_x l D kI kC _ _ _ _ _ _ _ _ _ _ _ _ _ j p (by omega) (by omega)) gX8_join_X8_x rfl kmX8_x ⟨⟨Nat.le_of_ble_eq_true rfl, Nat.le_of_ble_eq_true rfl⟩, Nat.le_of_ble_eq_true rfl, Nat.le_of_ble_eq_true rfl⟩ ⟨rfl, rfl⟩ rfl rfl (Nat.le_of_ble_eq_true rfl) [0, 1] rfl rfl (fun _ => rfl) rfl rfl dX8_join_146 (kR_of rfl (fun r146 hq146 => ?_))
          subst hq146
          rw [hxp.1]
          refine V_aload_n XC 0 rfl dX8_join_149 rfl ?_
          refine V_iload_n XC 2 rfl dX8_join_150 rfl ?_
          refine V_iload XC dX8_join_151 rfl ?_
          refine V_callV (rest := _) (q0 := 0) XC (c_X8_y l D kI kC _ _ _ _ _ _ _ _ _ _ _ _ _ j p (by omega) (by omega)) gX8_join_X8_y rfl kmX8_y ⟨⟨Nat.le_of_ble_eq_true rfl, Nat.le_of_ble_eq_true rfl⟩, Nat.le_of_ble_eq_true rfl, Nat.le_of_ble_eq_true rfl⟩ ⟨rfl, rfl⟩ rfl rfl (Nat.le_of_ble_eq_true rfl) [0, 1] rfl rfl (fun _ => rfl) rfl rfl dX8_join_153 (kR_of rfl (fun r153 hq153 => ?_))
          subst hq153
          rw [hxp.2]
          refine V_callV (rest := _) (q0 := 0) XC (c_X8_addPoint l D kI kC _ _ _ _ _ _ _ _ _ _ _ _ _ _ _ _ (hJ2 hmk9).2.2 (by have h99 := List.length_eraseIdx_le ((S.set k ((skR G k).1, (skR G k).2 ++ (skR G j).2.drop (joinF (skR G k) (skR G j)))).take m) j; rw [List.length_take, List.length_set] at h99; omega) (by have h98 := (hJ2 hmk9).1; rw [List.length_append, List.length_drop, List.length_take]; omega) _ _) gX8_join_X8_addPoint rfl kmX8_addPoint ⟨⟨Nat.le_of_ble_eq_true rfl, Nat.le_of_ble_eq_true rfl⟩, Nat.le_of_ble_eq_true rfl, Nat.le_of_ble_eq_true rfl⟩ ⟨rfl, rfl⟩ rfl rfl (Nat.le_of_ble_eq_true rfl) [0, 3] rfl rfl (fun _ => rfl) rfl rfl dX8_join_156 (kV_of (fun u156 hq156 => ?_))
          dsimp only [putW, List.set, Option.toList, List.cons_append, List.nil_append, padO, mdO, shW, trW, txW, hiW, liW, woW, taW]
          try dsimp only at hq156
          refine V_iinc XC dX8_join_159 rfl (by decide) ?_
          dsimp only [List.set]
          refine V_goto XC 125 dX8_join_162 (by decide) ?_
          obtain ⟨e1, e2, e3⟩ := hJ2 (by omega)
          have h99 := NxR_point (x := px (skR G j) p) (y := py (skR G j) p) e3 (by rw [List.length_append, List.length_drop, List.length_take]; omega)
          refine ih125 (p + 1, _) ⟨fun q => absurd (show m = k by omega) q, fun _ => ⟨by (try dsimp only); omega, by (try dsimp only); omega, ?_⟩⟩ (by (try dsimp only); omega)
          dsimp only
          rw [take_s (pxy_at (t := skR G j) (i := p) (by omega)), List.drop_append_of_le_length (by rw [List.length_take]; omega), ← List.append_assoc]
          exact h99
        have hp : joinS S (k : Int) (j : Int) = (-3, none) := by
          unfold joinS
          rw [if_neg hhs, if_neg (by omega), Int.toNat_natCast, Int.toNat_natCast, hatk, hatj, if_pos (by omega)]
        refine V_bipush XC dX8_join_90 (by decide) ?_
        refine V_iret XC (G, ke, un, H, X) hrV rfl dX8_join_92 ?_
        rw [hp]
        exact ⟨rfl, hN, hH, h3⟩
      refine V_aload_n XC 0 rfl dX8_join_49 rfl ?_
      refine V_iload_n XC 1 rfl dX8_join_50 rfl ?_
      refine V_iload_n XC 3 rfl dX8_join_51 rfl ?_
      refine V_callV (rest := _) (q0 := 0) XC (c_X8_y l D kI kC _ _ _ _ _ _ _ _ _ _ _ _ _ k (szk (skR G k) - 1) (by omega) (by omega)) gX8_join_X8_y rfl kmX8_y ⟨⟨Nat.le_of_ble_eq_true rfl, Nat.le_of_ble_eq_true rfl⟩, Nat.le_of_ble_eq_true rfl, Nat.le_of_ble_eq_true rfl⟩ ⟨rfl, rfl⟩ rfl rfl (Nat.le_of_ble_eq_true rfl) [0, 1] rfl rfl (fun _ => rfl) rfl rfl dX8_join_52 (kR_of rfl (fun r52 hq52 => ?_))
      subst hq52
      rw [(hxyk _ (by omega)).2]
      refine V_aload_n XC 0 rfl dX8_join_55 rfl ?_
      refine V_iload_n XC 2 rfl dX8_join_56 rfl ?_
      refine V_iconst XC dX8_join_57 ?_
      refine V_callV (rest := _) (q0 := 0) XC (c_X8_y l D kI kC _ _ _ _ _ _ _ _ _ _ _ _ _ j 0 (by omega) (by omega)) gX8_join_X8_y rfl kmX8_y ⟨⟨Nat.le_of_ble_eq_true rfl, Nat.le_of_ble_eq_true rfl⟩, Nat.le_of_ble_eq_true rfl, Nat.le_of_ble_eq_true rfl⟩ ⟨rfl, rfl⟩ rfl rfl (Nat.le_of_ble_eq_true rfl) [0, 1] rfl rfl (fun _ => rfl) rfl rfl dX8_join_58 (kR_of rfl (fun r58 hq58 => ?_))
      subst hq58
      rw [(hxyj 0 (by omega)).2]
      refine V_icmp_ne XC 68 dX8_join_61 (by decide) ⟨by omega, by omega⟩ ⟨by omega, by omega⟩ (fun h61 => ?_) (fun h61 => ?_)
      · skip
        have hfr : joinF (skR G k) (skR G j) = 0 := if_neg (fun w => h61 w.2)
        refine V_iconst XC dX8_join_68 ?_
        refine V_top (y := ((joinF (skR G k) (skR G j) : Nat) : Int)) (by rw [hfr]; rfl) ?_
        refine V_istore XC dX8_join_69 (by decide) ?_
        dsimp only [List.set]
        refine V_aload_n XC 0 rfl dX8_join_71 rfl ?_
        refine V_iload_n XC 1 rfl dX8_join_72 rfl ?_
        refine V_callV (rest := _) (q0 := 0) XC (c_X8_size l D kI kC _ _ _ _ _ _ _ _ _ _ _ _ _ k (by omega)) gX8_join_X8_size rfl kmX8_size ⟨⟨Nat.le_of_ble_eq_true rfl, Nat.le_of_ble_eq_true rfl⟩, Nat.le_of_ble_eq_true rfl, Nat.le_of_ble_eq_true rfl⟩ ⟨rfl, rfl⟩ rfl rfl (Nat.le_of_ble_eq_true rfl) [0, 1] rfl rfl (fun _ => rfl) rfl rfl dX8_join_73 (kR_of rfl (fun r73 hq73 => ?_))
        subst hq73
        rw [hszk]
        refine V_aload_n XC 0 rfl dX8_join_76 rfl ?_
        refine V_iload_n XC 2 rfl dX8_join_77 rfl ?_
        refine V_callV (rest := _) (q0 := 0) XC (c_X8_size l D kI kC _ _ _ _ _ _ _ _ _ _ _ _ _ j (by omega)) gX8_join_X8_size rfl kmX8_size ⟨⟨Nat.le_of_ble_eq_true rfl, Nat.le_of_ble_eq_true rfl⟩, Nat.le_of_ble_eq_true rfl, Nat.le_of_ble_eq_true rfl⟩ ⟨rfl, rfl⟩ rfl rfl (Nat.le_of_ble_eq_true rfl) [0, 1] rfl rfl (fun _ => rfl) rfl rfl dX8_join_78 (kR_of rfl (fun r78 hq78 => ?_))
        subst hq78
        rw [hszj]
        refine V_iadd XC dX8_join_81 ?_
        refine V_iload XC dX8_join_82 rfl ?_
        refine V_isub XC dX8_join_84 ?_
        refine V_bipush XC dX8_join_85 (by decide) ?_
        refine V_icmp_le XC 93 dX8_join_87 (by decide) ⟨by omega, by omega⟩ ⟨by omega, by omega⟩ (fun h87 => ?_) (fun h87 => ?_)
        · skip
          have hjok := OkP_join hokk hokj (by omega)
          have hE : OkS ((S.set k ((skR G k).1, (skR G k).2 ++ (skR G j).2.drop (joinF (skR G k) (skR G j)))).eraseIdx j) := OkS_erase (OkS_set hS ⟨hokk.1, hokk.2.1, hjok⟩)
          have ell : (skR G k).2.length = szk (skR G k) := rfl
          have elo : (skR G j).2.length = szk (skR G j) := rfl
          refine V_aload_n XC 0 rfl dX8_join_93 rfl ?_
          refine V_callV (rest := _) (q0 := 0) XC (c_X8_begin l D kI kC _ _ _ _ _ _ _ _ _ _ _ _ _ ) gX8_join_X8_begin rfl kmX8_begin ⟨⟨Nat.le_of_ble_eq_true rfl, Nat.le_of_ble_eq_true rfl⟩, Nat.le_of_ble_eq_true rfl, Nat.le_of_ble_eq_true rfl⟩ ⟨rfl, rfl⟩ rfl rfl (Nat.le_of_ble_eq_true rfl) [0, 3] rfl rfl (fun _ => rfl) rfl rfl dX8_join_94 (kV_of (fun u94 hq94 => ?_))
          dsimp only [putW, List.set, Option.toList, List.cons_append, List.nil_append, padO, mdO, shW, trW, txW, hiW, liW, woW, taW]
          try dsimp only at hq94
          refine V_iconst XC dX8_join_97 ?_
          refine V_istore XC dX8_join_98 (by decide) ?_
          dsimp only [List.set]
          refine V_kill 3 ?_
          dsimp only [List.set]
          refine V_loop (σ := Nat × (Nat → Int)) (fun u => S.length - u.1) (fun u => u.1 ≤ S.length ∧ NxR u.2 (((S.set k ((skR G k).1, (skR G k).2 ++ (skR G j).2.drop (joinF (skR G k) (skR G j)))).take u.1).eraseIdx j)) (fun u => [some (.ref (b 0)), some (.int (iI (k : Int))), some (.int (iI (j : Int))), none, some (.int (iI ((joinF (skR G k) (skR G j) : Nat) : Int))), some (.int (iI (u.1 : Int))), none]) (fun u => (mdO b gp (ke : Int) (un : Int) (bu : Int) (ty : Int) pc gd rd po ln wd :: [(b 1, IA kI 801 G), (b 2, IA kI 4806 H), (b 9, IA kI 801 u.2)])) (0, upz X 0 0) ?_ rfl rfl (fun u hJ ih100 => ?_)
          · dsimp only
            exact ⟨Nat.zero_le _, by rw [List.take_zero]; exact NxR_0⟩
          obtain ⟨m, X2⟩ := u
          try dsimp only at hJ ih100 ⊢
          try dsimp only [List.cons_append, List.nil_append, padO, mdO, shW, trW, txW, hiW, liW, woW, taW]
          obtain ⟨hm, hX2⟩ := hJ
          refine V_iload XC dX8_join_100 rfl ?_
          refine V_aload_n XC 0 rfl dX8_join_102 rfl ?_
          refine V_callV (rest := _) (q0 := 0) XC (c_X8_strokes l D kI kC _ _ _ _ _ _ _ _ _ _ _ _ _ ) gX8_join_X8_strokes rfl kmX8_strokes ⟨⟨Nat.le_of_ble_eq_true rfl, Nat.le_of_ble_eq_true rfl⟩, Nat.le_of_ble_eq_true rfl, Nat.le_of_ble_eq_true rfl⟩ ⟨rfl, rfl⟩ rfl rfl (Nat.le_of_ble_eq_true rfl) [0, 1] rfl rfl (fun _ => rfl) rfl rfl dX8_join_103 (kR_of rfl (fun r103 hq103 => ?_))
          subst hq103
          rw [hN0]
          refine V_icmp_ge XC 171 dX8_join_106 (by decide) ⟨by omega, by omega⟩ ⟨by omega, by omega⟩ (fun h106 => ?_) (fun h106 => ?_)
          · skip
            obtain rfl : m = S.length := by omega
            rw [List.take_of_length_le (by rw [List.length_set]; omega)] at hX2
            have hNb := NowR_become (G := G) hX2 hE
            have hp : joinS S (k : Int) (j : Int) = (if (j : Int) < (k : Int) then (k : Int) - 1 else (k : Int), some ((S.set k ((skR G k).1, (skR G k).2 ++ (skR G j).2.drop (joinF (skR G k) (skR G j)))).eraseIdx j)) := by
              unfold joinS
              rw [if_neg hhs, if_neg (by omega), Int.toNat_natCast, Int.toNat_natCast, hatk, hatj, if_neg (by omega)]
            refine V_aload_n XC 0 rfl dX8_join_171 rfl ?_
            refine V_callV (rest := _) (q0 := 0) XC (c_X8_become l D kI kC _ _ _ _ _ _ _ _ _ _ _ _ _ _ _ (by omega)) gX8_join_X8_become rfl kmX8_become ⟨⟨Nat.le_of_ble_eq_true rfl, Nat.le_of_ble_eq_true rfl⟩, Nat.le_of_ble_eq_true rfl, Nat.le_of_ble_eq_true rfl⟩ ⟨rfl, rfl⟩ rfl rfl (Nat.le_of_ble_eq_true rfl) [0, 1, 2, 3] rfl rfl (fun _ => rfl) rfl rfl dX8_join_172 (kV_of (fun u172 hq172 => ?_))
            dsimp only [putW, List.set, Option.toList, List.cons_append, List.nil_append, padO, mdO, shW, trW, txW, hiW, liW, woW, taW]
            try dsimp only at hq172
            refine V_iload_n XC 2 rfl dX8_join_175 rfl ?_
            refine V_iload_n XC 1 rfl dX8_join_176 rfl ?_
            refine V_icmp_ge XC 186 dX8_join_177 (by decide) ⟨by omega, by omega⟩ ⟨by omega, by omega⟩ (fun h177 => ?_) (fun h177 => ?_)
            · skip
              refine V_iload_n XC 1 rfl dX8_join_186 rfl ?_
              refine V_iret XC (cpz X2 G 0 0 801, min (ke + 1) 6, 0, pushH G H ke, X2) hrV rfl dX8_join_187 ?_
              rw [hp]
              refine ⟨?_, act_endR h3 hH hN hE hNb⟩
              dsimp only
              first | exact (if_pos (by omega)).symm | exact (if_neg (by omega)).symm
            refine V_iload_n XC 1 rfl dX8_join_180 rfl ?_
            refine V_iconst XC dX8_join_181 ?_
            refine V_isub XC dX8_join_182 ?_
            refine V_goto XC 187 dX8_join_183 (by decide) ?_
            refine V_iret XC (cpz X2 G 0 0 801, min (ke + 1) 6, 0, pushH G H ke, X2) hrV rfl dX8_join_187 ?_
            rw [hp]
            refine ⟨?_, act_endR h3 hH hN hE hNb⟩
            dsimp only
            first | exact (if_pos (by omega)).symm | exact (if_neg (by omega)).symm
          refine V_iload XC dX8_join_109 rfl ?_
          refine V_iload_n XC 2 rfl dX8_join_111 rfl ?_
          refine V_icmp_eq XC 121 dX8_join_112 (by decide) ⟨by omega, by omega⟩ ⟨by omega, by omega⟩ (fun h112 => ?_) (fun h112 => ?_)
          · skip
            refine V_iload XC dX8_join_121 rfl ?_
            refine V_istore XC dX8_join_123 (by decide) ?_
            dsimp only [List.set]
            refine V_loop (σ := Nat × (Nat → Int)) (fun u => szk (skR G j) - u.1) (fun u => (m ≠ k → NxR u.2 (((S.set k ((skR G k).1, (skR G k).2 ++ (skR G j).2.drop (joinF (skR G k) (skR G j)))).take (m + 1)).eraseIdx j)) ∧ (m = k → joinF (skR G k) (skR G j) ≤ u.1 ∧ u.1 ≤ szk (skR G j) ∧ NxR u.2 (((S.set k ((skR G k).1, (skR G k).2 ++ (skR G j).2.drop (joinF (skR G k) (skR G j)))).take m).eraseIdx j ++ [((skR G k).1, (skR G k).2 ++ ((skR G j).2.take u.1).drop (joinF (skR G k) (skR G j)))]))) (fun u => [some (.ref (b 0)), some (.int (iI (k : Int))), some (.int (iI (j : Int))), none, some (.int (iI ((joinF (skR G k) (skR G j) : Nat) : Int))), some (.int (iI (m : Int))), some (.int (iI (u.1 : Int)))]) (fun u => (mdO b gp (ke : Int) (un : Int) (bu : Int) (ty : Int) pc gd rd po ln wd :: [(b 1, IA kI 801 G), (b 2, IA kI 4806 H), (b 9, IA kI 801 u.2)])) (joinF (skR G k) (skR G j), _) ?_ rfl rfl (fun u hJ ih125 => ?_)
            · dsimp only
              first
              | (refine ⟨fun q => ?_, fun q => ⟨Nat.le_refl _, by omega, ?_⟩⟩
                 · rw [er_s (S := S.set k ((skR G k).1, (skR G k).2 ++ (skR G j).2.drop (joinF (skR G k) (skR G j)))) (t := gk S m) (by rw [List.getElem?_set_ne (by omega)]; exact gk_at (by omega)) (by omega)]
                   exact hX118
                 · rw [show List.drop (joinF (skR G k) (skR G j)) ((skR G j).2.take (joinF (skR G k) (skR G j))) = [] from List.drop_of_length_le (by rw [List.length_take]; omega), List.append_nil]
                   have h99 := hX118
                   rw [show gk S m = skR G k by rw [q, hatk]] at h99
                   exact h99)
              | (refine ⟨fun q => ?_, fun q => absurd q (by omega)⟩
                 have hmj : m = j := by omega
                 rw [hmj] at hX2 ⊢
                 rw [er_same (by rw [List.length_set]; omega)]
                 exact hX2)
            obtain ⟨p, X3⟩ := u
            try dsimp only at hJ ih125 ⊢
            try dsimp only [List.cons_append, List.nil_append, padO, mdO, shW, trW, txW, hiW, liW, woW, taW]
            obtain ⟨hJ1, hJ2⟩ := hJ
            refine V_iload XC dX8_join_125 rfl ?_
            refine V_iload_n XC 1 rfl dX8_join_127 rfl ?_
            refine V_icmp_ne XC 165 dX8_join_128 (by decide) ⟨by omega, by omega⟩ ⟨by omega, by omega⟩ (fun h128 => ?_) (fun h128 => ?_)
            · skip
              refine V_iinc XC dX8_join_165 rfl (by decide) ?_
              dsimp only [List.set]
              refine V_goto XC 100 dX8_join_168 (by decide) ?_
              refine V_kill 6 ?_
              dsimp only [List.set]
              first
              | (have hmk : m = k := by omega
                 have hpz : p = szk (skR G j) := by omega
                 refine ih100 (m + 1, X3) ⟨by (try dsimp only); omega, ?_⟩ (by (try dsimp only); omega)
                 dsimp only
                 have h99 := (hJ2 hmk).2.2
                 rw [er_s (S := S.set k ((skR G k).1, (skR G k).2 ++ (skR G j).2.drop (joinF (skR G k) (skR G j)))) (t := ((skR G k).1, (skR G k).2 ++ (skR G j).2.drop (joinF (skR G k) (skR G j)))) (by rw [hmk, List.getElem?_set_self hknk]) (by omega)]
                 rw [hpz, List.take_of_length_le (Nat.le_of_eq elo)] at h99
                 exact h99)
              | exact ih100 (m + 1, X3) ⟨by (try dsimp only); omega, hJ1 (by omega)⟩ (by (try dsimp only); omega)
            refine V_iload XC dX8_join_131 rfl ?_
            refine V_aload_n XC 0 rfl dX8_join_133 rfl ?_
            refine V_iload_n XC 2 rfl dX8_join_134 rfl ?_
            refine V_callV (rest := _) (q0 := 0) XC (c_X8_size l D kI kC _ _ _ _ _ _ _ _ _ _ _ _ _ j (by omega)) gX8_join_X8_size rfl kmX8_size ⟨⟨Nat.le_of_ble_eq_true rfl, Nat.le_of_ble_eq_true rfl⟩, Nat.le_of_ble_eq_true rfl, Nat.le_of_ble_eq_true rfl⟩ ⟨rfl, rfl⟩ rfl rfl (Nat.le_of_ble_eq_true rfl) [0, 1] rfl rfl (fun _ => rfl) rfl rfl dX8_join_135 (kR_of rfl (fun r135 hq135 => ?_))
            subst hq135
            rw [hszj]
            refine V_icmp_ge XC 165 dX8_join_138 (by decide) ⟨by omega, by omega⟩ ⟨by omega, by omega⟩ (fun h138 => ?_) (fun h138 => ?_)
            · skip
              refine V_iinc XC dX8_join_165 rfl (by decide) ?_
              dsimp only [List.set]
              refine V_goto XC 100 dX8_join_168 (by decide) ?_
              refine V_kill 6 ?_
              dsimp only [List.set]
              first
              | (have hmk : m = k := by omega
                 have hpz : p = szk (skR G j) := by omega
                 refine ih100 (m + 1, X3) ⟨by (try dsimp only); omega, ?_⟩ (by (try dsimp only); omega)
                 dsimp only
                 have h99 := (hJ2 hmk).2.2
                 rw [er_s (S := S.set k ((skR G k).1, (skR G k).2 ++ (skR G j).2.drop (joinF (skR G k) (skR G j)))) (t := ((skR G k).1, (skR G k).2 ++ (skR G j).2.drop (joinF (skR G k) (skR G j)))) (by rw [hmk, List.getElem?_set_self hknk]) (by omega)]
                 rw [hpz, List.take_of_length_le (Nat.le_of_eq elo)] at h99
                 exact h99)
              | exact ih100 (m + 1, X3) ⟨by (try dsimp only); omega, hJ1 (by omega)⟩ (by (try dsimp only); omega)
            have hxp := hxyj p (by omega)
            have hmk9 : m = k := by omega
            refine V_aload_n XC 0 rfl dX8_join_141 rfl ?_
            refine V_aload_n XC 0 rfl dX8_join_142 rfl ?_
            refine V_iload_n XC 2 rfl dX8_join_143 rfl ?_
            refine V_iload XC dX8_join_144 rfl ?_
            refine V_callV (rest := _) (q0 := 0) XC (c_X8_x l D kI kC _ _ _ _ _ _ _ _ _ _ _ _ _ j p (by omega) (by omega)) gX8_join_X8_x rfl kmX8_x ⟨⟨Nat.le_of_ble_eq_true rfl, Nat.le_of_ble_eq_true rfl⟩, Nat.le_of_ble_eq_true rfl, Nat.le_of_ble_eq_true rfl⟩ ⟨rfl, rfl⟩ rfl rfl (Nat.le_of_ble_eq_true rfl) [0, 1] rfl rfl (fun _ => rfl) rfl rfl dX8_join_146 (kR_of rfl (fun r146 hq146 => ?_))
            subst hq146
            rw [hxp.1]
            refine V_aload_n XC 0 rfl dX8_join_149 rfl ?_
            refine V_iload_n XC 2 rfl dX8_join_150 rfl ?_
            refine V_iload XC dX8_join_151 rfl ?_
            refine V_callV (rest := _) (q0 := 0) XC (c_X8_y l D kI kC _ _ _ _ _ _ _ _ _ _ _ _ _ j p (by omega) (by omega)) gX8_join_X8_y rfl kmX8_y ⟨⟨Nat.le_of_ble_eq_true rfl, Nat.le_of_ble_eq_true rfl⟩, Nat.le_of_ble_eq_true rfl, Nat.le_of_ble_eq_true rfl⟩ ⟨rfl, rfl⟩ rfl rfl (Nat.le_of_ble_eq_true rfl) [0, 1] rfl rfl (fun _ => rfl) rfl rfl dX8_join_153 (kR_of rfl (fun r153 hq153 => ?_))
            subst hq153
            rw [hxp.2]
            refine V_callV (rest := _) (q0 := 0) XC (c_X8_addPoint l D kI kC _ _ _ _ _ _ _ _ _ _ _ _ _ _ _ _ (hJ2 hmk9).2.2 (by have h99 := List.length_eraseIdx_le ((S.set k ((skR G k).1, (skR G k).2 ++ (skR G j).2.drop (joinF (skR G k) (skR G j)))).take m) j; rw [List.length_take, List.length_set] at h99; omega) (by have h98 := (hJ2 hmk9).1; rw [List.length_append, List.length_drop, List.length_take]; omega) _ _) gX8_join_X8_addPoint rfl kmX8_addPoint ⟨⟨Nat.le_of_ble_eq_true rfl, Nat.le_of_ble_eq_true rfl⟩, Nat.le_of_ble_eq_true rfl, Nat.le_of_ble_eq_true rfl⟩ ⟨rfl, rfl⟩ rfl rfl (Nat.le_of_ble_eq_true rfl) [0, 3] rfl rfl (fun _ => rfl) rfl rfl dX8_join_156 (kV_of (fun u156 hq156 => ?_))
            dsimp only [putW, List.set, Option.toList, List.cons_append, List.nil_append, padO, mdO, shW, trW, txW, hiW, liW, woW, taW]
            try dsimp only at hq156
            refine V_iinc XC dX8_join_159 rfl (by decide) ?_
            dsimp only [List.set]
            refine V_goto XC 125 dX8_join_162 (by decide) ?_
            obtain ⟨e1, e2, e3⟩ := hJ2 (by omega)
            have h99 := NxR_point (x := px (skR G j) p) (y := py (skR G j) p) e3 (by rw [List.length_append, List.length_drop, List.length_take]; omega)
            refine ih125 (p + 1, _) ⟨fun q => absurd (show m = k by omega) q, fun _ => ⟨by (try dsimp only); omega, by (try dsimp only); omega, ?_⟩⟩ (by (try dsimp only); omega)
            dsimp only
            rw [take_s (pxy_at (t := skR G j) (i := p) (by omega)), List.drop_append_of_le_length (by rw [List.length_take]; omega), ← List.append_assoc]
            exact h99
          refine V_aload_n XC 0 rfl dX8_join_115 rfl ?_
          refine V_iload XC dX8_join_116 rfl ?_
          refine V_callV (rest := _) (q0 := 0) XC (c_X8_copyStroke l D kI kC _ _ _ _ _ _ _ _ _ _ _ _ _ _ S hS hN _ hX2 (by have h99 := List.length_eraseIdx_le ((S.set k ((skR G k).1, (skR G k).2 ++ (skR G j).2.drop (joinF (skR G k) (skR G j)))).take m) j; rw [List.length_take, List.length_set] at h99; omega) m (by omega)) gX8_join_X8_copyStroke rfl kmX8_copyStroke ⟨⟨Nat.le_of_ble_eq_true rfl, Nat.le_of_ble_eq_true rfl⟩, Nat.le_of_ble_eq_true rfl, Nat.le_of_ble_eq_true rfl⟩ ⟨rfl, rfl⟩ rfl rfl (Nat.le_of_ble_eq_true rfl) [0, 1, 3] rfl rfl (fun _ => rfl) rfl rfl dX8_join_118 (kV_of (fun u118 hq118 => ?_))
          dsimp only [putW, List.set, Option.toList, List.cons_append, List.nil_append, padO, mdO, shW, trW, txW, hiW, liW, woW, taW]
          try dsimp only at hq118
          have hX118 := hq118
          refine V_iload XC dX8_join_121 rfl ?_
          refine V_istore XC dX8_join_123 (by decide) ?_
          dsimp only [List.set]
          refine V_loop (σ := Nat × (Nat → Int)) (fun u => szk (skR G j) - u.1) (fun u => (m ≠ k → NxR u.2 (((S.set k ((skR G k).1, (skR G k).2 ++ (skR G j).2.drop (joinF (skR G k) (skR G j)))).take (m + 1)).eraseIdx j)) ∧ (m = k → joinF (skR G k) (skR G j) ≤ u.1 ∧ u.1 ≤ szk (skR G j) ∧ NxR u.2 (((S.set k ((skR G k).1, (skR G k).2 ++ (skR G j).2.drop (joinF (skR G k) (skR G j)))).take m).eraseIdx j ++ [((skR G k).1, (skR G k).2 ++ ((skR G j).2.take u.1).drop (joinF (skR G k) (skR G j)))]))) (fun u => [some (.ref (b 0)), some (.int (iI (k : Int))), some (.int (iI (j : Int))), none, some (.int (iI ((joinF (skR G k) (skR G j) : Nat) : Int))), some (.int (iI (m : Int))), some (.int (iI (u.1 : Int)))]) (fun u => (mdO b gp (ke : Int) (un : Int) (bu : Int) (ty : Int) pc gd rd po ln wd :: [(b 1, IA kI 801 G), (b 2, IA kI 4806 H), (b 9, IA kI 801 u.2)])) (joinF (skR G k) (skR G j), _) ?_ rfl rfl (fun u hJ ih125 => ?_)
          · dsimp only
            first
            | (refine ⟨fun q => ?_, fun q => ⟨Nat.le_refl _, by omega, ?_⟩⟩
               · rw [er_s (S := S.set k ((skR G k).1, (skR G k).2 ++ (skR G j).2.drop (joinF (skR G k) (skR G j)))) (t := gk S m) (by rw [List.getElem?_set_ne (by omega)]; exact gk_at (by omega)) (by omega)]
                 exact hX118
               · rw [show List.drop (joinF (skR G k) (skR G j)) ((skR G j).2.take (joinF (skR G k) (skR G j))) = [] from List.drop_of_length_le (by rw [List.length_take]; omega), List.append_nil]
                 have h99 := hX118
                 rw [show gk S m = skR G k by rw [q, hatk]] at h99
                 exact h99)
            | (refine ⟨fun q => ?_, fun q => absurd q (by omega)⟩
               have hmj : m = j := by omega
               rw [hmj] at hX2 ⊢
               rw [er_same (by rw [List.length_set]; omega)]
               exact hX2)
          obtain ⟨p, X3⟩ := u
          try dsimp only at hJ ih125 ⊢
          try dsimp only [List.cons_append, List.nil_append, padO, mdO, shW, trW, txW, hiW, liW, woW, taW]
          obtain ⟨hJ1, hJ2⟩ := hJ
          refine V_iload XC dX8_join_125 rfl ?_
          refine V_iload_n XC 1 rfl dX8_join_127 rfl ?_
          refine V_icmp_ne XC 165 dX8_join_128 (by decide) ⟨by omega, by omega⟩ ⟨by omega, by omega⟩ (fun h128 => ?_) (fun h128 => ?_)
          · skip
            refine V_iinc XC dX8_join_165 rfl (by decide) ?_
            dsimp only [List.set]
            refine V_goto XC 100 dX8_join_168 (by decide) ?_
            refine V_kill 6 ?_
            dsimp only [List.set]
            first
            | (have hmk : m = k := by omega
               have hpz : p = szk (skR G j) := by omega
               refine ih100 (m + 1, X3) ⟨by (try dsimp only); omega, ?_⟩ (by (try dsimp only); omega)
               dsimp only
               have h99 := (hJ2 hmk).2.2
               rw [er_s (S := S.set k ((skR G k).1, (skR G k).2 ++ (skR G j).2.drop (joinF (skR G k) (skR G j)))) (t := ((skR G k).1, (skR G k).2 ++ (skR G j).2.drop (joinF (skR G k) (skR G j)))) (by rw [hmk, List.getElem?_set_self hknk]) (by omega)]
               rw [hpz, List.take_of_length_le (Nat.le_of_eq elo)] at h99
               exact h99)
            | exact ih100 (m + 1, X3) ⟨by (try dsimp only); omega, hJ1 (by omega)⟩ (by (try dsimp only); omega)
          refine V_iload XC dX8_join_131 rfl ?_
          refine V_aload_n XC 0 rfl dX8_join_133 rfl ?_
          refine V_iload_n XC 2 rfl dX8_join_134 rfl ?_
          refine V_callV (rest := _) (q0 := 0) XC (c_X8_size l D kI kC _ _ _ _ _ _ _ _ _ _ _ _ _ j (by omega)) gX8_join_X8_size rfl kmX8_size ⟨⟨Nat.le_of_ble_eq_true rfl, Nat.le_of_ble_eq_true rfl⟩, Nat.le_of_ble_eq_true rfl, Nat.le_of_ble_eq_true rfl⟩ ⟨rfl, rfl⟩ rfl rfl (Nat.le_of_ble_eq_true rfl) [0, 1] rfl rfl (fun _ => rfl) rfl rfl dX8_join_135 (kR_of rfl (fun r135 hq135 => ?_))
          subst hq135
          rw [hszj]
          refine V_icmp_ge XC 165 dX8_join_138 (by decide) ⟨by omega, by omega⟩ ⟨by omega, by omega⟩ (fun h138 => ?_) (fun h138 => ?_)
          · skip
            refine V_iinc XC dX8_join_165 rfl (by decide) ?_
            dsimp only [List.set]
            refine V_goto XC 100 dX8_join_168 (by decide) ?_
            refine V_kill 6 ?_
            dsimp only [List.set]
            first
            | (have hmk : m = k := by omega
               have hpz : p = szk (skR G j) := by omega
               refine ih100 (m + 1, X3) ⟨by (try dsimp only); omega, ?_⟩ (by (try dsimp only); omega)
               dsimp only
               have h99 := (hJ2 hmk).2.2
               rw [er_s (S := S.set k ((skR G k).1, (skR G k).2 ++ (skR G j).2.drop (joinF (skR G k) (skR G j)))) (t := ((skR G k).1, (skR G k).2 ++ (skR G j).2.drop (joinF (skR G k) (skR G j)))) (by rw [hmk, List.getElem?_set_self hknk]) (by omega)]
               rw [hpz, List.take_of_length_le (Nat.le_of_eq elo)] at h99
               exact h99)
            | exact ih100 (m + 1, X3) ⟨by (try dsimp only); omega, hJ1 (by omega)⟩ (by (try dsimp only); omega)
          have hxp := hxyj p (by omega)
          have hmk9 : m = k := by omega
          refine V_aload_n XC 0 rfl dX8_join_141 rfl ?_
          refine V_aload_n XC 0 rfl dX8_join_142 rfl ?_
          refine V_iload_n XC 2 rfl dX8_join_143 rfl ?_
          refine V_iload XC dX8_join_144 rfl ?_
          refine V_callV (rest := _) (q0 := 0) XC (c_X8_x l D kI kC _ _ _ _ _ _ _ _ _ _ _ _ _ j p (by omega) (by omega)) gX8_join_X8_x rfl kmX8_x ⟨⟨Nat.le_of_ble_eq_true rfl, Nat.le_of_ble_eq_true rfl⟩, Nat.le_of_ble_eq_true rfl, Nat.le_of_ble_eq_true rfl⟩ ⟨rfl, rfl⟩ rfl rfl (Nat.le_of_ble_eq_true rfl) [0, 1] rfl rfl (fun _ => rfl) rfl rfl dX8_join_146 (kR_of rfl (fun r146 hq146 => ?_))
          subst hq146
          rw [hxp.1]
          refine V_aload_n XC 0 rfl dX8_join_149 rfl ?_
          refine V_iload_n XC 2 rfl dX8_join_150 rfl ?_
          refine V_iload XC dX8_join_151 rfl ?_
          refine V_callV (rest := _) (q0 := 0) XC (c_X8_y l D kI kC _ _ _ _ _ _ _ _ _ _ _ _ _ j p (by omega) (by omega)) gX8_join_X8_y rfl kmX8_y ⟨⟨Nat.le_of_ble_eq_true rfl, Nat.le_of_ble_eq_true rfl⟩, Nat.le_of_ble_eq_true rfl, Nat.le_of_ble_eq_true rfl⟩ ⟨rfl, rfl⟩ rfl rfl (Nat.le_of_ble_eq_true rfl) [0, 1] rfl rfl (fun _ => rfl) rfl rfl dX8_join_153 (kR_of rfl (fun r153 hq153 => ?_))
          subst hq153
          rw [hxp.2]
          refine V_callV (rest := _) (q0 := 0) XC (c_X8_addPoint l D kI kC _ _ _ _ _ _ _ _ _ _ _ _ _ _ _ _ (hJ2 hmk9).2.2 (by have h99 := List.length_eraseIdx_le ((S.set k ((skR G k).1, (skR G k).2 ++ (skR G j).2.drop (joinF (skR G k) (skR G j)))).take m) j; rw [List.length_take, List.length_set] at h99; omega) (by have h98 := (hJ2 hmk9).1; rw [List.length_append, List.length_drop, List.length_take]; omega) _ _) gX8_join_X8_addPoint rfl kmX8_addPoint ⟨⟨Nat.le_of_ble_eq_true rfl, Nat.le_of_ble_eq_true rfl⟩, Nat.le_of_ble_eq_true rfl, Nat.le_of_ble_eq_true rfl⟩ ⟨rfl, rfl⟩ rfl rfl (Nat.le_of_ble_eq_true rfl) [0, 3] rfl rfl (fun _ => rfl) rfl rfl dX8_join_156 (kV_of (fun u156 hq156 => ?_))
          dsimp only [putW, List.set, Option.toList, List.cons_append, List.nil_append, padO, mdO, shW, trW, txW, hiW, liW, woW, taW]
          try dsimp only at hq156
          refine V_iinc XC dX8_join_159 rfl (by decide) ?_
          dsimp only [List.set]
          refine V_goto XC 125 dX8_join_162 (by decide) ?_
          obtain ⟨e1, e2, e3⟩ := hJ2 (by omega)
          have h99 := NxR_point (x := px (skR G j) p) (y := py (skR G j) p) e3 (by rw [List.length_append, List.length_drop, List.length_take]; omega)
          refine ih125 (p + 1, _) ⟨fun q => absurd (show m = k by omega) q, fun _ => ⟨by (try dsimp only); omega, by (try dsimp only); omega, ?_⟩⟩ (by (try dsimp only); omega)
          dsimp only
          rw [take_s (pxy_at (t := skR G j) (i := p) (by omega)), List.drop_append_of_le_length (by rw [List.length_take]; omega), ← List.append_assoc]
          exact h99
        have hp : joinS S (k : Int) (j : Int) = (-3, none) := by
          unfold joinS
          rw [if_neg hhs, if_neg (by omega), Int.toNat_natCast, Int.toNat_natCast, hatk, hatj, if_pos (by omega)]
        refine V_bipush XC dX8_join_90 (by decide) ?_
        refine V_iret XC (G, ke, un, H, X) hrV rfl dX8_join_92 ?_
        rw [hp]
        exact ⟨rfl, hN, hH, h3⟩
      have hfr : joinF (skR G k) (skR G j) = 1 := if_pos ⟨by omega, by omega⟩
      refine V_iconst XC dX8_join_64 ?_
      refine V_goto XC 69 dX8_join_65 (by decide) ?_
      refine V_top (y := ((joinF (skR G k) (skR G j) : Nat) : Int)) (by rw [hfr]; rfl) ?_
      refine V_istore XC dX8_join_69 (by decide) ?_
      dsimp only [List.set]
      refine V_aload_n XC 0 rfl dX8_join_71 rfl ?_
      refine V_iload_n XC 1 rfl dX8_join_72 rfl ?_
      refine V_callV (rest := _) (q0 := 0) XC (c_X8_size l D kI kC _ _ _ _ _ _ _ _ _ _ _ _ _ k (by omega)) gX8_join_X8_size rfl kmX8_size ⟨⟨Nat.le_of_ble_eq_true rfl, Nat.le_of_ble_eq_true rfl⟩, Nat.le_of_ble_eq_true rfl, Nat.le_of_ble_eq_true rfl⟩ ⟨rfl, rfl⟩ rfl rfl (Nat.le_of_ble_eq_true rfl) [0, 1] rfl rfl (fun _ => rfl) rfl rfl dX8_join_73 (kR_of rfl (fun r73 hq73 => ?_))
      subst hq73
      rw [hszk]
      refine V_aload_n XC 0 rfl dX8_join_76 rfl ?_
      refine V_iload_n XC 2 rfl dX8_join_77 rfl ?_
      refine V_callV (rest := _) (q0 := 0) XC (c_X8_size l D kI kC _ _ _ _ _ _ _ _ _ _ _ _ _ j (by omega)) gX8_join_X8_size rfl kmX8_size ⟨⟨Nat.le_of_ble_eq_true rfl, Nat.le_of_ble_eq_true rfl⟩, Nat.le_of_ble_eq_true rfl, Nat.le_of_ble_eq_true rfl⟩ ⟨rfl, rfl⟩ rfl rfl (Nat.le_of_ble_eq_true rfl) [0, 1] rfl rfl (fun _ => rfl) rfl rfl dX8_join_78 (kR_of rfl (fun r78 hq78 => ?_))
      subst hq78
      rw [hszj]
      refine V_iadd XC dX8_join_81 ?_
      refine V_iload XC dX8_join_82 rfl ?_
      refine V_isub XC dX8_join_84 ?_
      refine V_bipush XC dX8_join_85 (by decide) ?_
      refine V_icmp_le XC 93 dX8_join_87 (by decide) ⟨by omega, by omega⟩ ⟨by omega, by omega⟩ (fun h87 => ?_) (fun h87 => ?_)
      · skip
        have hjok := OkP_join hokk hokj (by omega)
        have hE : OkS ((S.set k ((skR G k).1, (skR G k).2 ++ (skR G j).2.drop (joinF (skR G k) (skR G j)))).eraseIdx j) := OkS_erase (OkS_set hS ⟨hokk.1, hokk.2.1, hjok⟩)
        have ell : (skR G k).2.length = szk (skR G k) := rfl
        have elo : (skR G j).2.length = szk (skR G j) := rfl
        refine V_aload_n XC 0 rfl dX8_join_93 rfl ?_
        refine V_callV (rest := _) (q0 := 0) XC (c_X8_begin l D kI kC _ _ _ _ _ _ _ _ _ _ _ _ _ ) gX8_join_X8_begin rfl kmX8_begin ⟨⟨Nat.le_of_ble_eq_true rfl, Nat.le_of_ble_eq_true rfl⟩, Nat.le_of_ble_eq_true rfl, Nat.le_of_ble_eq_true rfl⟩ ⟨rfl, rfl⟩ rfl rfl (Nat.le_of_ble_eq_true rfl) [0, 3] rfl rfl (fun _ => rfl) rfl rfl dX8_join_94 (kV_of (fun u94 hq94 => ?_))
        dsimp only [putW, List.set, Option.toList, List.cons_append, List.nil_append, padO, mdO, shW, trW, txW, hiW, liW, woW, taW]
        try dsimp only at hq94
        refine V_iconst XC dX8_join_97 ?_
        refine V_istore XC dX8_join_98 (by decide) ?_
        dsimp only [List.set]
        refine V_kill 3 ?_
        dsimp only [List.set]
        refine V_loop (σ := Nat × (Nat → Int)) (fun u => S.length - u.1) (fun u => u.1 ≤ S.length ∧ NxR u.2 (((S.set k ((skR G k).1, (skR G k).2 ++ (skR G j).2.drop (joinF (skR G k) (skR G j)))).take u.1).eraseIdx j)) (fun u => [some (.ref (b 0)), some (.int (iI (k : Int))), some (.int (iI (j : Int))), none, some (.int (iI ((joinF (skR G k) (skR G j) : Nat) : Int))), some (.int (iI (u.1 : Int))), none]) (fun u => (mdO b gp (ke : Int) (un : Int) (bu : Int) (ty : Int) pc gd rd po ln wd :: [(b 1, IA kI 801 G), (b 2, IA kI 4806 H), (b 9, IA kI 801 u.2)])) (0, upz X 0 0) ?_ rfl rfl (fun u hJ ih100 => ?_)
        · dsimp only
          exact ⟨Nat.zero_le _, by rw [List.take_zero]; exact NxR_0⟩
        obtain ⟨m, X2⟩ := u
        try dsimp only at hJ ih100 ⊢
        try dsimp only [List.cons_append, List.nil_append, padO, mdO, shW, trW, txW, hiW, liW, woW, taW]
        obtain ⟨hm, hX2⟩ := hJ
        refine V_iload XC dX8_join_100 rfl ?_
        refine V_aload_n XC 0 rfl dX8_join_102 rfl ?_
        refine V_callV (rest := _) (q0 := 0) XC (c_X8_strokes l D kI kC _ _ _ _ _ _ _ _ _ _ _ _ _ ) gX8_join_X8_strokes rfl kmX8_strokes ⟨⟨Nat.le_of_ble_eq_true rfl, Nat.le_of_ble_eq_true rfl⟩, Nat.le_of_ble_eq_true rfl, Nat.le_of_ble_eq_true rfl⟩ ⟨rfl, rfl⟩ rfl rfl (Nat.le_of_ble_eq_true rfl) [0, 1] rfl rfl (fun _ => rfl) rfl rfl dX8_join_103 (kR_of rfl (fun r103 hq103 => ?_))
        subst hq103
        rw [hN0]
        refine V_icmp_ge XC 171 dX8_join_106 (by decide) ⟨by omega, by omega⟩ ⟨by omega, by omega⟩ (fun h106 => ?_) (fun h106 => ?_)
        · skip
          obtain rfl : m = S.length := by omega
          rw [List.take_of_length_le (by rw [List.length_set]; omega)] at hX2
          have hNb := NowR_become (G := G) hX2 hE
          have hp : joinS S (k : Int) (j : Int) = (if (j : Int) < (k : Int) then (k : Int) - 1 else (k : Int), some ((S.set k ((skR G k).1, (skR G k).2 ++ (skR G j).2.drop (joinF (skR G k) (skR G j)))).eraseIdx j)) := by
            unfold joinS
            rw [if_neg hhs, if_neg (by omega), Int.toNat_natCast, Int.toNat_natCast, hatk, hatj, if_neg (by omega)]
          refine V_aload_n XC 0 rfl dX8_join_171 rfl ?_
          refine V_callV (rest := _) (q0 := 0) XC (c_X8_become l D kI kC _ _ _ _ _ _ _ _ _ _ _ _ _ _ _ (by omega)) gX8_join_X8_become rfl kmX8_become ⟨⟨Nat.le_of_ble_eq_true rfl, Nat.le_of_ble_eq_true rfl⟩, Nat.le_of_ble_eq_true rfl, Nat.le_of_ble_eq_true rfl⟩ ⟨rfl, rfl⟩ rfl rfl (Nat.le_of_ble_eq_true rfl) [0, 1, 2, 3] rfl rfl (fun _ => rfl) rfl rfl dX8_join_172 (kV_of (fun u172 hq172 => ?_))
          dsimp only [putW, List.set, Option.toList, List.cons_append, List.nil_append, padO, mdO, shW, trW, txW, hiW, liW, woW, taW]
          try dsimp only at hq172
          refine V_iload_n XC 2 rfl dX8_join_175 rfl ?_
          refine V_iload_n XC 1 rfl dX8_join_176 rfl ?_
          refine V_icmp_ge XC 186 dX8_join_177 (by decide) ⟨by omega, by omega⟩ ⟨by omega, by omega⟩ (fun h177 => ?_) (fun h177 => ?_)
          · skip
            refine V_iload_n XC 1 rfl dX8_join_186 rfl ?_
            refine V_iret XC (cpz X2 G 0 0 801, min (ke + 1) 6, 0, pushH G H ke, X2) hrV rfl dX8_join_187 ?_
            rw [hp]
            refine ⟨?_, act_endR h3 hH hN hE hNb⟩
            dsimp only
            first | exact (if_pos (by omega)).symm | exact (if_neg (by omega)).symm
          refine V_iload_n XC 1 rfl dX8_join_180 rfl ?_
          refine V_iconst XC dX8_join_181 ?_
          refine V_isub XC dX8_join_182 ?_
          refine V_goto XC 187 dX8_join_183 (by decide) ?_
          refine V_iret XC (cpz X2 G 0 0 801, min (ke + 1) 6, 0, pushH G H ke, X2) hrV rfl dX8_join_187 ?_
          rw [hp]
          refine ⟨?_, act_endR h3 hH hN hE hNb⟩
          dsimp only
          first | exact (if_pos (by omega)).symm | exact (if_neg (by omega)).symm
        refine V_iload XC dX8_join_109 rfl ?_
        refine V_iload_n XC 2 rfl dX8_join_111 rfl ?_
        refine V_icmp_eq XC 121 dX8_join_112 (by decide) ⟨by omega, by omega⟩ ⟨by omega, by omega⟩ (fun h112 => ?_) (fun h112 => ?_)
        · skip
          refine V_iload XC dX8_join_121 rfl ?_
          refine V_istore XC dX8_join_123 (by decide) ?_
          dsimp only [List.set]
          refine V_loop (σ := Nat × (Nat → Int)) (fun u => szk (skR G j) - u.1) (fun u => (m ≠ k → NxR u.2 (((S.set k ((skR G k).1, (skR G k).2 ++ (skR G j).2.drop (joinF (skR G k) (skR G j)))).take (m + 1)).eraseIdx j)) ∧ (m = k → joinF (skR G k) (skR G j) ≤ u.1 ∧ u.1 ≤ szk (skR G j) ∧ NxR u.2 (((S.set k ((skR G k).1, (skR G k).2 ++ (skR G j).2.drop (joinF (skR G k) (skR G j)))).take m).eraseIdx j ++ [((skR G k).1, (skR G k).2 ++ ((skR G j).2.take u.1).drop (joinF (skR G k) (skR G j)))]))) (fun u => [some (.ref (b 0)), some (.int (iI (k : Int))), some (.int (iI (j : Int))), none, some (.int (iI ((joinF (skR G k) (skR G j) : Nat) : Int))), some (.int (iI (m : Int))), some (.int (iI (u.1 : Int)))]) (fun u => (mdO b gp (ke : Int) (un : Int) (bu : Int) (ty : Int) pc gd rd po ln wd :: [(b 1, IA kI 801 G), (b 2, IA kI 4806 H), (b 9, IA kI 801 u.2)])) (joinF (skR G k) (skR G j), _) ?_ rfl rfl (fun u hJ ih125 => ?_)
          · dsimp only
            first
            | (refine ⟨fun q => ?_, fun q => ⟨Nat.le_refl _, by omega, ?_⟩⟩
               · rw [er_s (S := S.set k ((skR G k).1, (skR G k).2 ++ (skR G j).2.drop (joinF (skR G k) (skR G j)))) (t := gk S m) (by rw [List.getElem?_set_ne (by omega)]; exact gk_at (by omega)) (by omega)]
                 exact hX118
               · rw [show List.drop (joinF (skR G k) (skR G j)) ((skR G j).2.take (joinF (skR G k) (skR G j))) = [] from List.drop_of_length_le (by rw [List.length_take]; omega), List.append_nil]
                 have h99 := hX118
                 rw [show gk S m = skR G k by rw [q, hatk]] at h99
                 exact h99)
            | (refine ⟨fun q => ?_, fun q => absurd q (by omega)⟩
               have hmj : m = j := by omega
               rw [hmj] at hX2 ⊢
               rw [er_same (by rw [List.length_set]; omega)]
               exact hX2)
          obtain ⟨p, X3⟩ := u
          try dsimp only at hJ ih125 ⊢
          try dsimp only [List.cons_append, List.nil_append, padO, mdO, shW, trW, txW, hiW, liW, woW, taW]
          obtain ⟨hJ1, hJ2⟩ := hJ
          refine V_iload XC dX8_join_125 rfl ?_
          refine V_iload_n XC 1 rfl dX8_join_127 rfl ?_
          refine V_icmp_ne XC 165 dX8_join_128 (by decide) ⟨by omega, by omega⟩ ⟨by omega, by omega⟩ (fun h128 => ?_) (fun h128 => ?_)
          · skip
            refine V_iinc XC dX8_join_165 rfl (by decide) ?_
            dsimp only [List.set]
            refine V_goto XC 100 dX8_join_168 (by decide) ?_
            refine V_kill 6 ?_
            dsimp only [List.set]
            first
            | (have hmk : m = k := by omega
               have hpz : p = szk (skR G j) := by omega
               refine ih100 (m + 1, X3) ⟨by (try dsimp only); omega, ?_⟩ (by (try dsimp only); omega)
               dsimp only
               have h99 := (hJ2 hmk).2.2
               rw [er_s (S := S.set k ((skR G k).1, (skR G k).2 ++ (skR G j).2.drop (joinF (skR G k) (skR G j)))) (t := ((skR G k).1, (skR G k).2 ++ (skR G j).2.drop (joinF (skR G k) (skR G j)))) (by rw [hmk, List.getElem?_set_self hknk]) (by omega)]
               rw [hpz, List.take_of_length_le (Nat.le_of_eq elo)] at h99
               exact h99)
            | exact ih100 (m + 1, X3) ⟨by (try dsimp only); omega, hJ1 (by omega)⟩ (by (try dsimp only); omega)
          refine V_iload XC dX8_join_131 rfl ?_
          refine V_aload_n XC 0 rfl dX8_join_133 rfl ?_
          refine V_iload_n XC 2 rfl dX8_join_134 rfl ?_
          refine V_callV (rest := _) (q0 := 0) XC (c_X8_size l D kI kC _ _ _ _ _ _ _ _ _ _ _ _ _ j (by omega)) gX8_join_X8_size rfl kmX8_size ⟨⟨Nat.le_of_ble_eq_true rfl, Nat.le_of_ble_eq_true rfl⟩, Nat.le_of_ble_eq_true rfl, Nat.le_of_ble_eq_true rfl⟩ ⟨rfl, rfl⟩ rfl rfl (Nat.le_of_ble_eq_true rfl) [0, 1] rfl rfl (fun _ => rfl) rfl rfl dX8_join_135 (kR_of rfl (fun r135 hq135 => ?_))
          subst hq135
          rw [hszj]
          refine V_icmp_ge XC 165 dX8_join_138 (by decide) ⟨by omega, by omega⟩ ⟨by omega, by omega⟩ (fun h138 => ?_) (fun h138 => ?_)
          · skip
            refine V_iinc XC dX8_join_165 rfl (by decide) ?_
            dsimp only [List.set]
            refine V_goto XC 100 dX8_join_168 (by decide) ?_
            refine V_kill 6 ?_
            dsimp only [List.set]
            first
            | (have hmk : m = k := by omega
               have hpz : p = szk (skR G j) := by omega
               refine ih100 (m + 1, X3) ⟨by (try dsimp only); omega, ?_⟩ (by (try dsimp only); omega)
               dsimp only
               have h99 := (hJ2 hmk).2.2
               rw [er_s (S := S.set k ((skR G k).1, (skR G k).2 ++ (skR G j).2.drop (joinF (skR G k) (skR G j)))) (t := ((skR G k).1, (skR G k).2 ++ (skR G j).2.drop (joinF (skR G k) (skR G j)))) (by rw [hmk, List.getElem?_set_self hknk]) (by omega)]
               rw [hpz, List.take_of_length_le (Nat.le_of_eq elo)] at h99
               exact h99)
            | exact ih100 (m + 1, X3) ⟨by (try dsimp only); omega, hJ1 (by omega)⟩ (by (try dsimp only); omega)
          have hxp := hxyj p (by omega)
          have hmk9 : m = k := by omega
          refine V_aload_n XC 0 rfl dX8_join_141 rfl ?_
          refine V_aload_n XC 0 rfl dX8_join_142 rfl ?_
          refine V_iload_n XC 2 rfl dX8_join_143 rfl ?_
          refine V_iload XC dX8_join_144 rfl ?_
          refine V_callV (rest := _) (q0 := 0) XC (c_X8_x l D kI kC _ _ _ _ _ _ _ _ _ _ _ _ _ j p (by omega) (by omega)) gX8_join_X8_x rfl kmX8_x ⟨⟨Nat.le_of_ble_eq_true rfl, Nat.le_of_ble_eq_true rfl⟩, Nat.le_of_ble_eq_true rfl, Nat.le_of_ble_eq_true rfl⟩ ⟨rfl, rfl⟩ rfl rfl (Nat.le_of_ble_eq_true rfl) [0, 1] rfl rfl (fun _ => rfl) rfl rfl dX8_join_146 (kR_of rfl (fun r146 hq146 => ?_))
          subst hq146
          rw [hxp.1]
          refine V_aload_n XC 0 rfl dX8_join_149 rfl ?_
          refine V_iload_n XC 2 rfl dX8_join_150 rfl ?_
          refine V_iload XC dX8_join_151 rfl ?_
          refine V_callV (rest := _) (q0 := 0) XC (c_X8_y l D kI kC _ _ _ _ _ _ _ _ _ _ _ _ _ j p (by omega) (by omega)) gX8_join_X8_y rfl kmX8_y ⟨⟨Nat.le_of_ble_eq_true rfl, Nat.le_of_ble_eq_true rfl⟩, Nat.le_of_ble_eq_true rfl, Nat.le_of_ble_eq_true rfl⟩ ⟨rfl, rfl⟩ rfl rfl (Nat.le_of_ble_eq_true rfl) [0, 1] rfl rfl (fun _ => rfl) rfl rfl dX8_join_153 (kR_of rfl (fun r153 hq153 => ?_))
          subst hq153
          rw [hxp.2]
          refine V_callV (rest := _) (q0 := 0) XC (c_X8_addPoint l D kI kC _ _ _ _ _ _ _ _ _ _ _ _ _ _ _ _ (hJ2 hmk9).2.2 (by have h99 := List.length_eraseIdx_le ((S.set k ((skR G k).1, (skR G k).2 ++ (skR G j).2.drop (joinF (skR G k) (skR G j)))).take m) j; rw [List.length_take, List.length_set] at h99; omega) (by have h98 := (hJ2 hmk9).1; rw [List.length_append, List.length_drop, List.length_take]; omega) _ _) gX8_join_X8_addPoint rfl kmX8_addPoint ⟨⟨Nat.le_of_ble_eq_true rfl, Nat.le_of_ble_eq_true rfl⟩, Nat.le_of_ble_eq_true rfl, Nat.le_of_ble_eq_true rfl⟩ ⟨rfl, rfl⟩ rfl rfl (Nat.le_of_ble_eq_true rfl) [0, 3] rfl rfl (fun _ => rfl) rfl rfl dX8_join_156 (kV_of (fun u156 hq156 => ?_))
          dsimp only [putW, List.set, Option.toList, List.cons_append, List.nil_append, padO, mdO, shW, trW, txW, hiW, liW, woW, taW]
          try dsimp only at hq156
          refine V_iinc XC dX8_join_159 rfl (by decide) ?_
          dsimp only [List.set]
          refine V_goto XC 125 dX8_join_162 (by decide) ?_
          obtain ⟨e1, e2, e3⟩ := hJ2 (by omega)
          have h99 := NxR_point (x := px (skR G j) p) (y := py (skR G j) p) e3 (by rw [List.length_append, List.length_drop, List.length_take]; omega)
          refine ih125 (p + 1, _) ⟨fun q => absurd (show m = k by omega) q, fun _ => ⟨by (try dsimp only); omega, by (try dsimp only); omega, ?_⟩⟩ (by (try dsimp only); omega)
          dsimp only
          rw [take_s (pxy_at (t := skR G j) (i := p) (by omega)), List.drop_append_of_le_length (by rw [List.length_take]; omega), ← List.append_assoc]
          exact h99
        refine V_aload_n XC 0 rfl dX8_join_115 rfl ?_
        refine V_iload XC dX8_join_116 rfl ?_
        refine V_callV (rest := _) (q0 := 0) XC (c_X8_copyStroke l D kI kC _ _ _ _ _ _ _ _ _ _ _ _ _ _ S hS hN _ hX2 (by have h99 := List.length_eraseIdx_le ((S.set k ((skR G k).1, (skR G k).2 ++ (skR G j).2.drop (joinF (skR G k) (skR G j)))).take m) j; rw [List.length_take, List.length_set] at h99; omega) m (by omega)) gX8_join_X8_copyStroke rfl kmX8_copyStroke ⟨⟨Nat.le_of_ble_eq_true rfl, Nat.le_of_ble_eq_true rfl⟩, Nat.le_of_ble_eq_true rfl, Nat.le_of_ble_eq_true rfl⟩ ⟨rfl, rfl⟩ rfl rfl (Nat.le_of_ble_eq_true rfl) [0, 1, 3] rfl rfl (fun _ => rfl) rfl rfl dX8_join_118 (kV_of (fun u118 hq118 => ?_))
        dsimp only [putW, List.set, Option.toList, List.cons_append, List.nil_append, padO, mdO, shW, trW, txW, hiW, liW, woW, taW]
        try dsimp only at hq118
        have hX118 := hq118
        refine V_iload XC dX8_join_121 rfl ?_
        refine V_istore XC dX8_join_123 (by decide) ?_
        dsimp only [List.set]
        refine V_loop (σ := Nat × (Nat → Int)) (fun u => szk (skR G j) - u.1) (fun u => (m ≠ k → NxR u.2 (((S.set k ((skR G k).1, (skR G k).2 ++ (skR G j).2.drop (joinF (skR G k) (skR G j)))).take (m + 1)).eraseIdx j)) ∧ (m = k → joinF (skR G k) (skR G j) ≤ u.1 ∧ u.1 ≤ szk (skR G j) ∧ NxR u.2 (((S.set k ((skR G k).1, (skR G k).2 ++ (skR G j).2.drop (joinF (skR G k) (skR G j)))).take m).eraseIdx j ++ [((skR G k).1, (skR G k).2 ++ ((skR G j).2.take u.1).drop (joinF (skR G k) (skR G j)))]))) (fun u => [some (.ref (b 0)), some (.int (iI (k : Int))), some (.int (iI (j : Int))), none, some (.int (iI ((joinF (skR G k) (skR G j) : Nat) : Int))), some (.int (iI (m : Int))), some (.int (iI (u.1 : Int)))]) (fun u => (mdO b gp (ke : Int) (un : Int) (bu : Int) (ty : Int) pc gd rd po ln wd :: [(b 1, IA kI 801 G), (b 2, IA kI 4806 H), (b 9, IA kI 801 u.2)])) (joinF (skR G k) (skR G j), _) ?_ rfl rfl (fun u hJ ih125 => ?_)
        · dsimp only
          first
          | (refine ⟨fun q => ?_, fun q => ⟨Nat.le_refl _, by omega, ?_⟩⟩
             · rw [er_s (S := S.set k ((skR G k).1, (skR G k).2 ++ (skR G j).2.drop (joinF (skR G k) (skR G j)))) (t := gk S m) (by rw [List.getElem?_set_ne (by omega)]; exact gk_at (by omega)) (by omega)]
               exact hX118
             · rw [show List.drop (joinF (skR G k) (skR G j)) ((skR G j).2.take (joinF (skR G k) (skR G j))) = [] from List.drop_of_length_le (by rw [List.length_take]; omega), List.append_nil]
               have h99 := hX118
               rw [show gk S m = skR G k by rw [q, hatk]] at h99
               exact h99)
          | (refine ⟨fun q => ?_, fun q => absurd q (by omega)⟩
             have hmj : m = j := by omega
             rw [hmj] at hX2 ⊢
             rw [er_same (by rw [List.length_set]; omega)]
             exact hX2)
        obtain ⟨p, X3⟩ := u
        try dsimp only at hJ ih125 ⊢
        try dsimp only [List.cons_append, List.nil_append, padO, mdO, shW, trW, txW, hiW, liW, woW, taW]
        obtain ⟨hJ1, hJ2⟩ := hJ
        refine V_iload XC dX8_join_125 rfl ?_
        refine V_iload_n XC 1 rfl dX8_join_127 rfl ?_
        refine V_icmp_ne XC 165 dX8_join_128 (by decide) ⟨by omega, by omega⟩ ⟨by omega, by omega⟩ (fun h128 => ?_) (fun h128 => ?_)
        · skip
          refine V_iinc XC dX8_join_165 rfl (by decide) ?_
          dsimp only [List.set]
          refine V_goto XC 100 dX8_join_168 (by decide) ?_
          refine V_kill 6 ?_
          dsimp only [List.set]
          first
          | (have hmk : m = k := by omega
             have hpz : p = szk (skR G j) := by omega
             refine ih100 (m + 1, X3) ⟨by (try dsimp only); omega, ?_⟩ (by (try dsimp only); omega)
             dsimp only
             have h99 := (hJ2 hmk).2.2
             rw [er_s (S := S.set k ((skR G k).1, (skR G k).2 ++ (skR G j).2.drop (joinF (skR G k) (skR G j)))) (t := ((skR G k).1, (skR G k).2 ++ (skR G j).2.drop (joinF (skR G k) (skR G j)))) (by rw [hmk, List.getElem?_set_self hknk]) (by omega)]
             rw [hpz, List.take_of_length_le (Nat.le_of_eq elo)] at h99
             exact h99)
          | exact ih100 (m + 1, X3) ⟨by (try dsimp only); omega, hJ1 (by omega)⟩ (by (try dsimp only); omega)
        refine V_iload XC dX8_join_131 rfl ?_
        refine V_aload_n XC 0 rfl dX8_join_133 rfl ?_
        refine V_iload_n XC 2 rfl dX8_join_134 rfl ?_
        refine V_callV (rest := _) (q0 := 0) XC (c_X8_size l D kI kC _ _ _ _ _ _ _ _ _ _ _ _ _ j (by omega)) gX8_join_X8_size rfl kmX8_size ⟨⟨Nat.le_of_ble_eq_true rfl, Nat.le_of_ble_eq_true rfl⟩, Nat.le_of_ble_eq_true rfl, Nat.le_of_ble_eq_true rfl⟩ ⟨rfl, rfl⟩ rfl rfl (Nat.le_of_ble_eq_true rfl) [0, 1] rfl rfl (fun _ => rfl) rfl rfl dX8_join_135 (kR_of rfl (fun r135 hq135 => ?_))
        subst hq135
        rw [hszj]
        refine V_icmp_ge XC 165 dX8_join_138 (by decide) ⟨by omega, by omega⟩ ⟨by omega, by omega⟩ (fun h138 => ?_) (fun h138 => ?_)
        · skip
          refine V_iinc XC dX8_join_165 rfl (by decide) ?_
          dsimp only [List.set]
          refine V_goto XC 100 dX8_join_168 (by decide) ?_
          refine V_kill 6 ?_
          dsimp only [List.set]
          first
          | (have hmk : m = k := by omega
             have hpz : p = szk (skR G j) := by omega
             refine ih100 (m + 1, X3) ⟨by (try dsimp only); omega, ?_⟩ (by (try dsimp only); omega)
             dsimp only
             have h99 := (hJ2 hmk).2.2
             rw [er_s (S := S.set k ((skR G k).1, (skR G k).2 ++ (skR G j).2.drop (joinF (skR G k) (skR G j)))) (t := ((skR G k).1, (skR G k).2 ++ (skR G j).2.drop (joinF (skR G k) (skR G j)))) (by rw [hmk, List.getElem?_set_self hknk]) (by omega)]
             rw [hpz, List.take_of_length_le (Nat.le_of_eq elo)] at h99
             exact h99)
          | exact ih100 (m + 1, X3) ⟨by (try dsimp only); omega, hJ1 (by omega)⟩ (by (try dsimp only); omega)
        have hxp := hxyj p (by omega)
        have hmk9 : m = k := by omega
        refine V_aload_n XC 0 rfl dX8_join_141 rfl ?_
        refine V_aload_n XC 0 rfl dX8_join_142 rfl ?_
        refine V_iload_n XC 2 rfl dX8_join_143 rfl ?_
        refine V_iload XC dX8_join_144 rfl ?_
        refine V_callV (rest := _) (q0 := 0) XC (c_X8_x l D kI kC _ _ _ _ _ _ _ _ _ _ _ _ _ j p (by omega) (by omega)) gX8_join_X8_x rfl kmX8_x ⟨⟨Nat.le_of_ble_eq_true rfl, Nat.le_of_ble_eq_true rfl⟩, Nat.le_of_ble_eq_true rfl, Nat.le_of_ble_eq_true rfl⟩ ⟨rfl, rfl⟩ rfl rfl (Nat.le_of_ble_eq_true rfl) [0, 1] rfl rfl (fun _ => rfl) rfl rfl dX8_join_146 (kR_of rfl (fun r146 hq146 => ?_))
        subst hq146
        rw [hxp.1]
        refine V_aload_n XC 0 rfl dX8_join_149 rfl ?_
        refine V_iload_n XC 2 rfl dX8_join_150 rfl ?_
        refine V_iload XC dX8_join_151 rfl ?_
        refine V_callV (rest := _) (q0 := 0) XC (c_X8_y l D kI kC _ _ _ _ _ _ _ _ _ _ _ _ _ j p (by omega) (by omega)) gX8_join_X8_y rfl kmX8_y ⟨⟨Nat.le_of_ble_eq_true rfl, Nat.le_of_ble_eq_true rfl⟩, Nat.le_of_ble_eq_true rfl, Nat.le_of_ble_eq_true rfl⟩ ⟨rfl, rfl⟩ rfl rfl (Nat.le_of_ble_eq_true rfl) [0, 1] rfl rfl (fun _ => rfl) rfl rfl dX8_join_153 (kR_of rfl (fun r153 hq153 => ?_))
        subst hq153
        rw [hxp.2]
        refine V_callV (rest := _) (q0 := 0) XC (c_X8_addPoint l D kI kC _ _ _ _ _ _ _ _ _ _ _ _ _ _ _ _ (hJ2 hmk9).2.2 (by have h99 := List.length_eraseIdx_le ((S.set k ((skR G k).1, (skR G k).2 ++ (skR G j).2.drop (joinF (skR G k) (skR G j)))).take m) j; rw [List.length_take, List.length_set] at h99; omega) (by have h98 := (hJ2 hmk9).1; rw [List.length_append, List.length_drop, List.length_take]; omega) _ _) gX8_join_X8_addPoint rfl kmX8_addPoint ⟨⟨Nat.le_of_ble_eq_true rfl, Nat.le_of_ble_eq_true rfl⟩, Nat.le_of_ble_eq_true rfl, Nat.le_of_ble_eq_true rfl⟩ ⟨rfl, rfl⟩ rfl rfl (Nat.le_of_ble_eq_true rfl) [0, 3] rfl rfl (fun _ => rfl) rfl rfl dX8_join_156 (kV_of (fun u156 hq156 => ?_))
        dsimp only [putW, List.set, Option.toList, List.cons_append, List.nil_append, padO, mdO, shW, trW, txW, hiW, liW, woW, taW]
        try dsimp only at hq156
        refine V_iinc XC dX8_join_159 rfl (by decide) ?_
        dsimp only [List.set]
        refine V_goto XC 125 dX8_join_162 (by decide) ?_
        obtain ⟨e1, e2, e3⟩ := hJ2 (by omega)
        have h99 := NxR_point (x := px (skR G j) p) (y := py (skR G j) p) e3 (by rw [List.length_append, List.length_drop, List.length_take]; omega)
        refine ih125 (p + 1, _) ⟨fun q => absurd (show m = k by omega) q, fun _ => ⟨by (try dsimp only); omega, by (try dsimp only); omega, ?_⟩⟩ (by (try dsimp only); omega)
        dsimp only
        rw [take_s (pxy_at (t := skR G j) (i := p) (by omega)), List.drop_append_of_le_length (by rw [List.length_take]; omega), ← List.append_assoc]
        exact h99
      have hp : joinS S (k : Int) (j : Int) = (-3, none) := by
        unfold joinS
        rw [if_neg hhs, if_neg (by omega), Int.toNat_natCast, Int.toNat_natCast, hatk, hatj, if_pos (by omega)]
      refine V_bipush XC dX8_join_90 (by decide) ?_
      refine V_iret XC (G, ke, un, H, X) hrV rfl dX8_join_92 ?_
      rw [hp]
      exact ⟨rfl, hN, hH, h3⟩
    have hp : joinS S (k : Int) (j : Int) = (-2, none) := by
      unfold joinS
      rw [if_neg hhs, if_pos (by omega)]
    refine V_bipush XC dX8_join_23 (by decide) ?_
    refine V_iret XC (G, ke, un, H, X) hrV rfl dX8_join_25 ?_
    rw [hp]
    exact ⟨rfl, hN, hH, h3⟩
  have hp : joinS S (k : Int) o = (-1, none) := if_pos (Or.inr (by have h99 := h13; simp at h99; unfold hasS; exact decide_eq_false (show ¬ (0 ≤ o ∧ o < (S.length : Int)) by omega)))
  refine V_iconst XC dX8_join_16 ?_
  refine V_iret XC (G, ke, un, H, X) hrV rfl dX8_join_17 ?_
  rw [hp]
  exact ⟨rfl, hN, hH, h3⟩

end REFH
