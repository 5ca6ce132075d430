/-! the reference: thin -/
section REFG

theorem thK_p {d2 : Int} {F G : Nat → Int} {p : Nat} (h : 1 ≤ p) : thK d2 F G p = thS d2 (thK d2 F G (p - 1)) (F p, G p) := by
  obtain ⟨q, rfl⟩ : ∃ q, p = q + 1 := ⟨p - 1, by omega⟩
  rfl

set_option maxRecDepth 100000 in
set_option maxHeartbeats 4000000 in
theorem c_X8_thin (l : Launch) (D : va_G) (kI kC : ClassId) (b : Nat → Nat) (gp : Int) (ke : Nat) (un : Nat) (bu : Nat) (ty : Nat) (pc : Int) (gd : Bool) (rd : Int) (po : Int) (ln : Int) (wd : Int) (G : Nat → Int) (H : Nat → Int) (X : Nat → Int) (PX : Nat → Int) (PY : Nat → Int) (A : Nat → Int) (S : List Stk) (past fut : List (List Stk)) (h3 : Ok3 (S, past, fut)) (hN : NowR G S) (hH : RH (S, past, fut) ke un H A) (z d : Int) (hz : IR z) (hd : IR d) : Con l yX8_thin wsX8_thin { frames := 5, cells := 0, slots := 0, locals := 109 } D kI kC [.ref (b 0), .int (iI z), .int (iI d)] (mdO b gp (ke : Int) (un : Int) (bu : Int) (ty : Int) pc gd rd po ln wd :: [(b 1, IA kI 801 G), (b 2, IA kI 4806 H), (b 9, IA kI 801 X), (b 10, IA kI 24 PX), (b 11, IA kI 24 PY)]) (σ := (Nat → Int) × Nat × Nat × (Nat → Int) × (Nat → Int) × (Nat → Int) × (Nat → Int) × Int) (qI (fun r u => r = (thinS S z d).1 ∧ NowR u.1 (actS (S, past, fut) (thinS S z d).2).1 ∧ RH (actS (S, past, fut) (thinS S z d).2) u.2.1 u.2.2.1 u.2.2.2.1 A ∧ Ok3 (actS (S, past, fut) (thinS S z d).2))) (fun u => (mdO b gp (u.2.1 : Int) (u.2.2.1 : Int) (bu : Int) (ty : Int) pc gd rd u.2.2.2.2.2.2.2 ln wd :: [(b 1, IA kI 801 u.1), (b 2, IA kI 4806 u.2.2.2.1), (b 9, IA kI 801 u.2.2.2.2.1), (b 10, IA kI 24 u.2.2.2.2.2.1), (b 11, IA kI 24 u.2.2.2.2.2.2.1)])) := by
  refine Con.of (cc := cX8_thin) (maxL := 6) (ret := (some .int)) (by decide +kernel) rfl (List.forall_mem_cons.mpr ⟨rfl, List.forall_mem_cons.mpr ⟨rfl, List.forall_mem_cons.mpr ⟨rfl, fun _ h => absurd h List.not_mem_nil⟩⟩⟩) (Nat.le_of_ble_eq_true rfl) ?_
  intro pV eV sV mV bV tV cV AV XC hrV
  have XC : Cx pV _ sV mV _ tV cV cX8_thin 6 RX8 wsX8_thin AV D kI kC := XC
  change VV _ _ _ _ _ _ _ _ _ _ _ _ _ _ _ _ _ [some (.ref (b 0)), some (.int (iI z)), some (.int (iI d)), none, none, none] _ _
  dsimp only [mdO, List.cons_append, List.nil_append]
  have hn16 : S.length ≤ 16 := h3.1.1
  have hS : OkS S := h3.1
  have hk6 : ke ≤ 6 := by rw [hH.1]; exact h3.2.1.1
  have hN0 : G 0 = (S.length : Int) := hN.1
  refine V_aload_n XC 0 rfl dX8_thin_0 rfl ?_
  refine V_iload_n XC 1 rfl dX8_thin_1 rfl ?_
  refine V_callV (rest := _) (q0 := 0) XC (c_X8_noStroke l D kI kC _ _ _ _ _ _ _ _ _ _ _ _ _ S.length hn16 hN0 _ hz) gX8_thin_X8_noStroke rfl kmX8_noStroke ⟨⟨Nat.le_of_ble_eq_true rfl, Nat.le_of_ble_eq_true rfl⟩, Nat.le_of_ble_eq_true rfl, Nat.le_of_ble_eq_true rfl⟩ ⟨rfl, rfl⟩ rfl rfl (Nat.le_of_ble_eq_true rfl) [0, 1] rfl rfl (fun _ => rfl) rfl rfl dX8_thin_2 (kR_of rfl (fun r2 hq2 => ?_))
  subst hq2
  refine V_bif_eq XC 10 dX8_thin_5 (by decide) (fun h5 => ?_) (fun h5 => ?_)
  · skip
    have hz2 : 0 ≤ z ∧ z < (S.length : Int) := by simpa using h5
    obtain ⟨k, rfl⟩ : ∃ k : Nat, z = (k : Int) := ⟨z.toNat, by omega⟩
    have hkn : k < S.length := by omega
    have hok := NowR_ok hN hS hkn
    have hat := NowR_at hN hkn
    have hf := skR_ok hok
    have hsz := skR_sz hok
    have hz3 := OkK_sz hok
    have hh : ¬ hasS S (k : Int) = false := by unfold hasS; rw [decide_eq_true hz2]; decide
    refine V_iload_n XC 2 rfl dX8_thin_10 rfl ?_
    refine V_iconst XC dX8_thin_11 ?_
    refine V_sipush XC dX8_thin_12 (by decide) ?_
    refine V_callS (rest := _) XC (c_X8_in l D kI kC _ _ _ (by first | assumption | (unfold IR; omega)) (by first | assumption | (unfold IR; omega)) (by first | assumption | (unfold IR; omega))) gX8_thin_X8_in rfl kmX8_in ⟨⟨Nat.le_of_ble_eq_true rfl, Nat.le_of_ble_eq_true rfl⟩, Nat.le_of_ble_eq_true rfl, Nat.le_of_ble_eq_true rfl⟩ ⟨rfl, rfl⟩ rfl rfl (Nat.le_of_ble_eq_true rfl) [] rfl rfl (fun _ => rfl) dX8_thin_15 (kR_of rfl (fun r15 hq15 => ?_))
    subst hq15
    refine V_bif_ne XC 24 dX8_thin_18 (by decide) (fun h18 => ?_) (fun h18 => ?_)
    · skip
      have hd2 := of_decide_eq_true h18
      have hcc : ¬ inR d 1 500 = false := by unfold inR; rw [h18]; decide
      have hsd := sqb (x := d) (B := 500) (by omega) (by omega)
      have hdd : 1 ≤ d * d := by
        have := Int.mul_le_mul (show (1 : Int) ≤ d by omega) (show (1 : Int) ≤ d by omega) (by omega) (by omega)
        omega
      refine V_aload_n XC 0 rfl dX8_thin_24 rfl ?_
      refine V_iload_n XC 1 rfl dX8_thin_25 rfl ?_
      refine V_callV (rest := _) (q0 := 0) XC (c_X8_take l D kI kC _ _ _ _ _ _ _ _ _ _ _ _ _ _ _ k (by omega) hok) gX8_thin_X8_take rfl kmX8_take ⟨⟨Nat.le_of_ble_eq_true rfl, Nat.le_of_ble_eq_true rfl⟩, Nat.le_of_ble_eq_true rfl, Nat.le_of_ble_eq_true rfl⟩ ⟨rfl, rfl⟩ rfl rfl (Nat.le_of_ble_eq_true rfl) [0, 1, 4, 5] rfl rfl (fun _ => rfl) rfl rfl dX8_thin_26 (kV_of (fun u26 hq26 => ?_))
      obtain ⟨PX26, PY26⟩ := u26
      dsimp only [putW, List.set, Option.toList, List.cons_append, List.nil_append, padO, mdO, shW, trW, txW, hiW, liW, woW, taW]
      try dsimp only at hq26
      have hP26 := hq26
      have hxc := fun i hi => OkK_xy (t := skR G k) (i := i) hok hi
      refine V_iconst XC dX8_thin_29 ?_
      refine V_istore_n XC 3 rfl dX8_thin_30 (by decide) ?_
      dsimp only [List.set]
      refine V_iconst XC dX8_thin_31 ?_
      refine V_istore XC dX8_thin_32 (by decide) ?_
      dsimp only [List.set]
      refine V_loop (σ := Nat × Nat × (Nat → Int) × (Nat → Int)) (fun u => szk (skR G k) - u.1) (fun u => 1 ≤ u.1 ∧ u.1 ≤ szk (skR G k) ∧ 1 ≤ u.2.1 ∧ u.2.1 ≤ u.1 ∧ (u.1 + 1 ≤ szk (skR G k) ∨ u.1 = 1 → ptsOf u.2.1 u.2.2.1 u.2.2.2 = thK (d * d) (px (skR G k)) (py (skR G k)) (u.1 - 1)) ∧ (u.1 = szk (skR G k) → dd (ptsOf u.2.1 u.2.2.1 u.2.2.2) = thinC (szk (skR G k)) (px (skR G k)) (py (skR G k)) (d * d)) ∧ (∀ i, u.1 ≤ i → i < szk (skR G k) → u.2.2.1 i = px (skR G k) i ∧ u.2.2.2 i = py (skR G k) i) ∧ ∀ i, i < u.2.1 → 0 ≤ u.2.2.1 i ∧ u.2.2.1 i ≤ 1000 ∧ 0 ≤ u.2.2.2 i ∧ u.2.2.2 i ≤ 1000) (fun u => [some (.ref (b 0)), some (.int (iI (k : Int))), some (.int (iI d)), some (.int (iI (u.2.1 : Int))), some (.int (iI (u.1 : Int))), none]) (fun u => (mdO b gp (ke : Int) (un : Int) (bu : Int) (ty : Int) pc gd rd (szk (skR G k) : Int) ln wd :: [(b 1, IA kI 801 G), (b 2, IA kI 4806 H), (b 9, IA kI 801 X), (b 10, IA kI 24 u.2.2.1), (b 11, IA kI 24 u.2.2.2)])) (1, 1, PX26, PY26) ?_ rfl rfl (fun u hJ ih34 => ?_)
      · dsimp only
        have e0 := hP26 0 (by omega)
        refine ⟨Nat.le_refl _, by omega, Nat.le_refl _, Nat.le_refl _, fun _ => ?_, fun e => ?_, fun i _ hi => hP26 i hi, fun i hi => ?_⟩
        · show [(PX26 0, PY26 0)] = [(px (skR G k) 0, py (skR G k) 0)]
          rw [e0.1, e0.2]
        · rw [dd_id (NR_iff.mpr (fun i hi => absurd hi (by omega)))]
          unfold thinC
          rw [if_pos (by omega), ← e]
          exact ptsOf_congr (fun i hi => hP26 i (by omega))
        · rw [(hP26 i (by omega)).1, (hP26 i (by omega)).2]
          exact hxc i (by omega)
      obtain ⟨p, n, X2, Y2⟩ := u
      try dsimp only at hJ ih34 ⊢
      try dsimp only [List.cons_append, List.nil_append, padO, mdO, shW, trW, txW, hiW, liW, woW, taW]
      obtain ⟨hp1, hpm, hn1, hnp, hT, hF, hE, hK⟩ := hJ
      refine V_iload XC dX8_thin_34 rfl ?_
      refine V_aload_n XC 0 rfl dX8_thin_36 rfl ?_
      refine V_get XC 17 flX8_thin_167 0 rfl rfl dX8_thin_37 ?_
      refine V_icmp_ge XC 142 dX8_thin_40 (by decide) ⟨by omega, by omega⟩ ⟨by omega, by omega⟩ (fun h40 => ?_) (fun h40 => ?_)
      · skip
        have hTC := hF (by omega)
        refine V_aload_n XC 0 rfl dX8_thin_142 rfl ?_
        refine V_iload_n XC 3 rfl dX8_thin_143 rfl ?_
        refine V_putI XC 17 flX8_thin_167 fpX8 pdX8_17 rfl 0 rfl (Nat.le_of_ble_eq_true rfl) dX8_thin_144 ?_
        dsimp only [List.set]
        refine V_aload_n XC 0 rfl dX8_thin_147 rfl ?_
        refine V_callV (rest := _) (q0 := 0) XC (c_X8_dropSame l D kI kC _ _ _ _ _ _ _ _ _ _ _ _ _ _ (by omega) hK) gX8_thin_X8_dropSame rfl kmX8_dropSame ⟨⟨Nat.le_of_ble_eq_true rfl, Nat.le_of_ble_eq_true rfl⟩, Nat.le_of_ble_eq_true rfl, Nat.le_of_ble_eq_true rfl⟩ ⟨rfl, rfl⟩ rfl rfl (Nat.le_of_ble_eq_true rfl) [0, 4, 5] rfl rfl (fun _ => rfl) rfl rfl dX8_thin_148 (kV_of (fun u148 hq148 => ?_))
        obtain ⟨po148, PX148, PY148⟩ := u148
        dsimp only [putW, List.set, Option.toList, List.cons_append, List.nil_append, padO, mdO, shW, trW, txW, hiW, liW, woW, taW]
        try dsimp only at hq148
        obtain ⟨hpo148, hD148⟩ := hq148
        have hok2 : OkP (ptsOf po148 PX148 PY148) := by rw [hD148]; exact OkP_dd hn1 (by omega) hK
        refine V_aload_n XC 0 rfl dX8_thin_151 rfl ?_
        refine V_iload_n XC 1 rfl dX8_thin_152 rfl ?_
        refine V_callV (rest := _) (q0 := 0) XC (c_X8_putBack l D kI kC _ _ _ _ _ _ _ _ _ _ _ _ _ _ _ _ _ _ _ _ _ h3 hN hH k hkn hok2) gX8_thin_X8_putBack rfl kmX8_putBack ⟨⟨Nat.le_of_ble_eq_true rfl, Nat.le_of_ble_eq_true rfl⟩, Nat.le_of_ble_eq_true rfl, Nat.le_of_ble_eq_true rfl⟩ ⟨rfl, rfl⟩ rfl rfl (Nat.le_of_ble_eq_true rfl) [0, 1, 2, 3, 4, 5] rfl rfl (fun _ => rfl) rfl rfl dX8_thin_153 (kI_of (fun r153 u153 hq153 => ?_))
        obtain ⟨G5, k5, u5, H5, X5⟩ := u153
        dsimp only [putW, List.set, Option.toList, List.cons_append, List.nil_append, padO, mdO, shW, trW, txW, hiW, liW, woW, taW]
        try dsimp only at hq153
        have h51x := hq153
        refine V_iret XC (G5, k5, u5, H5, X5, PX148, PY148, _) hrV rfl dX8_thin_156 ?_
        have hp : thinS S (k : Int) d = repS S k (ptsOf po148 PX148 PY148) := by
          unfold thinS
          rw [if_neg hh, if_neg hcc, Int.toNat_natCast, hat, hD148, hTC]
        rw [hp]
        exact h51x
      have hT' := hT (Or.inl (by omega))
      have he := hE p (Nat.le_refl p) (by omega)
      have hci := hxc p (by omega)
      have hck := hK (n - 1) (by omega)
      refine V_iload XC dX8_thin_43 rfl ?_
      refine V_iconst XC dX8_thin_45 ?_
      refine V_iadd XC dX8_thin_46 ?_
      refine V_aload_n XC 0 rfl dX8_thin_47 rfl ?_
      refine V_get XC 17 flX8_thin_167 0 rfl rfl dX8_thin_48 ?_
      refine V_icmp_ge XC 99 dX8_thin_51 (by decide) ⟨by omega, by omega⟩ ⟨by omega, by omega⟩ (fun h51 => ?_) (fun h51 => ?_)
      · skip
        refine V_iconst XC dX8_thin_99 ?_
        refine V_istore XC dX8_thin_100 (by decide) ?_
        dsimp only [List.set]
        refine V_iload XC dX8_thin_102 rfl ?_
        refine V_if_ne XC 136 dX8_thin_104 (by decide) ⟨by decide, by decide⟩ (fun h104 => absurd h104 (by decide)) (fun h104 => ?_)
        refine V_aload_n XC 0 rfl dX8_thin_107 rfl ?_
        refine V_get XC 18 flX8_thin_42 0 rfl rfl dX8_thin_108 ?_
        refine V_iload_n XC 3 rfl dX8_thin_111 rfl ?_
        refine V_aload_n XC 0 rfl dX8_thin_112 rfl ?_
        refine V_get XC 18 flX8_thin_42 0 rfl rfl dX8_thin_113 ?_
        refine V_iload XC dX8_thin_116 rfl ?_
        refine V_iald XC (p) 4 rfl (by omega) (by omega) (by decide) dX8_thin_118 ?_
        refine V_iast XC (n) 4 rfl (by omega) (by omega) (by decide) dX8_thin_119 ?_
        dsimp only [List.set]
        refine V_aload_n XC 0 rfl dX8_thin_120 rfl ?_
        refine V_get XC 19 flX8_thin_45 0 rfl rfl dX8_thin_121 ?_
        refine V_iload_n XC 3 rfl dX8_thin_124 rfl ?_
        refine V_aload_n XC 0 rfl dX8_thin_125 rfl ?_
        refine V_get XC 19 flX8_thin_45 0 rfl rfl dX8_thin_126 ?_
        refine V_iload XC dX8_thin_129 rfl ?_
        refine V_iald XC (p) 5 rfl (by omega) (by omega) (by decide) dX8_thin_131 ?_
        refine V_iast XC (n) 5 rfl (by omega) (by omega) (by decide) dX8_thin_132 ?_
        dsimp only [List.set]
        refine V_iinc XC dX8_thin_133 rfl (by decide) ?_
        dsimp only [List.set]
        refine V_iinc XC dX8_thin_136 rfl (by decide) ?_
        dsimp only [List.set]
        refine V_goto XC 34 dX8_thin_139 (by decide) ?_
        refine V_kill 5 ?_
        dsimp only [List.set]
        first
        | (have hlast : p + 1 = szk (skR G k) := by omega
           have hN9 : NR (ptsOf n X2 Y2) := by rw [hT']; exact NR_thK _
           refine ih34 (p + 1, n + 1, upz X2 n (X2 p), upz Y2 n (Y2 p)) ⟨by (try dsimp only); omega, by (try dsimp only); omega, by (try dsimp only); omega, by (try dsimp only); omega, fun z => absurd z (by (try dsimp only); omega), fun _ => ?_, fun i hi1 hi2 => ?_, fun i hi => ?_⟩ (by (try dsimp only); omega)
           · dsimp only
             rw [ptsOf_s, upz_s, upz_s, dd_app, show ptsOf n (upz X2 n (X2 p)) (upz Y2 n (Y2 p)) = ptsOf n X2 Y2 from ptsOf_congr (fun i hi => ⟨upz_n (by omega), upz_n (by omega)⟩), dd_id hN9, he.1, he.2, hT']
             unfold thinC
             rw [if_neg (by omega), show szk (skR G k) - 2 = p - 1 by omega, show szk (skR G k) - 1 = p by omega]
           · dsimp only at hi1 ⊢
             rw [upz_n (by omega), upz_n (by omega)]
             exact hE i (by omega) hi2
           · dsimp only at hi ⊢
             by_cases q : i = n
             · subst q; rw [upz_s, upz_s, he.1, he.2]; exact hci
             · rw [upz_n q, upz_n q]; exact hK i (by omega))
        | (have hfar : farP (d * d) (ptsOf n X2 Y2) (X2 p, Y2 p) = true := by rw [farP_of (by omega)]; exact decide_eq_true (by dsimp only; omega)
           have hL : isL n X2 Y2 (X2 p) (Y2 p) = false := by
             unfold isL
             refine decide_eq_false (fun z => ?_)
             have e1 : X2 p - X2 (n - 1) = 0 := by omega
             have e2 : Y2 p - Y2 (n - 1) = 0 := by omega
             rw [e1, e2] at h92
             omega
           refine ih34 (p + 1, n + 1, upz X2 n (X2 p), upz Y2 n (Y2 p)) ⟨by (try dsimp only); omega, by (try dsimp only); omega, by (try dsimp only); omega, by (try dsimp only); omega, fun _ => ?_, fun z => absurd z (by (try dsimp only); omega), fun i hi1 hi2 => ?_, fun i hi => ?_⟩ (by (try dsimp only); omega)
           · dsimp only
             rw [Nat.add_sub_cancel, thK_p hp1, ← hT', ← he.1, ← he.2]
             unfold thS
             rw [if_pos hfar]
             exact (addP_no hL).symm
           · dsimp only at hi1 ⊢
             rw [upz_n (by omega), upz_n (by omega)]
             exact hE i (by omega) hi2
           · dsimp only at hi ⊢
             by_cases q : i = n
             · subst q; rw [upz_s, upz_s, he.1, he.2]; exact hci
             · rw [upz_n q, upz_n q]; exact hK i (by omega))
        | (have hfar : farP (d * d) (ptsOf n X2 Y2) (X2 p, Y2 p) = false := by rw [farP_of (by omega)]; exact decide_eq_false (by dsimp only; omega)
           refine ih34 (p + 1, n, X2, Y2) ⟨by (try dsimp only); omega, by (try dsimp only); omega, hn1, by (try dsimp only); omega, fun _ => ?_, fun z => absurd z (by (try dsimp only); omega), fun i hi1 hi2 => hE i (by (try dsimp only at hi1); omega) hi2, hK⟩ (by (try dsimp only); omega)
           dsimp only
           rw [Nat.add_sub_cancel, thK_p hp1, ← hT', ← he.1, ← he.2]
           unfold thS
           rw [if_neg (by rw [hfar]; decide)])
      refine V_aload_n XC 0 rfl dX8_thin_54 rfl ?_
      refine V_get XC 18 flX8_thin_42 0 rfl rfl dX8_thin_55 ?_
      refine V_iload XC dX8_thin_58 rfl ?_
      refine V_iald XC (p) 4 rfl (by omega) (by omega) (by decide) dX8_thin_60 ?_
      refine V_aload_n XC 0 rfl dX8_thin_61 rfl ?_
      refine V_get XC 18 flX8_thin_42 0 rfl rfl dX8_thin_62 ?_
      refine V_iload_n XC 3 rfl dX8_thin_65 rfl ?_
      refine V_iconst XC dX8_thin_66 ?_
      refine V_isub XC dX8_thin_67 ?_
      refine V_iald XC (n - 1) 4 rfl (by omega) (by omega) (by decide) dX8_thin_68 ?_
      refine V_isub XC dX8_thin_69 ?_
      refine V_aload_n XC 0 rfl dX8_thin_70 rfl ?_
      refine V_get XC 19 flX8_thin_45 0 rfl rfl dX8_thin_71 ?_
      refine V_iload XC dX8_thin_74 rfl ?_
      refine V_iald XC (p) 5 rfl (by omega) (by omega) (by decide) dX8_thin_76 ?_
      refine V_aload_n XC 0 rfl dX8_thin_77 rfl ?_
      refine V_get XC 19 flX8_thin_45 0 rfl rfl dX8_thin_78 ?_
      refine V_iload_n XC 3 rfl dX8_thin_81 rfl ?_
      refine V_iconst XC dX8_thin_82 ?_
      refine V_isub XC dX8_thin_83 ?_
      refine V_iald XC (n - 1) 5 rfl (by omega) (by omega) (by decide) dX8_thin_84 ?_
      refine V_isub XC dX8_thin_85 ?_
      refine V_callS (rest := _) XC (c_X8_square l D kI kC _ _) gX8_thin_X8_square rfl kmX8_square ⟨⟨Nat.le_of_ble_eq_true rfl, Nat.le_of_ble_eq_true rfl⟩, Nat.le_of_ble_eq_true rfl, Nat.le_of_ble_eq_true rfl⟩ ⟨rfl, rfl⟩ rfl rfl (Nat.le_of_ble_eq_true rfl) [] rfl rfl (fun _ => rfl) dX8_thin_86 (kR_of rfl (fun r86 hq86 => ?_))
      subst hq86
      refine V_iload_n XC 2 rfl dX8_thin_89 rfl ?_
      refine V_iload_n XC 2 rfl dX8_thin_90 rfl ?_
      refine V_imul XC dX8_thin_91 ?_
      have q1 := sqb (x := X2 p - X2 (n - 1)) (B := 1000) (by omega) (by omega)
      have q2 := sqb (x := Y2 p - Y2 (n - 1)) (B := 1000) (by omega) (by omega)
      refine V_icmp_ge XC 99 dX8_thin_92 (by decide) ⟨by omega, by omega⟩ ⟨by omega, by omega⟩ (fun h92 => ?_) (fun h92 => ?_)
      · skip
        refine V_iconst XC dX8_thin_99 ?_
        refine V_istore XC dX8_thin_100 (by decide) ?_
        dsimp only [List.set]
        refine V_iload XC dX8_thin_102 rfl ?_
        refine V_if_ne XC 136 dX8_thin_104 (by decide) ⟨by decide, by decide⟩ (fun h104 => absurd h104 (by decide)) (fun h104 => ?_)
        refine V_aload_n XC 0 rfl dX8_thin_107 rfl ?_
        refine V_get XC 18 flX8_thin_42 0 rfl rfl dX8_thin_108 ?_
        refine V_iload_n XC 3 rfl dX8_thin_111 rfl ?_
        refine V_aload_n XC 0 rfl dX8_thin_112 rfl ?_
        refine V_get XC 18 flX8_thin_42 0 rfl rfl dX8_thin_113 ?_
        refine V_iload XC dX8_thin_116 rfl ?_
        refine V_iald XC (p) 4 rfl (by omega) (by omega) (by decide) dX8_thin_118 ?_
        refine V_iast XC (n) 4 rfl (by omega) (by omega) (by decide) dX8_thin_119 ?_
        dsimp only [List.set]
        refine V_aload_n XC 0 rfl dX8_thin_120 rfl ?_
        refine V_get XC 19 flX8_thin_45 0 rfl rfl dX8_thin_121 ?_
        refine V_iload_n XC 3 rfl dX8_thin_124 rfl ?_
        refine V_aload_n XC 0 rfl dX8_thin_125 rfl ?_
        refine V_get XC 19 flX8_thin_45 0 rfl rfl dX8_thin_126 ?_
        refine V_iload XC dX8_thin_129 rfl ?_
        refine V_iald XC (p) 5 rfl (by omega) (by omega) (by decide) dX8_thin_131 ?_
        refine V_iast XC (n) 5 rfl (by omega) (by omega) (by decide) dX8_thin_132 ?_
        dsimp only [List.set]
        refine V_iinc XC dX8_thin_133 rfl (by decide) ?_
        dsimp only [List.set]
        refine V_iinc XC dX8_thin_136 rfl (by decide) ?_
        dsimp only [List.set]
        refine V_goto XC 34 dX8_thin_139 (by decide) ?_
        refine V_kill 5 ?_
        dsimp only [List.set]
        first
        | (have hlast : p + 1 = szk (skR G k) := by omega
           have hN9 : NR (ptsOf n X2 Y2) := by rw [hT']; exact NR_thK _
           refine ih34 (p + 1, n + 1, upz X2 n (X2 p), upz Y2 n (Y2 p)) ⟨by (try dsimp only); omega, by (try dsimp only); omega, by (try dsimp only); omega, by (try dsimp only); omega, fun z => absurd z (by (try dsimp only); omega), fun _ => ?_, fun i hi1 hi2 => ?_, fun i hi => ?_⟩ (by (try dsimp only); omega)
           · dsimp only
             rw [ptsOf_s, upz_s, upz_s, dd_app, show ptsOf n (upz X2 n (X2 p)) (upz Y2 n (Y2 p)) = ptsOf n X2 Y2 from ptsOf_congr (fun i hi => ⟨upz_n (by omega), upz_n (by omega)⟩), dd_id hN9, he.1, he.2, hT']
             unfold thinC
             rw [if_neg (by omega), show szk (skR G k) - 2 = p - 1 by omega, show szk (skR G k) - 1 = p by omega]
           · dsimp only at hi1 ⊢
             rw [upz_n (by omega), upz_n (by omega)]
             exact hE i (by omega) hi2
           · dsimp only at hi ⊢
             by_cases q : i = n
             · subst q; rw [upz_s, upz_s, he.1, he.2]; exact hci
             · rw [upz_n q, upz_n q]; exact hK i (by omega))
        | (have hfar : farP (d * d) (ptsOf n X2 Y2) (X2 p, Y2 p) = true := by rw [farP_of (by omega)]; exact decide_eq_true (by dsimp only; omega)
           have hL : isL n X2 Y2 (X2 p) (Y2 p) = false := by
             unfold isL
             refine decide_eq_false (fun z => ?_)
             have e1 : X2 p - X2 (n - 1) = 0 := by omega
             have e2 : Y2 p - Y2 (n - 1) = 0 := by omega
             rw [e1, e2] at h92
             omega
           refine ih34 (p + 1, n + 1, upz X2 n (X2 p), upz Y2 n (Y2 p)) ⟨by (try dsimp only); omega, by (try dsimp only); omega, by (try dsimp only); omega, by (try dsimp only); omega, fun _ => ?_, fun z => absurd z (by (try dsimp only); omega), fun i hi1 hi2 => ?_, fun i hi => ?_⟩ (by (try dsimp only); omega)
           · dsimp only
             rw [Nat.add_sub_cancel, thK_p hp1, ← hT', ← he.1, ← he.2]
             unfold thS
             rw [if_pos hfar]
             exact (addP_no hL).symm
           · dsimp only at hi1 ⊢
             rw [upz_n (by omega), upz_n (by omega)]
             exact hE i (by omega) hi2
           · dsimp only at hi ⊢
             by_cases q : i = n
             · subst q; rw [upz_s, upz_s, he.1, he.2]; exact hci
             · rw [upz_n q, upz_n q]; exact hK i (by omega))
        | (have hfar : farP (d * d) (ptsOf n X2 Y2) (X2 p, Y2 p) = false := by rw [farP_of (by omega)]; exact decide_eq_false (by dsimp only; omega)
           refine ih34 (p + 1, n, X2, Y2) ⟨by (try dsimp only); omega, by (try dsimp only); omega, hn1, by (try dsimp only); omega, fun _ => ?_, fun z => absurd z (by (try dsimp only); omega), fun i hi1 hi2 => hE i (by (try dsimp only at hi1); omega) hi2, hK⟩ (by (try dsimp only); omega)
           dsimp only
           rw [Nat.add_sub_cancel, thK_p hp1, ← hT', ← he.1, ← he.2]
           unfold thS
           rw [if_neg (by rw [hfar]; decide)])
      refine V_iconst XC dX8_thin_95 ?_
      refine V_goto XC 100 dX8_thin_96 (by decide) ?_
      refine V_istore XC dX8_thin_100 (by decide) ?_
      dsimp only [List.set]
      refine V_iload XC dX8_thin_102 rfl ?_
      refine V_if_ne XC 136 dX8_thin_104 (by decide) ⟨by decide, by decide⟩ (fun h104 => ?_) (fun h104 => absurd h104 (by decide))
      refine V_iinc XC dX8_thin_136 rfl (by decide) ?_
      dsimp only [List.set]
      refine V_goto XC 34 dX8_thin_139 (by decide) ?_
      refine V_kill 5 ?_
      dsimp only [List.set]
      first
      | (have hlast : p + 1 = szk (skR G k) := by omega
         have hN9 : NR (ptsOf n X2 Y2) := by rw [hT']; exact NR_thK _
         refine ih34 (p + 1, n + 1, upz X2 n (X2 p), upz Y2 n (Y2 p)) ⟨by (try dsimp only); omega, by (try dsimp only); omega, by (try dsimp only); omega, by (try dsimp only); omega, fun z => absurd z (by (try dsimp only); omega), fun _ => ?_, fun i hi1 hi2 => ?_, fun i hi => ?_⟩ (by (try dsimp only); omega)
         · dsimp only
           rw [ptsOf_s, upz_s, upz_s, dd_app, show ptsOf n (upz X2 n (X2 p)) (upz Y2 n (Y2 p)) = ptsOf n X2 Y2 from ptsOf_congr (fun i hi => ⟨upz_n (by omega), upz_n (by omega)⟩), dd_id hN9, he.1, he.2, hT']
           unfold thinC
           rw [if_neg (by omega), show szk (skR G k) - 2 = p - 1 by omega, show szk (skR G k) - 1 = p by omega]
         · dsimp only at hi1 ⊢
           rw [upz_n (by omega), upz_n (by omega)]
           exact hE i (by omega) hi2
         · dsimp only at hi ⊢
           by_cases q : i = n
           · subst q; rw [upz_s, upz_s, he.1, he.2]; exact hci
           · rw [upz_n q, upz_n q]; exact hK i (by omega))
      | (have hfar : farP (d * d) (ptsOf n X2 Y2) (X2 p, Y2 p) = true := by rw [farP_of (by omega)]; exact decide_eq_true (by dsimp only; omega)
         have hL : isL n X2 Y2 (X2 p) (Y2 p) = false := by
           unfold isL
           refine decide_eq_false (fun z => ?_)
           have e1 : X2 p - X2 (n - 1) = 0 := by omega
           have e2 : Y2 p - Y2 (n - 1) = 0 := by omega
           rw [e1, e2] at h92
           omega
         refine ih34 (p + 1, n + 1, upz X2 n (X2 p), upz Y2 n (Y2 p)) ⟨by (try dsimp only); omega, by (try dsimp only); omega, by (try dsimp only); omega, by (try dsimp only); omega, fun _ => ?_, fun z => absurd z (by (try dsimp only); omega), fun i hi1 hi2 => ?_, fun i hi => ?_⟩ (by (try dsimp only); omega)
         · dsimp only
           rw [Nat.add_sub_cancel, thK_p hp1, ← hT', ← he.1, ← he.2]
           unfold thS
           rw [if_pos hfar]
           exact (addP_no hL).symm
         · dsimp only at hi1 ⊢
           rw [upz_n (by omega), upz_n (by omega)]
           exact hE i (by omega) hi2
         · dsimp only at hi ⊢
           by_cases q : i = n
           · subst q; rw [upz_s, upz_s, he.1, he.2]; exact hci
           · rw [upz_n q, upz_n q]; exact hK i (by omega))
      | (have hfar : farP (d * d) (ptsOf n X2 Y2) (X2 p, Y2 p) = false := by rw [farP_of (by omega)]; exact decide_eq_false (by dsimp only; omega)
         refine ih34 (p + 1, n, X2, Y2) ⟨by (try dsimp only); omega, by (try dsimp only); omega, hn1, by (try dsimp only); omega, fun _ => ?_, fun z => absurd z (by (try dsimp only); omega), fun i hi1 hi2 => hE i (by (try dsimp only at hi1); omega) hi2, hK⟩ (by (try dsimp only); omega)
         dsimp only
         rw [Nat.add_sub_cancel, thK_p hp1, ← hT', ← he.1, ← he.2]
         unfold thS
         rw [if_neg (by rw [hfar]; decide)])
    have hp : thinS S (k : Int) d = (-2, none) := by
      unfold thinS
      rw [if_neg hh]
      exact if_pos h18
    refine V_bipush XC dX8_thin_21 (by decide) ?_
    refine V_iret XC (G, ke, un, H, X, PX, PY, po) hrV rfl dX8_thin_23 ?_
    rw [hp]
    exact ⟨rfl, hN, hH, h3⟩
  have hp : thinS S z d = (-1, none) := if_pos (by have h9 := h5; simp at h9; unfold hasS; exact decide_eq_false (by omega))
  refine V_iconst XC dX8_thin_8 ?_
  refine V_iret XC (G, ke, un, H, X, PX, PY, po) hrV rfl dX8_thin_9 ?_
  rw [hp]
  exact ⟨rfl, hN, hH, h3⟩

end REFG
