/-! the reference: a stroke, reading, a line -/
section REFP

set_option maxRecDepth 100000 in
set_option maxHeartbeats 4000000 in
theorem c_X8_stroke (l : Launch) (D : va_G) (kI kC : ClassId) (b : Nat → Nat) (gp : Int) (ke : Nat) (un : Nat) (bu : Nat) (ty : Nat) (pc : Int) (gd : Bool) (rd : Int) (po : Int) (ln : Int) (wd : Int) (G : Nat → Int) (TO : Nat → Int) (BO : Nat → Int) (BE : Nat → Int) (RK : Nat → Int) (WO : Nat → Int) (OD : Nat → Int) (S : List Stk) (hS : OkS S) (hN : NowR G S) (hg : 0 ≤ gp ∧ gp ≤ 500) (z what : Int) (hz : IR z) (hw : IR what) : Con l yX8_stroke wsX8_stroke { frames := 5, cells := 0, slots := 0, locals := 120 } D kI kC [.ref (b 0), .int (iI z), .int (iI what)] (mdO b gp (ke : Int) (un : Int) (bu : Int) (ty : Int) pc gd rd po ln wd :: [(b 1, IA kI 801 G), (b 14, IA kI 16 TO), (b 15, IA kI 16 BO), (b 16, IA kI 16 BE), (b 17, IA kI 16 RK), (b 18, IA kI 16 WO), (b 19, IA kI 16 OD)]) (σ := Int × (Nat → Int) × (Nat → Int) × (Nat → Int) × (Nat → Int) × Int × (Nat → Int) × (Nat → Int)) (qI (fun r u => r = strokeS S gp z what)) (fun u => (mdO b gp (ke : Int) (un : Int) (bu : Int) (ty : Int) pc gd rd po u.1 u.2.2.2.2.2.1 :: [(b 1, IA kI 801 G), (b 14, IA kI 16 u.2.1), (b 15, IA kI 16 u.2.2.1), (b 16, IA kI 16 u.2.2.2.1), (b 17, IA kI 16 u.2.2.2.2.1), (b 18, IA kI 16 u.2.2.2.2.2.2.1), (b 19, IA kI 16 u.2.2.2.2.2.2.2)])) := by
  refine Con.of (cc := cX8_stroke) (maxL := 3) (ret := (some .int)) (by decide +kernel) rfl (List.forall_mem_cons.mpr ⟨rfl, List.forall_mem_cons.mpr ⟨rfl, List.forall_mem_cons.mpr ⟨rfl, fun _ h => absurd h List.not_mem_nil⟩⟩⟩) (Nat.le_of_ble_eq_true rfl) ?_
  intro pV eV sV mV bV tV cV AV XC hrV
  have XC : Cx pV _ sV mV _ tV cV cX8_stroke 3 RX8 wsX8_stroke AV D kI kC := XC
  change VV _ _ _ _ _ _ _ _ _ _ _ _ _ _ _ _ _ [some (.ref (b 0)), some (.int (iI z)), some (.int (iI what))] _ _
  dsimp only [mdO, List.cons_append, List.nil_append]
  have hn16 : S.length ≤ 16 := hS.1
  have hN0 : G 0 = (S.length : Int) := hN.1
  refine V_aload_n XC 0 rfl dX8_stroke_0 rfl ?_
  refine V_iload_n XC 1 rfl dX8_stroke_1 rfl ?_
  refine V_callV (rest := _) (q0 := 0) XC (c_X8_noStroke l D kI kC _ _ _ _ _ _ _ _ _ _ _ _ _ S.length hn16 hN0 _ hz) gX8_stroke_X8_noStroke rfl kmX8_noStroke ⟨⟨Nat.le_of_ble_eq_true rfl, Nat.le_of_ble_eq_true rfl⟩, Nat.le_of_ble_eq_true rfl, Nat.le_of_ble_eq_true rfl⟩ ⟨rfl, rfl⟩ rfl rfl (Nat.le_of_ble_eq_true rfl) [0, 1] rfl rfl (fun _ => rfl) rfl rfl dX8_stroke_2 (kR_of rfl (fun r2 hq2 => ?_))
  subst hq2
  refine V_bif_eq XC 10 dX8_stroke_5 (by decide) (fun h5 => ?_) (fun h5 => ?_)
  · skip
    have hz5 : 0 ≤ z ∧ z < (S.length : Int) := by simpa using h5
    obtain ⟨k, rfl⟩ : ∃ k : Nat, z = (k : Int) := ⟨z.toNat, by omega⟩
    have hknk : k < S.length := by omega
    have hokk := NowR_ok hN hS hknk
    have hatk := NowR_at hN hknk
    have hfk := skR_ok hokk
    have hszk := skR_sz hokk
    have hzzk := OkK_sz hokk
    have hxyk := fun i hi => skR_xy (F := G) (k := k) (i := i) hi
    have hxck := fun i hi => OkK_xy (t := skR G k) (i := i) hokk hi
    have hbk : hasS S (k : Int) = true := by unfold hasS; rw [decide_eq_true hz5]
    have hh : ¬ hasS S (k : Int) = false := by rw [hbk]; decide
    refine V_aload_n XC 0 rfl dX8_stroke_10 rfl ?_
    refine V_callV (rest := _) (q0 := 0) XC (c_X8_layOut l D kI kC _ _ _ _ _ _ _ _ _ _ _ _ _ _ _ _ _ _ _ _ (by assumption) (by assumption) (by omega)) gX8_stroke_X8_layOut rfl kmX8_layOut ⟨⟨Nat.le_of_ble_eq_true rfl, Nat.le_of_ble_eq_true rfl⟩, Nat.le_of_ble_eq_true rfl, Nat.le_of_ble_eq_true rfl⟩ ⟨rfl, rfl⟩ rfl rfl (Nat.le_of_ble_eq_true rfl) [0, 1, 2, 3, 4, 5, 6, 7] rfl rfl (fun _ => rfl) rfl rfl dX8_stroke_11 (kV_of (fun u11 hq11 => ?_))
    obtain ⟨m11, TO11, BO11, BE11, RK11, w11, WO11, OD11⟩ := u11
    dsimp only [putW, List.set, Option.toList, List.cons_append, List.nil_append, padO, mdO, shW, trW, txW, hiW, liW, woW, taW]
    try dsimp only at hq11
    have hL11 := hq11
    obtain ⟨rfl, hbE, hrE, hrk9, rfl, hWO9, hOD9⟩ := hL11
    refine V_iload_n XC 2 rfl dX8_stroke_14 rfl ?_
    rcases (show (what < 0 ∨ 9 < what) ∨ what = 0 ∨ what = 1 ∨ what = 2 ∨ what = 3 ∨ what = 4 ∨ what = 5 ∨ what = 6 ∨ what = 7 ∨ what = 8 ∨ what = 9 from by omega) with h15 | h15 | h15 | h15 | h15 | h15 | h15 | h15 | h15 | h15 | h15
    · skip
      refine V_tabOut XC 141 (by first | assumption | (unfold IR; omega)) dX8_stroke_15 h15 (by decide) ?_
      refine V_bipush XC dX8_stroke_141 (by decide) ?_
      refine V_iret XC (((mS S : Nat) : Int), TO11, BO11, BE11, RK11, (((WD S gp).1 : Nat) : Int), WO11, OD11) hrV rfl dX8_stroke_143 ?_
      unfold strokeS
      rw [if_neg hh, if_neg (by omega), if_neg (by omega), if_neg (by omega), if_neg (by omega), if_neg (by omega), if_neg (by omega), if_neg (by omega), if_neg (by omega), if_neg (by omega), if_neg (by omega)]
    · skip
      refine V_tabIn XC 68 0 h15 dX8_stroke_15 (by unfold IR; decide) (by decide) (by decide) (by rfl) (by decide) ?_
      refine V_aload_n XC 0 rfl dX8_stroke_68 rfl ?_
      refine V_get XC 0 flX8_stroke_7 0 rfl rfl dX8_stroke_69 ?_
      refine V_bipush XC dX8_stroke_72 (by decide) ?_
      refine V_iload_n XC 1 rfl dX8_stroke_74 rfl ?_
      refine V_iadd XC dX8_stroke_75 ?_
      refine V_iald XC (17 + k) 1 rfl (by omega) (by omega) (by decide) dX8_stroke_76 ?_
      refine V_iret XC (((mS S : Nat) : Int), TO11, BO11, BE11, RK11, (((WD S gp).1 : Nat) : Int), WO11, OD11) hrV rfl dX8_stroke_77 ?_
      subst h15
      unfold strokeS
      rw [if_neg hh, Int.toNat_natCast, if_pos rfl]
      rw [hatk]
      rfl
    · skip
      refine V_tabIn XC 78 1 h15 dX8_stroke_15 (by unfold IR; decide) (by decide) (by decide) (by rfl) (by decide) ?_
      refine V_aload_n XC 0 rfl dX8_stroke_78 rfl ?_
      refine V_iload_n XC 1 rfl dX8_stroke_79 rfl ?_
      refine V_callV (rest := _) (q0 := 0) XC (c_X8_size l D kI kC _ _ _ _ _ _ _ _ _ _ _ _ _ k (by omega)) gX8_stroke_X8_size rfl kmX8_size ⟨⟨Nat.le_of_ble_eq_true rfl, Nat.le_of_ble_eq_true rfl⟩, Nat.le_of_ble_eq_true rfl, Nat.le_of_ble_eq_true rfl⟩ ⟨rfl, rfl⟩ rfl rfl (Nat.le_of_ble_eq_true rfl) [0, 1] rfl rfl (fun _ => rfl) rfl rfl dX8_stroke_80 (kR_of rfl (fun r80 hq80 => ?_))
      subst hq80
      refine V_iret XC (((mS S : Nat) : Int), TO11, BO11, BE11, RK11, (((WD S gp).1 : Nat) : Int), WO11, OD11) hrV rfl dX8_stroke_83 ?_
      subst h15
      unfold strokeS
      rw [if_neg hh, Int.toNat_natCast, if_neg (by decide), if_pos rfl]
      rw [hatk]
      exact hszk
    · skip
      refine V_tabIn XC 84 2 h15 dX8_stroke_15 (by unfold IR; decide) (by decide) (by decide) (by rfl) (by decide) ?_
      refine V_aload_n XC 0 rfl dX8_stroke_84 rfl ?_
      refine V_iload_n XC 1 rfl dX8_stroke_85 rfl ?_
      refine V_iconst XC dX8_stroke_86 ?_
      refine V_iconst XC dX8_stroke_87 ?_
      refine V_callV (rest := _) (q0 := 0) XC (c_X8_bound l D kI kC _ _ _ _ _ _ _ _ _ _ _ _ _ k false false (by omega) (NowR_ok hN hS (by omega))) gX8_stroke_X8_bound rfl kmX8_bound ⟨⟨Nat.le_of_ble_eq_true rfl, Nat.le_of_ble_eq_true rfl⟩, Nat.le_of_ble_eq_true rfl, Nat.le_of_ble_eq_true rfl⟩ ⟨rfl, rfl⟩ rfl rfl (Nat.le_of_ble_eq_true rfl) [0, 1] rfl rfl (fun _ => rfl) rfl rfl dX8_stroke_88 (kR_of rfl (fun r88 hq88 => ?_))
      subst hq88
      rw [show bdR (skR G k) false false = lfS S k from by unfold lfS; rw [NowR_at hN (by omega)]; rfl]
      refine V_iret XC (((mS S : Nat) : Int), TO11, BO11, BE11, RK11, (((WD S gp).1 : Nat) : Int), WO11, OD11) hrV rfl dX8_stroke_91 ?_
      subst h15
      unfold strokeS
      rw [if_neg hh, Int.toNat_natCast, if_neg (by decide), if_neg (by decide), if_pos rfl]

    · skip
      refine V_tabIn XC 92 3 h15 dX8_stroke_15 (by unfold IR; decide) (by decide) (by decide) (by rfl) (by decide) ?_
      refine V_aload_n XC 0 rfl dX8_stroke_92 rfl ?_
      refine V_iload_n XC 1 rfl dX8_stroke_93 rfl ?_
      refine V_iconst XC dX8_stroke_94 ?_
      refine V_iconst XC dX8_stroke_95 ?_
      refine V_callV (rest := _) (q0 := 0) XC (c_X8_bound l D kI kC _ _ _ _ _ _ _ _ _ _ _ _ _ k false true (by omega) (NowR_ok hN hS (by omega))) gX8_stroke_X8_bound rfl kmX8_bound ⟨⟨Nat.le_of_ble_eq_true rfl, Nat.le_of_ble_eq_true rfl⟩, Nat.le_of_ble_eq_true rfl, Nat.le_of_ble_eq_true rfl⟩ ⟨rfl, rfl⟩ rfl rfl (Nat.le_of_ble_eq_true rfl) [0, 1] rfl rfl (fun _ => rfl) rfl rfl dX8_stroke_96 (kR_of rfl (fun r96 hq96 => ?_))
      subst hq96
      rw [show bdR (skR G k) false true = rtS S k from by unfold rtS; rw [NowR_at hN (by omega)]; rfl]
      refine V_iret XC (((mS S : Nat) : Int), TO11, BO11, BE11, RK11, (((WD S gp).1 : Nat) : Int), WO11, OD11) hrV rfl dX8_stroke_99 ?_
      subst h15
      unfold strokeS
      rw [if_neg hh, Int.toNat_natCast, if_neg (by decide), if_neg (by decide), if_neg (by decide), if_pos rfl]

    · skip
      refine V_tabIn XC 100 4 h15 dX8_stroke_15 (by unfold IR; decide) (by decide) (by decide) (by rfl) (by decide) ?_
      refine V_aload_n XC 0 rfl dX8_stroke_100 rfl ?_
      refine V_iload_n XC 1 rfl dX8_stroke_101 rfl ?_
      refine V_iconst XC dX8_stroke_102 ?_
      refine V_iconst XC dX8_stroke_103 ?_
      refine V_callV (rest := _) (q0 := 0) XC (c_X8_bound l D kI kC _ _ _ _ _ _ _ _ _ _ _ _ _ k true false (by omega) (NowR_ok hN hS (by omega))) gX8_stroke_X8_bound rfl kmX8_bound ⟨⟨Nat.le_of_ble_eq_true rfl, Nat.le_of_ble_eq_true rfl⟩, Nat.le_of_ble_eq_true rfl, Nat.le_of_ble_eq_true rfl⟩ ⟨rfl, rfl⟩ rfl rfl (Nat.le_of_ble_eq_true rfl) [0, 1] rfl rfl (fun _ => rfl) rfl rfl dX8_stroke_104 (kR_of rfl (fun r104 hq104 => ?_))
      subst hq104
      rw [show bdR (skR G k) true false = tpS S k from by unfold tpS; rw [NowR_at hN (by omega)]; rfl]
      refine V_iret XC (((mS S : Nat) : Int), TO11, BO11, BE11, RK11, (((WD S gp).1 : Nat) : Int), WO11, OD11) hrV rfl dX8_stroke_107 ?_
      subst h15
      unfold strokeS
      rw [if_neg hh, Int.toNat_natCast, if_neg (by decide), if_neg (by decide), if_neg (by decide), if_neg (by decide), if_pos rfl]

    · skip
      refine V_tabIn XC 108 5 h15 dX8_stroke_15 (by unfold IR; decide) (by decide) (by decide) (by rfl) (by decide) ?_
      refine V_aload_n XC 0 rfl dX8_stroke_108 rfl ?_
      refine V_iload_n XC 1 rfl dX8_stroke_109 rfl ?_
      refine V_iconst XC dX8_stroke_110 ?_
      refine V_iconst XC dX8_stroke_111 ?_
      refine V_callV (rest := _) (q0 := 0) XC (c_X8_bound l D kI kC _ _ _ _ _ _ _ _ _ _ _ _ _ k true true (by omega) (NowR_ok hN hS (by omega))) gX8_stroke_X8_bound rfl kmX8_bound ⟨⟨Nat.le_of_ble_eq_true rfl, Nat.le_of_ble_eq_true rfl⟩, Nat.le_of_ble_eq_true rfl, Nat.le_of_ble_eq_true rfl⟩ ⟨rfl, rfl⟩ rfl rfl (Nat.le_of_ble_eq_true rfl) [0, 1] rfl rfl (fun _ => rfl) rfl rfl dX8_stroke_112 (kR_of rfl (fun r112 hq112 => ?_))
      subst hq112
      rw [show bdR (skR G k) true true = boS S k from by unfold boS; rw [NowR_at hN (by omega)]; rfl]
      refine V_iret XC (((mS S : Nat) : Int), TO11, BO11, BE11, RK11, (((WD S gp).1 : Nat) : Int), WO11, OD11) hrV rfl dX8_stroke_115 ?_
      subst h15
      unfold strokeS
      rw [if_neg hh, Int.toNat_natCast, if_neg (by decide), if_neg (by decide), if_neg (by decide), if_neg (by decide), if_neg (by decide), if_pos rfl]

    · skip
      refine V_tabIn XC 116 6 h15 dX8_stroke_15 (by unfold IR; decide) (by decide) (by decide) (by rfl) (by decide) ?_
      refine V_aload_n XC 0 rfl dX8_stroke_116 rfl ?_
      refine V_iload_n XC 1 rfl dX8_stroke_117 rfl ?_
      refine V_callV (rest := _) (q0 := 0) XC (c_X8_longOf l D kI kC _ _ _ _ _ _ _ _ _ _ _ _ _ k (by omega) hokk) gX8_stroke_X8_longOf rfl kmX8_longOf ⟨⟨Nat.le_of_ble_eq_true rfl, Nat.le_of_ble_eq_true rfl⟩, Nat.le_of_ble_eq_true rfl, Nat.le_of_ble_eq_true rfl⟩ ⟨rfl, rfl⟩ rfl rfl (Nat.le_of_ble_eq_true rfl) [0, 1] rfl rfl (fun _ => rfl) rfl rfl dX8_stroke_118 (kR_of rfl (fun r118 hq118 => ?_))
      subst hq118
      refine V_iret XC (((mS S : Nat) : Int), TO11, BO11, BE11, RK11, (((WD S gp).1 : Nat) : Int), WO11, OD11) hrV rfl dX8_stroke_121 ?_
      subst h15
      unfold strokeS
      rw [if_neg hh, Int.toNat_natCast, if_neg (by decide), if_neg (by decide), if_neg (by decide), if_neg (by decide), if_neg (by decide), if_neg (by decide), if_pos rfl]
      rw [hatk]
    · skip
      refine V_tabIn XC 122 7 h15 dX8_stroke_15 (by unfold IR; decide) (by decide) (by decide) (by rfl) (by decide) ?_
      refine V_aload_n XC 0 rfl dX8_stroke_122 rfl ?_
      refine V_iload_n XC 1 rfl dX8_stroke_123 rfl ?_
      refine V_callV (rest := _) (q0 := 0) XC (c_X8_lineOf l D kI kC _ _ _ _ _ _ _ _ _ _ _ _ _ _ k (by omega) (hbE k hknk)) gX8_stroke_X8_lineOf rfl kmX8_lineOf ⟨⟨Nat.le_of_ble_eq_true rfl, Nat.le_of_ble_eq_true rfl⟩, Nat.le_of_ble_eq_true rfl, Nat.le_of_ble_eq_true rfl⟩ ⟨rfl, rfl⟩ rfl rfl (Nat.le_of_ble_eq_true rfl) [0, 4, 5] rfl rfl (fun _ => rfl) rfl rfl dX8_stroke_124 (kR_of rfl (fun r124 hq124 => ?_))
      subst hq124
      rw [hrE k hknk]
      refine V_iret XC (((mS S : Nat) : Int), TO11, BO11, BE11, RK11, (((WD S gp).1 : Nat) : Int), WO11, OD11) hrV rfl dX8_stroke_127 ?_
      subst h15
      unfold strokeS
      rw [if_neg hh, Int.toNat_natCast, if_neg (by decide), if_neg (by decide), if_neg (by decide), if_neg (by decide), if_neg (by decide), if_neg (by decide), if_neg (by decide), if_pos rfl]

    · skip
      refine V_tabIn XC 128 8 h15 dX8_stroke_15 (by unfold IR; decide) (by decide) (by decide) (by rfl) (by decide) ?_
      refine V_aload_n XC 0 rfl dX8_stroke_128 rfl ?_
      refine V_get XC 28 flX8_stroke_66 0 rfl rfl dX8_stroke_129 ?_
      refine V_iload_n XC 1 rfl dX8_stroke_132 rfl ?_
      refine V_iald XC (k) 6 rfl (by omega) (by omega) (by decide) dX8_stroke_133 ?_
      refine V_iret XC (((mS S : Nat) : Int), TO11, BO11, BE11, RK11, (((WD S gp).1 : Nat) : Int), WO11, OD11) hrV rfl dX8_stroke_134 ?_
      subst h15
      unfold strokeS
      rw [if_neg hh, Int.toNat_natCast, if_neg (by decide), if_neg (by decide), if_neg (by decide), if_neg (by decide), if_neg (by decide), if_neg (by decide), if_neg (by decide), if_neg (by decide), if_pos rfl]
      exact hWO9 k hknk
    · skip
      refine V_tabIn XC 135 9 h15 dX8_stroke_15 (by unfold IR; decide) (by decide) (by decide) (by rfl) (by decide) ?_
      refine V_aload_n XC 0 rfl dX8_stroke_135 rfl ?_
      refine V_iload_n XC 1 rfl dX8_stroke_136 rfl ?_
      refine V_callV (rest := _) (q0 := 0) XC (c_X8_placeOf l D kI kC _ _ _ _ _ _ _ _ _ _ _ _ _ _ _ S hS hN hbE hrE k hknk) gX8_stroke_X8_placeOf rfl kmX8_placeOf ⟨⟨Nat.le_of_ble_eq_true rfl, Nat.le_of_ble_eq_true rfl⟩, Nat.le_of_ble_eq_true rfl, Nat.le_of_ble_eq_true rfl⟩ ⟨rfl, rfl⟩ rfl rfl (Nat.le_of_ble_eq_true rfl) [0, 1, 4, 5] rfl rfl (fun _ => rfl) rfl rfl dX8_stroke_137 (kR_of rfl (fun r137 hq137 => ?_))
      subst hq137
      refine V_iret XC (((mS S : Nat) : Int), TO11, BO11, BE11, RK11, (((WD S gp).1 : Nat) : Int), WO11, OD11) hrV rfl dX8_stroke_140 ?_
      subst h15
      unfold strokeS
      rw [if_neg hh, Int.toNat_natCast, if_neg (by decide), if_neg (by decide), if_neg (by decide), if_neg (by decide), if_neg (by decide), if_neg (by decide), if_neg (by decide), if_neg (by decide), if_neg (by decide), if_pos rfl]

  have hp : strokeS S gp z what = -1 := if_pos (by have h99 := h5; simp at h99; unfold hasS; exact decide_eq_false (show ¬ (0 ≤ z ∧ z < (S.length : Int)) by omega))
  refine V_iconst XC dX8_stroke_8 ?_
  refine V_iret XC (ln, TO, BO, BE, RK, wd, WO, OD) hrV rfl dX8_stroke_9 ?_
  exact hp.symm

set_option maxRecDepth 100000 in
set_option maxHeartbeats 4000000 in
theorem c_X8_read (l : Launch) (D : va_G) (kI kC : ClassId) (b : Nat → Nat) (gp : Int) (ke : Nat) (un : Nat) (bu : Nat) (ty : Nat) (pc : Int) (gd : Bool) (rd : Int) (po : Int) (ln : Int) (wd : Int) (G : Nat → Int) (TO : Nat → Int) (BO : Nat → Int) (BE : Nat → Int) (RK : Nat → Int) (WO : Nat → Int) (OD : Nat → Int) (S : List Stk) (hS : OkS S) (hN : NowR G S) (hg : 0 ≤ gp ∧ gp ≤ 500) (z : Int) (hz : IR z) : Con l yX8_read wsX8_read { frames := 5, cells := 0, slots := 0, locals := 120 } D kI kC [.ref (b 0), .int (iI z)] (mdO b gp (ke : Int) (un : Int) (bu : Int) (ty : Int) pc gd rd po ln wd :: [(b 1, IA kI 801 G), (b 14, IA kI 16 TO), (b 15, IA kI 16 BO), (b 16, IA kI 16 BE), (b 17, IA kI 16 RK), (b 18, IA kI 16 WO), (b 19, IA kI 16 OD)]) (σ := Int × (Nat → Int) × (Nat → Int) × (Nat → Int) × (Nat → Int) × Int × (Nat → Int) × (Nat → Int)) (qI (fun r u => r = readS S z)) (fun u => (mdO b gp (ke : Int) (un : Int) (bu : Int) (ty : Int) pc gd rd po u.1 u.2.2.2.2.2.1 :: [(b 1, IA kI 801 G), (b 14, IA kI 16 u.2.1), (b 15, IA kI 16 u.2.2.1), (b 16, IA kI 16 u.2.2.2.1), (b 17, IA kI 16 u.2.2.2.2.1), (b 18, IA kI 16 u.2.2.2.2.2.2.1), (b 19, IA kI 16 u.2.2.2.2.2.2.2)])) := by
  refine Con.of (cc := cX8_read) (maxL := 2) (ret := (some .int)) (by decide +kernel) rfl (List.forall_mem_cons.mpr ⟨rfl, List.forall_mem_cons.mpr ⟨rfl, fun _ h => absurd h List.not_mem_nil⟩⟩) (Nat.le_of_ble_eq_true rfl) ?_
  intro pV eV sV mV bV tV cV AV XC hrV
  have XC : Cx pV _ sV mV _ tV cV cX8_read 2 RX8 wsX8_read AV D kI kC := XC
  change VV _ _ _ _ _ _ _ _ _ _ _ _ _ _ _ _ _ [some (.ref (b 0)), some (.int (iI z))] _ _
  dsimp only [mdO, List.cons_append, List.nil_append]
  have hn16 : S.length ≤ 16 := hS.1
  have hN0 : G 0 = (S.length : Int) := hN.1
  refine V_iload_n XC 1 rfl dX8_read_0 rfl ?_
  refine V_if_ge XC 7 dX8_read_1 (by decide) hz (fun h1 => ?_) (fun h1 => ?_)
  · skip
    refine V_aload_n XC 0 rfl dX8_read_7 rfl ?_
    refine V_callV (rest := _) (q0 := 0) XC (c_X8_layOut l D kI kC _ _ _ _ _ _ _ _ _ _ _ _ _ _ _ _ _ _ _ _ (by assumption) (by assumption) (by omega)) gX8_read_X8_layOut rfl kmX8_layOut ⟨⟨Nat.le_of_ble_eq_true rfl, Nat.le_of_ble_eq_true rfl⟩, Nat.le_of_ble_eq_true rfl, Nat.le_of_ble_eq_true rfl⟩ ⟨rfl, rfl⟩ rfl rfl (Nat.le_of_ble_eq_true rfl) [0, 1, 2, 3, 4, 5, 6, 7] rfl rfl (fun _ => rfl) rfl rfl dX8_read_8 (kV_of (fun u8 hq8 => ?_))
    obtain ⟨m8, TO8, BO8, BE8, RK8, w8, WO8, OD8⟩ := u8
    dsimp only [putW, List.set, Option.toList, List.cons_append, List.nil_append, padO, mdO, shW, trW, txW, hiW, liW, woW, taW]
    try dsimp only at hq8
    have hL8 := hq8
    obtain ⟨rfl, hbE, hrE, hrk9, rfl, hWO9, hOD9⟩ := hL8
    refine V_iload_n XC 1 rfl dX8_read_11 rfl ?_
    refine V_aload_n XC 0 rfl dX8_read_12 rfl ?_
    refine V_callV (rest := _) (q0 := 0) XC (c_X8_strokes l D kI kC _ _ _ _ _ _ _ _ _ _ _ _ _ ) gX8_read_X8_strokes rfl kmX8_strokes ⟨⟨Nat.le_of_ble_eq_true rfl, Nat.le_of_ble_eq_true rfl⟩, Nat.le_of_ble_eq_true rfl, Nat.le_of_ble_eq_true rfl⟩ ⟨rfl, rfl⟩ rfl rfl (Nat.le_of_ble_eq_true rfl) [0, 1] rfl rfl (fun _ => rfl) rfl rfl dX8_read_13 (kR_of rfl (fun r13 hq13 => ?_))
    subst hq13
    rw [hN0]
    refine V_icmp_ge XC 28 dX8_read_16 (by decide) hz ⟨by omega, by omega⟩ (fun h16 => ?_) (fun h16 => ?_)
    · skip
      refine V_bipush XC dX8_read_28 (by decide) ?_
      refine V_iret XC (((mS S : Nat) : Int), TO8, BO8, BE8, RK8, (((WD S gp).1 : Nat) : Int), WO8, OD8) hrV rfl dX8_read_30 ?_
      unfold readS
      first
      | (rw [if_neg (by omega), if_pos (by omega)]; done)
      | (rw [if_neg (by omega), if_neg (by omega), Int.toNat_natCast]; exact hOD9 k (by omega))
    obtain ⟨k, rfl⟩ : ∃ k : Nat, z = (k : Int) := ⟨z.toNat, by omega⟩
    refine V_aload_n XC 0 rfl dX8_read_19 rfl ?_
    refine V_get XC 29 flX8_read_69 0 rfl rfl dX8_read_20 ?_
    refine V_iload_n XC 1 rfl dX8_read_23 rfl ?_
    refine V_iald XC (k) 7 rfl (by omega) (by omega) (by decide) dX8_read_24 ?_
    refine V_goto XC 30 dX8_read_25 (by decide) ?_
    refine V_iret XC (((mS S : Nat) : Int), TO8, BO8, BE8, RK8, (((WD S gp).1 : Nat) : Int), WO8, OD8) hrV rfl dX8_read_30 ?_
    unfold readS
    first
    | (rw [if_neg (by omega), if_pos (by omega)]; done)
    | (rw [if_neg (by omega), if_neg (by omega), Int.toNat_natCast]; exact hOD9 k (by omega))
  refine V_bipush XC dX8_read_4 (by decide) ?_
  refine V_iret XC (ln, TO, BO, BE, RK, wd, WO, OD) hrV rfl dX8_read_6 ?_
  exact (if_pos (by omega)).symm

set_option maxRecDepth 100000 in
set_option maxHeartbeats 4000000 in
theorem c_X8_line (l : Launch) (D : va_G) (kI kC : ClassId) (b : Nat → Nat) (gp : Int) (ke : Nat) (un : Nat) (bu : Nat) (ty : Nat) (pc : Int) (gd : Bool) (rd : Int) (po : Int) (ln : Int) (wd : Int) (G : Nat → Int) (TO : Nat → Int) (BO : Nat → Int) (BE : Nat → Int) (RK : Nat → Int) (WO : Nat → Int) (OD : Nat → Int) (S : List Stk) (hS : OkS S) (hN : NowR G S) (hg : 0 ≤ gp ∧ gp ≤ 500) (z what : Int) (hz : IR z) (hw : IR what) : Con l yX8_line wsX8_line { frames := 5, cells := 0, slots := 0, locals := 120 } D kI kC [.ref (b 0), .int (iI z), .int (iI what)] (mdO b gp (ke : Int) (un : Int) (bu : Int) (ty : Int) pc gd rd po ln wd :: [(b 1, IA kI 801 G), (b 14, IA kI 16 TO), (b 15, IA kI 16 BO), (b 16, IA kI 16 BE), (b 17, IA kI 16 RK), (b 18, IA kI 16 WO), (b 19, IA kI 16 OD)]) (σ := Int × (Nat → Int) × (Nat → Int) × (Nat → Int) × (Nat → Int) × Int × (Nat → Int) × (Nat → Int)) (qI (fun r u => r = lineS S gp z what)) (fun u => (mdO b gp (ke : Int) (un : Int) (bu : Int) (ty : Int) pc gd rd po u.1 u.2.2.2.2.2.1 :: [(b 1, IA kI 801 G), (b 14, IA kI 16 u.2.1), (b 15, IA kI 16 u.2.2.1), (b 16, IA kI 16 u.2.2.2.1), (b 17, IA kI 16 u.2.2.2.2.1), (b 18, IA kI 16 u.2.2.2.2.2.2.1), (b 19, IA kI 16 u.2.2.2.2.2.2.2)])) := by
  refine Con.of (cc := cX8_line) (maxL := 8) (ret := (some .int)) (by decide +kernel) rfl (List.forall_mem_cons.mpr ⟨rfl, List.forall_mem_cons.mpr ⟨rfl, List.forall_mem_cons.mpr ⟨rfl, fun _ h => absurd h List.not_mem_nil⟩⟩⟩) (Nat.le_of_ble_eq_true rfl) ?_
  intro pV eV sV mV bV tV cV AV XC hrV
  have XC : Cx pV _ sV mV _ tV cV cX8_line 8 RX8 wsX8_line AV D kI kC := XC
  change VV _ _ _ _ _ _ _ _ _ _ _ _ _ _ _ _ _ [some (.ref (b 0)), some (.int (iI z)), some (.int (iI what)), none, none, none, none, none] _ _
  dsimp only [mdO, List.cons_append, List.nil_append]
  have hn16 : S.length ≤ 16 := hS.1
  have hN0 : G 0 = (S.length : Int) := hN.1
  refine V_aload_n XC 0 rfl dX8_line_0 rfl ?_
  refine V_callV (rest := _) (q0 := 0) XC (c_X8_layOut l D kI kC _ _ _ _ _ _ _ _ _ _ _ _ _ _ _ _ _ _ _ _ (by assumption) (by assumption) (by omega)) gX8_line_X8_layOut rfl kmX8_layOut ⟨⟨Nat.le_of_ble_eq_true rfl, Nat.le_of_ble_eq_true rfl⟩, Nat.le_of_ble_eq_true rfl, Nat.le_of_ble_eq_true rfl⟩ ⟨rfl, rfl⟩ rfl rfl (Nat.le_of_ble_eq_true rfl) [0, 1, 2, 3, 4, 5, 6, 7] rfl rfl (fun _ => rfl) rfl rfl dX8_line_1 (kV_of (fun u1 hq1 => ?_))
  obtain ⟨m1, TO1, BO1, BE1, RK1, w1, WO1, OD1⟩ := u1
  dsimp only [putW, List.set, Option.toList, List.cons_append, List.nil_append, padO, mdO, shW, trW, txW, hiW, liW, woW, taW]
  try dsimp only at hq1
  have hL1 := hq1
  obtain ⟨rfl, hbE, hrE, hrk9, rfl, hWO9, hOD9⟩ := hL1
  have hmS := (GS_ok hS).1
  refine V_iload_n XC 1 rfl dX8_line_4 rfl ?_
  refine V_iconst XC dX8_line_5 ?_
  refine V_aload_n XC 0 rfl dX8_line_6 rfl ?_
  refine V_get XC 22 flX8_line_192 0 rfl rfl dX8_line_7 ?_
  refine V_iconst XC dX8_line_10 ?_
  refine V_isub XC dX8_line_11 ?_
  refine V_callS (rest := _) XC (c_X8_in l D kI kC _ _ _ hz ⟨by decide, by decide⟩ ⟨by omega, by omega⟩) gX8_line_X8_in rfl kmX8_in ⟨⟨Nat.le_of_ble_eq_true rfl, Nat.le_of_ble_eq_true rfl⟩, Nat.le_of_ble_eq_true rfl, Nat.le_of_ble_eq_true rfl⟩ ⟨rfl, rfl⟩ rfl rfl (Nat.le_of_ble_eq_true rfl) [] rfl rfl (fun _ => rfl) dX8_line_12 (kR_of rfl (fun r12 hq12 => ?_))
  subst hq12
  refine V_bif_ne XC 20 dX8_line_15 (by decide) (fun h15 => ?_) (fun h15 => ?_)
  · skip
    have hz2 := of_decide_eq_true h15
    obtain ⟨L, rfl⟩ : ∃ k : Nat, z = (k : Int) := ⟨z.toNat, by omega⟩
    have hh : ¬ inR (L : Int) 0 ((mS S : Int) - 1) = false := by unfold inR; rw [h15]; decide
    refine V_iload_n XC 2 rfl dX8_line_20 rfl ?_
    refine V_iconst XC dX8_line_21 ?_
    refine V_iconst XC dX8_line_22 ?_
    refine V_callS (rest := _) XC (c_X8_in l D kI kC _ _ _ hw ⟨by decide, by decide⟩ ⟨by decide, by decide⟩) gX8_line_X8_in rfl kmX8_in ⟨⟨Nat.le_of_ble_eq_true rfl, Nat.le_of_ble_eq_true rfl⟩, Nat.le_of_ble_eq_true rfl, Nat.le_of_ble_eq_true rfl⟩ ⟨rfl, rfl⟩ rfl rfl (Nat.le_of_ble_eq_true rfl) [] rfl rfl (fun _ => rfl) dX8_line_23 (kR_of rfl (fun r23 hq23 => ?_))
    subst hq23
    refine V_bif_ne XC 32 dX8_line_26 (by decide) (fun h26 => ?_) (fun h26 => ?_)
    · skip
      have hw2 := of_decide_eq_true h26
      obtain ⟨b0, hb0, e0⟩ := rk_onto (a := (GS S).2.1) (b := (GS S).2.2.1) (m := mS S) (L := L) (by omega)
      have e1 : rkS S b0 = L := e0
      have hfn : fnd (rkS S) L (mS S) = b0 := fnd_of hb0 e1 (fun j hj ej => rk_inj hj hb0 (ej.trans e1.symm))
      clear e0
      obtain ⟨j0, hj0, ej0⟩ := lnS_onto hS (L := L) (by omega)
      have hWI := WI_run (S := S) (gap := gp) S.length (Nat.le_refl _)
      obtain ⟨q0, q1, hq0, hq1, hl0, hl1, hf0, hf1, hfn9, hwi9⟩ := hWI.2 L ⟨plS S j0, plS_lt hj0, by rw [odS_pl hj0]; exact ej0⟩
      have hwr : ∀ q, q < S.length → 0 ≤ (WD S gp).2.2.1 (odS S q) ∧ (WD S gp).2.2.1 (odS S q) < ((WD S gp).1 : Int) := hWI.1.2.2.2.1
      have hwle : (WD S gp).1 ≤ S.length := hWI.1.1
      have hW0 := hwr q0 hq0
      have hW1 := hwr q1 hq1
      have hfn9 : (WD S gp).2.2.2.2.2.2.2.2.2 L = (WD S gp).2.2.1 (odS S q0) := hfn9
      have hwi9 : (WD S gp).2.2.2.2.2.2.2.2.1 L = (WD S gp).2.2.1 (odS S q1) - (WD S gp).2.2.1 (odS S q0) + 1 := hwi9
      have hctn : fb_ct (fun q => lnS S (odS S q) == L) S.length = fb_ct (fun j => lnS S j == L) S.length := ct_od (P := fun j => lnS S j == L)
      clear hWI
      refine V_iconst XC dX8_line_32 ?_
      refine V_istore_n XC 3 rfl dX8_line_33 (by decide) ?_
      dsimp only [List.set]
      refine V_loopR (σ := Nat) (fun u => b0 - u) (fun u => u ≤ b0) (fun u => [some (.ref (b 0)), some (.int (iI (L : Int))), some (.int (iI what)), some (.int (iI (u : Int))), none, none, none, none]) (0) (Nat.zero_le _) rfl (fun u hJ ih34 => ?_)
      obtain ⟨g, rfl⟩ : ∃ z, z = u := ⟨_, rfl⟩
      try dsimp only at hJ ih34 ⊢
      obtain hgb := hJ
      have hrg := rk_lt (a := (GS S).2.1) (b := (GS S).2.2.1) (m := mS S) (i := g) (by omega)
      have hrg2 : rkS S g < mS S := hrg
      refine V_aload_n XC 0 rfl dX8_line_34 rfl ?_
      refine V_get XC 26 flX8_line_63 0 rfl rfl dX8_line_35 ?_
      refine V_iload_n XC 3 rfl dX8_line_38 rfl ?_
      refine V_iald XC (g) 5 rfl (by omega) (by omega) (by decide) dX8_line_39 ?_
      rw [(hrk9 g (by omega)).1]
      refine V_iload_n XC 1 rfl dX8_line_40 rfl ?_
      refine V_icmp_eq XC 50 dX8_line_41 (by decide) ⟨by omega, by omega⟩ ⟨by omega, by omega⟩ (fun h41 => ?_) (fun h41 => ?_)
      · skip
        have hge : g = b0 := rk_inj (a := (GS S).2.1) (b := (GS S).2.2.1) (m := mS S) (by omega) hb0 (show rkS S g = rkS S b0 by omega)
        subst hge
        refine V_iconst XC dX8_line_50 ?_
        refine V_istore XC dX8_line_51 (by decide) ?_
        dsimp only [List.set]
        refine V_bipush XC dX8_line_53 (by decide) ?_
        refine V_istore XC dX8_line_55 (by decide) ?_
        dsimp only [List.set]
        refine V_bipush XC dX8_line_57 (by decide) ?_
        refine V_istore XC dX8_line_59 (by decide) ?_
        dsimp only [List.set]
        refine V_iconst XC dX8_line_61 ?_
        refine V_istore XC dX8_line_62 (by decide) ?_
        dsimp only [List.set]
        refine V_loopR (σ := Nat × Int × Int) (fun u => S.length - u.1) (fun u => u.1 ≤ S.length ∧ (u.1 ≤ q0 → u.2.1 = -5) ∧ (q0 < u.1 → u.2.1 = (WD S gp).2.2.1 (odS S q0)) ∧ (q1 < u.1 → u.2.2 = (WD S gp).2.2.1 (odS S q1))) (fun u => [some (.ref (b 0)), some (.int (iI (L : Int))), some (.int (iI what)), some (.int (iI (g : Int))), some (.int (iI ((fb_ct (fun q => lnS S (odS S q) == L) u.1 : Nat) : Int))), some (.int (iI u.2.1)), some (.int (iI u.2.2)), some (.int (iI (u.1 : Int)))]) (0, -5, -5) ?_ rfl (fun u hJ ih64 => ?_)
        · dsimp only
          exact ⟨Nat.zero_le _, fun _ => rfl, fun z => absurd z (Nat.not_lt_zero _), fun z => absurd z (Nat.not_lt_zero _)⟩
        obtain ⟨k, f, la⟩ := u
        try dsimp only at hJ ih64 ⊢
        obtain ⟨hk, hfa, hfb, hla⟩ := hJ
        refine V_iload XC dX8_line_64 rfl ?_
        refine V_aload_n XC 0 rfl dX8_line_66 rfl ?_
        refine V_callV (rest := _) (q0 := 0) XC (c_X8_strokes l D kI kC _ _ _ _ _ _ _ _ _ _ _ _ _ ) gX8_line_X8_strokes rfl kmX8_strokes ⟨⟨Nat.le_of_ble_eq_true rfl, Nat.le_of_ble_eq_true rfl⟩, Nat.le_of_ble_eq_true rfl, Nat.le_of_ble_eq_true rfl⟩ ⟨rfl, rfl⟩ rfl rfl (Nat.le_of_ble_eq_true rfl) [0, 1] rfl rfl (fun _ => rfl) rfl rfl dX8_line_67 (kR_of rfl (fun r67 hq67 => ?_))
        subst hq67
        rw [hN0]
        refine V_icmp_ge XC 135 dX8_line_70 (by decide) ⟨by omega, by omega⟩ ⟨by omega, by omega⟩ (fun h70 => ?_) (fun h70 => ?_)
        · skip
          obtain rfl : k = S.length := by omega
          have hfz := hfb (by omega)
          have hlz := hla (by omega)
          refine V_iload_n XC 2 rfl dX8_line_135 rfl ?_
          refine V_if_ne XC 148 dX8_line_136 (by decide) hw (fun h136 => ?_) (fun h136 => ?_)
          · skip
            refine V_iload_n XC 2 rfl dX8_line_148 rfl ?_
            refine V_iconst XC dX8_line_149 ?_
            refine V_icmp_ne XC 162 dX8_line_150 (by decide) hw (by first | assumption | (unfold IR; omega)) (fun h150 => ?_) (fun h150 => ?_)
            · skip
              refine V_iload_n XC 2 rfl dX8_line_162 rfl ?_
              refine V_iconst XC dX8_line_163 ?_
              refine V_icmp_ne XC 172 dX8_line_164 (by decide) hw (by first | assumption | (unfold IR; omega)) (fun h164 => ?_) (fun h164 => ?_)
              · skip
                refine V_iload_n XC 2 rfl dX8_line_172 rfl ?_
                refine V_iconst XC dX8_line_173 ?_
                refine V_icmp_ne XC 187 dX8_line_174 (by decide) hw (by first | assumption | (unfold IR; omega)) (fun h174 => ?_) (fun h174 => ?_)
                · skip
                  refine V_iload XC dX8_line_187 rfl ?_
                  refine V_iret XC (((mS S : Nat) : Int), TO1, BO1, BE1, RK1, (((WD S gp).1 : Nat) : Int), WO1, OD1) hrV rfl dX8_line_189 ?_
                  unfold lineS
                  rw [if_neg hh, Int.toNat_natCast, hfn]
                  first
                  | (rw [if_pos (by omega)]; exact (hrk9 g (by omega)).2.1)
                  | (rw [if_neg (by omega), if_pos (by omega)]; exact (hrk9 g (by omega)).2.2)
                  | (rw [if_neg (by omega), if_neg (by omega), if_pos (by omega), hctn]; done)
                  | (rw [if_neg (by omega), if_neg (by omega), if_neg (by omega), if_pos (by omega), hwi9, hfz, hlz]; done)
                  | (rw [if_neg (by omega), if_neg (by omega), if_neg (by omega), if_neg (by omega), if_pos (by omega), hfn9, hfz]; done)
                refine V_iload XC dX8_line_177 rfl ?_
                refine V_iload XC dX8_line_179 rfl ?_
                refine V_isub XC dX8_line_181 ?_
                refine V_iconst XC dX8_line_182 ?_
                refine V_iadd XC dX8_line_183 ?_
                refine V_goto XC 189 dX8_line_184 (by decide) ?_
                refine V_iret XC (((mS S : Nat) : Int), TO1, BO1, BE1, RK1, (((WD S gp).1 : Nat) : Int), WO1, OD1) hrV rfl dX8_line_189 ?_
                unfold lineS
                rw [if_neg hh, Int.toNat_natCast, hfn]
                first
                | (rw [if_pos (by omega)]; exact (hrk9 g (by omega)).2.1)
                | (rw [if_neg (by omega), if_pos (by omega)]; exact (hrk9 g (by omega)).2.2)
                | (rw [if_neg (by omega), if_neg (by omega), if_pos (by omega), hctn]; done)
                | (rw [if_neg (by omega), if_neg (by omega), if_neg (by omega), if_pos (by omega), hwi9, hfz, hlz]; done)
                | (rw [if_neg (by omega), if_neg (by omega), if_neg (by omega), if_neg (by omega), if_pos (by omega), hfn9, hfz]; done)
              refine V_iload XC dX8_line_167 rfl ?_
              refine V_goto XC 189 dX8_line_169 (by decide) ?_
              refine V_iret XC (((mS S : Nat) : Int), TO1, BO1, BE1, RK1, (((WD S gp).1 : Nat) : Int), WO1, OD1) hrV rfl dX8_line_189 ?_
              unfold lineS
              rw [if_neg hh, Int.toNat_natCast, hfn]
              first
              | (rw [if_pos (by omega)]; exact (hrk9 g (by omega)).2.1)
              | (rw [if_neg (by omega), if_pos (by omega)]; exact (hrk9 g (by omega)).2.2)
              | (rw [if_neg (by omega), if_neg (by omega), if_pos (by omega), hctn]; done)
              | (rw [if_neg (by omega), if_neg (by omega), if_neg (by omega), if_pos (by omega), hwi9, hfz, hlz]; done)
              | (rw [if_neg (by omega), if_neg (by omega), if_neg (by omega), if_neg (by omega), if_pos (by omega), hfn9, hfz]; done)
            refine V_aload_n XC 0 rfl dX8_line_153 rfl ?_
            refine V_get XC 24 flX8_line_57 0 rfl rfl dX8_line_154 ?_
            refine V_iload_n XC 3 rfl dX8_line_157 rfl ?_
            refine V_iald XC (g) 3 rfl (by omega) (by omega) (by decide) dX8_line_158 ?_
            refine V_goto XC 189 dX8_line_159 (by decide) ?_
            refine V_iret XC (((mS S : Nat) : Int), TO1, BO1, BE1, RK1, (((WD S gp).1 : Nat) : Int), WO1, OD1) hrV rfl dX8_line_189 ?_
            unfold lineS
            rw [if_neg hh, Int.toNat_natCast, hfn]
            first
            | (rw [if_pos (by omega)]; exact (hrk9 g (by omega)).2.1)
            | (rw [if_neg (by omega), if_pos (by omega)]; exact (hrk9 g (by omega)).2.2)
            | (rw [if_neg (by omega), if_neg (by omega), if_pos (by omega), hctn]; done)
            | (rw [if_neg (by omega), if_neg (by omega), if_neg (by omega), if_pos (by omega), hwi9, hfz, hlz]; done)
            | (rw [if_neg (by omega), if_neg (by omega), if_neg (by omega), if_neg (by omega), if_pos (by omega), hfn9, hfz]; done)
          refine V_aload_n XC 0 rfl dX8_line_139 rfl ?_
          refine V_get XC 23 flX8_line_54 0 rfl rfl dX8_line_140 ?_
          refine V_iload_n XC 3 rfl dX8_line_143 rfl ?_
          refine V_iald XC (g) 2 rfl (by omega) (by omega) (by decide) dX8_line_144 ?_
          refine V_goto XC 189 dX8_line_145 (by decide) ?_
          refine V_iret XC (((mS S : Nat) : Int), TO1, BO1, BE1, RK1, (((WD S gp).1 : Nat) : Int), WO1, OD1) hrV rfl dX8_line_189 ?_
          unfold lineS
          rw [if_neg hh, Int.toNat_natCast, hfn]
          first
          | (rw [if_pos (by omega)]; exact (hrk9 g (by omega)).2.1)
          | (rw [if_neg (by omega), if_pos (by omega)]; exact (hrk9 g (by omega)).2.2)
          | (rw [if_neg (by omega), if_neg (by omega), if_pos (by omega), hctn]; done)
          | (rw [if_neg (by omega), if_neg (by omega), if_neg (by omega), if_pos (by omega), hwi9, hfz, hlz]; done)
          | (rw [if_neg (by omega), if_neg (by omega), if_neg (by omega), if_neg (by omega), if_pos (by omega), hfn9, hfz]; done)
        have hodk := hOD9 k (by omega)
        have hok := (plS_od (S := S) (p := k) (by omega)).1
        have hlk := lnS_lt hS hok
        refine V_aload_n XC 0 rfl dX8_line_73 rfl ?_
        refine V_aload_n XC 0 rfl dX8_line_74 rfl ?_
        refine V_get XC 29 flX8_line_69 0 rfl rfl dX8_line_75 ?_
        refine V_iload XC dX8_line_78 rfl ?_
        refine V_iald XC (k) 7 rfl (by omega) (by omega) (by decide) dX8_line_80 ?_
        rw [hodk]
        refine V_callV (rest := _) (q0 := 0) XC (c_X8_lineOf l D kI kC _ _ _ _ _ _ _ _ _ _ _ _ _ _ (odS S k) (by omega) (hbE _ hok)) gX8_line_X8_lineOf rfl kmX8_lineOf ⟨⟨Nat.le_of_ble_eq_true rfl, Nat.le_of_ble_eq_true rfl⟩, Nat.le_of_ble_eq_true rfl, Nat.le_of_ble_eq_true rfl⟩ ⟨rfl, rfl⟩ rfl rfl (Nat.le_of_ble_eq_true rfl) [0, 4, 5] rfl rfl (fun _ => rfl) rfl rfl dX8_line_81 (kR_of rfl (fun r81 hq81 => ?_))
        subst hq81
        rw [hrE _ hok]
        refine V_iload_n XC 1 rfl dX8_line_84 rfl ?_
        refine V_icmp_ne XC 129 dX8_line_85 (by decide) ⟨by omega, by omega⟩ ⟨by omega, by omega⟩ (fun h85 => ?_) (fun h85 => ?_)
        · skip
          refine V_iinc XC dX8_line_129 rfl (by decide) ?_
          dsimp only [List.set]
          refine V_goto XC 64 dX8_line_132 (by decide) ?_
          first
          | (have hct : fb_ct (fun q => lnS S (odS S q) == L) (k + 1) = fb_ct (fun q => lnS S (odS S q) == L) k := by
               rw [fb_ct_succ, if_neg (by simp; omega), Nat.add_zero]
             have hk0 : k ≠ q0 := fun e => by rw [e] at h85; omega
             have hk1 : k ≠ q1 := fun e => by rw [e] at h85; omega
             have ih9 := ih64 (k + 1, f, la)
             try dsimp only at ih9
             rw [hct] at ih9
             exact ih9 ⟨by omega, fun z => hfa (by omega), fun z => hfb (by omega), fun z => hla (by omega)⟩ (by omega))
          | (have hct := ct_s1 (p := fun q => lnS S (odS S q) == L) (j := k) (by simp; omega)
             try dsimp only at hct
             have hkq : q0 ≤ k := by
               rcases Nat.lt_or_ge k q0 with z | z
               · exact absurd (show lnS S (odS S k) = L by omega) (hf0 k z)
               · exact z
             have hkl : k ≤ q1 := by
               rcases Nat.lt_or_ge q1 k with z | z
               · exact absurd (show lnS S (odS S k) = L by omega) (hf1 k z (by omega))
               · exact z
             rw [hct]
             have hv := hwr k (by omega)
             first
             | (refine ih64 (k + 1, f, (WD S gp).2.2.1 (odS S k)) ⟨by (try dsimp only); omega, fun z => absurd z (by (try dsimp only); omega), fun _ => ?_, fun z => ?_⟩ (by (try dsimp only); omega)
                · try dsimp only
                  refine hfb ?_
                  rcases Nat.lt_or_ge q0 k with z | z
                  · exact z
                  · have := hfa z
                    omega
                · have e : k = q1 := by (try dsimp only at z); omega
                  rw [e])
             | (refine ih64 (k + 1, (WD S gp).2.2.1 (odS S k), (WD S gp).2.2.1 (odS S k)) ⟨by (try dsimp only); omega, fun z => absurd z (by (try dsimp only); omega), fun _ => ?_, fun z => ?_⟩ (by (try dsimp only); omega)
                · try dsimp only
                  have e : k = q0 := by
                    rcases Nat.lt_or_ge q0 k with z | z
                    · have := hfb z
                      omega
                    · omega
                  rw [e]
                · have e : k = q1 := by (try dsimp only at z); omega
                  rw [e]))
        refine V_iinc XC dX8_line_88 rfl (by decide) ?_
        dsimp only [List.set]
        refine V_iload XC dX8_line_91 rfl ?_
        refine V_if_ge XC 111 dX8_line_93 (by decide) (by rcases Nat.lt_or_ge q0 k with z | z; (have := hfb z; exact ⟨by omega, by omega⟩); (have := hfa z; exact ⟨by omega, by omega⟩)) (fun h93 => ?_) (fun h93 => ?_)
        · skip
          refine V_iload XC dX8_line_111 rfl ?_
          refine V_istore XC dX8_line_113 (by decide) ?_
          dsimp only [List.set]
          refine V_aload_n XC 0 rfl dX8_line_115 rfl ?_
          refine V_get XC 28 flX8_line_66 0 rfl rfl dX8_line_116 ?_
          refine V_aload_n XC 0 rfl dX8_line_119 rfl ?_
          refine V_get XC 29 flX8_line_69 0 rfl rfl dX8_line_120 ?_
          refine V_iload XC dX8_line_123 rfl ?_
          refine V_iald XC (k) 7 rfl (by omega) (by omega) (by decide) dX8_line_125 ?_
          rw [hodk]
          refine V_iald XC (odS S k) 6 rfl (by omega) (by omega) (by decide) dX8_line_126 ?_
          rw [hWO9 _ hok]
          refine V_istore XC dX8_line_127 (by decide) ?_
          dsimp only [List.set]
          refine V_iinc XC dX8_line_129 rfl (by decide) ?_
          dsimp only [List.set]
          refine V_goto XC 64 dX8_line_132 (by decide) ?_
          first
          | (have hct : fb_ct (fun q => lnS S (odS S q) == L) (k + 1) = fb_ct (fun q => lnS S (odS S q) == L) k := by
               rw [fb_ct_succ, if_neg (by simp; omega), Nat.add_zero]
             have hk0 : k ≠ q0 := fun e => by rw [e] at h85; omega
             have hk1 : k ≠ q1 := fun e => by rw [e] at h85; omega
             have ih9 := ih64 (k + 1, f, la)
             try dsimp only at ih9
             rw [hct] at ih9
             exact ih9 ⟨by omega, fun z => hfa (by omega), fun z => hfb (by omega), fun z => hla (by omega)⟩ (by omega))
          | (have hct := ct_s1 (p := fun q => lnS S (odS S q) == L) (j := k) (by simp; omega)
             try dsimp only at hct
             have hkq : q0 ≤ k := by
               rcases Nat.lt_or_ge k q0 with z | z
               · exact absurd (show lnS S (odS S k) = L by omega) (hf0 k z)
               · exact z
             have hkl : k ≤ q1 := by
               rcases Nat.lt_or_ge q1 k with z | z
               · exact absurd (show lnS S (odS S k) = L by omega) (hf1 k z (by omega))
               · exact z
             rw [hct]
             have hv := hwr k (by omega)
             first
             | (refine ih64 (k + 1, f, (WD S gp).2.2.1 (odS S k)) ⟨by (try dsimp only); omega, fun z => absurd z (by (try dsimp only); omega), fun _ => ?_, fun z => ?_⟩ (by (try dsimp only); omega)
                · try dsimp only
                  refine hfb ?_
                  rcases Nat.lt_or_ge q0 k with z | z
                  · exact z
                  · have := hfa z
                    omega
                · have e : k = q1 := by (try dsimp only at z); omega
                  rw [e])
             | (refine ih64 (k + 1, (WD S gp).2.2.1 (odS S k), (WD S gp).2.2.1 (odS S k)) ⟨by (try dsimp only); omega, fun z => absurd z (by (try dsimp only); omega), fun _ => ?_, fun z => ?_⟩ (by (try dsimp only); omega)
                · try dsimp only
                  have e : k = q0 := by
                    rcases Nat.lt_or_ge q0 k with z | z
                    · have := hfb z
                      omega
                    · omega
                  rw [e]
                · have e : k = q1 := by (try dsimp only at z); omega
                  rw [e]))
        refine V_aload_n XC 0 rfl dX8_line_96 rfl ?_
        refine V_get XC 28 flX8_line_66 0 rfl rfl dX8_line_97 ?_
        refine V_aload_n XC 0 rfl dX8_line_100 rfl ?_
        refine V_get XC 29 flX8_line_69 0 rfl rfl dX8_line_101 ?_
        refine V_iload XC dX8_line_104 rfl ?_
        refine V_iald XC (k) 7 rfl (by omega) (by omega) (by decide) dX8_line_106 ?_
        rw [hodk]
        refine V_iald XC (odS S k) 6 rfl (by omega) (by omega) (by decide) dX8_line_107 ?_
        rw [hWO9 _ hok]
        refine V_goto XC 113 dX8_line_108 (by decide) ?_
        refine V_istore XC dX8_line_113 (by decide) ?_
        dsimp only [List.set]
        refine V_aload_n XC 0 rfl dX8_line_115 rfl ?_
        refine V_get XC 28 flX8_line_66 0 rfl rfl dX8_line_116 ?_
        refine V_aload_n XC 0 rfl dX8_line_119 rfl ?_
        refine V_get XC 29 flX8_line_69 0 rfl rfl dX8_line_120 ?_
        refine V_iload XC dX8_line_123 rfl ?_
        refine V_iald XC (k) 7 rfl (by omega) (by omega) (by decide) dX8_line_125 ?_
        rw [hodk]
        refine V_iald XC (odS S k) 6 rfl (by omega) (by omega) (by decide) dX8_line_126 ?_
        rw [hWO9 _ hok]
        refine V_istore XC dX8_line_127 (by decide) ?_
        dsimp only [List.set]
        refine V_iinc XC dX8_line_129 rfl (by decide) ?_
        dsimp only [List.set]
        refine V_goto XC 64 dX8_line_132 (by decide) ?_
        first
        | (have hct : fb_ct (fun q => lnS S (odS S q) == L) (k + 1) = fb_ct (fun q => lnS S (odS S q) == L) k := by
             rw [fb_ct_succ, if_neg (by simp; omega), Nat.add_zero]
           have hk0 : k ≠ q0 := fun e => by rw [e] at h85; omega
           have hk1 : k ≠ q1 := fun e => by rw [e] at h85; omega
           have ih9 := ih64 (k + 1, f, la)
           try dsimp only at ih9
           rw [hct] at ih9
           exact ih9 ⟨by omega, fun z => hfa (by omega), fun z => hfb (by omega), fun z => hla (by omega)⟩ (by omega))
        | (have hct := ct_s1 (p := fun q => lnS S (odS S q) == L) (j := k) (by simp; omega)
           try dsimp only at hct
           have hkq : q0 ≤ k := by
             rcases Nat.lt_or_ge k q0 with z | z
             · exact absurd (show lnS S (odS S k) = L by omega) (hf0 k z)
             · exact z
           have hkl : k ≤ q1 := by
             rcases Nat.lt_or_ge q1 k with z | z
             · exact absurd (show lnS S (odS S k) = L by omega) (hf1 k z (by omega))
             · exact z
           rw [hct]
           have hv := hwr k (by omega)
           first
           | (refine ih64 (k + 1, f, (WD S gp).2.2.1 (odS S k)) ⟨by (try dsimp only); omega, fun z => absurd z (by (try dsimp only); omega), fun _ => ?_, fun z => ?_⟩ (by (try dsimp only); omega)
              · try dsimp only
                refine hfb ?_
                rcases Nat.lt_or_ge q0 k with z | z
                · exact z
                · have := hfa z
                  omega
              · have e : k = q1 := by (try dsimp only at z); omega
                rw [e])
           | (refine ih64 (k + 1, (WD S gp).2.2.1 (odS S k), (WD S gp).2.2.1 (odS S k)) ⟨by (try dsimp only); omega, fun z => absurd z (by (try dsimp only); omega), fun _ => ?_, fun z => ?_⟩ (by (try dsimp only); omega)
              · try dsimp only
                have e : k = q0 := by
                  rcases Nat.lt_or_ge q0 k with z | z
                  · have := hfb z
                    omega
                  · omega
                rw [e]
              · have e : k = q1 := by (try dsimp only at z); omega
                rw [e]))
      refine V_iinc XC dX8_line_44 rfl (by decide) ?_
      dsimp only [List.set]
      refine V_goto XC 34 dX8_line_47 (by decide) ?_
      have hne : g ≠ b0 := fun e => by rw [e] at h41; omega
      exact ih34 (g + 1) (by omega) (by omega)
    have hw2 := of_decide_eq_false h26
    have hp : lineS S gp (L : Int) what = -2 := by
      unfold lineS
      rw [if_neg hh, if_neg (by omega), if_neg (by omega), if_neg (by omega), if_neg (by omega), if_neg (by omega)]
    refine V_bipush XC dX8_line_29 (by decide) ?_
    refine V_iret XC (((mS S : Nat) : Int), TO1, BO1, BE1, RK1, (((WD S gp).1 : Nat) : Int), WO1, OD1) hrV rfl dX8_line_31 ?_
    exact hp.symm
  have hp : lineS S gp z what = -1 := if_pos h15
  refine V_iconst XC dX8_line_18 ?_
  refine V_iret XC (((mS S : Nat) : Int), TO1, BO1, BE1, RK1, (((WD S gp).1 : Nat) : Int), WO1, OD1) hrV rfl dX8_line_19 ?_
  exact hp.symm

end REFP
