/-! the reference: a word -/
section REFQ

def MnW (P : Nat → Prop) (v : Nat → Int) (s : Nat) (d a : Int) : Prop := (∀ j, j < s → P j → a ≤ v j) ∧ (a = d ∨ ∃ j, j < s ∧ P j ∧ a = v j)
def MxW (P : Nat → Prop) (v : Nat → Int) (s : Nat) (d a : Int) : Prop := (∀ j, j < s → P j → v j ≤ a) ∧ (a = d ∨ ∃ j, j < s ∧ P j ∧ a = v j)
theorem MnW_0 {P : Nat → Prop} {v : Nat → Int} {d : Int} : MnW P v 0 d d := ⟨fun j hj => absurd hj (Nat.not_lt_zero j), Or.inl rfl⟩
theorem MxW_0 {P : Nat → Prop} {v : Nat → Int} {d : Int} : MxW P v 0 d d := ⟨fun j hj => absurd hj (Nat.not_lt_zero j), Or.inl rfl⟩
theorem MnW_skip {P : Nat → Prop} {v : Nat → Int} {d a : Int} {s : Nat} (h : MnW P v s d a) (hp : ¬ P s ∨ a ≤ v s) : MnW P v (s + 1) d a := by
  refine ⟨fun j hj hP => ?_, h.2.elim Or.inl (fun ⟨j, h1, h2⟩ => Or.inr ⟨j, by omega, h2⟩)⟩
  rcases Nat.lt_or_ge j s with z | z
  · exact h.1 j z hP
  · obtain rfl : j = s := by omega
    exact hp.elim (fun y => absurd hP y) id
theorem MxW_skip {P : Nat → Prop} {v : Nat → Int} {d a : Int} {s : Nat} (h : MxW P v s d a) (hp : ¬ P s ∨ v s ≤ a) : MxW P v (s + 1) d a := by
  refine ⟨fun j hj hP => ?_, h.2.elim Or.inl (fun ⟨j, h1, h2⟩ => Or.inr ⟨j, by omega, h2⟩)⟩
  rcases Nat.lt_or_ge j s with z | z
  · exact h.1 j z hP
  · obtain rfl : j = s := by omega
    exact hp.elim (fun y => absurd hP y) id
theorem MnW_take {P : Nat → Prop} {v : Nat → Int} {d a : Int} {s : Nat} (h : MnW P v s d a) (hp : P s) (hv : v s < a) : MnW P v (s + 1) d (v s) := by
  refine ⟨fun j hj hP => ?_, Or.inr ⟨s, by omega, hp, rfl⟩⟩
  rcases Nat.lt_or_ge j s with z | z
  · have := h.1 j z hP; omega
  · obtain rfl : j = s := by omega
    exact Int.le_refl _
theorem MxW_take {P : Nat → Prop} {v : Nat → Int} {d a : Int} {s : Nat} (h : MxW P v s d a) (hp : P s) (hv : a < v s) : MxW P v (s + 1) d (v s) := by
  refine ⟨fun j hj hP => ?_, Or.inr ⟨s, by omega, hp, rfl⟩⟩
  rcases Nat.lt_or_ge j s with z | z
  · have := h.1 j z hP; omega
  · obtain rfl : j = s := by omega
    exact Int.le_refl _

set_option maxRecDepth 100000 in
set_option maxHeartbeats 4000000 in
theorem c_X8_word (l : Launch) (D : va_G) (kI kC : ClassId) (b : Nat → Nat) (gp : Int) (ke : Nat) (un : Nat) (bu : Nat) (ty : Nat) (pc : Int) (gd : Bool) (rd : Int) (po : Int) (ln : Int) (wd : Int) (G : Nat → Int) (TO : Nat → Int) (BO : Nat → Int) (BE : Nat → Int) (RK : Nat → Int) (WO : Nat → Int) (OD : Nat → Int) (S : List Stk) (hS : OkS S) (hN : NowR G S) (hg : 0 ≤ gp ∧ gp ≤ 500) (z what : Int) (hz : IR z) (hw : IR what) : Con l yX8_word wsX8_word { frames := 5, cells := 0, slots := 0, locals := 120 } D kI kC [.ref (b 0), .int (iI z), .int (iI what)] (mdO b gp (ke : Int) (un : Int) (bu : Int) (ty : Int) pc gd rd po ln wd :: [(b 1, IA kI 801 G), (b 14, IA kI 16 TO), (b 15, IA kI 16 BO), (b 16, IA kI 16 BE), (b 17, IA kI 16 RK), (b 18, IA kI 16 WO), (b 19, IA kI 16 OD)]) (σ := Int × (Nat → Int) × (Nat → Int) × (Nat → Int) × (Nat → Int) × Int × (Nat → Int) × (Nat → Int)) (qI (fun r u => r = wordS S gp z what)) (fun u => (mdO b gp (ke : Int) (un : Int) (bu : Int) (ty : Int) pc gd rd po u.1 u.2.2.2.2.2.1 :: [(b 1, IA kI 801 G), (b 14, IA kI 16 u.2.1), (b 15, IA kI 16 u.2.2.1), (b 16, IA kI 16 u.2.2.2.1), (b 17, IA kI 16 u.2.2.2.2.1), (b 18, IA kI 16 u.2.2.2.2.2.2.1), (b 19, IA kI 16 u.2.2.2.2.2.2.2)])) := by
  refine Con.of (cc := cX8_word) (maxL := 8) (ret := (some .int)) (by decide +kernel) rfl (List.forall_mem_cons.mpr ⟨rfl, List.forall_mem_cons.mpr ⟨rfl, List.forall_mem_cons.mpr ⟨rfl, fun _ h => absurd h List.not_mem_nil⟩⟩⟩) (Nat.le_of_ble_eq_true rfl) ?_
  intro pV eV sV mV bV tV cV AV XC hrV
  have XC : Cx pV _ sV mV _ tV cV cX8_word 8 RX8 wsX8_word AV D kI kC := XC
  change VV _ _ _ _ _ _ _ _ _ _ _ _ _ _ _ _ _ [some (.ref (b 0)), some (.int (iI z)), some (.int (iI what)), none, none, none, none, none] _ _
  dsimp only [mdO, List.cons_append, List.nil_append]
  have hn16 : S.length ≤ 16 := hS.1
  have hN0 : G 0 = (S.length : Int) := hN.1
  refine V_aload_n XC 0 rfl dX8_word_0 rfl ?_
  refine V_callV (rest := _) (q0 := 0) XC (c_X8_layOut l D kI kC _ _ _ _ _ _ _ _ _ _ _ _ _ _ _ _ _ _ _ _ (by assumption) (by assumption) (by omega)) gX8_word_X8_layOut rfl kmX8_layOut ⟨⟨Nat.le_of_ble_eq_true rfl, Nat.le_of_ble_eq_true rfl⟩, Nat.le_of_ble_eq_true rfl, Nat.le_of_ble_eq_true rfl⟩ ⟨rfl, rfl⟩ rfl rfl (Nat.le_of_ble_eq_true rfl) [0, 1, 2, 3, 4, 5, 6, 7] rfl rfl (fun _ => rfl) rfl rfl dX8_word_1 (kV_of (fun u1 hq1 => ?_))
  obtain ⟨m1, TO1, BO1, BE1, RK1, w1, WO1, OD1⟩ := u1
  dsimp only [putW, List.set, Option.toList, List.cons_append, List.nil_append, padO, mdO, shW, trW, txW, hiW, liW, woW, taW]
  try dsimp only at hq1
  have hL1 := hq1
  obtain ⟨rfl, hbE, hrE, hrk9, rfl, hWO9, hOD9⟩ := hL1
  have hmS := (GS_ok hS).1
  have hwle := WD_le (S := S) (gap := gp)
  refine V_iload_n XC 1 rfl dX8_word_4 rfl ?_
  refine V_iconst XC dX8_word_5 ?_
  refine V_aload_n XC 0 rfl dX8_word_6 rfl ?_
  refine V_get XC 27 flX8_word_217 0 rfl rfl dX8_word_7 ?_
  refine V_iconst XC dX8_word_10 ?_
  refine V_isub XC dX8_word_11 ?_
  refine V_callS (rest := _) XC (c_X8_in l D kI kC _ _ _ hz ⟨by decide, by decide⟩ ⟨by omega, by omega⟩) gX8_word_X8_in rfl kmX8_in ⟨⟨Nat.le_of_ble_eq_true rfl, Nat.le_of_ble_eq_true rfl⟩, Nat.le_of_ble_eq_true rfl, Nat.le_of_ble_eq_true rfl⟩ ⟨rfl, rfl⟩ rfl rfl (Nat.le_of_ble_eq_true rfl) [] rfl rfl (fun _ => rfl) dX8_word_12 (kR_of rfl (fun r12 hq12 => ?_))
  subst hq12
  refine V_bif_ne XC 20 dX8_word_15 (by decide) (fun h15 => ?_) (fun h15 => ?_)
  · skip
    have hz2 := of_decide_eq_true h15
    obtain ⟨X, rfl⟩ : ∃ k : Nat, z = (k : Int) := ⟨z.toNat, by omega⟩
    have hh : ¬ inR (X : Int) 0 (((WD S gp).1 : Int) - 1) = false := by unfold inR; rw [h15]; decide
    have hXw : X < (WD S gp).1 := by omega
    have hWI := (WI_run (S := S) (gap := gp) S.length (Nat.le_refl _)).1
    have hwr : ∀ q, q < S.length → 0 ≤ (WD S gp).2.2.1 (odS S q) ∧ (WD S gp).2.2.1 (odS S q) < ((WD S gp).1 : Int) := hWI.2.2.2.1
    have hli : ∀ q, q < S.length → (WD S gp).2.2.2.1 ((WD S gp).2.2.1 (odS S q)).toNat = (lnS S (odS S q) : Int) := hWI.2.2.2.2.1
    have hsi : (WD S gp).2.2.2.2.1 X = (fb_ct (fun q => decide ((WD S gp).2.2.1 (odS S q) = (X : Int))) S.length : Nat) := hWI.2.2.2.2.2.1 X hXw
    obtain ⟨q0, hq0, hw0, hfi, hle, hbf⟩ := hWI.2.2.2.2.2.2.1 X hXw
    obtain ⟨hri1, q1, hq1, hw1, hri⟩ := hWI.2.2.2.2.2.2.2 X hXw
    have hw0 : (WD S gp).2.2.1 (odS S q0) = (X : Int) := hw0
    have hw1 : (WD S gp).2.2.1 (odS S q1) = (X : Int) := hw1
    have hfi : (WD S gp).2.2.2.2.2.2.2.1 X = (q0 : Int) := hfi
    have hle : (WD S gp).2.2.2.2.2.1 X = lfS S (odS S q0) := hle
    have hri : (WD S gp).2.2.2.2.2.2.1 X = rtS S (odS S q1) := hri
    have hbf : ∀ q2, q2 < q0 → (WD S gp).2.2.1 (odS S q2) ≠ (X : Int) := hbf
    have hri1 : ∀ q, q < S.length → (WD S gp).2.2.1 (odS S q) = (X : Int) → rtS S (odS S q) ≤ (WD S gp).2.2.2.2.2.2.1 X := hri1
    have hct := ct_od (S := S) (P := fun j => decide ((WD S gp).2.2.1 j = (X : Int)))
    try dsimp only at hct
    rw [hct] at hsi
    have hli0 := hli q0 hq0
    rw [hw0, Int.toNat_natCast] at hli0
    have hok0 := (plS_od (S := S) hq0).1
    have hok1 := (plS_od (S := S) hq1).1
    have hb0 := (bdS hS hok0).2
    have hb1 := (bdS hS hok1).2
    clear hWI hli
    refine V_iconst XC dX8_word_20 ?_
    refine V_istore_n XC 3 rfl dX8_word_21 (by decide) ?_
    dsimp only [List.set]
    refine V_iconst XC dX8_word_22 ?_
    refine V_istore XC dX8_word_23 (by decide) ?_
    dsimp only [List.set]
    refine V_loopR (σ := Nat) (fun u => q0 - u) (fun u => u ≤ q0) (fun u => [some (.ref (b 0)), some (.int (iI (X : Int))), some (.int (iI what)), some (.int (iI ((0 : Nat) : Int))), some (.int (iI (u : Int))), none, none, none]) (0) (Nat.zero_le _) rfl (fun u hJ ih25 => ?_)
    obtain ⟨g, rfl⟩ : ∃ z, z = u := ⟨_, rfl⟩
    try dsimp only at hJ ih25 ⊢
    obtain hgb := hJ
    have hodg := hOD9 g (by omega)
    have hokg := (plS_od (S := S) (p := g) (by omega)).1
    have hvg := hwr g (by omega)
    refine V_aload_n XC 0 rfl dX8_word_25 rfl ?_
    refine V_get XC 28 flX8_word_66 0 rfl rfl dX8_word_26 ?_
    refine V_aload_n XC 0 rfl dX8_word_29 rfl ?_
    refine V_get XC 29 flX8_word_69 0 rfl rfl dX8_word_30 ?_
    refine V_iload XC dX8_word_33 rfl ?_
    refine V_iald XC (g) 7 rfl (by omega) (by omega) (by decide) dX8_word_35 ?_
    rw [hodg]
    refine V_iald XC (odS S g) 6 rfl (by omega) (by omega) (by decide) dX8_word_36 ?_
    rw [hWO9 _ hokg]
    refine V_iload_n XC 1 rfl dX8_word_37 rfl ?_
    refine V_icmp_eq XC 47 dX8_word_38 (by decide) ⟨by omega, by omega⟩ ⟨by omega, by omega⟩ (fun h38 => ?_) (fun h38 => ?_)
    · skip
      have hge : g = q0 := by
        rcases Nat.lt_or_ge g q0 with z | z
        · exact absurd (by omega) (hbf g z)
        · omega
      subst hge
      refine V_sipush XC dX8_word_47 (by decide) ?_
      refine V_istore XC dX8_word_50 (by decide) ?_
      dsimp only [List.set]
      refine V_iconst XC dX8_word_52 ?_
      refine V_istore XC dX8_word_53 (by decide) ?_
      dsimp only [List.set]
      refine V_iconst XC dX8_word_55 ?_
      refine V_istore XC dX8_word_56 (by decide) ?_
      dsimp only [List.set]
      refine V_loopR (σ := Nat × Int × Int) (fun u => S.length - u.1) (fun u => u.1 ≤ S.length ∧ MnW (fun j => (WD S gp).2.2.1 j = (X : Int)) (lfS S) u.1 1000 u.2.1 ∧ MxW (fun j => (WD S gp).2.2.1 j = (X : Int)) (rtS S) u.1 0 u.2.2 ∧ (0 ≤ u.2.1 ∧ u.2.1 ≤ 1000) ∧ 0 ≤ u.2.2 ∧ u.2.2 ≤ 1000) (fun u => [some (.ref (b 0)), some (.int (iI (X : Int))), some (.int (iI what)), some (.int (iI ((fb_ct (fun j => decide ((WD S gp).2.2.1 j = (X : Int))) u.1 : Nat) : Int))), some (.int (iI (g : Int))), some (.int (iI u.2.1)), some (.int (iI u.2.2)), some (.int (iI (u.1 : Int)))]) (0, 1000, 0) ?_ rfl (fun u hJ ih58 => ?_)
      · dsimp only
        exact ⟨Nat.zero_le _, MnW_0, MxW_0, by omega, by omega⟩
      obtain ⟨k, lf, rt⟩ := u
      try dsimp only at hJ ih58 ⊢
      obtain ⟨hk, hmn, hmx, hlr, hrr⟩ := hJ
      refine V_iload XC dX8_word_58 rfl ?_
      refine V_aload_n XC 0 rfl dX8_word_60 rfl ?_
      refine V_callV (rest := _) (q0 := 0) XC (c_X8_strokes l D kI kC _ _ _ _ _ _ _ _ _ _ _ _ _ ) gX8_word_X8_strokes rfl kmX8_strokes ⟨⟨Nat.le_of_ble_eq_true rfl, Nat.le_of_ble_eq_true rfl⟩, Nat.le_of_ble_eq_true rfl, Nat.le_of_ble_eq_true rfl⟩ ⟨rfl, rfl⟩ rfl rfl (Nat.le_of_ble_eq_true rfl) [0, 1] rfl rfl (fun _ => rfl) rfl rfl dX8_word_61 (kR_of rfl (fun r61 hq61 => ?_))
      subst hq61
      rw [hN0]
      refine V_icmp_ge XC 143 dX8_word_64 (by decide) ⟨by omega, by omega⟩ ⟨by omega, by omega⟩ (fun h64 => ?_) (fun h64 => ?_)
      · skip
        obtain rfl : k = S.length := by omega
        have hlv : lf = (WD S gp).2.2.2.2.2.1 X := by
          have a1 := hmn.1 _ hok0 hw0
          rcases hmn.2 with z | ⟨j, hj, e1, e2⟩
          · omega
          · have h9 := WI_left (S := S) (gap := gp) hXw (plS_lt hj) (by rw [odS_pl hj]; exact e1)
            rw [odS_pl hj] at h9
            omega
        have hrv : rt = (WD S gp).2.2.2.2.2.2.1 X := by
          have a1 := hmx.1 _ hok1 hw1
          rcases hmx.2 with z | ⟨j, hj, e1, e2⟩
          · omega
          · have h9 := hri1 _ (plS_lt hj) (by rw [odS_pl hj]; exact e1)
            rw [odS_pl hj] at h9
            omega
        refine V_iload_n XC 2 rfl dX8_word_143 rfl ?_
        rcases (show (what < 0 ∨ 4 < what) ∨ what = 0 ∨ what = 1 ∨ what = 2 ∨ what = 3 ∨ what = 4 from by omega) with h144 | h144 | h144 | h144 | h144 | h144
        · skip
          refine V_tabOut XC 203 (by first | assumption | (unfold IR; omega)) dX8_word_144 h144 (by decide) ?_
          refine V_bipush XC dX8_word_203 (by decide) ?_
          refine V_iret XC (((mS S : Nat) : Int), TO1, BO1, BE1, RK1, (((WD S gp).1 : Nat) : Int), WO1, OD1) hrV rfl dX8_word_205 ?_
          unfold wordS
          rw [if_neg hh, if_neg (by omega), if_neg (by omega), if_neg (by omega), if_neg (by omega), if_neg (by omega)]
        · skip
          refine V_tabIn XC 180 0 h144 dX8_word_144 (by unfold IR; decide) (by decide) (by decide) (by rfl) (by decide) ?_
          refine V_aload_n XC 0 rfl dX8_word_180 rfl ?_
          refine V_aload_n XC 0 rfl dX8_word_181 rfl ?_
          refine V_get XC 29 flX8_word_69 0 rfl rfl dX8_word_182 ?_
          refine V_iload XC dX8_word_185 rfl ?_
          refine V_iald XC (g) 7 rfl (by omega) (by omega) (by decide) dX8_word_187 ?_
          rw [hOD9 g (by omega)]
          refine V_callV (rest := _) (q0 := 0) XC (c_X8_lineOf l D kI kC _ _ _ _ _ _ _ _ _ _ _ _ _ _ (odS S g) (by omega) (hbE _ hok0)) gX8_word_X8_lineOf rfl kmX8_lineOf ⟨⟨Nat.le_of_ble_eq_true rfl, Nat.le_of_ble_eq_true rfl⟩, Nat.le_of_ble_eq_true rfl, Nat.le_of_ble_eq_true rfl⟩ ⟨rfl, rfl⟩ rfl rfl (Nat.le_of_ble_eq_true rfl) [0, 4, 5] rfl rfl (fun _ => rfl) rfl rfl dX8_word_188 (kR_of rfl (fun r188 hq188 => ?_))
          subst hq188
          rw [hrE _ hok0]
          refine V_iret XC (((mS S : Nat) : Int), TO1, BO1, BE1, RK1, (((WD S gp).1 : Nat) : Int), WO1, OD1) hrV rfl dX8_word_191 ?_
          subst h144
          unfold wordS
          rw [if_neg hh, Int.toNat_natCast, if_pos rfl]
          exact hli0.symm
        · skip
          refine V_tabIn XC 192 1 h144 dX8_word_144 (by unfold IR; decide) (by decide) (by decide) (by rfl) (by decide) ?_
          refine V_iload_n XC 3 rfl dX8_word_192 rfl ?_
          refine V_iret XC (((mS S : Nat) : Int), TO1, BO1, BE1, RK1, (((WD S gp).1 : Nat) : Int), WO1, OD1) hrV rfl dX8_word_193 ?_
          subst h144
          unfold wordS
          rw [if_neg hh, Int.toNat_natCast, if_neg (by decide), if_pos rfl]
          exact hsi.symm
        · skip
          refine V_tabIn XC 194 2 h144 dX8_word_144 (by unfold IR; decide) (by decide) (by decide) (by rfl) (by decide) ?_
          refine V_iload XC dX8_word_194 rfl ?_
          refine V_iret XC (((mS S : Nat) : Int), TO1, BO1, BE1, RK1, (((WD S gp).1 : Nat) : Int), WO1, OD1) hrV rfl dX8_word_196 ?_
          subst h144
          unfold wordS
          rw [if_neg hh, Int.toNat_natCast, if_neg (by decide), if_neg (by decide), if_pos rfl]
          exact hlv
        · skip
          refine V_tabIn XC 197 3 h144 dX8_word_144 (by unfold IR; decide) (by decide) (by decide) (by rfl) (by decide) ?_
          refine V_iload XC dX8_word_197 rfl ?_
          refine V_iret XC (((mS S : Nat) : Int), TO1, BO1, BE1, RK1, (((WD S gp).1 : Nat) : Int), WO1, OD1) hrV rfl dX8_word_199 ?_
          subst h144
          unfold wordS
          rw [if_neg hh, Int.toNat_natCast, if_neg (by decide), if_neg (by decide), if_neg (by decide), if_pos rfl]
          exact hrv
        · skip
          refine V_tabIn XC 200 4 h144 dX8_word_144 (by unfold IR; decide) (by decide) (by decide) (by rfl) (by decide) ?_
          refine V_iload XC dX8_word_200 rfl ?_
          refine V_iret XC (((mS S : Nat) : Int), TO1, BO1, BE1, RK1, (((WD S gp).1 : Nat) : Int), WO1, OD1) hrV rfl dX8_word_202 ?_
          subst h144
          unfold wordS
          rw [if_neg hh, Int.toNat_natCast, if_neg (by decide), if_neg (by decide), if_neg (by decide), if_neg (by decide), if_pos rfl]
          exact hfi.symm
      have hbk := (bdS hS (k := k) (by omega)).2
      have hWk := hWO9 k (by omega)
      have hvk := hwr (plS S k) (plS_lt (by omega))
      rw [odS_pl (by omega)] at hvk
      refine V_aload_n XC 0 rfl dX8_word_67 rfl ?_
      refine V_get XC 28 flX8_word_66 0 rfl rfl dX8_word_68 ?_
      refine V_iload XC dX8_word_71 rfl ?_
      refine V_iald XC (k) 6 rfl (by omega) (by omega) (by decide) dX8_word_73 ?_
      rw [hWk]
      refine V_iload_n XC 1 rfl dX8_word_74 rfl ?_
      refine V_icmp_ne XC 137 dX8_word_75 (by decide) ⟨by omega, by omega⟩ ⟨by omega, by omega⟩ (fun h75 => ?_) (fun h75 => ?_)
      · skip
        refine V_iinc XC dX8_word_137 rfl (by decide) ?_
        dsimp only [List.set]
        refine V_goto XC 58 dX8_word_140 (by decide) ?_
        first
        | (have hc9 : fb_ct (fun j => decide ((WD S gp).2.2.1 j = (X : Int))) (k + 1) = fb_ct (fun j => decide ((WD S gp).2.2.1 j = (X : Int))) k := by
             rw [fb_ct_succ, if_neg (by simp; omega), Nat.add_zero]
           have ih9 := ih58 (k + 1, lf, rt)
           try dsimp only at ih9
           rw [hc9] at ih9
           exact ih9 ⟨by omega, MnW_skip hmn (Or.inl h75), MxW_skip hmx (Or.inl h75), hlr, hrr⟩ (by omega))
        | (have hc9 := ct_s1 (p := fun j => decide ((WD S gp).2.2.1 j = (X : Int))) (j := k) (by simp; omega)
           try dsimp only at hc9
           rw [hc9]
           first
           | (exact ih58 (k + 1, lf, rt) ⟨by (try dsimp only); omega, MnW_skip hmn (Or.inr (by omega)), MxW_skip hmx (Or.inr (by omega)), hlr, hrr⟩ (by (try dsimp only); omega))
           | (exact ih58 (k + 1, lfS S k, rt) ⟨by (try dsimp only); omega, MnW_take hmn h75 (by omega), MxW_skip hmx (Or.inr (by omega)), by (try dsimp only); omega, hrr⟩ (by (try dsimp only); omega))
           | (exact ih58 (k + 1, lf, rtS S k) ⟨by (try dsimp only); omega, MnW_skip hmn (Or.inr (by omega)), MxW_take hmx h75 (by omega), hlr, by (try dsimp only); omega⟩ (by (try dsimp only); omega))
           | (exact ih58 (k + 1, lfS S k, rtS S k) ⟨by (try dsimp only); omega, MnW_take hmn h75 (by omega), MxW_take hmx h75 (by omega), by (try dsimp only); omega, by (try dsimp only); omega⟩ (by (try dsimp only); omega)))
      refine V_iinc XC dX8_word_78 rfl (by decide) ?_
      dsimp only [List.set]
      refine V_aload_n XC 0 rfl dX8_word_81 rfl ?_
      refine V_iload XC dX8_word_82 rfl ?_
      refine V_iconst XC dX8_word_84 ?_
      refine V_iconst XC dX8_word_85 ?_
      refine V_callV (rest := _) (q0 := 0) XC (c_X8_bound l D kI kC _ _ _ _ _ _ _ _ _ _ _ _ _ k false false (by omega) (NowR_ok hN hS (by omega))) gX8_word_X8_bound rfl kmX8_bound ⟨⟨Nat.le_of_ble_eq_true rfl, Nat.le_of_ble_eq_true rfl⟩, Nat.le_of_ble_eq_true rfl, Nat.le_of_ble_eq_true rfl⟩ ⟨rfl, rfl⟩ rfl rfl (Nat.le_of_ble_eq_true rfl) [0, 1] rfl rfl (fun _ => rfl) rfl rfl dX8_word_86 (kR_of rfl (fun r86 hq86 => ?_))
      subst hq86
      rw [show bdR (skR G k) false false = lfS S k from by unfold lfS; rw [NowR_at hN (by omega)]; rfl]
      refine V_iload XC dX8_word_89 rfl ?_
      refine V_icmp_ge XC 105 dX8_word_91 (by decide) ⟨by omega, by omega⟩ ⟨by omega, by omega⟩ (fun h91 => ?_) (fun h91 => ?_)
      · skip
        refine V_iload XC dX8_word_105 rfl ?_
        refine V_istore XC dX8_word_107 (by decide) ?_
        dsimp only [List.set]
        refine V_aload_n XC 0 rfl dX8_word_109 rfl ?_
        refine V_iload XC dX8_word_110 rfl ?_
        refine V_iconst XC dX8_word_112 ?_
        refine V_iconst XC dX8_word_113 ?_
        refine V_callV (rest := _) (q0 := 0) XC (c_X8_bound l D kI kC _ _ _ _ _ _ _ _ _ _ _ _ _ k false true (by omega) (NowR_ok hN hS (by omega))) gX8_word_X8_bound rfl kmX8_bound ⟨⟨Nat.le_of_ble_eq_true rfl, Nat.le_of_ble_eq_true rfl⟩, Nat.le_of_ble_eq_true rfl, Nat.le_of_ble_eq_true rfl⟩ ⟨rfl, rfl⟩ rfl rfl (Nat.le_of_ble_eq_true rfl) [0, 1] rfl rfl (fun _ => rfl) rfl rfl dX8_word_114 (kR_of rfl (fun r114 hq114 => ?_))
        subst hq114
        rw [show bdR (skR G k) false true = rtS S k from by unfold rtS; rw [NowR_at hN (by omega)]; rfl]
        refine V_iload XC dX8_word_117 rfl ?_
        refine V_icmp_le XC 133 dX8_word_119 (by decide) ⟨by omega, by omega⟩ ⟨by omega, by omega⟩ (fun h119 => ?_) (fun h119 => ?_)
        · skip
          refine V_iload XC dX8_word_133 rfl ?_
          refine V_istore XC dX8_word_135 (by decide) ?_
          dsimp only [List.set]
          refine V_iinc XC dX8_word_137 rfl (by decide) ?_
          dsimp only [List.set]
          refine V_goto XC 58 dX8_word_140 (by decide) ?_
          first
          | (have hc9 : fb_ct (fun j => decide ((WD S gp).2.2.1 j = (X : Int))) (k + 1) = fb_ct (fun j => decide ((WD S gp).2.2.1 j = (X : Int))) k := by
               rw [fb_ct_succ, if_neg (by simp; omega), Nat.add_zero]
             have ih9 := ih58 (k + 1, lf, rt)
             try dsimp only at ih9
             rw [hc9] at ih9
             exact ih9 ⟨by omega, MnW_skip hmn (Or.inl h75), MxW_skip hmx (Or.inl h75), hlr, hrr⟩ (by omega))
          | (have hc9 := ct_s1 (p := fun j => decide ((WD S gp).2.2.1 j = (X : Int))) (j := k) (by simp; omega)
             try dsimp only at hc9
             rw [hc9]
             first
             | (exact ih58 (k + 1, lf, rt) ⟨by (try dsimp only); omega, MnW_skip hmn (Or.inr (by omega)), MxW_skip hmx (Or.inr (by omega)), hlr, hrr⟩ (by (try dsimp only); omega))
             | (exact ih58 (k + 1, lfS S k, rt) ⟨by (try dsimp only); omega, MnW_take hmn h75 (by omega), MxW_skip hmx (Or.inr (by omega)), by (try dsimp only); omega, hrr⟩ (by (try dsimp only); omega))
             | (exact ih58 (k + 1, lf, rtS S k) ⟨by (try dsimp only); omega, MnW_skip hmn (Or.inr (by omega)), MxW_take hmx h75 (by omega), hlr, by (try dsimp only); omega⟩ (by (try dsimp only); omega))
             | (exact ih58 (k + 1, lfS S k, rtS S k) ⟨by (try dsimp only); omega, MnW_take hmn h75 (by omega), MxW_take hmx h75 (by omega), by (try dsimp only); omega, by (try dsimp only); omega⟩ (by (try dsimp only); omega)))
        refine V_aload_n XC 0 rfl dX8_word_122 rfl ?_
        refine V_iload XC dX8_word_123 rfl ?_
        refine V_iconst XC dX8_word_125 ?_
        refine V_iconst XC dX8_word_126 ?_
        refine V_callV (rest := _) (q0 := 0) XC (c_X8_bound l D kI kC _ _ _ _ _ _ _ _ _ _ _ _ _ k false true (by omega) (NowR_ok hN hS (by omega))) gX8_word_X8_bound rfl kmX8_bound ⟨⟨Nat.le_of_ble_eq_true rfl, Nat.le_of_ble_eq_true rfl⟩, Nat.le_of_ble_eq_true rfl, Nat.le_of_ble_eq_true rfl⟩ ⟨rfl, rfl⟩ rfl rfl (Nat.le_of_ble_eq_true rfl) [0, 1] rfl rfl (fun _ => rfl) rfl rfl dX8_word_127 (kR_of rfl (fun r127 hq127 => ?_))
        subst hq127
        rw [show bdR (skR G k) false true = rtS S k from by unfold rtS; rw [NowR_at hN (by omega)]; rfl]
        refine V_goto XC 135 dX8_word_130 (by decide) ?_
        refine V_istore XC dX8_word_135 (by decide) ?_
        dsimp only [List.set]
        refine V_iinc XC dX8_word_137 rfl (by decide) ?_
        dsimp only [List.set]
        refine V_goto XC 58 dX8_word_140 (by decide) ?_
        first
        | (have hc9 : fb_ct (fun j => decide ((WD S gp).2.2.1 j = (X : Int))) (k + 1) = fb_ct (fun j => decide ((WD S gp).2.2.1 j = (X : Int))) k := by
             rw [fb_ct_succ, if_neg (by simp; omega), Nat.add_zero]
           have ih9 := ih58 (k + 1, lf, rt)
           try dsimp only at ih9
           rw [hc9] at ih9
           exact ih9 ⟨by omega, MnW_skip hmn (Or.inl h75), MxW_skip hmx (Or.inl h75), hlr, hrr⟩ (by omega))
        | (have hc9 := ct_s1 (p := fun j => decide ((WD S gp).2.2.1 j = (X : Int))) (j := k) (by simp; omega)
           try dsimp only at hc9
           rw [hc9]
           first
           | (exact ih58 (k + 1, lf, rt) ⟨by (try dsimp only); omega, MnW_skip hmn (Or.inr (by omega)), MxW_skip hmx (Or.inr (by omega)), hlr, hrr⟩ (by (try dsimp only); omega))
           | (exact ih58 (k + 1, lfS S k, rt) ⟨by (try dsimp only); omega, MnW_take hmn h75 (by omega), MxW_skip hmx (Or.inr (by omega)), by (try dsimp only); omega, hrr⟩ (by (try dsimp only); omega))
           | (exact ih58 (k + 1, lf, rtS S k) ⟨by (try dsimp only); omega, MnW_skip hmn (Or.inr (by omega)), MxW_take hmx h75 (by omega), hlr, by (try dsimp only); omega⟩ (by (try dsimp only); omega))
           | (exact ih58 (k + 1, lfS S k, rtS S k) ⟨by (try dsimp only); omega, MnW_take hmn h75 (by omega), MxW_take hmx h75 (by omega), by (try dsimp only); omega, by (try dsimp only); omega⟩ (by (try dsimp only); omega)))
      refine V_aload_n XC 0 rfl dX8_word_94 rfl ?_
      refine V_iload XC dX8_word_95 rfl ?_
      refine V_iconst XC dX8_word_97 ?_
      refine V_iconst XC dX8_word_98 ?_
      refine V_callV (rest := _) (q0 := 0) XC (c_X8_bound l D kI kC _ _ _ _ _ _ _ _ _ _ _ _ _ k false false (by omega) (NowR_ok hN hS (by omega))) gX8_word_X8_bound rfl kmX8_bound ⟨⟨Nat.le_of_ble_eq_true rfl, Nat.le_of_ble_eq_true rfl⟩, Nat.le_of_ble_eq_true rfl, Nat.le_of_ble_eq_true rfl⟩ ⟨rfl, rfl⟩ rfl rfl (Nat.le_of_ble_eq_true rfl) [0, 1] rfl rfl (fun _ => rfl) rfl rfl dX8_word_99 (kR_of rfl (fun r99 hq99 => ?_))
      subst hq99
      rw [show bdR (skR G k) false false = lfS S k from by unfold lfS; rw [NowR_at hN (by omega)]; rfl]
      refine V_goto XC 107 dX8_word_102 (by decide) ?_
      refine V_istore XC dX8_word_107 (by decide) ?_
      dsimp only [List.set]
      refine V_aload_n XC 0 rfl dX8_word_109 rfl ?_
      refine V_iload XC dX8_word_110 rfl ?_
      refine V_iconst XC dX8_word_112 ?_
      refine V_iconst XC dX8_word_113 ?_
      refine V_callV (rest := _) (q0 := 0) XC (c_X8_bound l D kI kC _ _ _ _ _ _ _ _ _ _ _ _ _ k false true (by omega) (NowR_ok hN hS (by omega))) gX8_word_X8_bound rfl kmX8_bound ⟨⟨Nat.le_of_ble_eq_true rfl, Nat.le_of_ble_eq_true rfl⟩, Nat.le_of_ble_eq_true rfl, Nat.le_of_ble_eq_true rfl⟩ ⟨rfl, rfl⟩ rfl rfl (Nat.le_of_ble_eq_true rfl) [0, 1] rfl rfl (fun _ => rfl) rfl rfl dX8_word_114 (kR_of rfl (fun r114 hq114 => ?_))
      subst hq114
      rw [show bdR (skR G k) false true = rtS S k from by unfold rtS; rw [NowR_at hN (by omega)]; rfl]
      refine V_iload XC dX8_word_117 rfl ?_
      refine V_icmp_le XC 133 dX8_word_119 (by decide) ⟨by omega, by omega⟩ ⟨by omega, by omega⟩ (fun h119 => ?_) (fun h119 => ?_)
      · skip
        refine V_iload XC dX8_word_133 rfl ?_
        refine V_istore XC dX8_word_135 (by decide) ?_
        dsimp only [List.set]
        refine V_iinc XC dX8_word_137 rfl (by decide) ?_
        dsimp only [List.set]
        refine V_goto XC 58 dX8_word_140 (by decide) ?_
        first
        | (have hc9 : fb_ct (fun j => decide ((WD S gp).2.2.1 j = (X : Int))) (k + 1) = fb_ct (fun j => decide ((WD S gp).2.2.1 j = (X : Int))) k := by
             rw [fb_ct_succ, if_neg (by simp; omega), Nat.add_zero]
           have ih9 := ih58 (k + 1, lf, rt)
           try dsimp only at ih9
           rw [hc9] at ih9
           exact ih9 ⟨by omega, MnW_skip hmn (Or.inl h75), MxW_skip hmx (Or.inl h75), hlr, hrr⟩ (by omega))
        | (have hc9 := ct_s1 (p := fun j => decide ((WD S gp).2.2.1 j = (X : Int))) (j := k) (by simp; omega)
           try dsimp only at hc9
           rw [hc9]
           first
           | (exact ih58 (k + 1, lf, rt) ⟨by (try dsimp only); omega, MnW_skip hmn (Or.inr (by omega)), MxW_skip hmx (Or.inr (by omega)), hlr, hrr⟩ (by (try dsimp only); omega))
           | (exact ih58 (k + 1, lfS S k, rt) ⟨by (try dsimp only); omega, MnW_take hmn h75 (by omega), MxW_skip hmx (Or.inr (by omega)), by (try dsimp only); omega, hrr⟩ (by (try dsimp only); omega))
           | (exact ih58 (k + 1, lf, rtS S k) ⟨by (try dsimp only); omega, MnW_skip hmn (Or.inr (by omega)), MxW_take hmx h75 (by omega), hlr, by (try dsimp only); omega⟩ (by (try dsimp only); omega))
           | (exact ih58 (k + 1, lfS S k, rtS S k) ⟨by (try dsimp only); omega, MnW_take hmn h75 (by omega), MxW_take hmx h75 (by omega), by (try dsimp only); omega, by (try dsimp only); omega⟩ (by (try dsimp only); omega)))
      refine V_aload_n XC 0 rfl dX8_word_122 rfl ?_
      refine V_iload XC dX8_word_123 rfl ?_
      refine V_iconst XC dX8_word_125 ?_
      refine V_iconst XC dX8_word_126 ?_
      refine V_callV (rest := _) (q0 := 0) XC (c_X8_bound l D kI kC _ _ _ _ _ _ _ _ _ _ _ _ _ k false true (by omega) (NowR_ok hN hS (by omega))) gX8_word_X8_bound rfl kmX8_bound ⟨⟨Nat.le_of_ble_eq_true rfl, Nat.le_of_ble_eq_true rfl⟩, Nat.le_of_ble_eq_true rfl, Nat.le_of_ble_eq_true rfl⟩ ⟨rfl, rfl⟩ rfl rfl (Nat.le_of_ble_eq_true rfl) [0, 1] rfl rfl (fun _ => rfl) rfl rfl dX8_word_127 (kR_of rfl (fun r127 hq127 => ?_))
      subst hq127
      rw [show bdR (skR G k) false true = rtS S k from by unfold rtS; rw [NowR_at hN (by omega)]; rfl]
      refine V_goto XC 135 dX8_word_130 (by decide) ?_
      refine V_istore XC dX8_word_135 (by decide) ?_
      dsimp only [List.set]
      refine V_iinc XC dX8_word_137 rfl (by decide) ?_
      dsimp only [List.set]
      refine V_goto XC 58 dX8_word_140 (by decide) ?_
      first
      | (have hc9 : fb_ct (fun j => decide ((WD S gp).2.2.1 j = (X : Int))) (k + 1) = fb_ct (fun j => decide ((WD S gp).2.2.1 j = (X : Int))) k := by
           rw [fb_ct_succ, if_neg (by simp; omega), Nat.add_zero]
         have ih9 := ih58 (k + 1, lf, rt)
         try dsimp only at ih9
         rw [hc9] at ih9
         exact ih9 ⟨by omega, MnW_skip hmn (Or.inl h75), MxW_skip hmx (Or.inl h75), hlr, hrr⟩ (by omega))
      | (have hc9 := ct_s1 (p := fun j => decide ((WD S gp).2.2.1 j = (X : Int))) (j := k) (by simp; omega)
         try dsimp only at hc9
         rw [hc9]
         first
         | (exact ih58 (k + 1, lf, rt) ⟨by (try dsimp only); omega, MnW_skip hmn (Or.inr (by omega)), MxW_skip hmx (Or.inr (by omega)), hlr, hrr⟩ (by (try dsimp only); omega))
         | (exact ih58 (k + 1, lfS S k, rt) ⟨by (try dsimp only); omega, MnW_take hmn h75 (by omega), MxW_skip hmx (Or.inr (by omega)), by (try dsimp only); omega, hrr⟩ (by (try dsimp only); omega))
         | (exact ih58 (k + 1, lf, rtS S k) ⟨by (try dsimp only); omega, MnW_skip hmn (Or.inr (by omega)), MxW_take hmx h75 (by omega), hlr, by (try dsimp only); omega⟩ (by (try dsimp only); omega))
         | (exact ih58 (k + 1, lfS S k, rtS S k) ⟨by (try dsimp only); omega, MnW_take hmn h75 (by omega), MxW_take hmx h75 (by omega), by (try dsimp only); omega, by (try dsimp only); omega⟩ (by (try dsimp only); omega)))
    refine V_iinc XC dX8_word_41 rfl (by decide) ?_
    dsimp only [List.set]
    refine V_goto XC 25 dX8_word_44 (by decide) ?_
    have hne : g ≠ q0 := fun e => by rw [e] at h38; omega
    exact ih25 (g + 1) (by omega) (by omega)
  have hp : wordS S gp z what = -1 := if_pos h15
  refine V_iconst XC dX8_word_18 ?_
  refine V_iret XC (((mS S : Nat) : Int), TO1, BO1, BE1, RK1, (((WD S gp).1 : Nat) : Int), WO1, OD1) hrV rfl dX8_word_19 ?_
  exact hp.symm

end REFQ
