/-! the class's pad: questions -/
section PADE
def LayP (S : List Stk) (gap ln : Int) (lo to bo ls : Nat → Int) (wc : Int) (od pl wo li si le ri fi wi fn : Nat → Int) : Prop :=
  ln = (mS S : Int) ∧ wc = ((WD S gap).1 : Int) ∧ (∀ j, j < S.length → lo j = (lnS S j : Int) ∧ pl j = (plS S j : Int) ∧ od (plS S j) = (j : Int) ∧ wo j = (WD S gap).2.2.1 j) ∧
  (∀ i, i < mS S → to (rkS S i) = (GS S).2.1 i ∧ bo (rkS S i) = (GS S).2.2.1 i) ∧
  (∀ L, L < mS S → ls L = (fb_ct (fun j => lnS S j == L) S.length : Nat) ∧ wi L = (WD S gap).2.2.2.2.2.2.2.2.1 L ∧ fn L = (WD S gap).2.2.2.2.2.2.2.2.2 L) ∧
  ∀ x, x < (WD S gap).1 → li x = (WD S gap).2.2.2.1 x ∧ si x = (WD S gap).2.2.2.2.1 x ∧ le x = (WD S gap).2.2.2.2.2.1 x ∧ ri x = (WD S gap).2.2.2.2.2.2.1 x ∧ fi x = (WD S gap).2.2.2.2.2.2.2.1 x
theorem LayP_of {S : List Stk} {gap : Int} {lo to bo ls od pl a1 a2 a3 a4 a5 a6 a7 a8 : Nat → Int} {st : WdT} (hS : OkS S) (h1 : ∀ j, j < S.length → lo j = (lnS S j : Int)) (h2 : ∀ i, i < mS S → to (rkS S i) = (GS S).2.1 i ∧ bo (rkS S i) = (GS S).2.2.1 i) (h3 : ∀ L, L < mS S → ls L = (fb_ct (fun j => lnS S j == L) S.length : Nat)) (h4 : ∀ k, k < S.length → pl k = (plS S k : Int) ∧ od (plS S k) = (k : Int)) (h5 : st = wdA S gap (0, -5, a1, a2, a3, a4, a5, a6, a7, a8) S.length) :
    LayP S gap (mS S) lo to bo ls (st.1 : Int) od pl st.2.2.1 st.2.2.2.1 st.2.2.2.2.1 st.2.2.2.2.2.1 st.2.2.2.2.2.2.1 st.2.2.2.2.2.2.2.1 st.2.2.2.2.2.2.2.2.1 st.2.2.2.2.2.2.2.2.2 := by
  have hE := wdE_run (S := S) (gap := gap) (a1 := a1) (a2 := a2) (a3 := a3) (a4 := a4) (a5 := a5) (a6 := a6) (a7 := a7) (a8 := a8) S.length
  rw [← h5] at hE
  obtain ⟨e1, e2, e3, e4, e5, -⟩ := hE
  have e1 : st.1 = (WD S gap).1 := e1
  refine ⟨rfl, by rw [e1], fun j hj => ⟨h1 j hj, (h4 j hj).1, (h4 j hj).2, ?_⟩, h2, fun L hL => ⟨h3 L hL, ?_⟩, fun x hx => e4 x (by rw [e1]; exact hx)⟩
  · have := e3 (plS S j) (plS_lt hj)
    rwa [odS_pl hj] at this
  · obtain ⟨k, hk, e⟩ := lnS_onto hS hL
    have := e5 (plS S k) (plS_lt hk)
    rwa [odS_pl hk, e] at this
theorem LayP_od {S : List Stk} {gap ln : Int} {lo to bo ls : Nat → Int} {wc : Int} {od pl wo li si le ri fi wi fn : Nat → Int} (h : LayP S gap ln lo to bo ls wc od pl wo li si le ri fi wi fn) {p : Nat} (hp : p < S.length) : od p = (odS S p : Int) := by
  obtain ⟨h1, h2⟩ := plS_od (S := S) hp
  have := (h.2.2.1 _ h1).2.2.1
  rwa [h2] at this
theorem LayP_tb {S : List Stk} {gap ln : Int} {lo to bo ls : Nat → Int} {wc : Int} {od pl wo li si le ri fi wi fn : Nat → Int} (h : LayP S gap ln lo to bo ls wc od pl wo li si le ri fi wi fn) {L : Nat} (hL : L < mS S) : to L = (GS S).2.1 (fnd (rkS S) L (mS S)) ∧ bo L = (GS S).2.2.1 (fnd (rkS S) L (mS S)) := by
  obtain ⟨i, hi, e⟩ := rk_onto (a := (GS S).2.1) (b := (GS S).2.2.1) hL
  have e2 : rkS S i = L := e
  have := h.2.2.2.1 i hi
  rw [e2] at this
  rw [fnd_of hi e2 (fun j hj ej => rk_inj hj hi (ej.trans e2.symm))]
  exact this

set_option maxRecDepth 100000 in
set_option maxHeartbeats 4000000 in
theorem c_X7_layOut (l : Launch) (D : va_G) (kI kC : ClassId) (a g w : Nat → Nat) (gap : Int) (n : Nat) (F : Nat → Int) (ln : Int) (lo to bo ls bt bb ra : Nat → Int) (wc : Int) (od pl wo li si le ri fi wi fn sl : Nat → Int) (hn16 : n ≤ 16) (hS : OkS (shC n F)) (hg : 0 ≤ gap ∧ gap ≤ 500) : Con l yX7_layOut wsX7_layOut { frames := 5, cells := 0, slots := 0, locals := 120 } D kI kC [.ref (a 0)] (padO a g w gap :: (shW kI (a 6) (a 7) (n : Int) F ++ (liW kI g ln lo to bo ls bt bb ra ++ (woW kI w wc od pl wo li si le ri fi wi fn sl)))) (σ := Int × (Nat → Int) × (Nat → Int) × (Nat → Int) × (Nat → Int) × (Nat → Int) × (Nat → Int) × (Nat → Int) × Int × (Nat → Int) × (Nat → Int) × (Nat → Int) × (Nat → Int) × (Nat → Int) × (Nat → Int) × (Nat → Int) × (Nat → Int) × (Nat → Int) × (Nat → Int) × (Nat → Int)) (qV (fun u => LayP (shC n F) gap u.1 u.2.1 u.2.2.1 u.2.2.2.1 u.2.2.2.2.1 u.2.2.2.2.2.2.2.2.1 u.2.2.2.2.2.2.2.2.2.1 u.2.2.2.2.2.2.2.2.2.2.1 u.2.2.2.2.2.2.2.2.2.2.2.1 u.2.2.2.2.2.2.2.2.2.2.2.2.1 u.2.2.2.2.2.2.2.2.2.2.2.2.2.1 u.2.2.2.2.2.2.2.2.2.2.2.2.2.2.1 u.2.2.2.2.2.2.2.2.2.2.2.2.2.2.2.1 u.2.2.2.2.2.2.2.2.2.2.2.2.2.2.2.2.1 u.2.2.2.2.2.2.2.2.2.2.2.2.2.2.2.2.2.1 u.2.2.2.2.2.2.2.2.2.2.2.2.2.2.2.2.2.2.1)) (fun u => (padO a g w gap :: (shW kI (a 6) (a 7) (n : Int) F ++ (liW kI g u.1 u.2.1 u.2.2.1 u.2.2.2.1 u.2.2.2.2.1 u.2.2.2.2.2.1 u.2.2.2.2.2.2.1 u.2.2.2.2.2.2.2.1 ++ (woW kI w u.2.2.2.2.2.2.2.2.1 u.2.2.2.2.2.2.2.2.2.1 u.2.2.2.2.2.2.2.2.2.2.1 u.2.2.2.2.2.2.2.2.2.2.2.1 u.2.2.2.2.2.2.2.2.2.2.2.2.1 u.2.2.2.2.2.2.2.2.2.2.2.2.2.1 u.2.2.2.2.2.2.2.2.2.2.2.2.2.2.1 u.2.2.2.2.2.2.2.2.2.2.2.2.2.2.2.1 u.2.2.2.2.2.2.2.2.2.2.2.2.2.2.2.2.1 u.2.2.2.2.2.2.2.2.2.2.2.2.2.2.2.2.2.1 u.2.2.2.2.2.2.2.2.2.2.2.2.2.2.2.2.2.2.1 u.2.2.2.2.2.2.2.2.2.2.2.2.2.2.2.2.2.2.2))))) := by
  refine Con.of (cc := cX7_layOut) (maxL := 1) (ret := none) (by decide +kernel) rfl (List.forall_mem_cons.mpr ⟨rfl, fun _ h => absurd h List.not_mem_nil⟩) (Nat.le_of_ble_eq_true rfl) ?_
  intro pV eV sV mV bV tV cV AV XC hrV
  have XC : Cx pV _ sV mV _ tV cV cX7_layOut 1 RX7 wsX7_layOut AV D kI kC := XC
  change VV _ _ _ _ _ _ _ _ _ _ _ _ _ _ _ _ _ [some (.ref (a 0))] _ _
  dsimp only [padO, trW, shW, txW, hiW, liW, woW, taW, List.cons_append, List.nil_append]
  have hlen := shC_len n F
  refine V_aload_n XC 0 rfl dX7_layOut_0 rfl ?_
  refine V_get XC 6 flX7_layOut_46 0 rfl rfl dX7_layOut_1 ?_
  refine V_aload_n XC 0 rfl dX7_layOut_4 rfl ?_
  refine V_get XC 2 flX7_layOut_26 0 rfl rfl dX7_layOut_5 ?_
  refine V_callV (rest := _) (q0 := 3) XC (c_X1_group l D kI kC _ _ _ _ _ _ _ _ _ _ _ _ _ hn16 hS) gX7_layOut_X1_group rfl kmX1_group ⟨⟨Nat.le_of_ble_eq_true rfl, Nat.le_of_ble_eq_true rfl⟩, Nat.le_of_ble_eq_true rfl, Nat.le_of_ble_eq_true rfl⟩ ⟨rfl, rfl⟩ rfl rfl (Nat.le_of_ble_eq_true rfl) [3, 4, 5, 6, 7, 8, 9, 10, 1, 2] rfl rfl (fun _ => rfl) rfl rfl dX7_layOut_8 (kV_of (fun u8 hq8 => ?_))
  obtain ⟨lo8, to8, bo8, si8, bt8, bb8, ra8⟩ := u8
  dsimp only [putW, List.set, Option.toList, List.cons_append, List.nil_append, padO, mdO, shW, trW, txW, hiW, liW, woW, taW]
  try dsimp only at hq8
  obtain ⟨hlo8, hto8, hsi8⟩ := hq8
  refine V_aload_n XC 0 rfl dX7_layOut_11 rfl ?_
  refine V_get XC 7 flX7_layOut_53 0 rfl rfl dX7_layOut_12 ?_
  refine V_aload_n XC 0 rfl dX7_layOut_15 rfl ?_
  refine V_get XC 2 flX7_layOut_26 0 rfl rfl dX7_layOut_16 ?_
  refine V_aload_n XC 0 rfl dX7_layOut_19 rfl ?_
  refine V_get XC 6 flX7_layOut_46 0 rfl rfl dX7_layOut_20 ?_
  refine V_aload_n XC 0 rfl dX7_layOut_23 rfl ?_
  refine V_get XC 9 flX7_layOut_64 0 rfl rfl dX7_layOut_24 ?_
  refine V_callV (rest := _) (q0 := 11) XC (c_X6_group l D kI kC _ _ _ _ _ _ _ _ _ _ _ _ _ _ _ _ _ _ _ _ _ _ _ _ _ _ hn16 hS hlo8 _ hg) gX7_layOut_X6_group rfl kmX6_group ⟨⟨Nat.le_of_ble_eq_true rfl, Nat.le_of_ble_eq_true rfl⟩, Nat.le_of_ble_eq_true rfl, Nat.le_of_ble_eq_true rfl⟩ ⟨rfl, rfl⟩ rfl rfl (Nat.le_of_ble_eq_true rfl) [11, 12, 13, 14, 15, 16, 17, 18, 19, 20, 21, 22, 1, 2, 3, 4, 5, 6, 7, 8, 9, 10] rfl rfl (fun _ => rfl) rfl rfl dX7_layOut_27 (kV_of (fun u27 hq27 => ?_))
  obtain ⟨od27, pl27, sl27, st27⟩ := u27
  dsimp only [putW, List.set, Option.toList, List.cons_append, List.nil_append, padO, mdO, shW, trW, txW, hiW, liW, woW, taW]
  try dsimp only at hq27
  obtain ⟨ho27, hst27⟩ := hq27
  refine V_vret XC (_, _, _, _, _, _, _, _, _, _, _, _, _, _, _, _, _, _, _, _) hrV rfl dX7_layOut_30 ?_
  try dsimp only
  refine LayP_of hS (fun j hj => hlo8 j (by rw [hlen] at hj; exact hj)) hto8 (fun L hL => by rw [hlen]; exact hsi8 L hL) (fun k hk => ho27 k (by rw [hlen] at hk; exact hk)) (by rw [hlen]; exact hst27)

set_option maxRecDepth 100000 in
set_option maxHeartbeats 4000000 in
theorem c_X7_stroke (l : Launch) (D : va_G) (kI kC : ClassId) (a g w : Nat → Nat) (gap : Int) (n : Nat) (F : Nat → Int) (ln : Int) (lo to bo ls bt bb ra : Nat → Int) (wc : Int) (od pl wo li si le ri fi wi fn sl : Nat → Int) (hn16 : n ≤ 16) (hS : OkS (shC n F)) (hg : 0 ≤ gap ∧ gap ≤ 500) (z what : Int) (hz : IR z) (hw : IR what) : Con l yX7_stroke wsX7_stroke { frames := 6, cells := 0, slots := 0, locals := 140 } D kI kC [.ref (a 0), .int (iI z), .int (iI what)] (padO a g w gap :: (shW kI (a 6) (a 7) (n : Int) F ++ (liW kI g ln lo to bo ls bt bb ra ++ (woW kI w wc od pl wo li si le ri fi wi fn sl)))) (σ := Int × (Nat → Int) × (Nat → Int) × (Nat → Int) × (Nat → Int) × (Nat → Int) × (Nat → Int) × (Nat → Int) × Int × (Nat → Int) × (Nat → Int) × (Nat → Int) × (Nat → Int) × (Nat → Int) × (Nat → Int) × (Nat → Int) × (Nat → Int) × (Nat → Int) × (Nat → Int) × (Nat → Int)) (qI (fun r u => r = strokeS (shC n F) gap z what)) (fun u => (padO a g w gap :: (shW kI (a 6) (a 7) (n : Int) F ++ (liW kI g u.1 u.2.1 u.2.2.1 u.2.2.2.1 u.2.2.2.2.1 u.2.2.2.2.2.1 u.2.2.2.2.2.2.1 u.2.2.2.2.2.2.2.1 ++ (woW kI w u.2.2.2.2.2.2.2.2.1 u.2.2.2.2.2.2.2.2.2.1 u.2.2.2.2.2.2.2.2.2.2.1 u.2.2.2.2.2.2.2.2.2.2.2.1 u.2.2.2.2.2.2.2.2.2.2.2.2.1 u.2.2.2.2.2.2.2.2.2.2.2.2.2.1 u.2.2.2.2.2.2.2.2.2.2.2.2.2.2.1 u.2.2.2.2.2.2.2.2.2.2.2.2.2.2.2.1 u.2.2.2.2.2.2.2.2.2.2.2.2.2.2.2.2.1 u.2.2.2.2.2.2.2.2.2.2.2.2.2.2.2.2.2.1 u.2.2.2.2.2.2.2.2.2.2.2.2.2.2.2.2.2.2.1 u.2.2.2.2.2.2.2.2.2.2.2.2.2.2.2.2.2.2.2))))) := by
  refine Con.of (cc := cX7_stroke) (maxL := 3) (ret := (some .int)) (by decide +kernel) rfl (List.forall_mem_cons.mpr ⟨rfl, List.forall_mem_cons.mpr ⟨rfl, List.forall_mem_cons.mpr ⟨rfl, fun _ h => absurd h List.not_mem_nil⟩⟩⟩) (Nat.le_of_ble_eq_true rfl) ?_
  intro pV eV sV mV bV tV cV AV XC hrV
  have XC : Cx pV _ sV mV _ tV cV cX7_stroke 3 RX7 wsX7_stroke AV D kI kC := XC
  change VV _ _ _ _ _ _ _ _ _ _ _ _ _ _ _ _ _ [some (.ref (a 0)), some (.int (iI z)), some (.int (iI what))] _ _
  dsimp only [padO, trW, shW, txW, hiW, liW, woW, taW, List.cons_append, List.nil_append]
  have hlen := shC_len n F
  refine V_aload_n XC 0 rfl dX7_stroke_0 rfl ?_
  refine V_get XC 2 flX7_stroke_26 0 rfl rfl dX7_stroke_1 ?_
  refine V_iload_n XC 1 rfl dX7_stroke_4 rfl ?_
  refine V_callV (rest := _) (q0 := 1) XC (c_X2_has l D kI kC _ _ _ _ _ (by first | assumption | (unfold IR; omega)) (by first | assumption | (unfold IR; omega))) gX7_stroke_X2_has rfl kmX2_has ⟨⟨Nat.le_of_ble_eq_true rfl, Nat.le_of_ble_eq_true rfl⟩, Nat.le_of_ble_eq_true rfl, Nat.le_of_ble_eq_true rfl⟩ ⟨rfl, rfl⟩ rfl rfl (Nat.le_of_ble_eq_true rfl) [1, 2] rfl rfl (fun _ => rfl) rfl rfl dX7_stroke_5 (kR_of rfl (fun r5 hq5 => ?_))
  subst hq5
  refine V_bif_ne XC 13 dX7_stroke_8 (by decide) (fun h8 => ?_) (fun h8 => ?_)
  · skip
    have hz2 := of_decide_eq_true h8
    obtain ⟨k, rfl⟩ : ∃ k : Nat, z = (k : Int) := ⟨z.toNat, by omega⟩
    have hkn : k < n := by omega
    have hok := shC_in hS hkn
    have hat := shC_at (F := F) hkn
    have hf := skC_ok hok
    have hsz := skC_sz hok
    have hz3 := OkK_sz hok
    have hh : ¬ hasS (shC n F) (k : Int) = false := by rw [hasS_C, h8]; decide
    refine V_iload_n XC 2 rfl dX7_stroke_13 rfl ?_
    rcases (show (what < 0 ∨ 9 < what) ∨ what = 0 ∨ what = 1 ∨ what = 2 ∨ what = 3 ∨ what = 4 ∨ what = 5 ∨ what = 6 ∨ what = 7 ∨ what = 8 ∨ what = 9 from by omega) with h14 | h14 | h14 | h14 | h14 | h14 | h14 | h14 | h14 | h14 | h14
    · skip
      refine V_tabOut XC 173 (by first | assumption | (unfold IR; omega)) dX7_stroke_14 h14 (by decide) ?_
      refine V_bipush XC dX7_stroke_173 (by decide) ?_
      refine V_iret XC (ln, lo, to, bo, ls, bt, bb, ra, wc, od, pl, wo, li, si, le, ri, fi, wi, fn, sl) hrV rfl dX7_stroke_175 ?_
      unfold strokeS
      rw [if_neg hh, if_neg (by omega), if_neg (by omega), if_neg (by omega), if_neg (by omega), if_neg (by omega), if_neg (by omega), if_neg (by omega), if_neg (by omega), if_neg (by omega), if_neg (by omega)]
    · skip
      refine V_tabIn XC 68 0 h14 dX7_stroke_14 (by unfold IR; decide) (by decide) (by decide) (by rfl) (by decide) ?_
      refine V_aload_n XC 0 rfl dX7_stroke_68 rfl ?_
      refine V_get XC 2 flX7_stroke_26 0 rfl rfl dX7_stroke_69 ?_
      refine V_iload_n XC 1 rfl dX7_stroke_72 rfl ?_
      refine V_callV (rest := _) (q0 := 1) XC (c_X2_colorOf l D kI kC _ _ _ _ _ (by omega)) gX7_stroke_X2_colorOf rfl kmX2_colorOf ⟨⟨Nat.le_of_ble_eq_true rfl, Nat.le_of_ble_eq_true rfl⟩, Nat.le_of_ble_eq_true rfl, Nat.le_of_ble_eq_true rfl⟩ ⟨rfl, rfl⟩ rfl rfl (Nat.le_of_ble_eq_true rfl) [1, 2] rfl rfl (fun _ => rfl) rfl rfl dX7_stroke_73 (kR_of rfl (fun r73 hq73 => ?_))
      subst hq73
      refine V_iret XC (ln, lo, to, bo, ls, bt, bb, ra, wc, od, pl, wo, li, si, le, ri, fi, wi, fn, sl) hrV rfl dX7_stroke_76 ?_
      subst h14
      unfold strokeS
      rw [if_neg hh, Int.toNat_natCast, if_pos rfl]
      rw [hat]
      rfl
    · skip
      refine V_tabIn XC 77 1 h14 dX7_stroke_14 (by unfold IR; decide) (by decide) (by decide) (by rfl) (by decide) ?_
      refine V_aload_n XC 0 rfl dX7_stroke_77 rfl ?_
      refine V_get XC 2 flX7_stroke_26 0 rfl rfl dX7_stroke_78 ?_
      refine V_iload_n XC 1 rfl dX7_stroke_81 rfl ?_
      refine V_callV (rest := _) (q0 := 1) XC (c_X2_size l D kI kC _ _ _ _ _ (by omega)) gX7_stroke_X2_size rfl kmX2_size ⟨⟨Nat.le_of_ble_eq_true rfl, Nat.le_of_ble_eq_true rfl⟩, Nat.le_of_ble_eq_true rfl, Nat.le_of_ble_eq_true rfl⟩ ⟨rfl, rfl⟩ rfl rfl (Nat.le_of_ble_eq_true rfl) [1, 2] rfl rfl (fun _ => rfl) rfl rfl dX7_stroke_82 (kR_of rfl (fun r82 hq82 => ?_))
      subst hq82
      refine V_iret XC (ln, lo, to, bo, ls, bt, bb, ra, wc, od, pl, wo, li, si, le, ri, fi, wi, fn, sl) hrV rfl dX7_stroke_85 ?_
      subst h14
      unfold strokeS
      rw [if_neg hh, Int.toNat_natCast, if_neg (by decide), if_pos rfl]
      rw [hat]
      exact hsz
    · skip
      refine V_tabIn XC 86 2 h14 dX7_stroke_14 (by unfold IR; decide) (by decide) (by decide) (by rfl) (by decide) ?_
      refine V_aload_n XC 0 rfl dX7_stroke_86 rfl ?_
      refine V_get XC 2 flX7_stroke_26 0 rfl rfl dX7_stroke_87 ?_
      refine V_iload_n XC 1 rfl dX7_stroke_90 rfl ?_
      refine V_callV (rest := _) (q0 := 1) XC (c_X2_left l D kI kC _ _ _ _ _ (by omega) hok) gX7_stroke_X2_left rfl kmX2_left ⟨⟨Nat.le_of_ble_eq_true rfl, Nat.le_of_ble_eq_true rfl⟩, Nat.le_of_ble_eq_true rfl, Nat.le_of_ble_eq_true rfl⟩ ⟨rfl, rfl⟩ rfl rfl (Nat.le_of_ble_eq_true rfl) [1, 2] rfl rfl (fun _ => rfl) rfl rfl dX7_stroke_91 (kR_of rfl (fun r91 hq91 => ?_))
      subst hq91
      refine V_iret XC (ln, lo, to, bo, ls, bt, bb, ra, wc, od, pl, wo, li, si, le, ri, fi, wi, fn, sl) hrV rfl dX7_stroke_94 ?_
      subst h14
      unfold strokeS
      rw [if_neg hh, Int.toNat_natCast, if_neg (by decide), if_neg (by decide), if_pos rfl]
      unfold lfS lfK
      rw [hat]
    · skip
      refine V_tabIn XC 95 3 h14 dX7_stroke_14 (by unfold IR; decide) (by decide) (by decide) (by rfl) (by decide) ?_
      refine V_aload_n XC 0 rfl dX7_stroke_95 rfl ?_
      refine V_get XC 2 flX7_stroke_26 0 rfl rfl dX7_stroke_96 ?_
      refine V_iload_n XC 1 rfl dX7_stroke_99 rfl ?_
      refine V_callV (rest := _) (q0 := 1) XC (c_X2_right l D kI kC _ _ _ _ _ (by omega) hok) gX7_stroke_X2_right rfl kmX2_right ⟨⟨Nat.le_of_ble_eq_true rfl, Nat.le_of_ble_eq_true rfl⟩, Nat.le_of_ble_eq_true rfl, Nat.le_of_ble_eq_true rfl⟩ ⟨rfl, rfl⟩ rfl rfl (Nat.le_of_ble_eq_true rfl) [1, 2] rfl rfl (fun _ => rfl) rfl rfl dX7_stroke_100 (kR_of rfl (fun r100 hq100 => ?_))
      subst hq100
      refine V_iret XC (ln, lo, to, bo, ls, bt, bb, ra, wc, od, pl, wo, li, si, le, ri, fi, wi, fn, sl) hrV rfl dX7_stroke_103 ?_
      subst h14
      unfold strokeS
      rw [if_neg hh, Int.toNat_natCast, if_neg (by decide), if_neg (by decide), if_neg (by decide), if_pos rfl]
      unfold rtS rtK
      rw [hat]
    · skip
      refine V_tabIn XC 104 4 h14 dX7_stroke_14 (by unfold IR; decide) (by decide) (by decide) (by rfl) (by decide) ?_
      refine V_aload_n XC 0 rfl dX7_stroke_104 rfl ?_
      refine V_get XC 2 flX7_stroke_26 0 rfl rfl dX7_stroke_105 ?_
      refine V_iload_n XC 1 rfl dX7_stroke_108 rfl ?_
      refine V_callV (rest := _) (q0 := 1) XC (c_X2_top l D kI kC _ _ _ _ _ (by omega) hok) gX7_stroke_X2_top rfl kmX2_top ⟨⟨Nat.le_of_ble_eq_true rfl, Nat.le_of_ble_eq_true rfl⟩, Nat.le_of_ble_eq_true rfl, Nat.le_of_ble_eq_true rfl⟩ ⟨rfl, rfl⟩ rfl rfl (Nat.le_of_ble_eq_true rfl) [1, 2] rfl rfl (fun _ => rfl) rfl rfl dX7_stroke_109 (kR_of rfl (fun r109 hq109 => ?_))
      subst hq109
      refine V_iret XC (ln, lo, to, bo, ls, bt, bb, ra, wc, od, pl, wo, li, si, le, ri, fi, wi, fn, sl) hrV rfl dX7_stroke_112 ?_
      subst h14
      unfold strokeS
      rw [if_neg hh, Int.toNat_natCast, if_neg (by decide), if_neg (by decide), if_neg (by decide), if_neg (by decide), if_pos rfl]
      unfold tpS tpK
      rw [hat]
    · skip
      refine V_tabIn XC 113 5 h14 dX7_stroke_14 (by unfold IR; decide) (by decide) (by decide) (by rfl) (by decide) ?_
      refine V_aload_n XC 0 rfl dX7_stroke_113 rfl ?_
      refine V_get XC 2 flX7_stroke_26 0 rfl rfl dX7_stroke_114 ?_
      refine V_iload_n XC 1 rfl dX7_stroke_117 rfl ?_
      refine V_callV (rest := _) (q0 := 1) XC (c_X2_bottom l D kI kC _ _ _ _ _ (by omega) hok) gX7_stroke_X2_bottom rfl kmX2_bottom ⟨⟨Nat.le_of_ble_eq_true rfl, Nat.le_of_ble_eq_true rfl⟩, Nat.le_of_ble_eq_true rfl, Nat.le_of_ble_eq_true rfl⟩ ⟨rfl, rfl⟩ rfl rfl (Nat.le_of_ble_eq_true rfl) [1, 2] rfl rfl (fun _ => rfl) rfl rfl dX7_stroke_118 (kR_of rfl (fun r118 hq118 => ?_))
      subst hq118
      refine V_iret XC (ln, lo, to, bo, ls, bt, bb, ra, wc, od, pl, wo, li, si, le, ri, fi, wi, fn, sl) hrV rfl dX7_stroke_121 ?_
      subst h14
      unfold strokeS
      rw [if_neg hh, Int.toNat_natCast, if_neg (by decide), if_neg (by decide), if_neg (by decide), if_neg (by decide), if_neg (by decide), if_pos rfl]
      unfold boS boK
      rw [hat]
    · skip
      refine V_tabIn XC 122 6 h14 dX7_stroke_14 (by unfold IR; decide) (by decide) (by decide) (by rfl) (by decide) ?_
      refine V_aload_n XC 0 rfl dX7_stroke_122 rfl ?_
      refine V_get XC 2 flX7_stroke_26 0 rfl rfl dX7_stroke_123 ?_
      refine V_iload_n XC 1 rfl dX7_stroke_126 rfl ?_
      refine V_callV (rest := _) (q0 := 1) XC (c_X2_length l D kI kC _ _ _ _ _ (by omega) hok) gX7_stroke_X2_length rfl kmX2_length ⟨⟨Nat.le_of_ble_eq_true rfl, Nat.le_of_ble_eq_true rfl⟩, Nat.le_of_ble_eq_true rfl, Nat.le_of_ble_eq_true rfl⟩ ⟨rfl, rfl⟩ rfl rfl (Nat.le_of_ble_eq_true rfl) [1, 2] rfl rfl (fun _ => rfl) rfl rfl dX7_stroke_127 (kR_of rfl (fun r127 hq127 => ?_))
      subst hq127
      refine V_iret XC (ln, lo, to, bo, ls, bt, bb, ra, wc, od, pl, wo, li, si, le, ri, fi, wi, fn, sl) hrV rfl dX7_stroke_130 ?_
      subst h14
      unfold strokeS
      rw [if_neg hh, Int.toNat_natCast, if_neg (by decide), if_neg (by decide), if_neg (by decide), if_neg (by decide), if_neg (by decide), if_neg (by decide), if_pos rfl]
      rw [hat]
      rfl
    · skip
      refine V_tabIn XC 131 7 h14 dX7_stroke_14 (by unfold IR; decide) (by decide) (by decide) (by rfl) (by decide) ?_
      refine V_aload_n XC 0 rfl dX7_stroke_131 rfl ?_
      refine V_callV (rest := _) (q0 := 0) XC (c_X7_layOut l D kI kC _ _ _ _ _ _ _ _ _ _ _ _ _ _ _ _ _ _ _ _ _ _ _ _ _ _ hn16 hS hg) gX7_stroke_X7_layOut rfl kmX7_layOut ⟨⟨Nat.le_of_ble_eq_true rfl, Nat.le_of_ble_eq_true rfl⟩, Nat.le_of_ble_eq_true rfl, Nat.le_of_ble_eq_true rfl⟩ ⟨rfl, rfl⟩ rfl rfl (Nat.le_of_ble_eq_true rfl) [0, 1, 2, 3, 4, 5, 6, 7, 8, 9, 10, 11, 12, 13, 14, 15, 16, 17, 18, 19, 20, 21, 22] rfl rfl (fun _ => rfl) rfl rfl dX7_stroke_132 (kV_of (fun u132 hq132 => ?_))
      dsimp only [putW, List.set, Option.toList, List.cons_append, List.nil_append, padO, mdO, shW, trW, txW, hiW, liW, woW, taW]
      try dsimp only at hq132
      have hL132 := hq132
      refine V_aload_n XC 0 rfl dX7_stroke_135 rfl ?_
      refine V_get XC 6 flX7_stroke_46 0 rfl rfl dX7_stroke_136 ?_
      refine V_get XC 1 flX7_stroke_199 3 rfl rfl dX7_stroke_139 ?_
      refine V_iload_n XC 1 rfl dX7_stroke_142 rfl ?_
      refine V_iald XC (k) 4 rfl (by omega) (by omega) (by decide) dX7_stroke_143 ?_
      refine V_iret XC (u132) hrV rfl dX7_stroke_144 ?_
      subst h14
      unfold strokeS
      rw [if_neg hh, Int.toNat_natCast, if_neg (by decide), if_neg (by decide), if_neg (by decide), if_neg (by decide), if_neg (by decide), if_neg (by decide), if_neg (by decide), if_pos rfl]
      exact (hL132.2.2.1 k (by rw [hlen]; exact hkn)).1
    · skip
      refine V_tabIn XC 145 8 h14 dX7_stroke_14 (by unfold IR; decide) (by decide) (by decide) (by rfl) (by decide) ?_
      refine V_aload_n XC 0 rfl dX7_stroke_145 rfl ?_
      refine V_callV (rest := _) (q0 := 0) XC (c_X7_layOut l D kI kC _ _ _ _ _ _ _ _ _ _ _ _ _ _ _ _ _ _ _ _ _ _ _ _ _ _ hn16 hS hg) gX7_stroke_X7_layOut rfl kmX7_layOut ⟨⟨Nat.le_of_ble_eq_true rfl, Nat.le_of_ble_eq_true rfl⟩, Nat.le_of_ble_eq_true rfl, Nat.le_of_ble_eq_true rfl⟩ ⟨rfl, rfl⟩ rfl rfl (Nat.le_of_ble_eq_true rfl) [0, 1, 2, 3, 4, 5, 6, 7, 8, 9, 10, 11, 12, 13, 14, 15, 16, 17, 18, 19, 20, 21, 22] rfl rfl (fun _ => rfl) rfl rfl dX7_stroke_146 (kV_of (fun u146 hq146 => ?_))
      dsimp only [putW, List.set, Option.toList, List.cons_append, List.nil_append, padO, mdO, shW, trW, txW, hiW, liW, woW, taW]
      try dsimp only at hq146
      have hL146 := hq146
      refine V_aload_n XC 0 rfl dX7_stroke_149 rfl ?_
      refine V_get XC 7 flX7_stroke_53 0 rfl rfl dX7_stroke_150 ?_
      refine V_get XC 3 flX7_stroke_203 11 rfl rfl dX7_stroke_153 ?_
      refine V_iload_n XC 1 rfl dX7_stroke_156 rfl ?_
      refine V_iald XC (k) 14 rfl (by omega) (by omega) (by decide) dX7_stroke_157 ?_
      refine V_iret XC (u146) hrV rfl dX7_stroke_158 ?_
      subst h14
      unfold strokeS
      rw [if_neg hh, Int.toNat_natCast, if_neg (by decide), if_neg (by decide), if_neg (by decide), if_neg (by decide), if_neg (by decide), if_neg (by decide), if_neg (by decide), if_neg (by decide), if_pos rfl]
      exact (hL146.2.2.1 k (by rw [hlen]; exact hkn)).2.2.2
    · skip
      refine V_tabIn XC 159 9 h14 dX7_stroke_14 (by unfold IR; decide) (by decide) (by decide) (by rfl) (by decide) ?_
      refine V_aload_n XC 0 rfl dX7_stroke_159 rfl ?_
      refine V_callV (rest := _) (q0 := 0) XC (c_X7_layOut l D kI kC _ _ _ _ _ _ _ _ _ _ _ _ _ _ _ _ _ _ _ _ _ _ _ _ _ _ hn16 hS hg) gX7_stroke_X7_layOut rfl kmX7_layOut ⟨⟨Nat.le_of_ble_eq_true rfl, Nat.le_of_ble_eq_true rfl⟩, Nat.le_of_ble_eq_true rfl, Nat.le_of_ble_eq_true rfl⟩ ⟨rfl, rfl⟩ rfl rfl (Nat.le_of_ble_eq_true rfl) [0, 1, 2, 3, 4, 5, 6, 7, 8, 9, 10, 11, 12, 13, 14, 15, 16, 17, 18, 19, 20, 21, 22] rfl rfl (fun _ => rfl) rfl rfl dX7_stroke_160 (kV_of (fun u160 hq160 => ?_))
      dsimp only [putW, List.set, Option.toList, List.cons_append, List.nil_append, padO, mdO, shW, trW, txW, hiW, liW, woW, taW]
      try dsimp only at hq160
      have hL160 := hq160
      refine V_aload_n XC 0 rfl dX7_stroke_163 rfl ?_
      refine V_get XC 7 flX7_stroke_53 0 rfl rfl dX7_stroke_164 ?_
      refine V_get XC 2 flX7_stroke_206 11 rfl rfl dX7_stroke_167 ?_
      refine V_iload_n XC 1 rfl dX7_stroke_170 rfl ?_
      refine V_iald XC (k) 13 rfl (by omega) (by omega) (by decide) dX7_stroke_171 ?_
      refine V_iret XC (u160) hrV rfl dX7_stroke_172 ?_
      subst h14
      unfold strokeS
      rw [if_neg hh, Int.toNat_natCast, if_neg (by decide), if_neg (by decide), if_neg (by decide), if_neg (by decide), if_neg (by decide), if_neg (by decide), if_neg (by decide), if_neg (by decide), if_neg (by decide), if_pos rfl]
      exact (hL160.2.2.1 k (by rw [hlen]; exact hkn)).2.1
  have hp : strokeS (shC n F) gap z what = -1 := if_pos (by rw [hasS_C]; exact h8)
  refine V_iconst XC dX7_stroke_11 ?_
  refine V_iret XC (ln, lo, to, bo, ls, bt, bb, ra, wc, od, pl, wo, li, si, le, ri, fi, wi, fn, sl) hrV rfl dX7_stroke_12 ?_
  exact hp.symm

set_option maxRecDepth 100000 in
set_option maxHeartbeats 4000000 in
theorem c_X7_point (l : Launch) (D : va_G) (kI kC : ClassId) (a g w : Nat → Nat) (gap : Int) (n : Nat) (F : Nat → Int) (hn16 : n ≤ 16) (hS : OkS (shC n F)) (z i what : Int) (hz : IR z) (hi : IR i) (hw : IR what) : ConR l yX7_point wsX7_point { frames := 1, cells := 0, slots := 0, locals := 22 } D kI kC [.ref (a 0), .int (iI z), .int (iI i), .int (iI what)] (padO a g w gap :: (shW kI (a 6) (a 7) (n : Int) F)) (fun r => r = pointS (shC n F) z i what) := by
  refine Con.of (cc := cX7_point) (maxL := 4) (ret := (some .int)) (by decide +kernel) rfl (List.forall_mem_cons.mpr ⟨rfl, List.forall_mem_cons.mpr ⟨rfl, List.forall_mem_cons.mpr ⟨rfl, List.forall_mem_cons.mpr ⟨rfl, fun _ h => absurd h List.not_mem_nil⟩⟩⟩⟩) (Nat.le_of_ble_eq_true rfl) ?_
  intro pV eV sV mV bV tV cV AV XC hrV
  have XC : Cx pV _ sV mV _ tV cV cX7_point 4 RX7 wsX7_point AV D kI kC := XC
  change VV _ _ _ _ _ _ _ _ _ _ _ _ _ _ _ _ _ [some (.ref (a 0)), some (.int (iI z)), some (.int (iI i)), some (.int (iI what))] _ _
  dsimp only [padO, trW, shW, txW, hiW, liW, woW, taW, List.cons_append, List.nil_append]
  have hlen := shC_len n F
  refine V_aload_n XC 0 rfl dX7_point_0 rfl ?_
  refine V_get XC 2 flX7_point_26 0 rfl rfl dX7_point_1 ?_
  refine V_iload_n XC 1 rfl dX7_point_4 rfl ?_
  refine V_callV (rest := _) (q0 := 1) XC (c_X2_has l D kI kC _ _ _ _ _ (by first | assumption | (unfold IR; omega)) (by first | assumption | (unfold IR; omega))) gX7_point_X2_has rfl kmX2_has ⟨⟨Nat.le_of_ble_eq_true rfl, Nat.le_of_ble_eq_true rfl⟩, Nat.le_of_ble_eq_true rfl, Nat.le_of_ble_eq_true rfl⟩ ⟨rfl, rfl⟩ rfl rfl (Nat.le_of_ble_eq_true rfl) [1, 2] rfl rfl (fun _ => rfl) rfl rfl dX7_point_5 (kR_of rfl (fun r5 hq5 => ?_))
  subst hq5
  refine V_bif_eq XC 29 dX7_point_8 (by decide) (fun h8 => ?_) (fun h8 => ?_)
  · skip
    have hp : pointS (shC n F) z i what = -1 := if_pos (Or.inl (by rw [hasS_C]; exact h8))
    refine V_iconst XC dX7_point_29 ?_
    refine V_iret XC () hrV rfl dX7_point_30 ?_
    exact hp.symm
  have hz2 := of_decide_eq_true h8
  obtain ⟨k, rfl⟩ : ∃ k : Nat, z = (k : Int) := ⟨z.toNat, by omega⟩
  have hkn : k < n := by omega
  have hok := shC_in hS hkn
  have hat := shC_at (F := F) hkn
  have hf := skC_ok hok
  have hsz := skC_sz hok
  have hz3 := OkK_sz hok
  refine V_iload_n XC 2 rfl dX7_point_11 rfl ?_
  refine V_iconst XC dX7_point_12 ?_
  refine V_aload_n XC 0 rfl dX7_point_13 rfl ?_
  refine V_get XC 2 flX7_point_26 0 rfl rfl dX7_point_14 ?_
  refine V_iload_n XC 1 rfl dX7_point_17 rfl ?_
  refine V_callV (rest := _) (q0 := 1) XC (c_X2_size l D kI kC _ _ _ _ _ (by omega)) gX7_point_X2_size rfl kmX2_size ⟨⟨Nat.le_of_ble_eq_true rfl, Nat.le_of_ble_eq_true rfl⟩, Nat.le_of_ble_eq_true rfl, Nat.le_of_ble_eq_true rfl⟩ ⟨rfl, rfl⟩ rfl rfl (Nat.le_of_ble_eq_true rfl) [1, 2] rfl rfl (fun _ => rfl) rfl rfl dX7_point_18 (kR_of rfl (fun r18 hq18 => ?_))
  subst hq18
  refine V_iconst XC dX7_point_21 ?_
  refine V_isub XC dX7_point_22 ?_
  refine V_callS (rest := _) XC (c_X7_isWithin l D kI kC _ _ _ (by first | assumption | (unfold IR; omega)) (by first | assumption | (unfold IR; omega)) (by first | assumption | (unfold IR; omega))) gX7_point_X7_isWithin rfl kmX7_isWithin ⟨⟨Nat.le_of_ble_eq_true rfl, Nat.le_of_ble_eq_true rfl⟩, Nat.le_of_ble_eq_true rfl, Nat.le_of_ble_eq_true rfl⟩ ⟨rfl, rfl⟩ rfl rfl (Nat.le_of_ble_eq_true rfl) [] rfl rfl (fun _ => rfl) dX7_point_23 (kR_of rfl (fun r23 hq23 => ?_))
  subst hq23
  refine V_bif_ne XC 31 dX7_point_26 (by decide) (fun h26 => ?_) (fun h26 => ?_)
  · skip
    have hi2 := of_decide_eq_true h26
    obtain ⟨v, rfl⟩ : ∃ v : Nat, i = (v : Int) := ⟨i.toNat, by omega⟩
    have hv : v < szk (skC F k) := by omega
    have hxy := skC_xy (F := F) (k := k) (i := v) hv
    have hh : ¬ (hasS (shC n F) (k : Int) = false ∨ inR (v : Int) 0 ((szk (gk (shC n F) (k : Int).toNat) : Int) - 1) = false) := by
      rw [hasS_C, h8, Int.toNat_natCast, hat, ← hsz]
      unfold inR
      rw [h26]
      simp
    refine V_iload_n XC 3 rfl dX7_point_31 rfl ?_
    rcases (show what = 0 ∨ what = 1 ∨ (what ≠ 0 ∧ what ≠ 1) from by omega) with h32 | h32 | h32
    · skip
      refine V_look XC 60 (by first | assumption | (unfold IR; omega)) dX7_point_32 (by decide) (by rw [h32] <;> rfl) (by decide) ?_
      refine V_aload_n XC 0 rfl dX7_point_60 rfl ?_
      refine V_get XC 2 flX7_point_26 0 rfl rfl dX7_point_61 ?_
      refine V_iload_n XC 1 rfl dX7_point_64 rfl ?_
      refine V_iload_n XC 2 rfl dX7_point_65 rfl ?_
      refine V_callV (rest := _) (q0 := 1) XC (c_X2_x l D kI kC _ _ _ _ k v (by omega) (by omega)) gX7_point_X2_x rfl kmX2_x ⟨⟨Nat.le_of_ble_eq_true rfl, Nat.le_of_ble_eq_true rfl⟩, Nat.le_of_ble_eq_true rfl, Nat.le_of_ble_eq_true rfl⟩ ⟨rfl, rfl⟩ rfl rfl (Nat.le_of_ble_eq_true rfl) [1, 2] rfl rfl (fun _ => rfl) rfl rfl dX7_point_66 (kR_of rfl (fun r66 hq66 => ?_))
      subst hq66
      refine V_iret XC () hrV rfl dX7_point_69 ?_
      subst h32
      unfold pointS
      rw [if_neg hh, if_pos rfl, Int.toNat_natCast, Int.toNat_natCast, hat]
      exact hxy.1
    · skip
      refine V_look XC 70 (by first | assumption | (unfold IR; omega)) dX7_point_32 (by decide) (by rw [h32] <;> rfl) (by decide) ?_
      refine V_aload_n XC 0 rfl dX7_point_70 rfl ?_
      refine V_get XC 2 flX7_point_26 0 rfl rfl dX7_point_71 ?_
      refine V_iload_n XC 1 rfl dX7_point_74 rfl ?_
      refine V_iload_n XC 2 rfl dX7_point_75 rfl ?_
      refine V_callV (rest := _) (q0 := 1) XC (c_X2_y l D kI kC _ _ _ _ k v (by omega) (by omega)) gX7_point_X2_y rfl kmX2_y ⟨⟨Nat.le_of_ble_eq_true rfl, Nat.le_of_ble_eq_true rfl⟩, Nat.le_of_ble_eq_true rfl, Nat.le_of_ble_eq_true rfl⟩ ⟨rfl, rfl⟩ rfl rfl (Nat.le_of_ble_eq_true rfl) [1, 2] rfl rfl (fun _ => rfl) rfl rfl dX7_point_76 (kR_of rfl (fun r76 hq76 => ?_))
      subst hq76
      refine V_iret XC () hrV rfl dX7_point_79 ?_
      subst h32
      unfold pointS
      rw [if_neg hh, if_neg (by decide), if_pos rfl, Int.toNat_natCast, Int.toNat_natCast, hat]
      exact hxy.2
    · skip
      refine V_look (off := 48) XC 80 (by first | assumption | (unfold IR; omega)) dX7_point_32 (by decide) (by simp [Op.lookupswitch.offset, Ne.symm h32.1, Ne.symm h32.2]) (by decide) ?_
      refine V_bipush XC dX7_point_80 (by decide) ?_
      refine V_iret XC () hrV rfl dX7_point_82 ?_
      unfold pointS
      rw [if_neg hh, if_neg h32.1, if_neg h32.2]
  have hp : pointS (shC n F) (k : Int) i what = -1 := if_pos (Or.inr (by rw [Int.toNat_natCast, hat, ← hsz]; exact h26))
  refine V_iconst XC dX7_point_29 ?_
  refine V_iret XC () hrV rfl dX7_point_30 ?_
  exact hp.symm

set_option maxRecDepth 100000 in
set_option maxHeartbeats 4000000 in
theorem c_X7_read (l : Launch) (D : va_G) (kI kC : ClassId) (a g w : Nat → Nat) (gap : Int) (n : Nat) (F : Nat → Int) (ln : Int) (lo to bo ls bt bb ra : Nat → Int) (wc : Int) (od pl wo li si le ri fi wi fn sl : Nat → Int) (hn16 : n ≤ 16) (hS : OkS (shC n F)) (hg : 0 ≤ gap ∧ gap ≤ 500) (z : Int) (hz : IR z) : Con l yX7_read wsX7_read { frames := 6, cells := 0, slots := 0, locals := 140 } D kI kC [.ref (a 0), .int (iI z)] (padO a g w gap :: (shW kI (a 6) (a 7) (n : Int) F ++ (liW kI g ln lo to bo ls bt bb ra ++ (woW kI w wc od pl wo li si le ri fi wi fn sl)))) (σ := Int × (Nat → Int) × (Nat → Int) × (Nat → Int) × (Nat → Int) × (Nat → Int) × (Nat → Int) × (Nat → Int) × Int × (Nat → Int) × (Nat → Int) × (Nat → Int) × (Nat → Int) × (Nat → Int) × (Nat → Int) × (Nat → Int) × (Nat → Int) × (Nat → Int) × (Nat → Int) × (Nat → Int)) (qI (fun r u => r = readS (shC n F) z)) (fun u => (padO a g w gap :: (shW kI (a 6) (a 7) (n : Int) F ++ (liW kI g u.1 u.2.1 u.2.2.1 u.2.2.2.1 u.2.2.2.2.1 u.2.2.2.2.2.1 u.2.2.2.2.2.2.1 u.2.2.2.2.2.2.2.1 ++ (woW kI w u.2.2.2.2.2.2.2.2.1 u.2.2.2.2.2.2.2.2.2.1 u.2.2.2.2.2.2.2.2.2.2.1 u.2.2.2.2.2.2.2.2.2.2.2.1 u.2.2.2.2.2.2.2.2.2.2.2.2.1 u.2.2.2.2.2.2.2.2.2.2.2.2.2.1 u.2.2.2.2.2.2.2.2.2.2.2.2.2.2.1 u.2.2.2.2.2.2.2.2.2.2.2.2.2.2.2.1 u.2.2.2.2.2.2.2.2.2.2.2.2.2.2.2.2.1 u.2.2.2.2.2.2.2.2.2.2.2.2.2.2.2.2.2.1 u.2.2.2.2.2.2.2.2.2.2.2.2.2.2.2.2.2.2.1 u.2.2.2.2.2.2.2.2.2.2.2.2.2.2.2.2.2.2.2))))) := by
  refine Con.of (cc := cX7_read) (maxL := 2) (ret := (some .int)) (by decide +kernel) rfl (List.forall_mem_cons.mpr ⟨rfl, List.forall_mem_cons.mpr ⟨rfl, fun _ h => absurd h List.not_mem_nil⟩⟩) (Nat.le_of_ble_eq_true rfl) ?_
  intro pV eV sV mV bV tV cV AV XC hrV
  have XC : Cx pV _ sV mV _ tV cV cX7_read 2 RX7 wsX7_read AV D kI kC := XC
  change VV _ _ _ _ _ _ _ _ _ _ _ _ _ _ _ _ _ [some (.ref (a 0)), some (.int (iI z))] _ _
  dsimp only [padO, trW, shW, txW, hiW, liW, woW, taW, List.cons_append, List.nil_append]
  have hlen := shC_len n F
  refine V_iload_n XC 1 rfl dX7_read_0 rfl ?_
  refine V_if_ge XC 7 dX7_read_1 (by decide) (by first | assumption | (unfold IR at *; omega)) (fun h1 => ?_) (fun h1 => ?_)
  · skip
    refine V_iload_n XC 1 rfl dX7_read_7 rfl ?_
    refine V_aload_n XC 0 rfl dX7_read_8 rfl ?_
    refine V_get XC 2 flX7_read_26 0 rfl rfl dX7_read_9 ?_
    refine V_get XC 0 flX7_read_107 1 rfl rfl dX7_read_12 ?_
    refine V_icmp_lt XC 21 dX7_read_15 (by decide) (by first | assumption | (unfold IR at *; omega)) (by first | assumption | (unfold IR at *; omega)) (fun h15 => ?_) (fun h15 => ?_)
    · skip
      obtain ⟨k, rfl⟩ : ∃ k : Nat, z = (k : Int) := ⟨z.toNat, by omega⟩
      refine V_aload_n XC 0 rfl dX7_read_21 rfl ?_
      refine V_callV (rest := _) (q0 := 0) XC (c_X7_layOut l D kI kC _ _ _ _ _ _ _ _ _ _ _ _ _ _ _ _ _ _ _ _ _ _ _ _ _ _ hn16 hS hg) gX7_read_X7_layOut rfl kmX7_layOut ⟨⟨Nat.le_of_ble_eq_true rfl, Nat.le_of_ble_eq_true rfl⟩, Nat.le_of_ble_eq_true rfl, Nat.le_of_ble_eq_true rfl⟩ ⟨rfl, rfl⟩ rfl rfl (Nat.le_of_ble_eq_true rfl) [0, 1, 2, 3, 4, 5, 6, 7, 8, 9, 10, 11, 12, 13, 14, 15, 16, 17, 18, 19, 20, 21, 22] rfl rfl (fun _ => rfl) rfl rfl dX7_read_22 (kV_of (fun u22 hq22 => ?_))
      dsimp only [putW, List.set, Option.toList, List.cons_append, List.nil_append, padO, mdO, shW, trW, txW, hiW, liW, woW, taW]
      try dsimp only at hq22
      have hL22 := hq22
      refine V_aload_n XC 0 rfl dX7_read_25 rfl ?_
      refine V_get XC 7 flX7_read_53 0 rfl rfl dX7_read_26 ?_
      refine V_get XC 1 flX7_read_209 11 rfl rfl dX7_read_29 ?_
      refine V_iload_n XC 1 rfl dX7_read_32 rfl ?_
      refine V_iald XC (k) 12 rfl (by omega) (by omega) (by decide) dX7_read_33 ?_
      refine V_iret XC (u22) hrV rfl dX7_read_34 ?_
      unfold readS
      rw [if_neg (by omega), if_neg (by rw [hlen]; omega), Int.toNat_natCast]
      exact LayP_od hL22 (by rw [hlen]; omega)
    refine V_bipush XC dX7_read_18 (by decide) ?_
    refine V_iret XC (ln, lo, to, bo, ls, bt, bb, ra, wc, od, pl, wo, li, si, le, ri, fi, wi, fn, sl) hrV rfl dX7_read_20 ?_
    unfold readS
    rw [if_neg (by omega), if_pos (by rw [hlen]; omega)]
  refine V_bipush XC dX7_read_4 (by decide) ?_
  refine V_iret XC (ln, lo, to, bo, ls, bt, bb, ra, wc, od, pl, wo, li, si, le, ri, fi, wi, fn, sl) hrV rfl dX7_read_6 ?_
  exact (if_pos h1).symm

set_option maxRecDepth 100000 in
set_option maxHeartbeats 4000000 in
theorem c_X7_line (l : Launch) (D : va_G) (kI kC : ClassId) (a g w : Nat → Nat) (gap : Int) (n : Nat) (F : Nat → Int) (ln : Int) (lo to bo ls bt bb ra : Nat → Int) (wc : Int) (od pl wo li si le ri fi wi fn sl : Nat → Int) (hn16 : n ≤ 16) (hS : OkS (shC n F)) (hg : 0 ≤ gap ∧ gap ≤ 500) (z what : Int) (hz : IR z) (hw : IR what) : Con l yX7_line wsX7_line { frames := 6, cells := 0, slots := 0, locals := 140 } D kI kC [.ref (a 0), .int (iI z), .int (iI what)] (padO a g w gap :: (shW kI (a 6) (a 7) (n : Int) F ++ (liW kI g ln lo to bo ls bt bb ra ++ (woW kI w wc od pl wo li si le ri fi wi fn sl)))) (σ := Int × (Nat → Int) × (Nat → Int) × (Nat → Int) × (Nat → Int) × (Nat → Int) × (Nat → Int) × (Nat → Int) × Int × (Nat → Int) × (Nat → Int) × (Nat → Int) × (Nat → Int) × (Nat → Int) × (Nat → Int) × (Nat → Int) × (Nat → Int) × (Nat → Int) × (Nat → Int) × (Nat → Int)) (qI (fun r u => r = lineS (shC n F) gap z what)) (fun u => (padO a g w gap :: (shW kI (a 6) (a 7) (n : Int) F ++ (liW kI g u.1 u.2.1 u.2.2.1 u.2.2.2.1 u.2.2.2.2.1 u.2.2.2.2.2.1 u.2.2.2.2.2.2.1 u.2.2.2.2.2.2.2.1 ++ (woW kI w u.2.2.2.2.2.2.2.2.1 u.2.2.2.2.2.2.2.2.2.1 u.2.2.2.2.2.2.2.2.2.2.1 u.2.2.2.2.2.2.2.2.2.2.2.1 u.2.2.2.2.2.2.2.2.2.2.2.2.1 u.2.2.2.2.2.2.2.2.2.2.2.2.2.1 u.2.2.2.2.2.2.2.2.2.2.2.2.2.2.1 u.2.2.2.2.2.2.2.2.2.2.2.2.2.2.2.1 u.2.2.2.2.2.2.2.2.2.2.2.2.2.2.2.2.1 u.2.2.2.2.2.2.2.2.2.2.2.2.2.2.2.2.2.1 u.2.2.2.2.2.2.2.2.2.2.2.2.2.2.2.2.2.2.1 u.2.2.2.2.2.2.2.2.2.2.2.2.2.2.2.2.2.2.2))))) := by
  refine Con.of (cc := cX7_line) (maxL := 3) (ret := (some .int)) (by decide +kernel) rfl (List.forall_mem_cons.mpr ⟨rfl, List.forall_mem_cons.mpr ⟨rfl, List.forall_mem_cons.mpr ⟨rfl, fun _ h => absurd h List.not_mem_nil⟩⟩⟩) (Nat.le_of_ble_eq_true rfl) ?_
  intro pV eV sV mV bV tV cV AV XC hrV
  have XC : Cx pV _ sV mV _ tV cV cX7_line 3 RX7 wsX7_line AV D kI kC := XC
  change VV _ _ _ _ _ _ _ _ _ _ _ _ _ _ _ _ _ [some (.ref (a 0)), some (.int (iI z)), some (.int (iI what))] _ _
  dsimp only [padO, trW, shW, txW, hiW, liW, woW, taW, List.cons_append, List.nil_append]
  have hlen := shC_len n F
  have hmS := (GS_ok hS).1
  rw [hlen] at hmS
  refine V_aload_n XC 0 rfl dX7_line_0 rfl ?_
  refine V_callV (rest := _) (q0 := 0) XC (c_X7_layOut l D kI kC _ _ _ _ _ _ _ _ _ _ _ _ _ _ _ _ _ _ _ _ _ _ _ _ _ _ hn16 hS hg) gX7_line_X7_layOut rfl kmX7_layOut ⟨⟨Nat.le_of_ble_eq_true rfl, Nat.le_of_ble_eq_true rfl⟩, Nat.le_of_ble_eq_true rfl, Nat.le_of_ble_eq_true rfl⟩ ⟨rfl, rfl⟩ rfl rfl (Nat.le_of_ble_eq_true rfl) [0, 1, 2, 3, 4, 5, 6, 7, 8, 9, 10, 11, 12, 13, 14, 15, 16, 17, 18, 19, 20, 21, 22] rfl rfl (fun _ => rfl) rfl rfl dX7_line_1 (kV_of (fun u1 hq1 => ?_))
  dsimp only [putW, List.set, Option.toList, List.cons_append, List.nil_append, padO, mdO, shW, trW, txW, hiW, liW, woW, taW]
  try dsimp only at hq1
  have hL1 := hq1
  have hLa := hL1.1
  have hLb := hL1.2.1
  refine V_iload_n XC 1 rfl dX7_line_4 rfl ?_
  refine V_iconst XC dX7_line_5 ?_
  refine V_aload_n XC 0 rfl dX7_line_6 rfl ?_
  refine V_get XC 6 flX7_line_46 0 rfl rfl dX7_line_7 ?_
  refine V_get XC 0 flX7_line_212 3 rfl rfl dX7_line_10 ?_
  refine V_iconst XC dX7_line_13 ?_
  refine V_isub XC dX7_line_14 ?_
  refine V_callS (rest := _) XC (c_X7_isWithin l D kI kC _ _ _ (by first | assumption | (unfold IR; omega)) (by first | assumption | (unfold IR; omega)) (by first | assumption | (unfold IR; omega))) gX7_line_X7_isWithin rfl kmX7_isWithin ⟨⟨Nat.le_of_ble_eq_true rfl, Nat.le_of_ble_eq_true rfl⟩, Nat.le_of_ble_eq_true rfl, Nat.le_of_ble_eq_true rfl⟩ ⟨rfl, rfl⟩ rfl rfl (Nat.le_of_ble_eq_true rfl) [] rfl rfl (fun _ => rfl) dX7_line_15 (kR_of rfl (fun r15 hq15 => ?_))
  subst hq15
  refine V_bif_ne XC 23 dX7_line_18 (by decide) (fun h18 => ?_) (fun h18 => ?_)
  · skip
    have hz2 := of_decide_eq_true h18
    obtain ⟨k, rfl⟩ : ∃ k : Nat, z = (k : Int) := ⟨z.toNat, by omega⟩
    have hh : ¬ inR (k : Int) 0 ((mS (shC n F) : Int) - 1) = false := by
      rw [← hLa]
      unfold inR
      rw [h18]
      decide
    refine V_iload_n XC 2 rfl dX7_line_23 rfl ?_
    rcases (show (what < 0 ∨ 4 < what) ∨ what = 0 ∨ what = 1 ∨ what = 2 ∨ what = 3 ∨ what = 4 from by omega) with h24 | h24 | h24 | h24 | h24 | h24
    · skip
      refine V_tabOut XC 110 (by first | assumption | (unfold IR; omega)) dX7_line_24 h24 (by decide) ?_
      refine V_bipush XC dX7_line_110 (by decide) ?_
      refine V_iret XC (u1) hrV rfl dX7_line_112 ?_
      unfold lineS
      rw [if_neg hh, if_neg (by omega), if_neg (by omega), if_neg (by omega), if_neg (by omega), if_neg (by omega)]
    · skip
      refine V_tabIn XC 60 0 h24 dX7_line_24 (by unfold IR; decide) (by decide) (by decide) (by rfl) (by decide) ?_
      refine V_aload_n XC 0 rfl dX7_line_60 rfl ?_
      refine V_get XC 6 flX7_line_46 0 rfl rfl dX7_line_61 ?_
      refine V_get XC 2 flX7_line_215 3 rfl rfl dX7_line_64 ?_
      refine V_iload_n XC 1 rfl dX7_line_67 rfl ?_
      refine V_iald XC (k) 5 rfl (by omega) (by omega) (by decide) dX7_line_68 ?_
      refine V_iret XC (u1) hrV rfl dX7_line_69 ?_
      subst h24
      unfold lineS
      rw [if_neg hh, Int.toNat_natCast, if_pos rfl]
      exact (LayP_tb hL1 (by omega)).1
    · skip
      refine V_tabIn XC 70 1 h24 dX7_line_24 (by unfold IR; decide) (by decide) (by decide) (by rfl) (by decide) ?_
      refine V_aload_n XC 0 rfl dX7_line_70 rfl ?_
      refine V_get XC 6 flX7_line_46 0 rfl rfl dX7_line_71 ?_
      refine V_get XC 3 flX7_line_218 3 rfl rfl dX7_line_74 ?_
      refine V_iload_n XC 1 rfl dX7_line_77 rfl ?_
      refine V_iald XC (k) 6 rfl (by omega) (by omega) (by decide) dX7_line_78 ?_
      refine V_iret XC (u1) hrV rfl dX7_line_79 ?_
      subst h24
      unfold lineS
      rw [if_neg hh, Int.toNat_natCast, if_neg (by decide), if_pos rfl]
      exact (LayP_tb hL1 (by omega)).2
    · skip
      refine V_tabIn XC 80 2 h24 dX7_line_24 (by unfold IR; decide) (by decide) (by decide) (by rfl) (by decide) ?_
      refine V_aload_n XC 0 rfl dX7_line_80 rfl ?_
      refine V_get XC 6 flX7_line_46 0 rfl rfl dX7_line_81 ?_
      refine V_get XC 4 flX7_line_221 3 rfl rfl dX7_line_84 ?_
      refine V_iload_n XC 1 rfl dX7_line_87 rfl ?_
      refine V_iald XC (k) 7 rfl (by omega) (by omega) (by decide) dX7_line_88 ?_
      refine V_iret XC (u1) hrV rfl dX7_line_89 ?_
      subst h24
      unfold lineS
      rw [if_neg hh, Int.toNat_natCast, if_neg (by decide), if_neg (by decide), if_pos rfl]
      exact (hL1.2.2.2.2.1 k (by omega)).1
    · skip
      refine V_tabIn XC 90 3 h24 dX7_line_24 (by unfold IR; decide) (by decide) (by decide) (by rfl) (by decide) ?_
      refine V_aload_n XC 0 rfl dX7_line_90 rfl ?_
      refine V_get XC 7 flX7_line_53 0 rfl rfl dX7_line_91 ?_
      refine V_get XC 9 flX7_line_224 11 rfl rfl dX7_line_94 ?_
      refine V_iload_n XC 1 rfl dX7_line_97 rfl ?_
      refine V_iald XC (k) 20 rfl (by omega) (by omega) (by decide) dX7_line_98 ?_
      refine V_iret XC (u1) hrV rfl dX7_line_99 ?_
      subst h24
      unfold lineS
      rw [if_neg hh, Int.toNat_natCast, if_neg (by decide), if_neg (by decide), if_neg (by decide), if_pos rfl]
      exact (hL1.2.2.2.2.1 k (by omega)).2.1
    · skip
      refine V_tabIn XC 100 4 h24 dX7_line_24 (by unfold IR; decide) (by decide) (by decide) (by rfl) (by decide) ?_
      refine V_aload_n XC 0 rfl dX7_line_100 rfl ?_
      refine V_get XC 7 flX7_line_53 0 rfl rfl dX7_line_101 ?_
      refine V_get XC 10 flX7_line_227 11 rfl rfl dX7_line_104 ?_
      refine V_iload_n XC 1 rfl dX7_line_107 rfl ?_
      refine V_iald XC (k) 21 rfl (by omega) (by omega) (by decide) dX7_line_108 ?_
      refine V_iret XC (u1) hrV rfl dX7_line_109 ?_
      subst h24
      unfold lineS
      rw [if_neg hh, Int.toNat_natCast, if_neg (by decide), if_neg (by decide), if_neg (by decide), if_neg (by decide), if_pos rfl]
      exact (hL1.2.2.2.2.1 k (by omega)).2.2
  have hp : lineS (shC n F) gap z what = -1 := if_pos (by rw [← hLa]; exact h18)
  refine V_iconst XC dX7_line_21 ?_
  refine V_iret XC (u1) hrV rfl dX7_line_22 ?_
  exact hp.symm

theorem wdA_le {S : List Stk} {gap : Int} {s0 : WdT} (h0 : s0.1 = 0) : ∀ p, (wdA S gap s0 p).1 ≤ p
  | 0 => by show s0.1 ≤ 0; omega
  | p + 1 => by
    have ih := wdA_le (S := S) (gap := gap) h0 p
    rw [wdA_s]
    unfold wdStep wd3 wd2 wd1
    dsimp only
    split <;> split <;> (try dsimp only) <;> omega
theorem WD_le {S : List Stk} {gap : Int} : (WD S gap).1 ≤ S.length := wdA_le rfl _

set_option maxRecDepth 100000 in
set_option maxHeartbeats 4000000 in
theorem c_X7_word (l : Launch) (D : va_G) (kI kC : ClassId) (a g w : Nat → Nat) (gap : Int) (n : Nat) (F : Nat → Int) (ln : Int) (lo to bo ls bt bb ra : Nat → Int) (wc : Int) (od pl wo li si le ri fi wi fn sl : Nat → Int) (hn16 : n ≤ 16) (hS : OkS (shC n F)) (hg : 0 ≤ gap ∧ gap ≤ 500) (z what : Int) (hz : IR z) (hw : IR what) : Con l yX7_word wsX7_word { frames := 6, cells := 0, slots := 0, locals := 140 } D kI kC [.ref (a 0), .int (iI z), .int (iI what)] (padO a g w gap :: (shW kI (a 6) (a 7) (n : Int) F ++ (liW kI g ln lo to bo ls bt bb ra ++ (woW kI w wc od pl wo li si le ri fi wi fn sl)))) (σ := Int × (Nat → Int) × (Nat → Int) × (Nat → Int) × (Nat → Int) × (Nat → Int) × (Nat → Int) × (Nat → Int) × Int × (Nat → Int) × (Nat → Int) × (Nat → Int) × (Nat → Int) × (Nat → Int) × (Nat → Int) × (Nat → Int) × (Nat → Int) × (Nat → Int) × (Nat → Int) × (Nat → Int)) (qI (fun r u => r = wordS (shC n F) gap z what)) (fun u => (padO a g w gap :: (shW kI (a 6) (a 7) (n : Int) F ++ (liW kI g u.1 u.2.1 u.2.2.1 u.2.2.2.1 u.2.2.2.2.1 u.2.2.2.2.2.1 u.2.2.2.2.2.2.1 u.2.2.2.2.2.2.2.1 ++ (woW kI w u.2.2.2.2.2.2.2.2.1 u.2.2.2.2.2.2.2.2.2.1 u.2.2.2.2.2.2.2.2.2.2.1 u.2.2.2.2.2.2.2.2.2.2.2.1 u.2.2.2.2.2.2.2.2.2.2.2.2.1 u.2.2.2.2.2.2.2.2.2.2.2.2.2.1 u.2.2.2.2.2.2.2.2.2.2.2.2.2.2.1 u.2.2.2.2.2.2.2.2.2.2.2.2.2.2.2.1 u.2.2.2.2.2.2.2.2.2.2.2.2.2.2.2.2.1 u.2.2.2.2.2.2.2.2.2.2.2.2.2.2.2.2.2.1 u.2.2.2.2.2.2.2.2.2.2.2.2.2.2.2.2.2.2.1 u.2.2.2.2.2.2.2.2.2.2.2.2.2.2.2.2.2.2.2))))) := by
  refine Con.of (cc := cX7_word) (maxL := 3) (ret := (some .int)) (by decide +kernel) rfl (List.forall_mem_cons.mpr ⟨rfl, List.forall_mem_cons.mpr ⟨rfl, List.forall_mem_cons.mpr ⟨rfl, fun _ h => absurd h List.not_mem_nil⟩⟩⟩) (Nat.le_of_ble_eq_true rfl) ?_
  intro pV eV sV mV bV tV cV AV XC hrV
  have XC : Cx pV _ sV mV _ tV cV cX7_word 3 RX7 wsX7_word AV D kI kC := XC
  change VV _ _ _ _ _ _ _ _ _ _ _ _ _ _ _ _ _ [some (.ref (a 0)), some (.int (iI z)), some (.int (iI what))] _ _
  dsimp only [padO, trW, shW, txW, hiW, liW, woW, taW, List.cons_append, List.nil_append]
  have hlen := shC_len n F
  have hmS := (GS_ok hS).1
  rw [hlen] at hmS
  refine V_aload_n XC 0 rfl dX7_word_0 rfl ?_
  refine V_callV (rest := _) (q0 := 0) XC (c_X7_layOut l D kI kC _ _ _ _ _ _ _ _ _ _ _ _ _ _ _ _ _ _ _ _ _ _ _ _ _ _ hn16 hS hg) gX7_word_X7_layOut rfl kmX7_layOut ⟨⟨Nat.le_of_ble_eq_true rfl, Nat.le_of_ble_eq_true rfl⟩, Nat.le_of_ble_eq_true rfl, Nat.le_of_ble_eq_true rfl⟩ ⟨rfl, rfl⟩ rfl rfl (Nat.le_of_ble_eq_true rfl) [0, 1, 2, 3, 4, 5, 6, 7, 8, 9, 10, 11, 12, 13, 14, 15, 16, 17, 18, 19, 20, 21, 22] rfl rfl (fun _ => rfl) rfl rfl dX7_word_1 (kV_of (fun u1 hq1 => ?_))
  dsimp only [putW, List.set, Option.toList, List.cons_append, List.nil_append, padO, mdO, shW, trW, txW, hiW, liW, woW, taW]
  try dsimp only at hq1
  have hL1 := hq1
  have hLa := hL1.1
  have hLb := hL1.2.1
  have hwn := WD_le (S := shC n F) (gap := gap)
  rw [hlen] at hwn
  refine V_iload_n XC 1 rfl dX7_word_4 rfl ?_
  refine V_iconst XC dX7_word_5 ?_
  refine V_aload_n XC 0 rfl dX7_word_6 rfl ?_
  refine V_get XC 7 flX7_word_53 0 rfl rfl dX7_word_7 ?_
  refine V_get XC 0 flX7_word_230 11 rfl rfl dX7_word_10 ?_
  refine V_iconst XC dX7_word_13 ?_
  refine V_isub XC dX7_word_14 ?_
  refine V_callS (rest := _) XC (c_X7_isWithin l D kI kC _ _ _ (by first | assumption | (unfold IR; omega)) (by first | assumption | (unfold IR; omega)) (by first | assumption | (unfold IR; omega))) gX7_word_X7_isWithin rfl kmX7_isWithin ⟨⟨Nat.le_of_ble_eq_true rfl, Nat.le_of_ble_eq_true rfl⟩, Nat.le_of_ble_eq_true rfl, Nat.le_of_ble_eq_true rfl⟩ ⟨rfl, rfl⟩ rfl rfl (Nat.le_of_ble_eq_true rfl) [] rfl rfl (fun _ => rfl) dX7_word_15 (kR_of rfl (fun r15 hq15 => ?_))
  subst hq15
  refine V_bif_ne XC 23 dX7_word_18 (by decide) (fun h18 => ?_) (fun h18 => ?_)
  · skip
    have hz2 := of_decide_eq_true h18
    obtain ⟨k, rfl⟩ : ∃ k : Nat, z = (k : Int) := ⟨z.toNat, by omega⟩
    have hh : ¬ inR (k : Int) 0 (((WD (shC n F) gap).1 : Int) - 1) = false := by
      rw [← hLb]
      unfold inR
      rw [h18]
      decide
    refine V_iload_n XC 2 rfl dX7_word_23 rfl ?_
    rcases (show (what < 0 ∨ 4 < what) ∨ what = 0 ∨ what = 1 ∨ what = 2 ∨ what = 3 ∨ what = 4 from by omega) with h24 | h24 | h24 | h24 | h24 | h24
    · skip
      refine V_tabOut XC 110 (by first | assumption | (unfold IR; omega)) dX7_word_24 h24 (by decide) ?_
      refine V_bipush XC dX7_word_110 (by decide) ?_
      refine V_iret XC (u1) hrV rfl dX7_word_112 ?_
      unfold wordS
      rw [if_neg hh, if_neg (by omega), if_neg (by omega), if_neg (by omega), if_neg (by omega), if_neg (by omega)]
    · skip
      refine V_tabIn XC 60 0 h24 dX7_word_24 (by unfold IR; decide) (by decide) (by decide) (by rfl) (by decide) ?_
      refine V_aload_n XC 0 rfl dX7_word_60 rfl ?_
      refine V_get XC 7 flX7_word_53 0 rfl rfl dX7_word_61 ?_
      refine V_get XC 4 flX7_word_231 11 rfl rfl dX7_word_64 ?_
      refine V_iload_n XC 1 rfl dX7_word_67 rfl ?_
      refine V_iald XC (k) 15 rfl (by omega) (by omega) (by decide) dX7_word_68 ?_
      refine V_iret XC (u1) hrV rfl dX7_word_69 ?_
      subst h24
      unfold wordS
      rw [if_neg hh, Int.toNat_natCast, if_pos rfl]
      exact (hL1.2.2.2.2.2 k (by omega)).1
    · skip
      refine V_tabIn XC 70 1 h24 dX7_word_24 (by unfold IR; decide) (by decide) (by decide) (by rfl) (by decide) ?_
      refine V_aload_n XC 0 rfl dX7_word_70 rfl ?_
      refine V_get XC 7 flX7_word_53 0 rfl rfl dX7_word_71 ?_
      refine V_get XC 5 flX7_word_233 11 rfl rfl dX7_word_74 ?_
      refine V_iload_n XC 1 rfl dX7_word_77 rfl ?_
      refine V_iald XC (k) 16 rfl (by omega) (by omega) (by decide) dX7_word_78 ?_
      refine V_iret XC (u1) hrV rfl dX7_word_79 ?_
      subst h24
      unfold wordS
      rw [if_neg hh, Int.toNat_natCast, if_neg (by decide), if_pos rfl]
      exact (hL1.2.2.2.2.2 k (by omega)).2.1
    · skip
      refine V_tabIn XC 80 2 h24 dX7_word_24 (by unfold IR; decide) (by decide) (by decide) (by rfl) (by decide) ?_
      refine V_aload_n XC 0 rfl dX7_word_80 rfl ?_
      refine V_get XC 7 flX7_word_53 0 rfl rfl dX7_word_81 ?_
      refine V_get XC 6 flX7_word_234 11 rfl rfl dX7_word_84 ?_
      refine V_iload_n XC 1 rfl dX7_word_87 rfl ?_
      refine V_iald XC (k) 17 rfl (by omega) (by omega) (by decide) dX7_word_88 ?_
      refine V_iret XC (u1) hrV rfl dX7_word_89 ?_
      subst h24
      unfold wordS
      rw [if_neg hh, Int.toNat_natCast, if_neg (by decide), if_neg (by decide), if_pos rfl]
      exact (hL1.2.2.2.2.2 k (by omega)).2.2.1
    · skip
      refine V_tabIn XC 90 3 h24 dX7_word_24 (by unfold IR; decide) (by decide) (by decide) (by rfl) (by decide) ?_
      refine V_aload_n XC 0 rfl dX7_word_90 rfl ?_
      refine V_get XC 7 flX7_word_53 0 rfl rfl dX7_word_91 ?_
      refine V_get XC 7 flX7_word_237 11 rfl rfl dX7_word_94 ?_
      refine V_iload_n XC 1 rfl dX7_word_97 rfl ?_
      refine V_iald XC (k) 18 rfl (by omega) (by omega) (by decide) dX7_word_98 ?_
      refine V_iret XC (u1) hrV rfl dX7_word_99 ?_
      subst h24
      unfold wordS
      rw [if_neg hh, Int.toNat_natCast, if_neg (by decide), if_neg (by decide), if_neg (by decide), if_pos rfl]
      exact (hL1.2.2.2.2.2 k (by omega)).2.2.2.1
    · skip
      refine V_tabIn XC 100 4 h24 dX7_word_24 (by unfold IR; decide) (by decide) (by decide) (by rfl) (by decide) ?_
      refine V_aload_n XC 0 rfl dX7_word_100 rfl ?_
      refine V_get XC 7 flX7_word_53 0 rfl rfl dX7_word_101 ?_
      refine V_get XC 8 flX7_word_240 11 rfl rfl dX7_word_104 ?_
      refine V_iload_n XC 1 rfl dX7_word_107 rfl ?_
      refine V_iald XC (k) 19 rfl (by omega) (by omega) (by decide) dX7_word_108 ?_
      refine V_iret XC (u1) hrV rfl dX7_word_109 ?_
      subst h24
      unfold wordS
      rw [if_neg hh, Int.toNat_natCast, if_neg (by decide), if_neg (by decide), if_neg (by decide), if_neg (by decide), if_pos rfl]
      exact (hL1.2.2.2.2.2 k (by omega)).2.2.2.2
  have hp : wordS (shC n F) gap z what = -1 := if_pos (by rw [← hLb]; exact h18)
  refine V_iconst XC dX7_word_21 ?_
  refine V_iret XC (u1) hrV rfl dX7_word_22 ?_
  exact hp.symm

set_option maxRecDepth 100000 in
set_option maxHeartbeats 4000000 in
theorem c_X7_nearest (l : Launch) (D : va_G) (kI kC : ClassId) (a g w : Nat → Nat) (gap : Int) (n : Nat) (F : Nat → Int) (hn16 : n ≤ 16) (hS : OkS (shC n F)) (x y : Int) (hx : IR x) (hy : IR y) : ConR l yX7_nearest wsX7_nearest { frames := 2, cells := 0, slots := 0, locals := 42 } D kI kC [.ref (a 0), .int (iI x), .int (iI y)] (padO a g w gap :: (shW kI (a 6) (a 7) (n : Int) F)) (fun r => r = nearS (shC n F) x y) := by
  refine Con.of (cc := cX7_nearest) (maxL := 8) (ret := (some .int)) (by decide +kernel) rfl (List.forall_mem_cons.mpr ⟨rfl, List.forall_mem_cons.mpr ⟨rfl, List.forall_mem_cons.mpr ⟨rfl, fun _ h => absurd h List.not_mem_nil⟩⟩⟩) (Nat.le_of_ble_eq_true rfl) ?_
  intro pV eV sV mV bV tV cV AV XC hrV
  have XC : Cx pV _ sV mV _ tV cV cX7_nearest 8 RX7 wsX7_nearest AV D kI kC := XC
  change VV _ _ _ _ _ _ _ _ _ _ _ _ _ _ _ _ _ [some (.ref (a 0)), some (.int (iI x)), some (.int (iI y)), none, none, none, none, none] _ _
  dsimp only [padO, trW, shW, txW, hiW, liW, woW, taW, List.cons_append, List.nil_append]
  have hlen := shC_len n F
  refine V_iload_n XC 1 rfl dX7_nearest_0 rfl ?_
  refine V_callS (rest := _) XC (c_X7_isCoordinate l D kI kC _ (by first | assumption | (unfold IR; omega))) gX7_nearest_X7_isCoordinate rfl kmX7_isCoordinate ⟨⟨Nat.le_of_ble_eq_true rfl, Nat.le_of_ble_eq_true rfl⟩, Nat.le_of_ble_eq_true rfl, Nat.le_of_ble_eq_true rfl⟩ ⟨rfl, rfl⟩ rfl rfl (Nat.le_of_ble_eq_true rfl) [] rfl rfl (fun _ => rfl) dX7_nearest_1 (kR_of rfl (fun r1 hq1 => ?_))
  subst hq1
  refine V_bif_eq XC 14 dX7_nearest_4 (by decide) (fun h4 => ?_) (fun h4 => ?_)
  · skip
    have hp : nearS (shC n F) x y = -2 := if_pos (Or.inl h4)
    refine V_bipush XC dX7_nearest_14 (by decide) ?_
    refine V_iret XC () hrV rfl dX7_nearest_16 ?_
    exact hp.symm
  refine V_iload_n XC 2 rfl dX7_nearest_7 rfl ?_
  refine V_callS (rest := _) XC (c_X7_isCoordinate l D kI kC _ (by first | assumption | (unfold IR; omega))) gX7_nearest_X7_isCoordinate rfl kmX7_isCoordinate ⟨⟨Nat.le_of_ble_eq_true rfl, Nat.le_of_ble_eq_true rfl⟩, Nat.le_of_ble_eq_true rfl, Nat.le_of_ble_eq_true rfl⟩ ⟨rfl, rfl⟩ rfl rfl (Nat.le_of_ble_eq_true rfl) [] rfl rfl (fun _ => rfl) dX7_nearest_8 (kR_of rfl (fun r8 hq8 => ?_))
  subst hq8
  refine V_bif_ne XC 17 dX7_nearest_11 (by decide) (fun h11 => ?_) (fun h11 => ?_)
  · skip
    have hx2 := of_decide_eq_true h4
    have hy2 := of_decide_eq_true h11
    have hg : ¬ (inR x 0 1000 = false ∨ inR y 0 1000 = false) := by unfold inR; rw [h4, h11]; simp
    refine V_bipush XC dX7_nearest_17 (by decide) ?_
    refine V_istore_n XC 3 rfl dX7_nearest_19 (by decide) ?_
    dsimp only [List.set]
    refine V_iconst XC dX7_nearest_20 ?_
    refine V_istore XC dX7_nearest_21 (by decide) ?_
    dsimp only [List.set]
    refine V_iconst XC dX7_nearest_23 ?_
    refine V_istore XC dX7_nearest_24 (by decide) ?_
    dsimp only [List.set]
    refine V_loopR (σ := Nat × Int × Int) (fun u => n - u.1) (fun u => u.1 ≤ n ∧ u.2 = itr (nrK (shC n F) x y) (-5, 0) u.1 ∧ (u.2.1 = -5 ∨ (0 ≤ u.2.1 ∧ u.2.1 ≤ 16)) ∧ 0 ≤ u.2.2 ∧ u.2.2 ≤ 2000000) (fun u => [some (.ref (a 0)), some (.int (iI x)), some (.int (iI y)), some (.int (iI u.2.1)), some (.int (iI u.2.2)), some (.int (iI (u.1 : Int))), none, none]) (0, -5, 0) ?_ rfl (fun u hJ ih26 => ?_)
    · dsimp only
      exact ⟨Nat.zero_le _, rfl, Or.inl rfl, by omega, by omega⟩
    obtain ⟨k, e, q⟩ := u
    try dsimp only at hJ ih26 ⊢
    obtain ⟨hk, hs, he, hq⟩ := hJ
    refine V_iload XC dX7_nearest_26 rfl ?_
    refine V_aload_n XC 0 rfl dX7_nearest_28 rfl ?_
    refine V_get XC 2 flX7_nearest_26 0 rfl rfl dX7_nearest_29 ?_
    refine V_get XC 0 flX7_nearest_107 1 rfl rfl dX7_nearest_32 ?_
    refine V_icmp_ge XC 118 dX7_nearest_35 (by decide) ⟨by omega, by omega⟩ ⟨by omega, by omega⟩ (fun h35 => ?_) (fun h35 => ?_)
    · skip
      refine V_iload_n XC 3 rfl dX7_nearest_118 rfl ?_
      refine V_iret XC () hrV rfl dX7_nearest_119 ?_
      obtain rfl : k = n := by omega
      unfold nearS
      rw [if_neg hg, hlen, ← hs]
    have hkn : k < n := by omega
    have hok := shC_in hS hkn
    have hat := shC_at (F := F) hkn
    have hf := skC_ok hok
    have hsz := skC_sz hok
    have hz3 := OkK_sz hok
    refine V_iconst XC dX7_nearest_38 ?_
    refine V_istore XC dX7_nearest_39 (by decide) ?_
    dsimp only [List.set]
    refine V_loopR (σ := Nat × Int × Int) (fun u => 24 - u.1) (fun u => u.1 ≤ szk (skC F k) ∧ u.2 = itr (nrT x y (skC F k) k) (e, q) u.1 ∧ (u.2.1 = -5 ∨ (0 ≤ u.2.1 ∧ u.2.1 ≤ 16)) ∧ 0 ≤ u.2.2 ∧ u.2.2 ≤ 2000000) (fun u => [some (.ref (a 0)), some (.int (iI x)), some (.int (iI y)), some (.int (iI u.2.1)), some (.int (iI u.2.2)), some (.int (iI (k : Int))), some (.int (iI (u.1 : Int))), none]) (0, e, q) ?_ rfl (fun u hJ ih41 => ?_)
    · dsimp only
      exact ⟨Nat.zero_le _, rfl, he, hq⟩
    obtain ⟨i, e2, q2⟩ := u
    try dsimp only at hJ ih41 ⊢
    obtain ⟨hi, hs2, he2, hq2⟩ := hJ
    refine V_iload XC dX7_nearest_41 rfl ?_
    refine V_aload_n XC 0 rfl dX7_nearest_43 rfl ?_
    refine V_get XC 2 flX7_nearest_26 0 rfl rfl dX7_nearest_44 ?_
    refine V_iload XC dX7_nearest_47 rfl ?_
    refine V_callV (rest := _) (q0 := 1) XC (c_X2_size l D kI kC _ _ _ _ _ (by omega)) gX7_nearest_X2_size rfl kmX2_size ⟨⟨Nat.le_of_ble_eq_true rfl, Nat.le_of_ble_eq_true rfl⟩, Nat.le_of_ble_eq_true rfl, Nat.le_of_ble_eq_true rfl⟩ ⟨rfl, rfl⟩ rfl rfl (Nat.le_of_ble_eq_true rfl) [1, 2] rfl rfl (fun _ => rfl) rfl rfl dX7_nearest_49 (kR_of rfl (fun r49 hq49 => ?_))
    subst hq49
    refine V_icmp_ge XC 112 dX7_nearest_52 (by decide) ⟨by omega, by omega⟩ ⟨by omega, by omega⟩ (fun h52 => ?_) (fun h52 => ?_)
    · skip
      refine V_iinc XC dX7_nearest_112 rfl (by decide) ?_
      dsimp only [List.set]
      refine V_goto XC 26 dX7_nearest_115 (by decide) ?_
      refine V_kill 6 ?_
      dsimp only [List.set]
      refine ih26 (k + 1, e2, q2) ⟨by (try dsimp only); omega, ?_, he2, hq2⟩ (by (try dsimp only); omega)
      dsimp only
      rw [itr_s, ← hs]
      unfold nrK
      rw [hat, ← show i = szk (skC F k) by omega]
      exact hs2
    have hxy := skC_xy (F := F) (k := k) (i := i) (by omega)
    have hfi := hf.2.2.2.2 i (by omega)
    rw [hxy.1, hxy.2] at hfi
    refine V_aload_n XC 0 rfl dX7_nearest_55 rfl ?_
    refine V_get XC 2 flX7_nearest_26 0 rfl rfl dX7_nearest_56 ?_
    refine V_iload XC dX7_nearest_59 rfl ?_
    refine V_iload XC dX7_nearest_61 rfl ?_
    refine V_callV (rest := _) (q0 := 1) XC (c_X2_x l D kI kC _ _ _ _ k i (by omega) (by omega)) gX7_nearest_X2_x rfl kmX2_x ⟨⟨Nat.le_of_ble_eq_true rfl, Nat.le_of_ble_eq_true rfl⟩, Nat.le_of_ble_eq_true rfl, Nat.le_of_ble_eq_true rfl⟩ ⟨rfl, rfl⟩ rfl rfl (Nat.le_of_ble_eq_true rfl) [1, 2] rfl rfl (fun _ => rfl) rfl rfl dX7_nearest_63 (kR_of rfl (fun r63 hq63 => ?_))
    subst hq63
    rw [hxy.1]
    refine V_iload_n XC 1 rfl dX7_nearest_66 rfl ?_
    refine V_isub XC dX7_nearest_67 ?_
    refine V_aload_n XC 0 rfl dX7_nearest_68 rfl ?_
    refine V_get XC 2 flX7_nearest_26 0 rfl rfl dX7_nearest_69 ?_
    refine V_iload XC dX7_nearest_72 rfl ?_
    refine V_iload XC dX7_nearest_74 rfl ?_
    refine V_callV (rest := _) (q0 := 1) XC (c_X2_y l D kI kC _ _ _ _ k i (by omega) (by omega)) gX7_nearest_X2_y rfl kmX2_y ⟨⟨Nat.le_of_ble_eq_true rfl, Nat.le_of_ble_eq_true rfl⟩, Nat.le_of_ble_eq_true rfl, Nat.le_of_ble_eq_true rfl⟩ ⟨rfl, rfl⟩ rfl rfl (Nat.le_of_ble_eq_true rfl) [1, 2] rfl rfl (fun _ => rfl) rfl rfl dX7_nearest_76 (kR_of rfl (fun r76 hq76 => ?_))
    subst hq76
    rw [hxy.2]
    refine V_iload_n XC 2 rfl dX7_nearest_79 rfl ?_
    refine V_isub XC dX7_nearest_80 ?_
    refine V_callS (rest := _) XC (c_X7_square l D kI kC _ _) gX7_nearest_X7_square rfl kmX7_square ⟨⟨Nat.le_of_ble_eq_true rfl, Nat.le_of_ble_eq_true rfl⟩, Nat.le_of_ble_eq_true rfl, Nat.le_of_ble_eq_true rfl⟩ ⟨rfl, rfl⟩ rfl rfl (Nat.le_of_ble_eq_true rfl) [] rfl rfl (fun _ => rfl) dX7_nearest_81 (kR_of rfl (fun r81 hq81 => ?_))
    subst hq81
    have q1 := sqb (x := px (skC F k) i - x) (B := 1000) (by omega) (by omega)
    have q3 := sqb (x := py (skC F k) i - y) (B := 1000) (by omega) (by omega)
    refine V_istore XC dX7_nearest_84 (by decide) ?_
    dsimp only [List.set]
    refine V_iload_n XC 3 rfl dX7_nearest_86 rfl ?_
    refine V_bipush XC dX7_nearest_87 (by decide) ?_
    refine V_icmp_eq XC 99 dX7_nearest_89 (by decide) ⟨by omega, by omega⟩ ⟨by decide, by decide⟩ (fun h89 => ?_) (fun h89 => ?_)
    · skip
      refine V_iload XC dX7_nearest_99 rfl ?_
      refine V_istore_n XC 3 rfl dX7_nearest_101 (by decide) ?_
      dsimp only [List.set]
      refine V_iload XC dX7_nearest_102 rfl ?_
      refine V_istore XC dX7_nearest_104 (by decide) ?_
      dsimp only [List.set]
      refine V_iinc XC dX7_nearest_106 rfl (by decide) ?_
      dsimp only [List.set]
      refine V_goto XC 41 dX7_nearest_109 (by decide) ?_
      refine V_kill 7 ?_
      dsimp only [List.set]
      first
      | (refine ih41 (i + 1, (k : Int), (px (skC F k) i - x) * (px (skC F k) i - x) + (py (skC F k) i - y) * (py (skC F k) i - y)) ⟨by (try dsimp only); omega, ?_, Or.inr ⟨by (try dsimp only); omega, by (try dsimp only); omega⟩, by (try dsimp only); omega, by (try dsimp only); omega⟩ (by (try dsimp only); omega)
         dsimp only
         rw [itr_s, ← hs2]
         exact (if_pos (by (try dsimp only); omega)).symm)
      | (refine ih41 (i + 1, e2, q2) ⟨by (try dsimp only); omega, ?_, he2, hq2⟩ (by (try dsimp only); omega)
         dsimp only
         rw [itr_s, ← hs2]
         exact (if_neg (by (try dsimp only); omega)).symm)
    refine V_iload XC dX7_nearest_92 rfl ?_
    refine V_iload XC dX7_nearest_94 rfl ?_
    refine V_icmp_ge XC 106 dX7_nearest_96 (by decide) ⟨by omega, by omega⟩ ⟨by omega, by omega⟩ (fun h96 => ?_) (fun h96 => ?_)
    · skip
      refine V_iinc XC dX7_nearest_106 rfl (by decide) ?_
      dsimp only [List.set]
      refine V_goto XC 41 dX7_nearest_109 (by decide) ?_
      refine V_kill 7 ?_
      dsimp only [List.set]
      first
      | (refine ih41 (i + 1, (k : Int), (px (skC F k) i - x) * (px (skC F k) i - x) + (py (skC F k) i - y) * (py (skC F k) i - y)) ⟨by (try dsimp only); omega, ?_, Or.inr ⟨by (try dsimp only); omega, by (try dsimp only); omega⟩, by (try dsimp only); omega, by (try dsimp only); omega⟩ (by (try dsimp only); omega)
         dsimp only
         rw [itr_s, ← hs2]
         exact (if_pos (by (try dsimp only); omega)).symm)
      | (refine ih41 (i + 1, e2, q2) ⟨by (try dsimp only); omega, ?_, he2, hq2⟩ (by (try dsimp only); omega)
         dsimp only
         rw [itr_s, ← hs2]
         exact (if_neg (by (try dsimp only); omega)).symm)
    refine V_iload XC dX7_nearest_99 rfl ?_
    refine V_istore_n XC 3 rfl dX7_nearest_101 (by decide) ?_
    dsimp only [List.set]
    refine V_iload XC dX7_nearest_102 rfl ?_
    refine V_istore XC dX7_nearest_104 (by decide) ?_
    dsimp only [List.set]
    refine V_iinc XC dX7_nearest_106 rfl (by decide) ?_
    dsimp only [List.set]
    refine V_goto XC 41 dX7_nearest_109 (by decide) ?_
    refine V_kill 7 ?_
    dsimp only [List.set]
    first
    | (refine ih41 (i + 1, (k : Int), (px (skC F k) i - x) * (px (skC F k) i - x) + (py (skC F k) i - y) * (py (skC F k) i - y)) ⟨by (try dsimp only); omega, ?_, Or.inr ⟨by (try dsimp only); omega, by (try dsimp only); omega⟩, by (try dsimp only); omega, by (try dsimp only); omega⟩ (by (try dsimp only); omega)
       dsimp only
       rw [itr_s, ← hs2]
       exact (if_pos (by (try dsimp only); omega)).symm)
    | (refine ih41 (i + 1, e2, q2) ⟨by (try dsimp only); omega, ?_, he2, hq2⟩ (by (try dsimp only); omega)
       dsimp only
       rw [itr_s, ← hs2]
       exact (if_neg (by (try dsimp only); omega)).symm)
  have hp : nearS (shC n F) x y = -2 := if_pos (Or.inr h11)
  refine V_bipush XC dX7_nearest_14 (by decide) ?_
  refine V_iret XC () hrV rfl dX7_nearest_16 ?_
  exact hp.symm

set_option maxRecDepth 100000 in
set_option maxHeartbeats 4000000 in
theorem c_X7_cell (l : Launch) (D : va_G) (kI kC : ClassId) (a g w : Nat → Nat) (gap : Int) (n : Nat) (F : Nat → Int) (hn16 : n ≤ 16) (hS : OkS (shC n F)) (x y : Int) (hx : IR x) (hy : IR y) : ConR l yX7_cell wsX7_cell { frames := 2, cells := 0, slots := 0, locals := 42 } D kI kC [.ref (a 0), .int (iI x), .int (iI y)] (padO a g w gap :: (shW kI (a 6) (a 7) (n : Int) F)) (fun r => r = cellS (shC n F) x y) := by
  refine Con.of (cc := cX7_cell) (maxL := 7) (ret := (some .int)) (by decide +kernel) rfl (List.forall_mem_cons.mpr ⟨rfl, List.forall_mem_cons.mpr ⟨rfl, List.forall_mem_cons.mpr ⟨rfl, fun _ h => absurd h List.not_mem_nil⟩⟩⟩) (Nat.le_of_ble_eq_true rfl) ?_
  intro pV eV sV mV bV tV cV AV XC hrV
  have XC : Cx pV _ sV mV _ tV cV cX7_cell 7 RX7 wsX7_cell AV D kI kC := XC
  change VV _ _ _ _ _ _ _ _ _ _ _ _ _ _ _ _ _ [some (.ref (a 0)), some (.int (iI x)), some (.int (iI y)), none, none, none, none] _ _
  dsimp only [padO, trW, shW, txW, hiW, liW, woW, taW, List.cons_append, List.nil_append]
  have hlen := shC_len n F
  refine V_iload_n XC 1 rfl dX7_cell_0 rfl ?_
  refine V_callS (rest := _) XC (c_X7_isCoordinate l D kI kC _ (by first | assumption | (unfold IR; omega))) gX7_cell_X7_isCoordinate rfl kmX7_isCoordinate ⟨⟨Nat.le_of_ble_eq_true rfl, Nat.le_of_ble_eq_true rfl⟩, Nat.le_of_ble_eq_true rfl, Nat.le_of_ble_eq_true rfl⟩ ⟨rfl, rfl⟩ rfl rfl (Nat.le_of_ble_eq_true rfl) [] rfl rfl (fun _ => rfl) dX7_cell_1 (kR_of rfl (fun r1 hq1 => ?_))
  subst hq1
  refine V_bif_eq XC 14 dX7_cell_4 (by decide) (fun h4 => ?_) (fun h4 => ?_)
  · skip
    have hp : cellS (shC n F) x y = -2 := if_pos (Or.inl h4)
    refine V_bipush XC dX7_cell_14 (by decide) ?_
    refine V_iret XC () hrV rfl dX7_cell_16 ?_
    exact hp.symm
  refine V_iload_n XC 2 rfl dX7_cell_7 rfl ?_
  refine V_callS (rest := _) XC (c_X7_isCoordinate l D kI kC _ (by first | assumption | (unfold IR; omega))) gX7_cell_X7_isCoordinate rfl kmX7_isCoordinate ⟨⟨Nat.le_of_ble_eq_true rfl, Nat.le_of_ble_eq_true rfl⟩, Nat.le_of_ble_eq_true rfl, Nat.le_of_ble_eq_true rfl⟩ ⟨rfl, rfl⟩ rfl rfl (Nat.le_of_ble_eq_true rfl) [] rfl rfl (fun _ => rfl) dX7_cell_8 (kR_of rfl (fun r8 hq8 => ?_))
  subst hq8
  refine V_bif_ne XC 17 dX7_cell_11 (by decide) (fun h11 => ?_) (fun h11 => ?_)
  · skip
    have hx2 := of_decide_eq_true h4
    have hy2 := of_decide_eq_true h11
    have hg : ¬ (inR x 0 1000 = false ∨ inR y 0 1000 = false) := by unfold inR; rw [h4, h11]; simp
    refine V_iload_n XC 1 rfl dX7_cell_17 rfl ?_
    refine V_iload_n XC 2 rfl dX7_cell_18 rfl ?_
    refine V_callS (rest := _) XC (c_X7_cellOf l D kI kC _ _ (by omega) (by omega)) gX7_cell_X7_cellOf rfl kmX7_cellOf ⟨⟨Nat.le_of_ble_eq_true rfl, Nat.le_of_ble_eq_true rfl⟩, Nat.le_of_ble_eq_true rfl, Nat.le_of_ble_eq_true rfl⟩ ⟨rfl, rfl⟩ rfl rfl (Nat.le_of_ble_eq_true rfl) [] rfl rfl (fun _ => rfl) dX7_cell_19 (kR_of rfl (fun r19 hq19 => ?_))
    subst hq19
    have hce := cellN_le hx2 hy2
    rw [hce.1]
    refine V_istore_n XC 3 rfl dX7_cell_22 (by decide) ?_
    dsimp only [List.set]
    refine V_iconst XC dX7_cell_23 ?_
    refine V_istore XC dX7_cell_24 (by decide) ?_
    dsimp only [List.set]
    refine V_iconst XC dX7_cell_26 ?_
    refine V_istore XC dX7_cell_27 (by decide) ?_
    dsimp only [List.set]
    refine V_loopR (σ := Nat × Nat) (fun u => n - u.1) (fun u => u.1 ≤ n ∧ u.2 = itr (fun k a => ccK (gk (shC n F) k) (cellN x y) a (szk (gk (shC n F) k))) 0 u.1) (fun u => [some (.ref (a 0)), some (.int (iI x)), some (.int (iI y)), some (.int (iI (cellN x y : Int))), some (.int (iI (u.2 : Int))), some (.int (iI (u.1 : Int))), none]) (0, 0) ?_ rfl (fun u hJ ih29 => ?_)
    · exact ⟨Nat.zero_le _, rfl⟩
    obtain ⟨k, c⟩ := u
    try dsimp only at hJ ih29 ⊢
    obtain ⟨hk, hs⟩ := hJ
    refine V_iload XC dX7_cell_29 rfl ?_
    refine V_aload_n XC 0 rfl dX7_cell_31 rfl ?_
    refine V_get XC 2 flX7_cell_26 0 rfl rfl dX7_cell_32 ?_
    refine V_get XC 0 flX7_cell_107 1 rfl rfl dX7_cell_35 ?_
    refine V_icmp_ge XC 102 dX7_cell_38 (by decide) ⟨by omega, by omega⟩ ⟨by omega, by omega⟩ (fun h38 => ?_) (fun h38 => ?_)
    · skip
      refine V_iload XC dX7_cell_102 rfl ?_
      refine V_iret XC () hrV rfl dX7_cell_104 ?_
      obtain rfl : k = n := by omega
      unfold cellS
      rw [if_neg hg, hlen, ← hs]
    have hkn : k < n := by omega
    have hok := shC_in hS hkn
    have hat := shC_at (F := F) hkn
    have hf := skC_ok hok
    have hsz := skC_sz hok
    have hz3 := OkK_sz hok
    refine V_iconst XC dX7_cell_41 ?_
    refine V_istore XC dX7_cell_42 (by decide) ?_
    dsimp only [List.set]
    refine V_loopR (σ := Nat × Nat) (fun u => 24 - u.1) (fun u => u.1 ≤ szk (skC F k) ∧ u.2 = ccK (skC F k) (cellN x y) c u.1) (fun u => [some (.ref (a 0)), some (.int (iI x)), some (.int (iI y)), some (.int (iI (cellN x y : Int))), some (.int (iI (u.2 : Int))), some (.int (iI (k : Int))), some (.int (iI (u.1 : Int)))]) (0, c) ?_ rfl (fun u hJ ih44 => ?_)
    · exact ⟨Nat.zero_le _, rfl⟩
    obtain ⟨i, c2⟩ := u
    try dsimp only at hJ ih44 ⊢
    obtain ⟨hi, hs2⟩ := hJ
    refine V_iload XC dX7_cell_44 rfl ?_
    refine V_aload_n XC 0 rfl dX7_cell_46 rfl ?_
    refine V_get XC 2 flX7_cell_26 0 rfl rfl dX7_cell_47 ?_
    refine V_iload XC dX7_cell_50 rfl ?_
    refine V_callV (rest := _) (q0 := 1) XC (c_X2_size l D kI kC _ _ _ _ _ (by omega)) gX7_cell_X2_size rfl kmX2_size ⟨⟨Nat.le_of_ble_eq_true rfl, Nat.le_of_ble_eq_true rfl⟩, Nat.le_of_ble_eq_true rfl, Nat.le_of_ble_eq_true rfl⟩ ⟨rfl, rfl⟩ rfl rfl (Nat.le_of_ble_eq_true rfl) [1, 2] rfl rfl (fun _ => rfl) rfl rfl dX7_cell_52 (kR_of rfl (fun r52 hq52 => ?_))
    subst hq52
    refine V_icmp_ge XC 96 dX7_cell_55 (by decide) ⟨by omega, by omega⟩ ⟨by omega, by omega⟩ (fun h55 => ?_) (fun h55 => ?_)
    · skip
      refine V_iinc XC dX7_cell_96 rfl (by decide) ?_
      dsimp only [List.set]
      refine V_goto XC 29 dX7_cell_99 (by decide) ?_
      refine V_kill 6 ?_
      dsimp only [List.set]
      refine ih29 (k + 1, c2) ⟨by (try dsimp only); omega, ?_⟩ (by (try dsimp only); omega)
      dsimp only
      rw [itr_s, ← hs, hat, ← show i = szk (skC F k) by omega]
      exact hs2
    have hxy := skC_xy (F := F) (k := k) (i := i) (by omega)
    have hfi := hf.2.2.2.2 i (by omega)
    rw [hxy.1, hxy.2] at hfi
    have hcl := cellN_le ⟨hfi.1, hfi.2.1⟩ ⟨hfi.2.2.1, hfi.2.2.2⟩
    refine V_aload_n XC 0 rfl dX7_cell_58 rfl ?_
    refine V_get XC 2 flX7_cell_26 0 rfl rfl dX7_cell_59 ?_
    refine V_iload XC dX7_cell_62 rfl ?_
    refine V_iload XC dX7_cell_64 rfl ?_
    refine V_callV (rest := _) (q0 := 1) XC (c_X2_x l D kI kC _ _ _ _ k i (by omega) (by omega)) gX7_cell_X2_x rfl kmX2_x ⟨⟨Nat.le_of_ble_eq_true rfl, Nat.le_of_ble_eq_true rfl⟩, Nat.le_of_ble_eq_true rfl, Nat.le_of_ble_eq_true rfl⟩ ⟨rfl, rfl⟩ rfl rfl (Nat.le_of_ble_eq_true rfl) [1, 2] rfl rfl (fun _ => rfl) rfl rfl dX7_cell_66 (kR_of rfl (fun r66 hq66 => ?_))
    subst hq66
    rw [hxy.1]
    refine V_aload_n XC 0 rfl dX7_cell_69 rfl ?_
    refine V_get XC 2 flX7_cell_26 0 rfl rfl dX7_cell_70 ?_
    refine V_iload XC dX7_cell_73 rfl ?_
    refine V_iload XC dX7_cell_75 rfl ?_
    refine V_callV (rest := _) (q0 := 1) XC (c_X2_y l D kI kC _ _ _ _ k i (by omega) (by omega)) gX7_cell_X2_y rfl kmX2_y ⟨⟨Nat.le_of_ble_eq_true rfl, Nat.le_of_ble_eq_true rfl⟩, Nat.le_of_ble_eq_true rfl, Nat.le_of_ble_eq_true rfl⟩ ⟨rfl, rfl⟩ rfl rfl (Nat.le_of_ble_eq_true rfl) [1, 2] rfl rfl (fun _ => rfl) rfl rfl dX7_cell_77 (kR_of rfl (fun r77 hq77 => ?_))
    subst hq77
    rw [hxy.2]
    refine V_callS (rest := _) XC (c_X7_cellOf l D kI kC _ _ (by omega) (by omega)) gX7_cell_X7_cellOf rfl kmX7_cellOf ⟨⟨Nat.le_of_ble_eq_true rfl, Nat.le_of_ble_eq_true rfl⟩, Nat.le_of_ble_eq_true rfl, Nat.le_of_ble_eq_true rfl⟩ ⟨rfl, rfl⟩ rfl rfl (Nat.le_of_ble_eq_true rfl) [] rfl rfl (fun _ => rfl) dX7_cell_80 (kR_of rfl (fun r80 hq80 => ?_))
    subst hq80
    refine V_iload_n XC 3 rfl dX7_cell_83 rfl ?_
    rw [hcl.1]
    refine V_icmp_ne XC 90 dX7_cell_84 (by decide) ⟨by omega, by omega⟩ ⟨by omega, by omega⟩ (fun h84 => ?_) (fun h84 => ?_)
    · skip
      refine V_iinc XC dX7_cell_90 rfl (by decide) ?_
      dsimp only [List.set]
      refine V_goto XC 44 dX7_cell_93 (by decide) ?_
      first
      | (refine ih44 (i + 1, c2 + 1) ⟨by (try dsimp only); omega, ?_⟩ (by (try dsimp only); omega)
         dsimp only
         show _ = (if _ then _ else _)
         rw [if_pos (by omega)]
         rw [hs2]
         rfl)
      | (refine ih44 (i + 1, c2) ⟨by (try dsimp only); omega, ?_⟩ (by (try dsimp only); omega)
         dsimp only
         show _ = (if _ then _ else _)
         rw [if_neg (by omega)]
         rw [hs2]
         rfl)
    refine V_iinc XC dX7_cell_87 rfl (by decide) ?_
    dsimp only [List.set]
    refine V_iinc XC dX7_cell_90 rfl (by decide) ?_
    dsimp only [List.set]
    refine V_goto XC 44 dX7_cell_93 (by decide) ?_
    first
    | (refine ih44 (i + 1, c2 + 1) ⟨by (try dsimp only); omega, ?_⟩ (by (try dsimp only); omega)
       dsimp only
       show _ = (if _ then _ else _)
       rw [if_pos (by omega)]
       rw [hs2]
       rfl)
    | (refine ih44 (i + 1, c2) ⟨by (try dsimp only); omega, ?_⟩ (by (try dsimp only); omega)
       dsimp only
       show _ = (if _ then _ else _)
       rw [if_neg (by omega)]
       rw [hs2]
       rfl)
  have hp : cellS (shC n F) x y = -2 := if_pos (Or.inr h11)
  refine V_bipush XC dX7_cell_14 (by decide) ?_
  refine V_iret XC () hrV rfl dX7_cell_16 ?_
  exact hp.symm

set_option maxRecDepth 100000 in
set_option maxHeartbeats 4000000 in
theorem c_X7_color (l : Launch) (D : va_G) (kI kC : ClassId) (a g w : Nat → Nat) (gap : Int) (n : Nat) (F : Nat → Int) (ce mo : Int) (TK TP : Nat → Int) (hn16 : n ≤ 16) (hS : OkS (shC n F)) (c what : Int) (hc : IR c) (hw : IR what) : Con l yX7_color wsX7_color { frames := 3, cells := 0, slots := 0, locals := 71 } D kI kC [.ref (a 0), .int (iI c), .int (iI what)] (padO a g w gap :: (shW kI (a 6) (a 7) (n : Int) F ++ (taW kI (a 36) (a 37) (a 38) ce mo TK TP))) (σ := Int × Int × (Nat → Int) × (Nat → Int)) (qI (fun r u => r = colorS (shC n F) c what)) (fun u => (padO a g w gap :: (shW kI (a 6) (a 7) (n : Int) F ++ (taW kI (a 36) (a 37) (a 38) u.1 u.2.1 u.2.2.1 u.2.2.2)))) := by
  refine Con.of (cc := cX7_color) (maxL := 3) (ret := (some .int)) (by decide +kernel) rfl (List.forall_mem_cons.mpr ⟨rfl, List.forall_mem_cons.mpr ⟨rfl, List.forall_mem_cons.mpr ⟨rfl, fun _ h => absurd h List.not_mem_nil⟩⟩⟩) (Nat.le_of_ble_eq_true rfl) ?_
  intro pV eV sV mV bV tV cV AV XC hrV
  have XC : Cx pV _ sV mV _ tV cV cX7_color 3 RX7 wsX7_color AV D kI kC := XC
  change VV _ _ _ _ _ _ _ _ _ _ _ _ _ _ _ _ _ [some (.ref (a 0)), some (.int (iI c)), some (.int (iI what))] _ _
  dsimp only [padO, trW, shW, txW, hiW, liW, woW, taW, List.cons_append, List.nil_append]
  have hlen := shC_len n F
  refine V_iload_n XC 1 rfl dX7_color_0 rfl ?_
  refine V_callS (rest := _) XC (c_X7_isColor l D kI kC _ (by first | assumption | (unfold IR; omega))) gX7_color_X7_isColor rfl kmX7_isColor ⟨⟨Nat.le_of_ble_eq_true rfl, Nat.le_of_ble_eq_true rfl⟩, Nat.le_of_ble_eq_true rfl, Nat.le_of_ble_eq_true rfl⟩ ⟨rfl, rfl⟩ rfl rfl (Nat.le_of_ble_eq_true rfl) [] rfl rfl (fun _ => rfl) dX7_color_1 (kR_of rfl (fun r1 hq1 => ?_))
  subst hq1
  refine V_bif_ne XC 10 dX7_color_4 (by decide) (fun h4 => ?_) (fun h4 => ?_)
  · skip
    have hc2 := of_decide_eq_true h4
    have hh : ¬ inR c 0 3 = false := by unfold inR; rw [h4]; decide
    refine V_iload_n XC 2 rfl dX7_color_10 rfl ?_
    rcases (show (what < 0 ∨ 3 < what) ∨ what = 0 ∨ what = 1 ∨ what = 2 ∨ what = 3 from by omega) with h11 | h11 | h11 | h11 | h11
    · skip
      refine V_tabOut XC 87 (by first | assumption | (unfold IR; omega)) dX7_color_11 h11 (by decide) ?_
      refine V_bipush XC dX7_color_87 (by decide) ?_
      refine V_iret XC (ce, mo, TK, TP) hrV rfl dX7_color_89 ?_
      unfold colorS
      rw [if_neg hh, if_neg (by omega), if_neg (by omega), if_neg (by omega), if_neg (by omega)]
    · skip
      refine V_tabIn XC 40 0 h11 dX7_color_11 (by unfold IR; decide) (by decide) (by decide) (by rfl) (by decide) ?_
      refine V_aload_n XC 0 rfl dX7_color_40 rfl ?_
      refine V_get XC 2 flX7_color_26 0 rfl rfl dX7_color_41 ?_
      refine V_iload_n XC 1 rfl dX7_color_44 rfl ?_
      refine V_callV (rest := _) (q0 := 1) XC (c_X2_strokesOf l D kI kC _ _ _ _ hS hn16 _ hc) gX7_color_X2_strokesOf rfl kmX2_strokesOf ⟨⟨Nat.le_of_ble_eq_true rfl, Nat.le_of_ble_eq_true rfl⟩, Nat.le_of_ble_eq_true rfl, Nat.le_of_ble_eq_true rfl⟩ ⟨rfl, rfl⟩ rfl rfl (Nat.le_of_ble_eq_true rfl) [1, 2] rfl rfl (fun _ => rfl) rfl rfl dX7_color_45 (kR_of rfl (fun r45 hq45 => ?_))
      subst hq45
      refine V_iret XC (ce, mo, TK, TP) hrV rfl dX7_color_48 ?_
      subst h11
      unfold colorS
      rw [if_neg hh, if_pos rfl]
    · skip
      refine V_tabIn XC 49 1 h11 dX7_color_11 (by unfold IR; decide) (by decide) (by decide) (by rfl) (by decide) ?_
      refine V_aload_n XC 0 rfl dX7_color_49 rfl ?_
      refine V_get XC 2 flX7_color_26 0 rfl rfl dX7_color_50 ?_
      refine V_iload_n XC 1 rfl dX7_color_53 rfl ?_
      refine V_callV (rest := _) (q0 := 1) XC (c_X2_pointsOf l D kI kC _ _ _ _ hS hn16 _ hc) gX7_color_X2_pointsOf rfl kmX2_pointsOf ⟨⟨Nat.le_of_ble_eq_true rfl, Nat.le_of_ble_eq_true rfl⟩, Nat.le_of_ble_eq_true rfl, Nat.le_of_ble_eq_true rfl⟩ ⟨rfl, rfl⟩ rfl rfl (Nat.le_of_ble_eq_true rfl) [1, 2] rfl rfl (fun _ => rfl) rfl rfl dX7_color_54 (kR_of rfl (fun r54 hq54 => ?_))
      subst hq54
      refine V_iret XC (ce, mo, TK, TP) hrV rfl dX7_color_57 ?_
      subst h11
      unfold colorS
      rw [if_neg hh, if_neg (by decide), if_pos rfl]
    · skip
      refine V_tabIn XC 58 2 h11 dX7_color_11 (by unfold IR; decide) (by decide) (by decide) (by rfl) (by decide) ?_
      refine V_aload_n XC 0 rfl dX7_color_58 rfl ?_
      refine V_get XC 2 flX7_color_26 0 rfl rfl dX7_color_59 ?_
      refine V_iload_n XC 1 rfl dX7_color_62 rfl ?_
      refine V_callV (rest := _) (q0 := 1) XC (c_X2_lengthsOf l D kI kC _ _ _ _ hS hn16 _ hc) gX7_color_X2_lengthsOf rfl kmX2_lengthsOf ⟨⟨Nat.le_of_ble_eq_true rfl, Nat.le_of_ble_eq_true rfl⟩, Nat.le_of_ble_eq_true rfl, Nat.le_of_ble_eq_true rfl⟩ ⟨rfl, rfl⟩ rfl rfl (Nat.le_of_ble_eq_true rfl) [1, 2] rfl rfl (fun _ => rfl) rfl rfl dX7_color_63 (kR_of rfl (fun r63 hq63 => ?_))
      subst hq63
      refine V_iret XC (ce, mo, TK, TP) hrV rfl dX7_color_66 ?_
      subst h11
      unfold colorS
      rw [if_neg hh, if_neg (by decide), if_neg (by decide), if_pos rfl]
    · skip
      refine V_tabIn XC 67 3 h11 dX7_color_11 (by unfold IR; decide) (by decide) (by decide) (by rfl) (by decide) ?_
      refine V_aload_n XC 0 rfl dX7_color_67 rfl ?_
      refine V_get XC 8 flX7_color_60 0 rfl rfl dX7_color_68 ?_
      refine V_aload_n XC 0 rfl dX7_color_71 rfl ?_
      refine V_get XC 2 flX7_color_26 0 rfl rfl dX7_color_72 ?_
      refine V_iload_n XC 1 rfl dX7_color_75 rfl ?_
      refine V_callV (rest := _) (q0 := 3) XC (c_X3_take l D kI kC _ _ _ _ _ _ _ _ _ _ _ hn16 hS _ hc) gX7_color_X3_take rfl kmX3_take ⟨⟨Nat.le_of_ble_eq_true rfl, Nat.le_of_ble_eq_true rfl⟩, Nat.le_of_ble_eq_true rfl, Nat.le_of_ble_eq_true rfl⟩ ⟨rfl, rfl⟩ rfl rfl (Nat.le_of_ble_eq_true rfl) [3, 4, 5, 1, 2] rfl rfl (fun _ => rfl) rfl rfl dX7_color_76 (kV_of (fun u76 hq76 => ?_))
      obtain ⟨ce76, mo76, K76, P76⟩ := u76
      dsimp only [putW, List.set, Option.toList, List.cons_append, List.nil_append, padO, mdO, shW, trW, txW, hiW, liW, woW, taW]
      try dsimp only at hq76
      have hT76 := hq76
      refine V_aload_n XC 0 rfl dX7_color_79 rfl ?_
      refine V_get XC 8 flX7_color_60 0 rfl rfl dX7_color_80 ?_
      refine V_get XC 0 flX7_color_256 3 rfl rfl dX7_color_83 ?_
      refine V_iret XC (_, _, _, _) hrV rfl dX7_color_86 ?_
      subst h11
      unfold colorS
      rw [if_neg hh, if_neg (by decide), if_neg (by decide), if_neg (by decide), if_pos rfl]
      obtain ⟨t, -, hT⟩ := hT76
      unfold inkN
      rw [hlen]
      exact hT.2.2.2.1
  have hp : colorS (shC n F) c what = -2 := if_pos h4
  refine V_bipush XC dX7_color_7 (by decide) ?_
  refine V_iret XC (ce, mo, TK, TP) hrV rfl dX7_color_9 ?_
  exact hp.symm

set_option maxRecDepth 100000 in
set_option maxHeartbeats 4000000 in
theorem c_X7_count (l : Launch) (D : va_G) (kI kC : ClassId) (a g w : Nat → Nat) (gap : Int) (nb : Nat) (BX BY : Nat → Int) (n : Nat) (F : Nat → Int) (p f ha : Nat) (N HS : Nat → Int) (ln : Int) (lo to bo ls bt bb ra : Nat → Int) (wc : Int) (od pl wo li si le ri fi wi fn sl : Nat → Int) (ce mo : Int) (TK TP : Nat → Int) (hn16 : n ≤ 16) (hS : OkS (shC n F)) (hg : 0 ≤ gap ∧ gap ≤ 500) (what : Int) (hw : IR what) : Con l yX7_count wsX7_count { frames := 6, cells := 0, slots := 0, locals := 140 } D kI kC [.ref (a 0), .int (iI what)] (padO a g w gap :: (trW kI (a 1) (a 2) (a 3) (nb : Int) BX BY ++ (shW kI (a 6) (a 7) (n : Int) F ++ (hiW kI (a 13) (a 14) (a 15) (p : Int) (f : Int) (ha : Int) N HS ++ (liW kI g ln lo to bo ls bt bb ra ++ (woW kI w wc od pl wo li si le ri fi wi fn sl ++ (taW kI (a 36) (a 37) (a 38) ce mo TK TP))))))) (σ := Int × (Nat → Int) × (Nat → Int) × (Nat → Int) × (Nat → Int) × (Nat → Int) × (Nat → Int) × (Nat → Int) × Int × (Nat → Int) × (Nat → Int) × (Nat → Int) × (Nat → Int) × (Nat → Int) × (Nat → Int) × (Nat → Int) × (Nat → Int) × (Nat → Int) × (Nat → Int) × (Nat → Int) × Int × Int × (Nat → Int) × (Nat → Int)) (qI (fun r u => countR (shC n F) gap nb p f what r)) (fun u => (padO a g w gap :: (trW kI (a 1) (a 2) (a 3) (nb : Int) BX BY ++ (shW kI (a 6) (a 7) (n : Int) F ++ (hiW kI (a 13) (a 14) (a 15) (p : Int) (f : Int) (ha : Int) N HS ++ (liW kI g u.1 u.2.1 u.2.2.1 u.2.2.2.1 u.2.2.2.2.1 u.2.2.2.2.2.1 u.2.2.2.2.2.2.1 u.2.2.2.2.2.2.2.1 ++ (woW kI w u.2.2.2.2.2.2.2.2.1 u.2.2.2.2.2.2.2.2.2.1 u.2.2.2.2.2.2.2.2.2.2.1 u.2.2.2.2.2.2.2.2.2.2.2.1 u.2.2.2.2.2.2.2.2.2.2.2.2.1 u.2.2.2.2.2.2.2.2.2.2.2.2.2.1 u.2.2.2.2.2.2.2.2.2.2.2.2.2.2.1 u.2.2.2.2.2.2.2.2.2.2.2.2.2.2.2.1 u.2.2.2.2.2.2.2.2.2.2.2.2.2.2.2.2.1 u.2.2.2.2.2.2.2.2.2.2.2.2.2.2.2.2.2.1 u.2.2.2.2.2.2.2.2.2.2.2.2.2.2.2.2.2.2.1 u.2.2.2.2.2.2.2.2.2.2.2.2.2.2.2.2.2.2.2.1 ++ (taW kI (a 36) (a 37) (a 38) u.2.2.2.2.2.2.2.2.2.2.2.2.2.2.2.2.2.2.2.2.1 u.2.2.2.2.2.2.2.2.2.2.2.2.2.2.2.2.2.2.2.2.2.1 u.2.2.2.2.2.2.2.2.2.2.2.2.2.2.2.2.2.2.2.2.2.2.1 u.2.2.2.2.2.2.2.2.2.2.2.2.2.2.2.2.2.2.2.2.2.2.2)))))))) := by
  refine Con.of (cc := cX7_count) (maxL := 2) (ret := (some .int)) (by decide +kernel) rfl (List.forall_mem_cons.mpr ⟨rfl, List.forall_mem_cons.mpr ⟨rfl, fun _ h => absurd h List.not_mem_nil⟩⟩) (Nat.le_of_ble_eq_true rfl) ?_
  intro pV eV sV mV bV tV cV AV XC hrV
  have XC : Cx pV _ sV mV _ tV cV cX7_count 2 RX7 wsX7_count AV D kI kC := XC
  change VV _ _ _ _ _ _ _ _ _ _ _ _ _ _ _ _ _ [some (.ref (a 0)), some (.int (iI what))] _ _
  dsimp only [padO, trW, shW, txW, hiW, liW, woW, taW, List.cons_append, List.nil_append]
  have hlen := shC_len n F
  refine V_iload_n XC 1 rfl dX7_count_0 rfl ?_
  rcases (show (what < 0 ∨ 10 < what) ∨ what = 0 ∨ what = 1 ∨ what = 2 ∨ what = 3 ∨ what = 4 ∨ what = 5 ∨ what = 6 ∨ what = 7 ∨ what = 8 ∨ what = 9 ∨ what = 10 from by omega) with h1 | h1 | h1 | h1 | h1 | h1 | h1 | h1 | h1 | h1 | h1 | h1
  · skip
    refine V_tabOut XC 179 (by first | assumption | (unfold IR; omega)) dX7_count_1 h1 (by decide) ?_
    refine V_bipush XC dX7_count_179 (by decide) ?_
    refine V_iret XC (ln, lo, to, bo, ls, bt, bb, ra, wc, od, pl, wo, li, si, le, ri, fi, wi, fn, sl, ce, mo, TK, TP) hrV rfl dX7_count_181 ?_
    unfold countR
    rw [if_neg (by omega), if_neg (by omega), if_neg (by omega), if_neg (by omega), if_neg (by omega), if_neg (by omega), if_neg (by omega), if_neg (by omega), if_neg (by omega), if_neg (by omega), if_neg (by omega)]
  · skip
    refine V_tabIn XC 60 0 h1 dX7_count_1 (by unfold IR; decide) (by decide) (by decide) (by rfl) (by decide) ?_
    refine V_aload_n XC 0 rfl dX7_count_60 rfl ?_
    refine V_get XC 2 flX7_count_26 0 rfl rfl dX7_count_61 ?_
    refine V_get XC 0 flX7_count_107 4 rfl rfl dX7_count_64 ?_
    refine V_iret XC (ln, lo, to, bo, ls, bt, bb, ra, wc, od, pl, wo, li, si, le, ri, fi, wi, fn, sl, ce, mo, TK, TP) hrV rfl dX7_count_67 ?_
    subst h1
    unfold countR
    rw [if_pos rfl]
    rw [hlen]
  · skip
    refine V_tabIn XC 68 1 h1 dX7_count_1 (by unfold IR; decide) (by decide) (by decide) (by rfl) (by decide) ?_
    refine V_aload_n XC 0 rfl dX7_count_68 rfl ?_
    refine V_get XC 2 flX7_count_26 0 rfl rfl dX7_count_69 ?_
    refine V_iconst XC dX7_count_72 ?_
    refine V_callV (rest := _) (q0 := 4) XC (c_X2_pointsOf l D kI kC _ _ _ _ hS hn16 _ ⟨by decide, by decide⟩) gX7_count_X2_pointsOf rfl kmX2_pointsOf ⟨⟨Nat.le_of_ble_eq_true rfl, Nat.le_of_ble_eq_true rfl⟩, Nat.le_of_ble_eq_true rfl, Nat.le_of_ble_eq_true rfl⟩ ⟨rfl, rfl⟩ rfl rfl (Nat.le_of_ble_eq_true rfl) [4, 5] rfl rfl (fun _ => rfl) rfl rfl dX7_count_73 (kR_of rfl (fun r73 hq73 => ?_))
    subst hq73
    refine V_iret XC (ln, lo, to, bo, ls, bt, bb, ra, wc, od, pl, wo, li, si, le, ri, fi, wi, fn, sl, ce, mo, TK, TP) hrV rfl dX7_count_76 ?_
    subst h1
    unfold countR
    rw [if_neg (by decide), if_pos rfl]

  · skip
    refine V_tabIn XC 77 2 h1 dX7_count_1 (by unfold IR; decide) (by decide) (by decide) (by rfl) (by decide) ?_
    refine V_aload_n XC 0 rfl dX7_count_77 rfl ?_
    refine V_get XC 2 flX7_count_26 0 rfl rfl dX7_count_78 ?_
    refine V_iconst XC dX7_count_81 ?_
    refine V_callV (rest := _) (q0 := 4) XC (c_X2_lengthsOf l D kI kC _ _ _ _ hS hn16 _ ⟨by decide, by decide⟩) gX7_count_X2_lengthsOf rfl kmX2_lengthsOf ⟨⟨Nat.le_of_ble_eq_true rfl, Nat.le_of_ble_eq_true rfl⟩, Nat.le_of_ble_eq_true rfl, Nat.le_of_ble_eq_true rfl⟩ ⟨rfl, rfl⟩ rfl rfl (Nat.le_of_ble_eq_true rfl) [4, 5] rfl rfl (fun _ => rfl) rfl rfl dX7_count_82 (kR_of rfl (fun r82 hq82 => ?_))
    subst hq82
    refine V_iret XC (ln, lo, to, bo, ls, bt, bb, ra, wc, od, pl, wo, li, si, le, ri, fi, wi, fn, sl, ce, mo, TK, TP) hrV rfl dX7_count_85 ?_
    subst h1
    unfold countR
    rw [if_neg (by decide), if_neg (by decide), if_pos rfl]

  · skip
    refine V_tabIn XC 86 3 h1 dX7_count_1 (by unfold IR; decide) (by decide) (by decide) (by rfl) (by decide) ?_
    refine V_aload_n XC 0 rfl dX7_count_86 rfl ?_
    refine V_callV (rest := _) (q0 := 0) XC (c_X7_layOut l D kI kC _ _ _ _ _ _ _ _ _ _ _ _ _ _ _ _ _ _ _ _ _ _ _ _ _ _ hn16 hS hg) gX7_count_X7_layOut rfl kmX7_layOut ⟨⟨Nat.le_of_ble_eq_true rfl, Nat.le_of_ble_eq_true rfl⟩, Nat.le_of_ble_eq_true rfl, Nat.le_of_ble_eq_true rfl⟩ ⟨rfl, rfl⟩ rfl rfl (Nat.le_of_ble_eq_true rfl) [0, 4, 5, 9, 10, 11, 12, 13, 14, 15, 16, 17, 18, 19, 20, 21, 22, 23, 24, 25, 26, 27, 28] rfl rfl (fun _ => rfl) rfl rfl dX7_count_87 (kV_of (fun u87 hq87 => ?_))
    dsimp only [putW, List.set, Option.toList, List.cons_append, List.nil_append, padO, mdO, shW, trW, txW, hiW, liW, woW, taW]
    try dsimp only at hq87
    have hL87 := hq87
    refine V_aload_n XC 0 rfl dX7_count_90 rfl ?_
    refine V_get XC 6 flX7_count_46 0 rfl rfl dX7_count_91 ?_
    refine V_get XC 0 flX7_count_212 9 rfl rfl dX7_count_94 ?_
    refine V_iret XC (u87.1, u87.2.1, u87.2.2.1, u87.2.2.2.1, u87.2.2.2.2.1, u87.2.2.2.2.2.1, u87.2.2.2.2.2.2.1, u87.2.2.2.2.2.2.2.1, u87.2.2.2.2.2.2.2.2.1, u87.2.2.2.2.2.2.2.2.2.1, u87.2.2.2.2.2.2.2.2.2.2.1, u87.2.2.2.2.2.2.2.2.2.2.2.1, u87.2.2.2.2.2.2.2.2.2.2.2.2.1, u87.2.2.2.2.2.2.2.2.2.2.2.2.2.1, u87.2.2.2.2.2.2.2.2.2.2.2.2.2.2.1, u87.2.2.2.2.2.2.2.2.2.2.2.2.2.2.2.1, u87.2.2.2.2.2.2.2.2.2.2.2.2.2.2.2.2.1, u87.2.2.2.2.2.2.2.2.2.2.2.2.2.2.2.2.2.1, u87.2.2.2.2.2.2.2.2.2.2.2.2.2.2.2.2.2.2.1, u87.2.2.2.2.2.2.2.2.2.2.2.2.2.2.2.2.2.2.2, ce, mo, TK, TP) hrV rfl dX7_count_97 ?_
    subst h1
    unfold countR
    rw [if_neg (by decide), if_neg (by decide), if_neg (by decide), if_pos rfl]
    exact hL87.1
  · skip
    refine V_tabIn XC 98 4 h1 dX7_count_1 (by unfold IR; decide) (by decide) (by decide) (by rfl) (by decide) ?_
    refine V_aload_n XC 0 rfl dX7_count_98 rfl ?_
    refine V_callV (rest := _) (q0 := 0) XC (c_X7_layOut l D kI kC _ _ _ _ _ _ _ _ _ _ _ _ _ _ _ _ _ _ _ _ _ _ _ _ _ _ hn16 hS hg) gX7_count_X7_layOut rfl kmX7_layOut ⟨⟨Nat.le_of_ble_eq_true rfl, Nat.le_of_ble_eq_true rfl⟩, Nat.le_of_ble_eq_true rfl, Nat.le_of_ble_eq_true rfl⟩ ⟨rfl, rfl⟩ rfl rfl (Nat.le_of_ble_eq_true rfl) [0, 4, 5, 9, 10, 11, 12, 13, 14, 15, 16, 17, 18, 19, 20, 21, 22, 23, 24, 25, 26, 27, 28] rfl rfl (fun _ => rfl) rfl rfl dX7_count_99 (kV_of (fun u99 hq99 => ?_))
    dsimp only [putW, List.set, Option.toList, List.cons_append, List.nil_append, padO, mdO, shW, trW, txW, hiW, liW, woW, taW]
    try dsimp only at hq99
    have hL99 := hq99
    refine V_aload_n XC 0 rfl dX7_count_102 rfl ?_
    refine V_get XC 7 flX7_count_53 0 rfl rfl dX7_count_103 ?_
    refine V_get XC 0 flX7_count_230 17 rfl rfl dX7_count_106 ?_
    refine V_iret XC (u99.1, u99.2.1, u99.2.2.1, u99.2.2.2.1, u99.2.2.2.2.1, u99.2.2.2.2.2.1, u99.2.2.2.2.2.2.1, u99.2.2.2.2.2.2.2.1, u99.2.2.2.2.2.2.2.2.1, u99.2.2.2.2.2.2.2.2.2.1, u99.2.2.2.2.2.2.2.2.2.2.1, u99.2.2.2.2.2.2.2.2.2.2.2.1, u99.2.2.2.2.2.2.2.2.2.2.2.2.1, u99.2.2.2.2.2.2.2.2.2.2.2.2.2.1, u99.2.2.2.2.2.2.2.2.2.2.2.2.2.2.1, u99.2.2.2.2.2.2.2.2.2.2.2.2.2.2.2.1, u99.2.2.2.2.2.2.2.2.2.2.2.2.2.2.2.2.1, u99.2.2.2.2.2.2.2.2.2.2.2.2.2.2.2.2.2.1, u99.2.2.2.2.2.2.2.2.2.2.2.2.2.2.2.2.2.2.1, u99.2.2.2.2.2.2.2.2.2.2.2.2.2.2.2.2.2.2.2, ce, mo, TK, TP) hrV rfl dX7_count_109 ?_
    subst h1
    unfold countR
    rw [if_neg (by decide), if_neg (by decide), if_neg (by decide), if_neg (by decide), if_pos rfl]
    exact hL99.2.1
  · skip
    refine V_tabIn XC 110 5 h1 dX7_count_1 (by unfold IR; decide) (by decide) (by decide) (by rfl) (by decide) ?_
    refine V_aload_n XC 0 rfl dX7_count_110 rfl ?_
    refine V_get XC 8 flX7_count_60 0 rfl rfl dX7_count_111 ?_
    refine V_aload_n XC 0 rfl dX7_count_114 rfl ?_
    refine V_get XC 2 flX7_count_26 0 rfl rfl dX7_count_115 ?_
    refine V_iconst XC dX7_count_118 ?_
    refine V_callV (rest := _) (q0 := 29) XC (c_X3_take l D kI kC _ _ _ _ _ _ _ _ _ _ _ hn16 hS _ ⟨by decide, by decide⟩) gX7_count_X3_take rfl kmX3_take ⟨⟨Nat.le_of_ble_eq_true rfl, Nat.le_of_ble_eq_true rfl⟩, Nat.le_of_ble_eq_true rfl, Nat.le_of_ble_eq_true rfl⟩ ⟨rfl, rfl⟩ rfl rfl (Nat.le_of_ble_eq_true rfl) [29, 30, 31, 4, 5] rfl rfl (fun _ => rfl) rfl rfl dX7_count_119 (kV_of (fun u119 hq119 => ?_))
    obtain ⟨ce119, mo119, K119, P119⟩ := u119
    dsimp only [putW, List.set, Option.toList, List.cons_append, List.nil_append, padO, mdO, shW, trW, txW, hiW, liW, woW, taW]
    try dsimp only at hq119
    have hT119 := hq119
    refine V_aload_n XC 0 rfl dX7_count_122 rfl ?_
    refine V_get XC 8 flX7_count_60 0 rfl rfl dX7_count_123 ?_
    refine V_get XC 0 flX7_count_256 29 rfl rfl dX7_count_126 ?_
    refine V_iret XC (ln, lo, to, bo, ls, bt, bb, ra, wc, od, pl, wo, li, si, le, ri, fi, wi, fn, sl, _, _, _, _) hrV rfl dX7_count_129 ?_
    subst h1
    unfold countR
    rw [if_neg (by decide), if_neg (by decide), if_neg (by decide), if_neg (by decide), if_neg (by decide), if_pos rfl]
    obtain ⟨t, -, hT⟩ := hT119
    unfold inkN
    rw [hlen]
    exact hT.2.2.2.1
  · skip
    refine V_tabIn XC 130 6 h1 dX7_count_1 (by unfold IR; decide) (by decide) (by decide) (by rfl) (by decide) ?_
    refine V_aload_n XC 0 rfl dX7_count_130 rfl ?_
    refine V_get XC 8 flX7_count_60 0 rfl rfl dX7_count_131 ?_
    refine V_aload_n XC 0 rfl dX7_count_134 rfl ?_
    refine V_get XC 2 flX7_count_26 0 rfl rfl dX7_count_135 ?_
    refine V_iconst XC dX7_count_138 ?_
    refine V_callV (rest := _) (q0 := 29) XC (c_X3_take l D kI kC _ _ _ _ _ _ _ _ _ _ _ hn16 hS _ ⟨by decide, by decide⟩) gX7_count_X3_take rfl kmX3_take ⟨⟨Nat.le_of_ble_eq_true rfl, Nat.le_of_ble_eq_true rfl⟩, Nat.le_of_ble_eq_true rfl, Nat.le_of_ble_eq_true rfl⟩ ⟨rfl, rfl⟩ rfl rfl (Nat.le_of_ble_eq_true rfl) [29, 30, 31, 4, 5] rfl rfl (fun _ => rfl) rfl rfl dX7_count_139 (kV_of (fun u139 hq139 => ?_))
    obtain ⟨ce139, mo139, K139, P139⟩ := u139
    dsimp only [putW, List.set, Option.toList, List.cons_append, List.nil_append, padO, mdO, shW, trW, txW, hiW, liW, woW, taW]
    try dsimp only at hq139
    have hT139 := hq139
    refine V_aload_n XC 0 rfl dX7_count_142 rfl ?_
    refine V_get XC 8 flX7_count_60 0 rfl rfl dX7_count_143 ?_
    refine V_get XC 1 flX7_count_259 29 rfl rfl dX7_count_146 ?_
    refine V_iret XC (ln, lo, to, bo, ls, bt, bb, ra, wc, od, pl, wo, li, si, le, ri, fi, wi, fn, sl, _, _, _, _) hrV rfl dX7_count_149 ?_
    subst h1
    unfold countR
    rw [if_neg (by decide), if_neg (by decide), if_neg (by decide), if_neg (by decide), if_neg (by decide), if_neg (by decide), if_pos rfl]
    obtain ⟨t, -, hT⟩ := hT139
    unfold mostR
    rw [hlen]
    exact hT.2.2.2.2.1
  · skip
    refine V_tabIn XC 150 7 h1 dX7_count_1 (by unfold IR; decide) (by decide) (by decide) (by rfl) (by decide) ?_
    refine V_aload_n XC 0 rfl dX7_count_150 rfl ?_
    refine V_get XC 0 flX7_count_12 0 rfl rfl dX7_count_151 ?_
    refine V_get XC 0 flX7_count_72 1 rfl rfl dX7_count_154 ?_
    refine V_iret XC (ln, lo, to, bo, ls, bt, bb, ra, wc, od, pl, wo, li, si, le, ri, fi, wi, fn, sl, ce, mo, TK, TP) hrV rfl dX7_count_157 ?_
    subst h1
    unfold countR
    rw [if_neg (by decide), if_neg (by decide), if_neg (by decide), if_neg (by decide), if_neg (by decide), if_neg (by decide), if_neg (by decide), if_pos rfl]

  · skip
    refine V_tabIn XC 158 8 h1 dX7_count_1 (by unfold IR; decide) (by decide) (by decide) (by rfl) (by decide) ?_
    refine V_aload_n XC 0 rfl dX7_count_158 rfl ?_
    refine V_get XC 5 flX7_count_39 0 rfl rfl dX7_count_159 ?_
    refine V_get XC 0 flX7_count_182 6 rfl rfl dX7_count_162 ?_
    refine V_iret XC (ln, lo, to, bo, ls, bt, bb, ra, wc, od, pl, wo, li, si, le, ri, fi, wi, fn, sl, ce, mo, TK, TP) hrV rfl dX7_count_165 ?_
    subst h1
    unfold countR
    rw [if_neg (by decide), if_neg (by decide), if_neg (by decide), if_neg (by decide), if_neg (by decide), if_neg (by decide), if_neg (by decide), if_neg (by decide), if_pos rfl]

  · skip
    refine V_tabIn XC 166 9 h1 dX7_count_1 (by unfold IR; decide) (by decide) (by decide) (by rfl) (by decide) ?_
    refine V_aload_n XC 0 rfl dX7_count_166 rfl ?_
    refine V_get XC 5 flX7_count_39 0 rfl rfl dX7_count_167 ?_
    refine V_get XC 1 flX7_count_188 6 rfl rfl dX7_count_170 ?_
    refine V_iret XC (ln, lo, to, bo, ls, bt, bb, ra, wc, od, pl, wo, li, si, le, ri, fi, wi, fn, sl, ce, mo, TK, TP) hrV rfl dX7_count_173 ?_
    subst h1
    unfold countR
    rw [if_neg (by decide), if_neg (by decide), if_neg (by decide), if_neg (by decide), if_neg (by decide), if_neg (by decide), if_neg (by decide), if_neg (by decide), if_neg (by decide), if_pos rfl]

  · skip
    refine V_tabIn XC 174 10 h1 dX7_count_1 (by unfold IR; decide) (by decide) (by decide) (by rfl) (by decide) ?_
    refine V_aload_n XC 0 rfl dX7_count_174 rfl ?_
    refine V_get XC 9 flX7_count_64 0 rfl rfl dX7_count_175 ?_
    refine V_iret XC (ln, lo, to, bo, ls, bt, bb, ra, wc, od, pl, wo, li, si, le, ri, fi, wi, fn, sl, ce, mo, TK, TP) hrV rfl dX7_count_178 ?_
    subst h1
    unfold countR
    rw [if_neg (by decide), if_neg (by decide), if_neg (by decide), if_neg (by decide), if_neg (by decide), if_neg (by decide), if_neg (by decide), if_neg (by decide), if_neg (by decide), if_neg (by decide), if_pos rfl]


end PADE
