/-! the pad's methods, called over a pad's state -/
section PCALLS
theorem prs_congr {T U : Nat → Int} : ∀ (f i : Nat) (K : List Pt) (c : Nat) (x : Int) (b : Bool) (num : Int) (dig : Nat), (∀ j, i ≤ j → j < i + f → T j = U j) → prs T f i K c x b num dig = prs U f i K c x b num dig
  | 0, _, _, _, _, _, _, _, _ => rfl
  | f + 1, i, K, c, x, b, num, dig, h => by
    have h0 := h i (Nat.le_refl i) (by omega)
    have hn : ∀ j, i + 1 ≤ j → j < i + 1 + f → T j = U j := fun j h1 h2 => h j (by omega) (by omega)
    rw [prs_s, prs_s, h0, prs_congr f (i + 1) _ _ _ _ _ _ hn, prs_congr f (i + 1) _ _ _ _ _ _ hn, prs_congr f (i + 1) _ _ _ _ _ _ hn]
variable {p : Program} {l : Launch} {e : Env} {R : Room} {s : State} {m : MethodId} {args : Array Value} {below : List Frame} {meth : Method} {c : Code} {cc : ByteArray} {nL : Nat} {own : String} {Ts : List Cond} {A : Nat → Prop} {D : va_G} {kI kC : ClassId} {Q : State → Prop} {pa pg pw : Nat → Nat} {cells slots pc : Nat} {lv : List (Option Value)} {st : List Value} {σ : PS}
set_option maxRecDepth 100000 in
set_option maxHeartbeats 4000000 in
theorem P_X7_stroke (X : Cx p R s m args meth c cc nL own Ts A D kI kC) {index : Nat} {zA : Int} {whatA : Int} (hzA : IR zA) (hwhatA : IR whatA)  (hG : GoodIn Ts (wsV own index RX7 yX7_stroke wsX7_stroke)) (hR : RF R { frames := 6, cells := 0, slots := 0, locals := 140 } 3 cells slots) (hcat : (st.map fun v => v.category).sum ≤ 8) (hdg : decode cc pc = .ok (.invokevirtual index, 3))
    (k : PP p l e R s m args below meth c nL A D Q kI kC pa pg pw cells slots (pc + 3) lv (.int (iI (strokeS σ.1.1 σ.2.2.2 zA whatA)) :: st) σ) : PP p l e R s m args below meth c nL A D Q kI kC pa pg pw cells slots pc lv (.int (iI whatA) :: .int (iI zA) :: .ref (pa 0) :: st) σ := by
  intro θ hθ
  obtain ⟨gap, nb, BX, BY, nt, T, n, F, dn, DF, wn, WX, WY, p, f, ha, N, HS, ln, lo, to, bo, ls, bt, bb, ra, wc, od, pl, wo, li, si, le, ri, fi, wi, fn, sl, ce, mo, TK, TP⟩ := θ
  obtain ⟨⟨S0, past, fut⟩, B0, X0, gp⟩ := σ
  obtain ⟨hB1, hB, ⟨hty, hnt0, hTT⟩, hs0, h3, hH, hgp, hg⟩ := hθ
  dsimp only at hB1 hB hty hnt0 hTT hs0 h3 hH hgp hg k
  subst hB1 hs0 hgp
  have hn16 : n ≤ 16 := by have := h3.1.1; rwa [shC_len] at this
  have hS : OkS (shC n F) := h3.1
  have hnt : nt ≤ 100 := by omega
  have hT : ∀ i, i < nt → 0 ≤ T i ∧ T i < 65536 := fun i hi => by have := hTT i (by omega); omega
  dsimp only [thW]
  dsimp only [padO, shW, trW, txW, hiW, liW, woW, taW, List.cons_append, List.nil_append]
  refine VL_callV (rest := st) (q0 := 0) X (c_X7_stroke l D kI kC pa pg pw gap n F ln lo to bo ls bt bb ra wc od pl wo li si le ri fi wi fn sl hn16 hS hg zA whatA hzA hwhatA) hG rfl kmX7_stroke hR ⟨rfl, rfl⟩ rfl rfl hcat [0, 6, 7, 16, 17, 18, 19, 20, 21, 22, 23, 24, 25, 26, 27, 28, 29, 30, 31, 32, 33, 34, 35] rfl rfl (fun _ => rfl) rfl rfl hdg (kI_of (fun r u hq => ?_))
  obtain ⟨y0, y1, y2, y3, y4, y5, y6, y7, y8, y9, y10, y11, y12, y13, y14, y15, y16, y17, y18, y19⟩ := u
  try dsimp only [putW, List.set, Option.toList, List.cons_append, List.nil_append]
  try dsimp only at hq
  subst hq
  exact k (gap, nb, BX, BY, nt, T, n, F, dn, DF, wn, WX, WY, p, f, ha, N, HS, y0, y1, y2, y3, y4, y5, y6, y7, y8, y9, y10, y11, y12, y13, y14, y15, y16, y17, y18, y19, ce, mo, TK, TP) ⟨rfl, hB, ⟨hty, hnt0, hTT⟩, rfl, h3, hH, rfl, hg⟩
set_option maxRecDepth 100000 in
set_option maxHeartbeats 4000000 in
theorem P_X7_point (X : Cx p R s m args meth c cc nL own Ts A D kI kC) {index : Nat} {zA : Int} {iA : Int} {whatA : Int} (hzA : IR zA) (hiA : IR iA) (hwhatA : IR whatA)  (hG : GoodIn Ts (wsV own index RX7 yX7_point wsX7_point)) (hR : RF R { frames := 1, cells := 0, slots := 0, locals := 22 } 4 cells slots) (hcat : (st.map fun v => v.category).sum ≤ 8) (hdg : decode cc pc = .ok (.invokevirtual index, 3))
    (k : PP p l e R s m args below meth c nL A D Q kI kC pa pg pw cells slots (pc + 3) lv (.int (iI (pointS σ.1.1 zA iA whatA)) :: st) σ) : PP p l e R s m args below meth c nL A D Q kI kC pa pg pw cells slots pc lv (.int (iI whatA) :: .int (iI iA) :: .int (iI zA) :: .ref (pa 0) :: st) σ := by
  intro θ hθ
  obtain ⟨gap, nb, BX, BY, nt, T, n, F, dn, DF, wn, WX, WY, p, f, ha, N, HS, ln, lo, to, bo, ls, bt, bb, ra, wc, od, pl, wo, li, si, le, ri, fi, wi, fn, sl, ce, mo, TK, TP⟩ := θ
  obtain ⟨⟨S0, past, fut⟩, B0, X0, gp⟩ := σ
  obtain ⟨hB1, hB, ⟨hty, hnt0, hTT⟩, hs0, h3, hH, hgp, hg⟩ := hθ
  dsimp only at hB1 hB hty hnt0 hTT hs0 h3 hH hgp hg k
  subst hB1 hs0 hgp
  have hn16 : n ≤ 16 := by have := h3.1.1; rwa [shC_len] at this
  have hS : OkS (shC n F) := h3.1
  have hnt : nt ≤ 100 := by omega
  have hT : ∀ i, i < nt → 0 ≤ T i ∧ T i < 65536 := fun i hi => by have := hTT i (by omega); omega
  dsimp only [thW]
  dsimp only [padO, shW, trW, txW, hiW, liW, woW, taW, List.cons_append, List.nil_append]
  refine VL_callV (rest := st) (q0 := 0) X (c_X7_point l D kI kC pa pg pw gap n F hn16 hS zA iA whatA hzA hiA hwhatA) hG rfl kmX7_point hR ⟨rfl, rfl⟩ rfl rfl hcat [0, 6, 7] rfl rfl (fun _ => rfl) rfl rfl hdg (kI_of (fun r u hq => ?_))
  try dsimp only [putW, List.set, Option.toList, List.cons_append, List.nil_append]
  try dsimp only at hq
  subst hq
  exact k (gap, nb, BX, BY, nt, T, n, F, dn, DF, wn, WX, WY, p, f, ha, N, HS, ln, lo, to, bo, ls, bt, bb, ra, wc, od, pl, wo, li, si, le, ri, fi, wi, fn, sl, ce, mo, TK, TP) ⟨rfl, hB, ⟨hty, hnt0, hTT⟩, rfl, h3, hH, rfl, hg⟩
set_option maxRecDepth 100000 in
set_option maxHeartbeats 4000000 in
theorem P_X7_read (X : Cx p R s m args meth c cc nL own Ts A D kI kC) {index : Nat} {zA : Int} (hzA : IR zA)  (hG : GoodIn Ts (wsV own index RX7 yX7_read wsX7_read)) (hR : RF R { frames := 6, cells := 0, slots := 0, locals := 140 } 2 cells slots) (hcat : (st.map fun v => v.category).sum ≤ 8) (hdg : decode cc pc = .ok (.invokevirtual index, 3))
    (k : PP p l e R s m args below meth c nL A D Q kI kC pa pg pw cells slots (pc + 3) lv (.int (iI (readS σ.1.1 zA)) :: st) σ) : PP p l e R s m args below meth c nL A D Q kI kC pa pg pw cells slots pc lv (.int (iI zA) :: .ref (pa 0) :: st) σ := by
  intro θ hθ
  obtain ⟨gap, nb, BX, BY, nt, T, n, F, dn, DF, wn, WX, WY, p, f, ha, N, HS, ln, lo, to, bo, ls, bt, bb, ra, wc, od, pl, wo, li, si, le, ri, fi, wi, fn, sl, ce, mo, TK, TP⟩ := θ
  obtain ⟨⟨S0, past, fut⟩, B0, X0, gp⟩ := σ
  obtain ⟨hB1, hB, ⟨hty, hnt0, hTT⟩, hs0, h3, hH, hgp, hg⟩ := hθ
  dsimp only at hB1 hB hty hnt0 hTT hs0 h3 hH hgp hg k
  subst hB1 hs0 hgp
  have hn16 : n ≤ 16 := by have := h3.1.1; rwa [shC_len] at this
  have hS : OkS (shC n F) := h3.1
  have hnt : nt ≤ 100 := by omega
  have hT : ∀ i, i < nt → 0 ≤ T i ∧ T i < 65536 := fun i hi => by have := hTT i (by omega); omega
  dsimp only [thW]
  dsimp only [padO, shW, trW, txW, hiW, liW, woW, taW, List.cons_append, List.nil_append]
  refine VL_callV (rest := st) (q0 := 0) X (c_X7_read l D kI kC pa pg pw gap n F ln lo to bo ls bt bb ra wc od pl wo li si le ri fi wi fn sl hn16 hS hg zA hzA) hG rfl kmX7_read hR ⟨rfl, rfl⟩ rfl rfl hcat [0, 6, 7, 16, 17, 18, 19, 20, 21, 22, 23, 24, 25, 26, 27, 28, 29, 30, 31, 32, 33, 34, 35] rfl rfl (fun _ => rfl) rfl rfl hdg (kI_of (fun r u hq => ?_))
  obtain ⟨y0, y1, y2, y3, y4, y5, y6, y7, y8, y9, y10, y11, y12, y13, y14, y15, y16, y17, y18, y19⟩ := u
  try dsimp only [putW, List.set, Option.toList, List.cons_append, List.nil_append]
  try dsimp only at hq
  subst hq
  exact k (gap, nb, BX, BY, nt, T, n, F, dn, DF, wn, WX, WY, p, f, ha, N, HS, y0, y1, y2, y3, y4, y5, y6, y7, y8, y9, y10, y11, y12, y13, y14, y15, y16, y17, y18, y19, ce, mo, TK, TP) ⟨rfl, hB, ⟨hty, hnt0, hTT⟩, rfl, h3, hH, rfl, hg⟩
set_option maxRecDepth 100000 in
set_option maxHeartbeats 4000000 in
theorem P_X7_line (X : Cx p R s m args meth c cc nL own Ts A D kI kC) {index : Nat} {zA : Int} {whatA : Int} (hzA : IR zA) (hwhatA : IR whatA)  (hG : GoodIn Ts (wsV own index RX7 yX7_line wsX7_line)) (hR : RF R { frames := 6, cells := 0, slots := 0, locals := 140 } 3 cells slots) (hcat : (st.map fun v => v.category).sum ≤ 8) (hdg : decode cc pc = .ok (.invokevirtual index, 3))
    (k : PP p l e R s m args below meth c nL A D Q kI kC pa pg pw cells slots (pc + 3) lv (.int (iI (lineS σ.1.1 σ.2.2.2 zA whatA)) :: st) σ) : PP p l e R s m args below meth c nL A D Q kI kC pa pg pw cells slots pc lv (.int (iI whatA) :: .int (iI zA) :: .ref (pa 0) :: st) σ := by
  intro θ hθ
  obtain ⟨gap, nb, BX, BY, nt, T, n, F, dn, DF, wn, WX, WY, p, f, ha, N, HS, ln, lo, to, bo, ls, bt, bb, ra, wc, od, pl, wo, li, si, le, ri, fi, wi, fn, sl, ce, mo, TK, TP⟩ := θ
  obtain ⟨⟨S0, past, fut⟩, B0, X0, gp⟩ := σ
  obtain ⟨hB1, hB, ⟨hty, hnt0, hTT⟩, hs0, h3, hH, hgp, hg⟩ := hθ
  dsimp only at hB1 hB hty hnt0 hTT hs0 h3 hH hgp hg k
  subst hB1 hs0 hgp
  have hn16 : n ≤ 16 := by have := h3.1.1; rwa [shC_len] at this
  have hS : OkS (shC n F) := h3.1
  have hnt : nt ≤ 100 := by omega
  have hT : ∀ i, i < nt → 0 ≤ T i ∧ T i < 65536 := fun i hi => by have := hTT i (by omega); omega
  dsimp only [thW]
  dsimp only [padO, shW, trW, txW, hiW, liW, woW, taW, List.cons_append, List.nil_append]
  refine VL_callV (rest := st) (q0 := 0) X (c_X7_line l D kI kC pa pg pw gap n F ln lo to bo ls bt bb ra wc od pl wo li si le ri fi wi fn sl hn16 hS hg zA whatA hzA hwhatA) hG rfl kmX7_line hR ⟨rfl, rfl⟩ rfl rfl hcat [0, 6, 7, 16, 17, 18, 19, 20, 21, 22, 23, 24, 25, 26, 27, 28, 29, 30, 31, 32, 33, 34, 35] rfl rfl (fun _ => rfl) rfl rfl hdg (kI_of (fun r u hq => ?_))
  obtain ⟨y0, y1, y2, y3, y4, y5, y6, y7, y8, y9, y10, y11, y12, y13, y14, y15, y16, y17, y18, y19⟩ := u
  try dsimp only [putW, List.set, Option.toList, List.cons_append, List.nil_append]
  try dsimp only at hq
  subst hq
  exact k (gap, nb, BX, BY, nt, T, n, F, dn, DF, wn, WX, WY, p, f, ha, N, HS, y0, y1, y2, y3, y4, y5, y6, y7, y8, y9, y10, y11, y12, y13, y14, y15, y16, y17, y18, y19, ce, mo, TK, TP) ⟨rfl, hB, ⟨hty, hnt0, hTT⟩, rfl, h3, hH, rfl, hg⟩
set_option maxRecDepth 100000 in
set_option maxHeartbeats 4000000 in
theorem P_X7_word (X : Cx p R s m args meth c cc nL own Ts A D kI kC) {index : Nat} {zA : Int} {whatA : Int} (hzA : IR zA) (hwhatA : IR whatA)  (hG : GoodIn Ts (wsV own index RX7 yX7_word wsX7_word)) (hR : RF R { frames := 6, cells := 0, slots := 0, locals := 140 } 3 cells slots) (hcat : (st.map fun v => v.category).sum ≤ 8) (hdg : decode cc pc = .ok (.invokevirtual index, 3))
    (k : PP p l e R s m args below meth c nL A D Q kI kC pa pg pw cells slots (pc + 3) lv (.int (iI (wordS σ.1.1 σ.2.2.2 zA whatA)) :: st) σ) : PP p l e R s m args below meth c nL A D Q kI kC pa pg pw cells slots pc lv (.int (iI whatA) :: .int (iI zA) :: .ref (pa 0) :: st) σ := by
  intro θ hθ
  obtain ⟨gap, nb, BX, BY, nt, T, n, F, dn, DF, wn, WX, WY, p, f, ha, N, HS, ln, lo, to, bo, ls, bt, bb, ra, wc, od, pl, wo, li, si, le, ri, fi, wi, fn, sl, ce, mo, TK, TP⟩ := θ
  obtain ⟨⟨S0, past, fut⟩, B0, X0, gp⟩ := σ
  obtain ⟨hB1, hB, ⟨hty, hnt0, hTT⟩, hs0, h3, hH, hgp, hg⟩ := hθ
  dsimp only at hB1 hB hty hnt0 hTT hs0 h3 hH hgp hg k
  subst hB1 hs0 hgp
  have hn16 : n ≤ 16 := by have := h3.1.1; rwa [shC_len] at this
  have hS : OkS (shC n F) := h3.1
  have hnt : nt ≤ 100 := by omega
  have hT : ∀ i, i < nt → 0 ≤ T i ∧ T i < 65536 := fun i hi => by have := hTT i (by omega); omega
  dsimp only [thW]
  dsimp only [padO, shW, trW, txW, hiW, liW, woW, taW, List.cons_append, List.nil_append]
  refine VL_callV (rest := st) (q0 := 0) X (c_X7_word l D kI kC pa pg pw gap n F ln lo to bo ls bt bb ra wc od pl wo li si le ri fi wi fn sl hn16 hS hg zA whatA hzA hwhatA) hG rfl kmX7_word hR ⟨rfl, rfl⟩ rfl rfl hcat [0, 6, 7, 16, 17, 18, 19, 20, 21, 22, 23, 24, 25, 26, 27, 28, 29, 30, 31, 32, 33, 34, 35] rfl rfl (fun _ => rfl) rfl rfl hdg (kI_of (fun r u hq => ?_))
  obtain ⟨y0, y1, y2, y3, y4, y5, y6, y7, y8, y9, y10, y11, y12, y13, y14, y15, y16, y17, y18, y19⟩ := u
  try dsimp only [putW, List.set, Option.toList, List.cons_append, List.nil_append]
  try dsimp only at hq
  subst hq
  exact k (gap, nb, BX, BY, nt, T, n, F, dn, DF, wn, WX, WY, p, f, ha, N, HS, y0, y1, y2, y3, y4, y5, y6, y7, y8, y9, y10, y11, y12, y13, y14, y15, y16, y17, y18, y19, ce, mo, TK, TP) ⟨rfl, hB, ⟨hty, hnt0, hTT⟩, rfl, h3, hH, rfl, hg⟩
set_option maxRecDepth 100000 in
set_option maxHeartbeats 4000000 in
theorem P_X7_nearest (X : Cx p R s m args meth c cc nL own Ts A D kI kC) {index : Nat} {xA : Int} {yA : Int} (hxA : IR xA) (hyA : IR yA)  (hG : GoodIn Ts (wsV own index RX7 yX7_nearest wsX7_nearest)) (hR : RF R { frames := 2, cells := 0, slots := 0, locals := 42 } 8 cells slots) (hcat : (st.map fun v => v.category).sum ≤ 8) (hdg : decode cc pc = .ok (.invokevirtual index, 3))
    (k : PP p l e R s m args below meth c nL A D Q kI kC pa pg pw cells slots (pc + 3) lv (.int (iI (nearS σ.1.1 xA yA)) :: st) σ) : PP p l e R s m args below meth c nL A D Q kI kC pa pg pw cells slots pc lv (.int (iI yA) :: .int (iI xA) :: .ref (pa 0) :: st) σ := by
  intro θ hθ
  obtain ⟨gap, nb, BX, BY, nt, T, n, F, dn, DF, wn, WX, WY, p, f, ha, N, HS, ln, lo, to, bo, ls, bt, bb, ra, wc, od, pl, wo, li, si, le, ri, fi, wi, fn, sl, ce, mo, TK, TP⟩ := θ
  obtain ⟨⟨S0, past, fut⟩, B0, X0, gp⟩ := σ
  obtain ⟨hB1, hB, ⟨hty, hnt0, hTT⟩, hs0, h3, hH, hgp, hg⟩ := hθ
  dsimp only at hB1 hB hty hnt0 hTT hs0 h3 hH hgp hg k
  subst hB1 hs0 hgp
  have hn16 : n ≤ 16 := by have := h3.1.1; rwa [shC_len] at this
  have hS : OkS (shC n F) := h3.1
  have hnt : nt ≤ 100 := by omega
  have hT : ∀ i, i < nt → 0 ≤ T i ∧ T i < 65536 := fun i hi => by have := hTT i (by omega); omega
  dsimp only [thW]
  dsimp only [padO, shW, trW, txW, hiW, liW, woW, taW, List.cons_append, List.nil_append]
  refine VL_callV (rest := st) (q0 := 0) X (c_X7_nearest l D kI kC pa pg pw gap n F hn16 hS xA yA hxA hyA) hG rfl kmX7_nearest hR ⟨rfl, rfl⟩ rfl rfl hcat [0, 6, 7] rfl rfl (fun _ => rfl) rfl rfl hdg (kI_of (fun r u hq => ?_))
  try dsimp only [putW, List.set, Option.toList, List.cons_append, List.nil_append]
  try dsimp only at hq
  subst hq
  exact k (gap, nb, BX, BY, nt, T, n, F, dn, DF, wn, WX, WY, p, f, ha, N, HS, ln, lo, to, bo, ls, bt, bb, ra, wc, od, pl, wo, li, si, le, ri, fi, wi, fn, sl, ce, mo, TK, TP) ⟨rfl, hB, ⟨hty, hnt0, hTT⟩, rfl, h3, hH, rfl, hg⟩
set_option maxRecDepth 100000 in
set_option maxHeartbeats 4000000 in
theorem P_X7_cell (X : Cx p R s m args meth c cc nL own Ts A D kI kC) {index : Nat} {xA : Int} {yA : Int} (hxA : IR xA) (hyA : IR yA)  (hG : GoodIn Ts (wsV own index RX7 yX7_cell wsX7_cell)) (hR : RF R { frames := 2, cells := 0, slots := 0, locals := 42 } 7 cells slots) (hcat : (st.map fun v => v.category).sum ≤ 8) (hdg : decode cc pc = .ok (.invokevirtual index, 3))
    (k : PP p l e R s m args below meth c nL A D Q kI kC pa pg pw cells slots (pc + 3) lv (.int (iI (cellS σ.1.1 xA yA)) :: st) σ) : PP p l e R s m args below meth c nL A D Q kI kC pa pg pw cells slots pc lv (.int (iI yA) :: .int (iI xA) :: .ref (pa 0) :: st) σ := by
  intro θ hθ
  obtain ⟨gap, nb, BX, BY, nt, T, n, F, dn, DF, wn, WX, WY, p, f, ha, N, HS, ln, lo, to, bo, ls, bt, bb, ra, wc, od, pl, wo, li, si, le, ri, fi, wi, fn, sl, ce, mo, TK, TP⟩ := θ
  obtain ⟨⟨S0, past, fut⟩, B0, X0, gp⟩ := σ
  obtain ⟨hB1, hB, ⟨hty, hnt0, hTT⟩, hs0, h3, hH, hgp, hg⟩ := hθ
  dsimp only at hB1 hB hty hnt0 hTT hs0 h3 hH hgp hg k
  subst hB1 hs0 hgp
  have hn16 : n ≤ 16 := by have := h3.1.1; rwa [shC_len] at this
  have hS : OkS (shC n F) := h3.1
  have hnt : nt ≤ 100 := by omega
  have hT : ∀ i, i < nt → 0 ≤ T i ∧ T i < 65536 := fun i hi => by have := hTT i (by omega); omega
  dsimp only [thW]
  dsimp only [padO, shW, trW, txW, hiW, liW, woW, taW, List.cons_append, List.nil_append]
  refine VL_callV (rest := st) (q0 := 0) X (c_X7_cell l D kI kC pa pg pw gap n F hn16 hS xA yA hxA hyA) hG rfl kmX7_cell hR ⟨rfl, rfl⟩ rfl rfl hcat [0, 6, 7] rfl rfl (fun _ => rfl) rfl rfl hdg (kI_of (fun r u hq => ?_))
  try dsimp only [putW, List.set, Option.toList, List.cons_append, List.nil_append]
  try dsimp only at hq
  subst hq
  exact k (gap, nb, BX, BY, nt, T, n, F, dn, DF, wn, WX, WY, p, f, ha, N, HS, ln, lo, to, bo, ls, bt, bb, ra, wc, od, pl, wo, li, si, le, ri, fi, wi, fn, sl, ce, mo, TK, TP) ⟨rfl, hB, ⟨hty, hnt0, hTT⟩, rfl, h3, hH, rfl, hg⟩
set_option maxRecDepth 100000 in
set_option maxHeartbeats 4000000 in
theorem P_X7_color (X : Cx p R s m args meth c cc nL own Ts A D kI kC) {index : Nat} {cA : Int} {whatA : Int} (hcA : IR cA) (hwhatA : IR whatA)  (hG : GoodIn Ts (wsV own index RX7 yX7_color wsX7_color)) (hR : RF R { frames := 3, cells := 0, slots := 0, locals := 71 } 3 cells slots) (hcat : (st.map fun v => v.category).sum ≤ 8) (hdg : decode cc pc = .ok (.invokevirtual index, 3))
    (k : PP p l e R s m args below meth c nL A D Q kI kC pa pg pw cells slots (pc + 3) lv (.int (iI (colorS σ.1.1 cA whatA)) :: st) σ) : PP p l e R s m args below meth c nL A D Q kI kC pa pg pw cells slots pc lv (.int (iI whatA) :: .int (iI cA) :: .ref (pa 0) :: st) σ := by
  intro θ hθ
  obtain ⟨gap, nb, BX, BY, nt, T, n, F, dn, DF, wn, WX, WY, p, f, ha, N, HS, ln, lo, to, bo, ls, bt, bb, ra, wc, od, pl, wo, li, si, le, ri, fi, wi, fn, sl, ce, mo, TK, TP⟩ := θ
  obtain ⟨⟨S0, past, fut⟩, B0, X0, gp⟩ := σ
  obtain ⟨hB1, hB, ⟨hty, hnt0, hTT⟩, hs0, h3, hH, hgp, hg⟩ := hθ
  dsimp only at hB1 hB hty hnt0 hTT hs0 h3 hH hgp hg k
  subst hB1 hs0 hgp
  have hn16 : n ≤ 16 := by have := h3.1.1; rwa [shC_len] at this
  have hS : OkS (shC n F) := h3.1
  have hnt : nt ≤ 100 := by omega
  have hT : ∀ i, i < nt → 0 ≤ T i ∧ T i < 65536 := fun i hi => by have := hTT i (by omega); omega
  dsimp only [thW]
  dsimp only [padO, shW, trW, txW, hiW, liW, woW, taW, List.cons_append, List.nil_append]
  refine VL_callV (rest := st) (q0 := 0) X (c_X7_color l D kI kC pa pg pw gap n F ce mo TK TP hn16 hS cA whatA hcA hwhatA) hG rfl kmX7_color hR ⟨rfl, rfl⟩ rfl rfl hcat [0, 6, 7, 36, 37, 38] rfl rfl (fun _ => rfl) rfl rfl hdg (kI_of (fun r u hq => ?_))
  obtain ⟨y0, y1, y2, y3⟩ := u
  try dsimp only [putW, List.set, Option.toList, List.cons_append, List.nil_append]
  try dsimp only at hq
  subst hq
  exact k (gap, nb, BX, BY, nt, T, n, F, dn, DF, wn, WX, WY, p, f, ha, N, HS, ln, lo, to, bo, ls, bt, bb, ra, wc, od, pl, wo, li, si, le, ri, fi, wi, fn, sl, y0, y1, y2, y3) ⟨rfl, hB, ⟨hty, hnt0, hTT⟩, rfl, h3, hH, rfl, hg⟩
set_option maxRecDepth 100000 in
set_option maxHeartbeats 4000000 in
theorem P_X7_count (X : Cx p R s m args meth c cc nL own Ts A D kI kC) {index : Nat} {whatA : Int} (hwhatA : IR whatA)  (hG : GoodIn Ts (wsV own index RX7 yX7_count wsX7_count)) (hR : RF R { frames := 6, cells := 0, slots := 0, locals := 140 } 2 cells slots) (hcat : (st.map fun v => v.category).sum ≤ 8) (hdg : decode cc pc = .ok (.invokevirtual index, 3))
    (k : ∀ r : Int, countR σ.1.1 σ.2.2.2 (σ.2.1.length : Int) (σ.1.2.1.length : Int) (σ.1.2.2.length : Int) whatA r → PP p l e R s m args below meth c nL A D Q kI kC pa pg pw cells slots (pc + 3) lv (.int (iI r) :: st) σ) : PP p l e R s m args below meth c nL A D Q kI kC pa pg pw cells slots pc lv (.int (iI whatA) :: .ref (pa 0) :: st) σ := by
  intro θ hθ
  obtain ⟨gap, nb, BX, BY, nt, T, n, F, dn, DF, wn, WX, WY, p, f, ha, N, HS, ln, lo, to, bo, ls, bt, bb, ra, wc, od, pl, wo, li, si, le, ri, fi, wi, fn, sl, ce, mo, TK, TP⟩ := θ
  obtain ⟨⟨S0, past, fut⟩, B0, X0, gp⟩ := σ
  obtain ⟨hB1, hB, ⟨hty, hnt0, hTT⟩, hs0, h3, hH, hgp, hg⟩ := hθ
  dsimp only at hB1 hB hty hnt0 hTT hs0 h3 hH hgp hg k
  subst hB1 hs0 hgp
  have hn16 : n ≤ 16 := by have := h3.1.1; rwa [shC_len] at this
  have hS : OkS (shC n F) := h3.1
  have hnt : nt ≤ 100 := by omega
  have hT : ∀ i, i < nt → 0 ≤ T i ∧ T i < 65536 := fun i hi => by have := hTT i (by omega); omega
  dsimp only [thW]
  dsimp only [padO, shW, trW, txW, hiW, liW, woW, taW, List.cons_append, List.nil_append]
  refine VL_callV (rest := st) (q0 := 0) X (c_X7_count l D kI kC pa pg pw gap nb BX BY n F p f ha N HS ln lo to bo ls bt bb ra wc od pl wo li si le ri fi wi fn sl ce mo TK TP hn16 hS hg whatA hwhatA) hG rfl kmX7_count hR ⟨rfl, rfl⟩ rfl rfl hcat [0, 1, 2, 3, 6, 7, 13, 14, 15, 16, 17, 18, 19, 20, 21, 22, 23, 24, 25, 26, 27, 28, 29, 30, 31, 32, 33, 34, 35, 36, 37, 38] rfl rfl (fun _ => rfl) rfl rfl hdg (kI_of (fun r u hq => ?_))
  obtain ⟨y0, y1, y2, y3, y4, y5, y6, y7, y8, y9, y10, y11, y12, y13, y14, y15, y16, y17, y18, y19, y20, y21, y22, y23⟩ := u
  try dsimp only [putW, List.set, Option.toList, List.cons_append, List.nil_append]
  try dsimp only at hq
  exact k r (by rw [ptsOf_len, ← hH.1, ← hH.2.1]; exact hq) (gap, nb, BX, BY, nt, T, n, F, dn, DF, wn, WX, WY, p, f, ha, N, HS, y0, y1, y2, y3, y4, y5, y6, y7, y8, y9, y10, y11, y12, y13, y14, y15, y16, y17, y18, y19, y20, y21, y22, y23) ⟨rfl, hB, ⟨hty, hnt0, hTT⟩, rfl, h3, hH, rfl, hg⟩
set_option maxRecDepth 100000 in
set_option maxHeartbeats 4000000 in
theorem P_X7_put (X : Cx p R s m args meth c cc nL own Ts A D kI kC) {index : Nat} {xA : Int} {yA : Int} (hxA : IR xA) (hyA : IR yA)  (hG : GoodIn Ts (wsV own index RX7 yX7_put wsX7_put)) (hR : RF R { frames := 2, cells := 0, slots := 0, locals := 44 } 3 cells slots) (hcat : (st.map fun v => v.category).sum ≤ 8) (hdg : decode cc pc = .ok (.invokevirtual index, 3))
    (k : PP p l e R s m args below meth c nL A D Q kI kC pa pg pw cells slots (pc + 3) lv (.int (iI ((putS σ.2.1 xA yA).1)) :: st) (σ.1, (putS σ.2.1 xA yA).2, σ.2.2.1, σ.2.2.2)) : PP p l e R s m args below meth c nL A D Q kI kC pa pg pw cells slots pc lv (.int (iI yA) :: .int (iI xA) :: .ref (pa 0) :: st) σ := by
  intro θ hθ
  obtain ⟨gap, nb, BX, BY, nt, T, n, F, dn, DF, wn, WX, WY, p, f, ha, N, HS, ln, lo, to, bo, ls, bt, bb, ra, wc, od, pl, wo, li, si, le, ri, fi, wi, fn, sl, ce, mo, TK, TP⟩ := θ
  obtain ⟨⟨S0, past, fut⟩, B0, X0, gp⟩ := σ
  obtain ⟨hB1, hB, ⟨hty, hnt0, hTT⟩, hs0, h3, hH, hgp, hg⟩ := hθ
  dsimp only at hB1 hB hty hnt0 hTT hs0 h3 hH hgp hg k
  subst hB1 hs0 hgp
  have hn16 : n ≤ 16 := by have := h3.1.1; rwa [shC_len] at this
  have hS : OkS (shC n F) := h3.1
  have hnt : nt ≤ 100 := by omega
  have hT : ∀ i, i < nt → 0 ≤ T i ∧ T i < 65536 := fun i hi => by have := hTT i (by omega); omega
  dsimp only [thW]
  dsimp only [padO, shW, trW, txW, hiW, liW, woW, taW, List.cons_append, List.nil_append]
  refine VL_callV (rest := st) (q0 := 0) X (c_X7_put l D kI kC pa pg pw gap nb BX BY hB xA yA hxA hyA) hG rfl kmX7_put hR ⟨rfl, rfl⟩ rfl rfl hcat [0, 1, 2, 3] rfl rfl (fun _ => rfl) rfl rfl hdg (kI_of (fun r u hq => ?_))
  obtain ⟨y0, y1, y2⟩ := u
  try dsimp only [putW, List.set, Option.toList, List.cons_append, List.nil_append]
  try dsimp only at hq
  rw [hq.1]
  exact k (gap, y0, y1, y2, nt, T, n, F, dn, DF, wn, WX, WY, p, f, ha, N, HS, ln, lo, to, bo, ls, bt, bb, ra, wc, od, pl, wo, li, si, le, ri, fi, wi, fn, sl, ce, mo, TK, TP) ⟨hq.2.1, by rw [← hq.2.1]; exact hq.2.2, ⟨hty, hnt0, hTT⟩, rfl, h3, hH, rfl, hg⟩
set_option maxRecDepth 100000 in
set_option maxHeartbeats 4000000 in
theorem P_X7_clearPoints (X : Cx p R s m args meth c cc nL own Ts A D kI kC) {index : Nat}    (hG : GoodIn Ts (wsV own index RX7 yX7_clearPoints wsX7_clearPoints)) (hR : RF R { frames := 1, cells := 0, slots := 0, locals := 20 } 2 cells slots) (hcat : (st.map fun v => v.category).sum ≤ 8) (hdg : decode cc pc = .ok (.invokevirtual index, 3))
    (k : PP p l e R s m args below meth c nL A D Q kI kC pa pg pw cells slots (pc + 3) lv (.int (iI ((σ.2.1.length : Int))) :: st) (σ.1, [], σ.2.2.1, σ.2.2.2)) : PP p l e R s m args below meth c nL A D Q kI kC pa pg pw cells slots pc lv (.ref (pa 0) :: st) σ := by
  intro θ hθ
  obtain ⟨gap, nb, BX, BY, nt, T, n, F, dn, DF, wn, WX, WY, p, f, ha, N, HS, ln, lo, to, bo, ls, bt, bb, ra, wc, od, pl, wo, li, si, le, ri, fi, wi, fn, sl, ce, mo, TK, TP⟩ := θ
  obtain ⟨⟨S0, past, fut⟩, B0, X0, gp⟩ := σ
  obtain ⟨hB1, hB, ⟨hty, hnt0, hTT⟩, hs0, h3, hH, hgp, hg⟩ := hθ
  dsimp only at hB1 hB hty hnt0 hTT hs0 h3 hH hgp hg k
  subst hB1 hs0 hgp
  have hn16 : n ≤ 16 := by have := h3.1.1; rwa [shC_len] at this
  have hS : OkS (shC n F) := h3.1
  have hnt : nt ≤ 100 := by omega
  have hT : ∀ i, i < nt → 0 ≤ T i ∧ T i < 65536 := fun i hi => by have := hTT i (by omega); omega
  dsimp only [thW]
  dsimp only [padO, shW, trW, txW, hiW, liW, woW, taW, List.cons_append, List.nil_append]
  refine VL_callV (rest := st) (q0 := 0) X (c_X7_clearPoints l D kI kC pa pg pw gap nb BX BY) hG rfl kmX7_clearPoints hR ⟨rfl, rfl⟩ rfl rfl hcat [0, 1, 2, 3] rfl rfl (fun _ => rfl) rfl rfl hdg (kI_of (fun r u hq => ?_))
  try dsimp only [putW, List.set, Option.toList, List.cons_append, List.nil_append]
  try dsimp only at hq
  rw [hq]
  rw [ptsOf_len] at k
  exact k (gap, 0, BX, BY, nt, T, n, F, dn, DF, wn, WX, WY, p, f, ha, N, HS, ln, lo, to, bo, ls, bt, bb, ra, wc, od, pl, wo, li, si, le, ri, fi, wi, fn, sl, ce, mo, TK, TP) ⟨rfl, OkB_nil, ⟨hty, hnt0, hTT⟩, rfl, h3, hH, rfl, hg⟩
set_option maxRecDepth 100000 in
set_option maxHeartbeats 4000000 in
theorem P_X7_type (X : Cx p R s m args meth c cc nL own Ts A D kI kC) {index : Nat} {cA : Int}  (hcA : 0 ≤ cA ∧ cA < 65536) (hXl : σ.2.2.1.length < 100) (hG : GoodIn Ts (wsV own index RX7 yX7_type wsX7_type)) (hR : RF R { frames := 1, cells := 0, slots := 0, locals := 21 } 2 cells slots) (hcat : (st.map fun v => v.category).sum ≤ 8) (hdg : decode cc pc = .ok (.invokevirtual index, 3))
    (k : PP p l e R s m args below meth c nL A D Q kI kC pa pg pw cells slots (pc + 3) lv (.int (iI ((σ.2.2.1.length : Int) + 1)) :: st) (σ.1, σ.2.1, σ.2.2.1 ++ [cA], σ.2.2.2)) : PP p l e R s m args below meth c nL A D Q kI kC pa pg pw cells slots pc lv (.int (iI cA) :: .ref (pa 0) :: st) σ := by
  intro θ hθ
  obtain ⟨gap, nb, BX, BY, nt, T, n, F, dn, DF, wn, WX, WY, p, f, ha, N, HS, ln, lo, to, bo, ls, bt, bb, ra, wc, od, pl, wo, li, si, le, ri, fi, wi, fn, sl, ce, mo, TK, TP⟩ := θ
  obtain ⟨⟨S0, past, fut⟩, B0, X0, gp⟩ := σ
  obtain ⟨hB1, hB, ⟨hty, hnt0, hTT⟩, hs0, h3, hH, hgp, hg⟩ := hθ
  dsimp only at hB1 hB hty hnt0 hTT hs0 h3 hH hgp hg k
  subst hB1 hs0 hgp
  have hn16 : n ≤ 16 := by have := h3.1.1; rwa [shC_len] at this
  have hS : OkS (shC n F) := h3.1
  have hnt : nt ≤ 100 := by omega
  have hT : ∀ i, i < nt → 0 ≤ T i ∧ T i < 65536 := fun i hi => by have := hTT i (by omega); omega
  dsimp only [thW]
  dsimp only [padO, shW, trW, txW, hiW, liW, woW, taW, List.cons_append, List.nil_append]
  refine VL_callV (rest := st) (q0 := 0) X (c_X7_type l D kI kC pa pg pw gap nt T hnt cA hcA) hG rfl kmX7_type hR ⟨rfl, rfl⟩ rfl rfl hcat [0, 4, 5] rfl rfl (fun _ => rfl) rfl rfl hdg (kI_of (fun r u hq => ?_))
  obtain ⟨y0, y1⟩ := u
  try dsimp only [putW, List.set, Option.toList, List.cons_append, List.nil_append]
  try dsimp only at hq
  rcases hq with ⟨e1, -, -⟩ | ⟨e1, e2, e3⟩
  · dsimp only at hXl; omega
  · dsimp only at hXl
    cases e3
    rw [show r = (X0.length : Int) + 1 by omega]
    have hTA : ∀ i, i < (X0 ++ [cA]).length → upz T nt cA i = (X0 ++ [cA]).getD i 0 ∧ 0 ≤ (X0 ++ [cA]).getD i 0 ∧ (X0 ++ [cA]).getD i 0 < 65536 := by
      intro i hi
      rw [List.length_append, List.length_singleton] at hi
      by_cases q : i = nt
      · subst q; rw [upz_s, hty, List.getD_eq_getElem?_getD, List.getElem?_append_right (Nat.le_refl _), Nat.sub_self]; exact ⟨rfl, hcA⟩
      · rw [upz_n q, List.getD_eq_getElem?_getD, List.getElem?_append_left (by omega), ← List.getD_eq_getElem?_getD]; exact hTT i (by omega)
    exact k (gap, nb, BX, BY, nt + 1, upz T nt cA, n, F, dn, DF, wn, WX, WY, p, f, ha, N, HS, ln, lo, to, bo, ls, bt, bb, ra, wc, od, pl, wo, li, si, le, ri, fi, wi, fn, sl, ce, mo, TK, TP) ⟨rfl, hB, ⟨by rw [List.length_append, List.length_singleton, hty], by rw [List.length_append, List.length_singleton]; omega, hTA⟩, rfl, h3, hH, rfl, hg⟩
set_option maxRecDepth 100000 in
set_option maxHeartbeats 4000000 in
theorem P_X7_clearText (X : Cx p R s m args meth c cc nL own Ts A D kI kC) {index : Nat}    (hG : GoodIn Ts (wsV own index RX7 yX7_clearText wsX7_clearText)) (hR : RF R { frames := 1, cells := 0, slots := 0, locals := 20 } 2 cells slots) (hcat : (st.map fun v => v.category).sum ≤ 8) (hdg : decode cc pc = .ok (.invokevirtual index, 3))
    (k : PP p l e R s m args below meth c nL A D Q kI kC pa pg pw cells slots (pc + 3) lv (.int (iI ((σ.2.2.1.length : Int))) :: st) (σ.1, σ.2.1, [], σ.2.2.2)) : PP p l e R s m args below meth c nL A D Q kI kC pa pg pw cells slots pc lv (.ref (pa 0) :: st) σ := by
  intro θ hθ
  obtain ⟨gap, nb, BX, BY, nt, T, n, F, dn, DF, wn, WX, WY, p, f, ha, N, HS, ln, lo, to, bo, ls, bt, bb, ra, wc, od, pl, wo, li, si, le, ri, fi, wi, fn, sl, ce, mo, TK, TP⟩ := θ
  obtain ⟨⟨S0, past, fut⟩, B0, X0, gp⟩ := σ
  obtain ⟨hB1, hB, ⟨hty, hnt0, hTT⟩, hs0, h3, hH, hgp, hg⟩ := hθ
  dsimp only at hB1 hB hty hnt0 hTT hs0 h3 hH hgp hg k
  subst hB1 hs0 hgp
  have hn16 : n ≤ 16 := by have := h3.1.1; rwa [shC_len] at this
  have hS : OkS (shC n F) := h3.1
  have hnt : nt ≤ 100 := by omega
  have hT : ∀ i, i < nt → 0 ≤ T i ∧ T i < 65536 := fun i hi => by have := hTT i (by omega); omega
  dsimp only [thW]
  dsimp only [padO, shW, trW, txW, hiW, liW, woW, taW, List.cons_append, List.nil_append]
  refine VL_callV (rest := st) (q0 := 0) X (c_X7_clearText l D kI kC pa pg pw gap nt T) hG rfl kmX7_clearText hR ⟨rfl, rfl⟩ rfl rfl hcat [0, 4, 5] rfl rfl (fun _ => rfl) rfl rfl hdg (kI_of (fun r u hq => ?_))
  try dsimp only [putW, List.set, Option.toList, List.cons_append, List.nil_append]
  try dsimp only at hq
  rw [hq, hty]
  exact k (gap, nb, BX, BY, 0, T, n, F, dn, DF, wn, WX, WY, p, f, ha, N, HS, ln, lo, to, bo, ls, bt, bb, ra, wc, od, pl, wo, li, si, le, ri, fi, wi, fn, sl, ce, mo, TK, TP) ⟨rfl, hB, ⟨rfl, by decide, fun i hi => absurd hi (Nat.not_lt_zero i)⟩, rfl, h3, hH, rfl, hg⟩
set_option maxRecDepth 100000 in
set_option maxHeartbeats 4000000 in
theorem P_X7_readPoints (X : Cx p R s m args meth c cc nL own Ts A D kI kC) {index : Nat}    (hG : GoodIn Ts (wsV own index RX7 yX7_readPoints wsX7_readPoints)) (hR : RF R { frames := 3, cells := 0, slots := 0, locals := 73 } 2 cells slots) (hcat : (st.map fun v => v.category).sum ≤ 8) (hdg : decode cc pc = .ok (.invokevirtual index, 3))
    (k : PP p l e R s m args below meth c nL A D Q kI kC pa pg pw cells slots (pc + 3) lv (.int (iI (if (prs (fun i => σ.2.2.1.getD i 0) σ.2.2.1.length 0 [] 0 0 false 0 0).1 = -1 then ((prs (fun i => σ.2.2.1.getD i 0) σ.2.2.1.length 0 [] 0 0 false 0 0).2.length : Int) else -100 - (prs (fun i => σ.2.2.1.getD i 0) σ.2.2.1.length 0 [] 0 0 false 0 0).1)) :: st) (σ.1, (if (prs (fun i => σ.2.2.1.getD i 0) σ.2.2.1.length 0 [] 0 0 false 0 0).1 = -1 then (prs (fun i => σ.2.2.1.getD i 0) σ.2.2.1.length 0 [] 0 0 false 0 0).2 else σ.2.1), σ.2.2.1, σ.2.2.2)) : PP p l e R s m args below meth c nL A D Q kI kC pa pg pw cells slots pc lv (.ref (pa 0) :: st) σ := by
  intro θ hθ
  obtain ⟨gap, nb, BX, BY, nt, T, n, F, dn, DF, wn, WX, WY, p, f, ha, N, HS, ln, lo, to, bo, ls, bt, bb, ra, wc, od, pl, wo, li, si, le, ri, fi, wi, fn, sl, ce, mo, TK, TP⟩ := θ
  obtain ⟨⟨S0, past, fut⟩, B0, X0, gp⟩ := σ
  obtain ⟨hB1, hB, ⟨hty, hnt0, hTT⟩, hs0, h3, hH, hgp, hg⟩ := hθ
  dsimp only at hB1 hB hty hnt0 hTT hs0 h3 hH hgp hg k
  subst hB1 hs0 hgp
  have hn16 : n ≤ 16 := by have := h3.1.1; rwa [shC_len] at this
  have hS : OkS (shC n F) := h3.1
  have hnt : nt ≤ 100 := by omega
  have hT : ∀ i, i < nt → 0 ≤ T i ∧ T i < 65536 := fun i hi => by have := hTT i (by omega); omega
  dsimp only [thW]
  dsimp only [padO, shW, trW, txW, hiW, liW, woW, taW, List.cons_append, List.nil_append]
  refine VL_callV (rest := st) (q0 := 0) X (c_X7_readPoints l D kI kC pa pg pw gap nb BX BY nt T wn WX WY hB hnt hT) hG rfl kmX7_readPoints hR ⟨rfl, rfl⟩ rfl rfl hcat [0, 1, 2, 3, 4, 5, 10, 11, 12] rfl rfl (fun _ => rfl) rfl rfl hdg (kI_of (fun r u hq => ?_))
  obtain ⟨y0, y1, y2, y3, y4, y5⟩ := u
  try dsimp only [putW, List.set, Option.toList, List.cons_append, List.nil_append]
  try dsimp only at hq
  have hpr : prs T nt 0 [] 0 0 false 0 0 = prs (fun i => X0.getD i 0) X0.length 0 [] 0 0 false 0 0 := by
    rw [hty]
    exact prs_congr X0.length 0 _ _ _ _ _ _ (fun j _ hj => (hTT j (by omega)).1)
  rw [hpr] at hq
  rw [hq.1]
  exact k (gap, y0, y1, y2, nt, T, n, F, dn, DF, y3, y4, y5, p, f, ha, N, HS, ln, lo, to, bo, ls, bt, bb, ra, wc, od, pl, wo, li, si, le, ri, fi, wi, fn, sl, ce, mo, TK, TP) ⟨hq.2.1, by rw [← hq.2.1]; exact hq.2.2, ⟨hty, hnt0, hTT⟩, rfl, h3, hH, rfl, hg⟩
set_option maxRecDepth 100000 in
set_option maxHeartbeats 4000000 in
theorem P_X7_draw (X : Cx p R s m args meth c cc nL own Ts A D kI kC) {index : Nat} {cA : Int} (hcA : IR cA)  (hG : GoodIn Ts (wsV own index RX7 yX7_draw wsX7_draw)) (hR : RF R { frames := 3, cells := 0, slots := 0, locals := 86 } 2 cells slots) (hcat : (st.map fun v => v.category).sum ≤ 8) (hdg : decode cc pc = .ok (.invokevirtual index, 3))
    (k : PP p l e R s m args below meth c nL A D Q kI kC pa pg pw cells slots (pc + 3) lv (.int (iI ((drawS σ.1.1 σ.2.1 cA).1)) :: st) (actS σ.1 (drawS σ.1.1 σ.2.1 cA).2, (if (drawS σ.1.1 σ.2.1 cA).2 = none then σ.2.1 else []), σ.2.2.1, σ.2.2.2)) : PP p l e R s m args below meth c nL A D Q kI kC pa pg pw cells slots pc lv (.int (iI cA) :: .ref (pa 0) :: st) σ := by
  intro θ hθ
  obtain ⟨gap, nb, BX, BY, nt, T, n, F, dn, DF, wn, WX, WY, p, f, ha, N, HS, ln, lo, to, bo, ls, bt, bb, ra, wc, od, pl, wo, li, si, le, ri, fi, wi, fn, sl, ce, mo, TK, TP⟩ := θ
  obtain ⟨⟨S0, past, fut⟩, B0, X0, gp⟩ := σ
  obtain ⟨hB1, hB, ⟨hty, hnt0, hTT⟩, hs0, h3, hH, hgp, hg⟩ := hθ
  dsimp only at hB1 hB hty hnt0 hTT hs0 h3 hH hgp hg k
  subst hB1 hs0 hgp
  have hn16 : n ≤ 16 := by have := h3.1.1; rwa [shC_len] at this
  have hS : OkS (shC n F) := h3.1
  have hnt : nt ≤ 100 := by omega
  have hT : ∀ i, i < nt → 0 ≤ T i ∧ T i < 65536 := fun i hi => by have := hTT i (by omega); omega
  dsimp only [thW]
  dsimp only [padO, shW, trW, txW, hiW, liW, woW, taW, List.cons_append, List.nil_append]
  refine VL_callV (rest := st) (q0 := 0) X (c_X7_draw l D kI kC pa pg pw gap nb BX BY n F p f ha N HS past fut h3 hH hB cA hcA) hG rfl kmX7_draw hR ⟨rfl, rfl⟩ rfl rfl hcat [0, 1, 2, 3, 6, 7, 13, 14, 15] rfl rfl (fun _ => rfl) rfl rfl hdg (kI_of (fun r u hq => ?_))
  obtain ⟨y0, y1, y2, y3, y4, y5, y6, y7⟩ := u
  try dsimp only [putW, List.set, Option.toList, List.cons_append, List.nil_append]
  try dsimp only at hq
  obtain ⟨e1, e2, e3, e4, e5⟩ := hq
  rw [e1]
  refine k (gap, y7, BX, BY, nt, T, y0, y1, dn, DF, wn, WX, WY, y2, y3, y4, y5, y6, ln, lo, to, bo, ls, bt, bb, ra, wc, od, pl, wo, li, si, le, ri, fi, wi, fn, sl, ce, mo, TK, TP) ⟨?_, ?_, ⟨hty, hnt0, hTT⟩, e3, e5, e4, rfl, hg⟩
  · rw [e2]; split
    · rfl
    · rfl
  · (try dsimp only); split
    · exact hB
    · exact OkB_nil
set_option maxRecDepth 100000 in
set_option maxHeartbeats 4000000 in
theorem P_X7_rub (X : Cx p R s m args meth c cc nL own Ts A D kI kC) {index : Nat} {xA : Int} {yA : Int} {radA : Int} (hxA : IR xA) (hyA : IR yA) (hradA : IR radA)  (hG : GoodIn Ts (wsV own index RX7 yX7_rub wsX7_rub)) (hR : RF R { frames := 4, cells := 0, slots := 0, locals := 108 } 10 cells slots) (hcat : (st.map fun v => v.category).sum ≤ 8) (hdg : decode cc pc = .ok (.invokevirtual index, 3))
    (k : PP p l e R s m args below meth c nL A D Q kI kC pa pg pw cells slots (pc + 3) lv (.int (iI ((rubS σ.1.1 xA yA radA).1)) :: st) (actS σ.1 (rubS σ.1.1 xA yA radA).2, σ.2.1, σ.2.2.1, σ.2.2.2)) : PP p l e R s m args below meth c nL A D Q kI kC pa pg pw cells slots pc lv (.int (iI radA) :: .int (iI yA) :: .int (iI xA) :: .ref (pa 0) :: st) σ := by
  intro θ hθ
  obtain ⟨gap, nb, BX, BY, nt, T, n, F, dn, DF, wn, WX, WY, p, f, ha, N, HS, ln, lo, to, bo, ls, bt, bb, ra, wc, od, pl, wo, li, si, le, ri, fi, wi, fn, sl, ce, mo, TK, TP⟩ := θ
  obtain ⟨⟨S0, past, fut⟩, B0, X0, gp⟩ := σ
  obtain ⟨hB1, hB, ⟨hty, hnt0, hTT⟩, hs0, h3, hH, hgp, hg⟩ := hθ
  dsimp only at hB1 hB hty hnt0 hTT hs0 h3 hH hgp hg k
  subst hB1 hs0 hgp
  have hn16 : n ≤ 16 := by have := h3.1.1; rwa [shC_len] at this
  have hS : OkS (shC n F) := h3.1
  have hnt : nt ≤ 100 := by omega
  have hT : ∀ i, i < nt → 0 ≤ T i ∧ T i < 65536 := fun i hi => by have := hTT i (by omega); omega
  dsimp only [thW]
  dsimp only [padO, shW, trW, txW, hiW, liW, woW, taW, List.cons_append, List.nil_append]
  refine VL_callV (rest := st) (q0 := 0) X (c_X7_rub l D kI kC pa pg pw gap n F dn DF wn WX WY p f ha N HS past fut h3 hH xA yA radA hxA hyA hradA) hG rfl kmX7_rub hR ⟨rfl, rfl⟩ rfl rfl hcat [0, 6, 7, 8, 9, 10, 11, 12, 13, 14, 15] rfl rfl (fun _ => rfl) rfl rfl hdg (kI_of (fun r u hq => ?_))
  obtain ⟨y0, y1, y2, y3, y4, y5, y6, y7, y8, y9, y10, y11⟩ := u
  try dsimp only [putW, List.set, Option.toList, List.cons_append, List.nil_append]
  try dsimp only at hq
  obtain ⟨e1, e2, e3, e4⟩ := hq
  rw [e1]
  exact k (gap, nb, BX, BY, nt, T, y0, y1, y10, y11, y7, y8, y9, y2, y3, y4, y5, y6, ln, lo, to, bo, ls, bt, bb, ra, wc, od, pl, wo, li, si, le, ri, fi, wi, fn, sl, ce, mo, TK, TP) ⟨rfl, hB, ⟨hty, hnt0, hTT⟩, e2, e4, e3, rfl, hg⟩
set_option maxRecDepth 100000 in
set_option maxHeartbeats 4000000 in
theorem P_X7_smooth (X : Cx p R s m args meth c cc nL own Ts A D kI kC) {index : Nat} {zA : Int} {dA : Int} (hzA : IR zA) (hdA : IR dA)  (hG : GoodIn Ts (wsV own index RX7 yX7_smooth wsX7_smooth)) (hR : RF R { frames := 3, cells := 0, slots := 0, locals := 85 } 4 cells slots) (hcat : (st.map fun v => v.category).sum ≤ 8) (hdg : decode cc pc = .ok (.invokevirtual index, 3))
    (k : PP p l e R s m args below meth c nL A D Q kI kC pa pg pw cells slots (pc + 3) lv (.int (iI ((smoothS σ.1.1 zA dA).1)) :: st) (actS σ.1 (smoothS σ.1.1 zA dA).2, σ.2.1, σ.2.2.1, σ.2.2.2)) : PP p l e R s m args below meth c nL A D Q kI kC pa pg pw cells slots pc lv (.int (iI dA) :: .int (iI zA) :: .ref (pa 0) :: st) σ := by
  intro θ hθ
  obtain ⟨gap, nb, BX, BY, nt, T, n, F, dn, DF, wn, WX, WY, p, f, ha, N, HS, ln, lo, to, bo, ls, bt, bb, ra, wc, od, pl, wo, li, si, le, ri, fi, wi, fn, sl, ce, mo, TK, TP⟩ := θ
  obtain ⟨⟨S0, past, fut⟩, B0, X0, gp⟩ := σ
  obtain ⟨hB1, hB, ⟨hty, hnt0, hTT⟩, hs0, h3, hH, hgp, hg⟩ := hθ
  dsimp only at hB1 hB hty hnt0 hTT hs0 h3 hH hgp hg k
  subst hB1 hs0 hgp
  have hn16 : n ≤ 16 := by have := h3.1.1; rwa [shC_len] at this
  have hS : OkS (shC n F) := h3.1
  have hnt : nt ≤ 100 := by omega
  have hT : ∀ i, i < nt → 0 ≤ T i ∧ T i < 65536 := fun i hi => by have := hTT i (by omega); omega
  dsimp only [thW]
  dsimp only [padO, shW, trW, txW, hiW, liW, woW, taW, List.cons_append, List.nil_append]
  refine VL_callV (rest := st) (q0 := 0) X (c_X7_smooth l D kI kC pa pg pw gap n F wn WX WY p f ha N HS past fut h3 hH zA dA hzA hdA) hG rfl kmX7_smooth hR ⟨rfl, rfl⟩ rfl rfl hcat [0, 6, 7, 10, 11, 12, 13, 14, 15] rfl rfl (fun _ => rfl) rfl rfl hdg (kI_of (fun r u hq => ?_))
  obtain ⟨y0, y1, y2, y3, y4, y5, y6, y7, y8, y9⟩ := u
  try dsimp only [putW, List.set, Option.toList, List.cons_append, List.nil_append]
  try dsimp only at hq
  obtain ⟨e1, e2, e3, e4⟩ := hq
  rw [e1]
  exact k (gap, nb, BX, BY, nt, T, y0, y1, dn, DF, y7, y8, y9, y2, y3, y4, y5, y6, ln, lo, to, bo, ls, bt, bb, ra, wc, od, pl, wo, li, si, le, ri, fi, wi, fn, sl, ce, mo, TK, TP) ⟨rfl, hB, ⟨hty, hnt0, hTT⟩, e2, e4, e3, rfl, hg⟩
set_option maxRecDepth 100000 in
set_option maxHeartbeats 4000000 in
theorem P_X7_thin (X : Cx p R s m args meth c cc nL own Ts A D kI kC) {index : Nat} {zA : Int} {dA : Int} (hzA : IR zA) (hdA : IR dA)  (hG : GoodIn Ts (wsV own index RX7 yX7_thin wsX7_thin)) (hR : RF R { frames := 3, cells := 0, slots := 0, locals := 85 } 3 cells slots) (hcat : (st.map fun v => v.category).sum ≤ 8) (hdg : decode cc pc = .ok (.invokevirtual index, 3))
    (k : PP p l e R s m args below meth c nL A D Q kI kC pa pg pw cells slots (pc + 3) lv (.int (iI ((thinS σ.1.1 zA dA).1)) :: st) (actS σ.1 (thinS σ.1.1 zA dA).2, σ.2.1, σ.2.2.1, σ.2.2.2)) : PP p l e R s m args below meth c nL A D Q kI kC pa pg pw cells slots pc lv (.int (iI dA) :: .int (iI zA) :: .ref (pa 0) :: st) σ := by
  intro θ hθ
  obtain ⟨gap, nb, BX, BY, nt, T, n, F, dn, DF, wn, WX, WY, p, f, ha, N, HS, ln, lo, to, bo, ls, bt, bb, ra, wc, od, pl, wo, li, si, le, ri, fi, wi, fn, sl, ce, mo, TK, TP⟩ := θ
  obtain ⟨⟨S0, past, fut⟩, B0, X0, gp⟩ := σ
  obtain ⟨hB1, hB, ⟨hty, hnt0, hTT⟩, hs0, h3, hH, hgp, hg⟩ := hθ
  dsimp only at hB1 hB hty hnt0 hTT hs0 h3 hH hgp hg k
  subst hB1 hs0 hgp
  have hn16 : n ≤ 16 := by have := h3.1.1; rwa [shC_len] at this
  have hS : OkS (shC n F) := h3.1
  have hnt : nt ≤ 100 := by omega
  have hT : ∀ i, i < nt → 0 ≤ T i ∧ T i < 65536 := fun i hi => by have := hTT i (by omega); omega
  dsimp only [thW]
  dsimp only [padO, shW, trW, txW, hiW, liW, woW, taW, List.cons_append, List.nil_append]
  refine VL_callV (rest := st) (q0 := 0) X (c_X7_thin l D kI kC pa pg pw gap n F wn WX WY p f ha N HS past fut h3 hH zA dA hzA hdA) hG rfl kmX7_thin hR ⟨rfl, rfl⟩ rfl rfl hcat [0, 6, 7, 10, 11, 12, 13, 14, 15] rfl rfl (fun _ => rfl) rfl rfl hdg (kI_of (fun r u hq => ?_))
  obtain ⟨y0, y1, y2, y3, y4, y5, y6, y7, y8, y9⟩ := u
  try dsimp only [putW, List.set, Option.toList, List.cons_append, List.nil_append]
  try dsimp only at hq
  obtain ⟨e1, e2, e3, e4⟩ := hq
  rw [e1]
  exact k (gap, nb, BX, BY, nt, T, y0, y1, dn, DF, y7, y8, y9, y2, y3, y4, y5, y6, ln, lo, to, bo, ls, bt, bb, ra, wc, od, pl, wo, li, si, le, ri, fi, wi, fn, sl, ce, mo, TK, TP) ⟨rfl, hB, ⟨hty, hnt0, hTT⟩, e2, e4, e3, rfl, hg⟩
set_option maxRecDepth 100000 in
set_option maxHeartbeats 4000000 in
theorem P_X7_join (X : Cx p R s m args meth c cc nL own Ts A D kI kC) {index : Nat} {zA : Int} {yA : Int} (hzA : IR zA) (hyA : IR yA)  (hG : GoodIn Ts (wsV own index RX7 yX7_join wsX7_join)) (hR : RF R { frames := 3, cells := 0, slots := 0, locals := 67 } 6 cells slots) (hcat : (st.map fun v => v.category).sum ≤ 8) (hdg : decode cc pc = .ok (.invokevirtual index, 3))
    (k : PP p l e R s m args below meth c nL A D Q kI kC pa pg pw cells slots (pc + 3) lv (.int (iI ((joinS σ.1.1 zA yA).1)) :: st) (actS σ.1 (joinS σ.1.1 zA yA).2, σ.2.1, σ.2.2.1, σ.2.2.2)) : PP p l e R s m args below meth c nL A D Q kI kC pa pg pw cells slots pc lv (.int (iI yA) :: .int (iI zA) :: .ref (pa 0) :: st) σ := by
  intro θ hθ
  obtain ⟨gap, nb, BX, BY, nt, T, n, F, dn, DF, wn, WX, WY, p, f, ha, N, HS, ln, lo, to, bo, ls, bt, bb, ra, wc, od, pl, wo, li, si, le, ri, fi, wi, fn, sl, ce, mo, TK, TP⟩ := θ
  obtain ⟨⟨S0, past, fut⟩, B0, X0, gp⟩ := σ
  obtain ⟨hB1, hB, ⟨hty, hnt0, hTT⟩, hs0, h3, hH, hgp, hg⟩ := hθ
  dsimp only at hB1 hB hty hnt0 hTT hs0 h3 hH hgp hg k
  subst hB1 hs0 hgp
  have hn16 : n ≤ 16 := by have := h3.1.1; rwa [shC_len] at this
  have hS : OkS (shC n F) := h3.1
  have hnt : nt ≤ 100 := by omega
  have hT : ∀ i, i < nt → 0 ≤ T i ∧ T i < 65536 := fun i hi => by have := hTT i (by omega); omega
  dsimp only [thW]
  dsimp only [padO, shW, trW, txW, hiW, liW, woW, taW, List.cons_append, List.nil_append]
  refine VL_callV (rest := st) (q0 := 0) X (c_X7_join l D kI kC pa pg pw gap n F wn WX WY p f ha N HS past fut h3 hH zA yA hzA hyA) hG rfl kmX7_join hR ⟨rfl, rfl⟩ rfl rfl hcat [0, 6, 7, 10, 11, 12, 13, 14, 15] rfl rfl (fun _ => rfl) rfl rfl hdg (kI_of (fun r u hq => ?_))
  obtain ⟨y0, y1, y2, y3, y4, y5, y6, y7, y8, y9⟩ := u
  try dsimp only [putW, List.set, Option.toList, List.cons_append, List.nil_append]
  try dsimp only at hq
  obtain ⟨e1, e2, e3, e4⟩ := hq
  rw [e1]
  exact k (gap, nb, BX, BY, nt, T, y0, y1, dn, DF, y7, y8, y9, y2, y3, y4, y5, y6, ln, lo, to, bo, ls, bt, bb, ra, wc, od, pl, wo, li, si, le, ri, fi, wi, fn, sl, ce, mo, TK, TP) ⟨rfl, hB, ⟨hty, hnt0, hTT⟩, e2, e4, e3, rfl, hg⟩
set_option maxRecDepth 100000 in
set_option maxHeartbeats 4000000 in
theorem P_X7_shift (X : Cx p R s m args meth c cc nL own Ts A D kI kC) {index : Nat} {zA : Int} {dxA : Int} {dyA : Int} (hzA : IR zA) (hdxA : IR dxA) (hdyA : IR dyA)  (hG : GoodIn Ts (wsV own index RX7 yX7_shift wsX7_shift)) (hR : RF R { frames := 3, cells := 0, slots := 0, locals := 85 } 5 cells slots) (hcat : (st.map fun v => v.category).sum ≤ 8) (hdg : decode cc pc = .ok (.invokevirtual index, 3))
    (k : PP p l e R s m args below meth c nL A D Q kI kC pa pg pw cells slots (pc + 3) lv (.int (iI ((shiftS σ.1.1 zA dxA dyA).1)) :: st) (actS σ.1 (shiftS σ.1.1 zA dxA dyA).2, σ.2.1, σ.2.2.1, σ.2.2.2)) : PP p l e R s m args below meth c nL A D Q kI kC pa pg pw cells slots pc lv (.int (iI dyA) :: .int (iI dxA) :: .int (iI zA) :: .ref (pa 0) :: st) σ := by
  intro θ hθ
  obtain ⟨gap, nb, BX, BY, nt, T, n, F, dn, DF, wn, WX, WY, p, f, ha, N, HS, ln, lo, to, bo, ls, bt, bb, ra, wc, od, pl, wo, li, si, le, ri, fi, wi, fn, sl, ce, mo, TK, TP⟩ := θ
  obtain ⟨⟨S0, past, fut⟩, B0, X0, gp⟩ := σ
  obtain ⟨hB1, hB, ⟨hty, hnt0, hTT⟩, hs0, h3, hH, hgp, hg⟩ := hθ
  dsimp only at hB1 hB hty hnt0 hTT hs0 h3 hH hgp hg k
  subst hB1 hs0 hgp
  have hn16 : n ≤ 16 := by have := h3.1.1; rwa [shC_len] at this
  have hS : OkS (shC n F) := h3.1
  have hnt : nt ≤ 100 := by omega
  have hT : ∀ i, i < nt → 0 ≤ T i ∧ T i < 65536 := fun i hi => by have := hTT i (by omega); omega
  dsimp only [thW]
  dsimp only [padO, shW, trW, txW, hiW, liW, woW, taW, List.cons_append, List.nil_append]
  refine VL_callV (rest := st) (q0 := 0) X (c_X7_shift l D kI kC pa pg pw gap n F wn WX WY p f ha N HS past fut h3 hH zA dxA dyA hzA hdxA hdyA) hG rfl kmX7_shift hR ⟨rfl, rfl⟩ rfl rfl hcat [0, 6, 7, 10, 11, 12, 13, 14, 15] rfl rfl (fun _ => rfl) rfl rfl hdg (kI_of (fun r u hq => ?_))
  obtain ⟨y0, y1, y2, y3, y4, y5, y6, y7, y8, y9⟩ := u
  try dsimp only [putW, List.set, Option.toList, List.cons_append, List.nil_append]
  try dsimp only at hq
  obtain ⟨e1, e2, e3, e4⟩ := hq
  rw [e1]
  exact k (gap, nb, BX, BY, nt, T, y0, y1, dn, DF, y7, y8, y9, y2, y3, y4, y5, y6, ln, lo, to, bo, ls, bt, bb, ra, wc, od, pl, wo, li, si, le, ri, fi, wi, fn, sl, ce, mo, TK, TP) ⟨rfl, hB, ⟨hty, hnt0, hTT⟩, e2, e4, e3, rfl, hg⟩
set_option maxRecDepth 100000 in
set_option maxHeartbeats 4000000 in
theorem P_X7_paint (X : Cx p R s m args meth c cc nL own Ts A D kI kC) {index : Nat} {zA : Int} {cA : Int} (hzA : IR zA) (hcA : IR cA)  (hG : GoodIn Ts (wsV own index RX7 yX7_paint wsX7_paint)) (hR : RF R { frames := 2, cells := 0, slots := 0, locals := 61 } 4 cells slots) (hcat : (st.map fun v => v.category).sum ≤ 8) (hdg : decode cc pc = .ok (.invokevirtual index, 3))
    (k : PP p l e R s m args below meth c nL A D Q kI kC pa pg pw cells slots (pc + 3) lv (.int (iI ((paintS σ.1.1 zA cA).1)) :: st) (actS σ.1 (paintS σ.1.1 zA cA).2, σ.2.1, σ.2.2.1, σ.2.2.2)) : PP p l e R s m args below meth c nL A D Q kI kC pa pg pw cells slots pc lv (.int (iI cA) :: .int (iI zA) :: .ref (pa 0) :: st) σ := by
  intro θ hθ
  obtain ⟨gap, nb, BX, BY, nt, T, n, F, dn, DF, wn, WX, WY, p, f, ha, N, HS, ln, lo, to, bo, ls, bt, bb, ra, wc, od, pl, wo, li, si, le, ri, fi, wi, fn, sl, ce, mo, TK, TP⟩ := θ
  obtain ⟨⟨S0, past, fut⟩, B0, X0, gp⟩ := σ
  obtain ⟨hB1, hB, ⟨hty, hnt0, hTT⟩, hs0, h3, hH, hgp, hg⟩ := hθ
  dsimp only at hB1 hB hty hnt0 hTT hs0 h3 hH hgp hg k
  subst hB1 hs0 hgp
  have hn16 : n ≤ 16 := by have := h3.1.1; rwa [shC_len] at this
  have hS : OkS (shC n F) := h3.1
  have hnt : nt ≤ 100 := by omega
  have hT : ∀ i, i < nt → 0 ≤ T i ∧ T i < 65536 := fun i hi => by have := hTT i (by omega); omega
  dsimp only [thW]
  dsimp only [padO, shW, trW, txW, hiW, liW, woW, taW, List.cons_append, List.nil_append]
  refine VL_callV (rest := st) (q0 := 0) X (c_X7_paint l D kI kC pa pg pw gap n F p f ha N HS past fut h3 hH zA cA hzA hcA) hG rfl kmX7_paint hR ⟨rfl, rfl⟩ rfl rfl hcat [0, 6, 7, 13, 14, 15] rfl rfl (fun _ => rfl) rfl rfl hdg (kI_of (fun r u hq => ?_))
  obtain ⟨y0, y1, y2, y3, y4, y5, y6⟩ := u
  try dsimp only [putW, List.set, Option.toList, List.cons_append, List.nil_append]
  try dsimp only at hq
  obtain ⟨e1, e2, e3, e4⟩ := hq
  rw [e1]
  exact k (gap, nb, BX, BY, nt, T, y0, y1, dn, DF, wn, WX, WY, y2, y3, y4, y5, y6, ln, lo, to, bo, ls, bt, bb, ra, wc, od, pl, wo, li, si, le, ri, fi, wi, fn, sl, ce, mo, TK, TP) ⟨rfl, hB, ⟨hty, hnt0, hTT⟩, e2, e4, e3, rfl, hg⟩
set_option maxRecDepth 100000 in
set_option maxHeartbeats 4000000 in
theorem P_X7_remove (X : Cx p R s m args meth c cc nL own Ts A D kI kC) {index : Nat} {zA : Int} (hzA : IR zA)  (hG : GoodIn Ts (wsV own index RX7 yX7_remove wsX7_remove)) (hR : RF R { frames := 2, cells := 0, slots := 0, locals := 62 } 2 cells slots) (hcat : (st.map fun v => v.category).sum ≤ 8) (hdg : decode cc pc = .ok (.invokevirtual index, 3))
    (k : PP p l e R s m args below meth c nL A D Q kI kC pa pg pw cells slots (pc + 3) lv (.int (iI ((removeS σ.1.1 zA).1)) :: st) (actS σ.1 (removeS σ.1.1 zA).2, σ.2.1, σ.2.2.1, σ.2.2.2)) : PP p l e R s m args below meth c nL A D Q kI kC pa pg pw cells slots pc lv (.int (iI zA) :: .ref (pa 0) :: st) σ := by
  intro θ hθ
  obtain ⟨gap, nb, BX, BY, nt, T, n, F, dn, DF, wn, WX, WY, p, f, ha, N, HS, ln, lo, to, bo, ls, bt, bb, ra, wc, od, pl, wo, li, si, le, ri, fi, wi, fn, sl, ce, mo, TK, TP⟩ := θ
  obtain ⟨⟨S0, past, fut⟩, B0, X0, gp⟩ := σ
  obtain ⟨hB1, hB, ⟨hty, hnt0, hTT⟩, hs0, h3, hH, hgp, hg⟩ := hθ
  dsimp only at hB1 hB hty hnt0 hTT hs0 h3 hH hgp hg k
  subst hB1 hs0 hgp
  have hn16 : n ≤ 16 := by have := h3.1.1; rwa [shC_len] at this
  have hS : OkS (shC n F) := h3.1
  have hnt : nt ≤ 100 := by omega
  have hT : ∀ i, i < nt → 0 ≤ T i ∧ T i < 65536 := fun i hi => by have := hTT i (by omega); omega
  dsimp only [thW]
  dsimp only [padO, shW, trW, txW, hiW, liW, woW, taW, List.cons_append, List.nil_append]
  refine VL_callV (rest := st) (q0 := 0) X (c_X7_remove l D kI kC pa pg pw gap n F p f ha N HS past fut h3 hH zA hzA) hG rfl kmX7_remove hR ⟨rfl, rfl⟩ rfl rfl hcat [0, 6, 7, 13, 14, 15] rfl rfl (fun _ => rfl) rfl rfl hdg (kI_of (fun r u hq => ?_))
  obtain ⟨y0, y1, y2, y3, y4, y5, y6⟩ := u
  try dsimp only [putW, List.set, Option.toList, List.cons_append, List.nil_append]
  try dsimp only at hq
  obtain ⟨e1, e2, e3, e4⟩ := hq
  rw [e1]
  exact k (gap, nb, BX, BY, nt, T, y0, y1, dn, DF, wn, WX, WY, y2, y3, y4, y5, y6, ln, lo, to, bo, ls, bt, bb, ra, wc, od, pl, wo, li, si, le, ri, fi, wi, fn, sl, ce, mo, TK, TP) ⟨rfl, hB, ⟨hty, hnt0, hTT⟩, e2, e4, e3, rfl, hg⟩
set_option maxRecDepth 100000 in
set_option maxHeartbeats 4000000 in
theorem P_X7_undo (X : Cx p R s m args meth c cc nL own Ts A D kI kC) {index : Nat}    (hG : GoodIn Ts (wsV own index RX7 yX7_undo wsX7_undo)) (hR : RF R { frames := 3, cells := 0, slots := 0, locals := 82 } 1 cells slots) (hcat : (st.map fun v => v.category).sum ≤ 8) (hdg : decode cc pc = .ok (.invokevirtual index, 3))
    (k : PP p l e R s m args below meth c nL A D Q kI kC pa pg pw cells slots (pc + 3) lv (.int (iI ((undoS σ.1).1)) :: st) ((undoS σ.1).2, σ.2.1, σ.2.2.1, σ.2.2.2)) : PP p l e R s m args below meth c nL A D Q kI kC pa pg pw cells slots pc lv (.ref (pa 0) :: st) σ := by
  intro θ hθ
  obtain ⟨gap, nb, BX, BY, nt, T, n, F, dn, DF, wn, WX, WY, p, f, ha, N, HS, ln, lo, to, bo, ls, bt, bb, ra, wc, od, pl, wo, li, si, le, ri, fi, wi, fn, sl, ce, mo, TK, TP⟩ := θ
  obtain ⟨⟨S0, past, fut⟩, B0, X0, gp⟩ := σ
  obtain ⟨hB1, hB, ⟨hty, hnt0, hTT⟩, hs0, h3, hH, hgp, hg⟩ := hθ
  dsimp only at hB1 hB hty hnt0 hTT hs0 h3 hH hgp hg k
  subst hB1 hs0 hgp
  have hn16 : n ≤ 16 := by have := h3.1.1; rwa [shC_len] at this
  have hS : OkS (shC n F) := h3.1
  have hnt : nt ≤ 100 := by omega
  have hT : ∀ i, i < nt → 0 ≤ T i ∧ T i < 65536 := fun i hi => by have := hTT i (by omega); omega
  dsimp only [thW]
  dsimp only [padO, shW, trW, txW, hiW, liW, woW, taW, List.cons_append, List.nil_append]
  refine VL_callV (rest := st) (q0 := 0) X (c_X7_undo l D kI kC pa pg pw gap n F p f ha N HS past fut h3 hH) hG rfl kmX7_undo hR ⟨rfl, rfl⟩ rfl rfl hcat [0, 6, 7, 13, 14, 15] rfl rfl (fun _ => rfl) rfl rfl hdg (kI_of (fun r u hq => ?_))
  obtain ⟨y0, y1, y2, y3, y4, y5, y6⟩ := u
  try dsimp only [putW, List.set, Option.toList, List.cons_append, List.nil_append]
  try dsimp only at hq
  obtain ⟨e1, e2, e3, e4⟩ := hq
  rw [e1]
  exact k (gap, nb, BX, BY, nt, T, y0, y1, dn, DF, wn, WX, WY, y2, y3, y4, y5, y6, ln, lo, to, bo, ls, bt, bb, ra, wc, od, pl, wo, li, si, le, ri, fi, wi, fn, sl, ce, mo, TK, TP) ⟨rfl, hB, ⟨hty, hnt0, hTT⟩, e2, e4, e3, rfl, hg⟩
set_option maxRecDepth 100000 in
set_option maxHeartbeats 4000000 in
theorem P_X7_redo (X : Cx p R s m args meth c cc nL own Ts A D kI kC) {index : Nat}    (hG : GoodIn Ts (wsV own index RX7 yX7_redo wsX7_redo)) (hR : RF R { frames := 3, cells := 0, slots := 0, locals := 82 } 1 cells slots) (hcat : (st.map fun v => v.category).sum ≤ 8) (hdg : decode cc pc = .ok (.invokevirtual index, 3))
    (k : PP p l e R s m args below meth c nL A D Q kI kC pa pg pw cells slots (pc + 3) lv (.int (iI ((redoS σ.1).1)) :: st) ((redoS σ.1).2, σ.2.1, σ.2.2.1, σ.2.2.2)) : PP p l e R s m args below meth c nL A D Q kI kC pa pg pw cells slots pc lv (.ref (pa 0) :: st) σ := by
  intro θ hθ
  obtain ⟨gap, nb, BX, BY, nt, T, n, F, dn, DF, wn, WX, WY, p, f, ha, N, HS, ln, lo, to, bo, ls, bt, bb, ra, wc, od, pl, wo, li, si, le, ri, fi, wi, fn, sl, ce, mo, TK, TP⟩ := θ
  obtain ⟨⟨S0, past, fut⟩, B0, X0, gp⟩ := σ
  obtain ⟨hB1, hB, ⟨hty, hnt0, hTT⟩, hs0, h3, hH, hgp, hg⟩ := hθ
  dsimp only at hB1 hB hty hnt0 hTT hs0 h3 hH hgp hg k
  subst hB1 hs0 hgp
  have hn16 : n ≤ 16 := by have := h3.1.1; rwa [shC_len] at this
  have hS : OkS (shC n F) := h3.1
  have hnt : nt ≤ 100 := by omega
  have hT : ∀ i, i < nt → 0 ≤ T i ∧ T i < 65536 := fun i hi => by have := hTT i (by omega); omega
  dsimp only [thW]
  dsimp only [padO, shW, trW, txW, hiW, liW, woW, taW, List.cons_append, List.nil_append]
  refine VL_callV (rest := st) (q0 := 0) X (c_X7_redo l D kI kC pa pg pw gap n F p f ha N HS past fut h3 hH) hG rfl kmX7_redo hR ⟨rfl, rfl⟩ rfl rfl hcat [0, 6, 7, 13, 14, 15] rfl rfl (fun _ => rfl) rfl rfl hdg (kI_of (fun r u hq => ?_))
  obtain ⟨y0, y1, y2, y3, y4, y5, y6⟩ := u
  try dsimp only [putW, List.set, Option.toList, List.cons_append, List.nil_append]
  try dsimp only at hq
  obtain ⟨e1, e2, e3, e4⟩ := hq
  rw [e1]
  exact k (gap, nb, BX, BY, nt, T, y0, y1, dn, DF, wn, WX, WY, y2, y3, y4, y5, y6, ln, lo, to, bo, ls, bt, bb, ra, wc, od, pl, wo, li, si, le, ri, fi, wi, fn, sl, ce, mo, TK, TP) ⟨rfl, hB, ⟨hty, hnt0, hTT⟩, e2, e4, e3, rfl, hg⟩
set_option maxRecDepth 100000 in
set_option maxHeartbeats 4000000 in
theorem P_X7_setGap (X : Cx p R s m args meth c cc nL own Ts A D kI kC) {index : Nat} {zA : Int} (hzA : IR zA)  (hG : GoodIn Ts (wsV own index RX7 yX7_setGap wsX7_setGap)) (hR : RF R { frames := 1, cells := 0, slots := 0, locals := 22 } 3 cells slots) (hcat : (st.map fun v => v.category).sum ≤ 8) (hdg : decode cc pc = .ok (.invokevirtual index, 3))
    (k : PP p l e R s m args below meth c nL A D Q kI kC pa pg pw cells slots (pc + 3) lv (.int (iI ((if inR zA 0 500 = false then -2 else σ.2.2.2))) :: st) (σ.1, σ.2.1, σ.2.2.1, (if inR zA 0 500 = false then σ.2.2.2 else zA))) : PP p l e R s m args below meth c nL A D Q kI kC pa pg pw cells slots pc lv (.int (iI zA) :: .ref (pa 0) :: st) σ := by
  intro θ hθ
  obtain ⟨gap, nb, BX, BY, nt, T, n, F, dn, DF, wn, WX, WY, p, f, ha, N, HS, ln, lo, to, bo, ls, bt, bb, ra, wc, od, pl, wo, li, si, le, ri, fi, wi, fn, sl, ce, mo, TK, TP⟩ := θ
  obtain ⟨⟨S0, past, fut⟩, B0, X0, gp⟩ := σ
  obtain ⟨hB1, hB, ⟨hty, hnt0, hTT⟩, hs0, h3, hH, hgp, hg⟩ := hθ
  dsimp only at hB1 hB hty hnt0 hTT hs0 h3 hH hgp hg k
  subst hB1 hs0 hgp
  have hn16 : n ≤ 16 := by have := h3.1.1; rwa [shC_len] at this
  have hS : OkS (shC n F) := h3.1
  have hnt : nt ≤ 100 := by omega
  have hT : ∀ i, i < nt → 0 ≤ T i ∧ T i < 65536 := fun i hi => by have := hTT i (by omega); omega
  dsimp only [thW]
  dsimp only [padO, shW, trW, txW, hiW, liW, woW, taW, List.cons_append, List.nil_append]
  refine VL_callV (rest := st) (q0 := 0) X (c_X7_setGap l D kI kC pa pg pw gap hg zA hzA) hG rfl kmX7_setGap hR ⟨rfl, rfl⟩ rfl rfl hcat [0] rfl rfl (fun _ => rfl) rfl rfl hdg (kI_of (fun r u hq => ?_))
  obtain ⟨y0, rfl⟩ : ∃ z, z = u := ⟨_, rfl⟩
  try dsimp only [putW, List.set, Option.toList, List.cons_append, List.nil_append]
  try dsimp only at hq
  obtain ⟨e1, e2⟩ := hq
  rw [e1]
  refine k (y0, nb, BX, BY, nt, T, n, F, dn, DF, wn, WX, WY, p, f, ha, N, HS, ln, lo, to, bo, ls, bt, bb, ra, wc, od, pl, wo, li, si, le, ri, fi, wi, fn, sl, ce, mo, TK, TP) ⟨rfl, hB, ⟨hty, hnt0, hTT⟩, rfl, h3, hH, e2, ?_⟩
  (try dsimp only)
  split
  · exact hg
  · rename_i q
    have q2 : inR zA 0 500 = true := by simpa using q
    exact of_decide_eq_true q2
end PCALLS
