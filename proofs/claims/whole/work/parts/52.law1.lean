/-! the law: what holds between the calls -/
section LAW1

def LInv (nb : Nat) (BX BY : Nat → Int) (nt : Nat) (T : Nat → Int) (n : Nat) (F : Nat → Int) (p f ha : Nat) (N HS : Nat → Int) (gap gp : Int) (ke un bu ty : Nat) (G H A MX MY TM : Nat → Int) (s : St3) : Prop :=
  OkB (ptsOf nb BX BY) ∧ ptsOf bu MX MY = ptsOf nb BX BY ∧ (ty = nt ∧ nt ≤ 100 ∧ ∀ i, i < nt → TM i = T i ∧ 0 ≤ T i ∧ T i < 65536) ∧ shC n F = s.1 ∧ Ok3 s ∧ HR s p f ha N HS ∧ NowR G s.1 ∧ RH s ke un H A ∧ gp = gap ∧ 0 ≤ gap ∧ gap ≤ 500
theorem prs_congr {T U : Nat → Int} : ∀ (f i : Nat) (K : List Pt) (c : Nat) (x : Int) (b : Bool) (num : Int) (dig : Nat), (∀ j, i ≤ j → j < i + f → T j = U j) → prs T f i K c x b num dig = prs U f i K c x b num dig
  | 0, _, _, _, _, _, _, _, _ => rfl
  | f + 1, i, K, c, x, b, num, dig, h => by
    have h0 := h i (Nat.le_refl i) (by omega)
    have hn : ∀ j, i + 1 ≤ j → j < i + 1 + f → T j = U j := fun j h1 h2 => h j (by omega) (by omega)
    rw [prs_s, prs_s, h0, prs_congr f (i + 1) _ _ _ _ _ _ hn, prs_congr f (i + 1) _ _ _ _ _ _ hn, prs_congr f (i + 1) _ _ _ _ _ _ hn]
theorem countR_one {S : List Stk} {gap nb p f what r r2 : Int} (h : countR S gap nb p f what r) (h2 : countR S gap nb p f what r2) : r = r2 := by
  unfold countR at h h2
  repeat' split at h
  all_goals first | (simp_all; done) | skip
  all_goals (simp_all only [if_true, if_false, if_pos, if_neg]; exact mostR_one h h2)
theorem V_eqT {p : Program} {l : Launch} {e : Env} {R : Room} {s : State} {m : MethodId} {args : Array Value} {below : List Frame} {meth : Method} {c : Code} {cc : ByteArray} {nL : Nat} {own : String} {Ts : List Cond} {A : Nat → Prop} {D : va_G} {kI kC : ClassId} {Q : State → Prop} {cells slots pc : Nat} {lv : List (Option Value)} {st : List Value} {ws : va_W}
    (X : Cx p R s m args meth c cc nL own Ts A D kI kC) {x y off : Int} (tgt : Nat) (hdg : decode cc pc = .ok (.if_icmp .eq off, 3)) (ht : (pc : Int) + off = (tgt : Int)) (hxy : x = y) (k : VV p l e R s m args below meth c nL A D Q cells slots tgt lv st ws) : VV p l e R s m args below meth c nL A D Q cells slots pc lv (.int (iI y) :: .int (iI x) :: st) ws := by
  intro H locs ls hP hD hS hl
  subst hxy
  exact lv_icmp_eq X.1 X.2.1 hdg ht (fun _ => k H locs ls hP hD hS hl) (fun h => absurd rfl h)

set_option maxRecDepth 100000 in
set_option maxHeartbeats 4000000 in
theorem law_c0 (l : Launch) {pV : Program} {eV : Env} {sV : State} {mV : MethodId} {bV : List Frame} {tV : Method} {cV : Code} {AV : Nat → Prop} {D : va_G} {kI kC : ClassId} {Q : State → Prop} {sc L : Nat} {xs : Nat → Int32} (XC : Cx pV room_1 sV mV #[.ref sc] tV cV cL_law 4 RL wsL_law AV D kI kC) (hXs : va_X sc L xs sV sV.heap) (hbl : sc < sV.heap.size) (hbA : ¬ AV sc) (hL : L ≤ 2048) (a g w b : Nat → Nat) (i : Nat) (hi : i + 4 ≤ L) (gap : Int) (nb : Nat) (BX : (Nat → Int)) (BY : (Nat → Int)) (nt : Nat) (T : (Nat → Int)) (n : Nat) (F : (Nat → Int)) (dn : Int) (DF : (Nat → Int)) (wn : Int) (WX : (Nat → Int)) (WY : (Nat → Int)) (p : Nat) (f : Nat) (ha : Nat) (N : (Nat → Int)) (HS : (Nat → Int)) (ln : Int) (lo : (Nat → Int)) (to : (Nat → Int)) (bo : (Nat → Int)) (ls : (Nat → Int)) (bt : (Nat → Int)) (bb : (Nat → Int)) (ra : (Nat → Int)) (wc : Int) (od : (Nat → Int)) (pl : (Nat → Int)) (wo : (Nat → Int)) (li : (Nat → Int)) (si : (Nat → Int)) (le : (Nat → Int)) (ri : (Nat → Int)) (fi : (Nat → Int)) (wi : (Nat → Int)) (fn : (Nat → Int)) (sl : (Nat → Int)) (ce : Int) (mo : Int) (TK : (Nat → Int)) (TP : (Nat → Int)) (gp : Int) (ke : Nat) (un : Nat) (bu : Nat) (ty : Nat) (pc : Int) (gd : Bool) (rd : Int) (po : Int) (lm : Int) (wd : Int) (G : (Nat → Int)) (H : (Nat → Int)) (A : (Nat → Int)) (MX : (Nat → Int)) (MY : (Nat → Int)) (TM : (Nat → Int)) (RX : (Nat → Int)) (RY : (Nat → Int)) (X : (Nat → Int)) (PX : (Nat → Int)) (PY : (Nat → Int)) (QX : (Nat → Int)) (QY : (Nat → Int)) (TO : (Nat → Int)) (BO : (Nat → Int)) (BE : (Nat → Int)) (RK : (Nat → Int)) (WO : (Nat → Int)) (OD : (Nat → Int)) (IN : (Nat → Int)) (s : St3) (hI : LInv nb BX BY nt T n F p f ha N HS gap gp ke un bu ty G H A MX MY TM s) (kk : ∀ (gap : Int) (nb : Nat) (BX : (Nat → Int)) (BY : (Nat → Int)) (nt : Nat) (T : (Nat → Int)) (n : Nat) (F : (Nat → Int)) (dn : Int) (DF : (Nat → Int)) (wn : Int) (WX : (Nat → Int)) (WY : (Nat → Int)) (p : Nat) (f : Nat) (ha : Nat) (N : (Nat → Int)) (HS : (Nat → Int)) (ln : Int) (lo : (Nat → Int)) (to : (Nat → Int)) (bo : (Nat → Int)) (ls : (Nat → Int)) (bt : (Nat → Int)) (bb : (Nat → Int)) (ra : (Nat → Int)) (wc : Int) (od : (Nat → Int)) (pl : (Nat → Int)) (wo : (Nat → Int)) (li : (Nat → Int)) (si : (Nat → Int)) (le : (Nat → Int)) (ri : (Nat → Int)) (fi : (Nat → Int)) (wi : (Nat → Int)) (fn : (Nat → Int)) (sl : (Nat → Int)) (ce : Int) (mo : Int) (TK : (Nat → Int)) (TP : (Nat → Int)) (gp : Int) (ke : Nat) (un : Nat) (bu : Nat) (ty : Nat) (pc : Int) (gd : Bool) (rd : Int) (po : Int) (lm : Int) (wd : Int) (G : (Nat → Int)) (H : (Nat → Int)) (A : (Nat → Int)) (MX : (Nat → Int)) (MY : (Nat → Int)) (TM : (Nat → Int)) (RX : (Nat → Int)) (RY : (Nat → Int)) (X : (Nat → Int)) (PX : (Nat → Int)) (PY : (Nat → Int)) (QX : (Nat → Int)) (QY : (Nat → Int)) (TO : (Nat → Int)) (BO : (Nat → Int)) (BE : (Nat → Int)) (RK : (Nat → Int)) (WO : (Nat → Int)) (OD : (Nat → Int)) (IN : (Nat → Int)) (s : St3), LInv nb BX BY nt T n F p f ha N HS gap gp ke un bu ty G H A MX MY TM s → VV pV l eV room_1 sV mV #[.ref sc] bV tV cV 4 AV D Q 60 30600 845 [some (.ref sc), some (.ref (a 0)), some (.ref (b 0)), some (.int (iI (i : Int)))] [] ((padO a g w gap :: (trW kI (a 1) (a 2) (a 3) (nb : Int) BX BY ++ (txW kC (a 4) (a 5) (nt : Int) T ++ (shW kI (a 6) (a 7) (n : Int) F ++ (shW kI (a 8) (a 9) dn DF ++ (trW kI (a 10) (a 11) (a 12) wn WX WY ++ (hiW kI (a 13) (a 14) (a 15) (p : Int) (f : Int) (ha : Int) N HS ++ (liW kI g ln lo to bo ls bt bb ra ++ (woW kI w wc od pl wo li si le ri fi wi fn sl ++ (taW kI (a 36) (a 37) (a 38) ce mo TK TP)))))))))) ++ (mdO b gp (ke : Int) (un : Int) (bu : Int) (ty : Int) pc gd rd po lm wd :: [(b 1, IA kI 801 G), (b 2, IA kI 4806 H), (b 3, IA kI 4806 A), (b 4, IA kI 24 MX), (b 5, IA kI 24 MY), (b 6, IA kC 100 TM), (b 7, IA kI 24 RX), (b 8, IA kI 24 RY), (b 9, IA kI 801 X), (b 10, IA kI 24 PX), (b 11, IA kI 24 PY), (b 12, IA kI 24 QX), (b 13, IA kI 24 QY), (b 14, IA kI 16 TO), (b 15, IA kI 16 BO), (b 16, IA kI 16 BE), (b 17, IA kI 16 RK), (b 18, IA kI 16 WO), (b 19, IA kI 16 OD), (b 20, IA kI 10201 IN)]))) : VV pV l eV room_1 sV mV #[.ref sc] bV tV cV 4 AV D Q 60 30600 148 [some (.ref sc), some (.ref (a 0)), some (.ref (b 0)), some (.int (iI (i : Int)))] [] ((padO a g w gap :: (trW kI (a 1) (a 2) (a 3) (nb : Int) BX BY ++ (txW kC (a 4) (a 5) (nt : Int) T ++ (shW kI (a 6) (a 7) (n : Int) F ++ (shW kI (a 8) (a 9) dn DF ++ (trW kI (a 10) (a 11) (a 12) wn WX WY ++ (hiW kI (a 13) (a 14) (a 15) (p : Int) (f : Int) (ha : Int) N HS ++ (liW kI g ln lo to bo ls bt bb ra ++ (woW kI w wc od pl wo li si le ri fi wi fn sl ++ (taW kI (a 36) (a 37) (a 38) ce mo TK TP)))))))))) ++ (mdO b gp (ke : Int) (un : Int) (bu : Int) (ty : Int) pc gd rd po lm wd :: [(b 1, IA kI 801 G), (b 2, IA kI 4806 H), (b 3, IA kI 4806 A), (b 4, IA kI 24 MX), (b 5, IA kI 24 MY), (b 6, IA kC 100 TM), (b 7, IA kI 24 RX), (b 8, IA kI 24 RY), (b 9, IA kI 801 X), (b 10, IA kI 24 PX), (b 11, IA kI 24 PY), (b 12, IA kI 24 QX), (b 13, IA kI 24 QY), (b 14, IA kI 16 TO), (b 15, IA kI 16 BO), (b 16, IA kI 16 BE), (b 17, IA kI 16 RK), (b 18, IA kI 16 WO), (b 19, IA kI 16 OD), (b 20, IA kI 10201 IN)])) := by
  obtain ⟨S0, past, fut⟩ := s
  obtain ⟨hB, hBm, ⟨hty, hnt, hTT⟩, hs0, h3, hH, hN, hR, hgp, hg⟩ := hI
  dsimp only at hs0 hN
  subst hs0
  have hL2 : L < 2147483648 := by omega
  have hn16 : n ≤ 16 := by have := h3.1.1; rwa [shC_len] at this
  have hS : OkS (shC n F) := h3.1
  have hbn : bu = nb := by have := congrArg List.length hBm; rwa [ptsOf_len, ptsOf_len] at this
  have hBk : OkB (ptsOf bu MX MY) := by rw [hBm]; exact hB
  have hT : ∀ i, i < nt → 0 ≤ T i ∧ T i < 65536 := fun i hi => (hTT i hi).2
  have hTm : ∀ i, i < ty → 0 ≤ TM i ∧ TM i < 65536 := fun i hi => by rw [(hTT i (by omega)).1]; exact hT i (by omega)
  have hgm : 0 ≤ gp ∧ gp ≤ 500 := by omega
  dsimp only [putW, List.set, Option.toList, List.cons_append, List.nil_append, padO, mdO, shW, trW, txW, hiW, liW, woW, taW] at kk ⊢
  refine V_aload_n XC 1 rfl dL_law_148 rfl ?_
  refine V_aload_n XC 0 rfl dL_law_149 rfl ?_
  refine V_iload_n XC 3 rfl dL_law_150 rfl ?_
  refine V_iconst XC dL_law_151 ?_
  refine V_iadd XC dL_law_152 ?_
  refine V_sld XC hXs hbl hbA hL2 (i + 1) (by omega) (by omega) dL_law_153 ?_
  refine V_aload_n XC 0 rfl dL_law_154 rfl ?_
  refine V_iload_n XC 3 rfl dL_law_155 rfl ?_
  refine V_iconst XC dL_law_156 ?_
  refine V_iadd XC dL_law_157 ?_
  refine V_sld XC hXs hbl hbA hL2 (i + 2) (by omega) (by omega) dL_law_158 ?_
  refine V_callV (rest := _) (q0 := 0) XC (c_X7_put l D kI kC _ _ _ _ _ _ _  hB _ _ (IR_of _) (IR_of _)) gL_law_X7_put rfl kmX7_put ⟨⟨Nat.le_of_ble_eq_true rfl, Nat.le_of_ble_eq_true rfl⟩, Nat.le_of_ble_eq_true rfl, Nat.le_of_ble_eq_true rfl⟩ ⟨rfl, rfl⟩ rfl rfl (Nat.le_of_ble_eq_true rfl) [0, 1, 2, 3] rfl rfl (fun _ => rfl) rfl rfl dL_law_159 (kI_of (fun r159 u159 hq159 => ?_))
  obtain ⟨n159, X159, Y159⟩ := u159
  dsimp only [putW, List.set, Option.toList, List.cons_append, List.nil_append, padO, mdO, shW, trW, txW, hiW, liW, woW, taW]
  try dsimp only at hq159
  obtain ⟨hr159, hp159, ho159⟩ := hq159
  refine V_aload_n XC 2 rfl dL_law_162 rfl ?_
  refine V_aload_n XC 0 rfl dL_law_163 rfl ?_
  refine V_iload_n XC 3 rfl dL_law_164 rfl ?_
  refine V_iconst XC dL_law_165 ?_
  refine V_iadd XC dL_law_166 ?_
  refine V_sld XC hXs hbl hbA hL2 (i + 1) (by omega) (by omega) dL_law_167 ?_
  refine V_aload_n XC 0 rfl dL_law_168 rfl ?_
  refine V_iload_n XC 3 rfl dL_law_169 rfl ?_
  refine V_iconst XC dL_law_170 ?_
  refine V_iadd XC dL_law_171 ?_
  refine V_sld XC hXs hbl hbA hL2 (i + 2) (by omega) (by omega) dL_law_172 ?_
  refine V_callV (rest := _) (q0 := 39) XC (c_X8_put l D kI kC _ _ _ _ _ _ _ _ _ _ _ _ _ _  hBk _ _ (IR_of _) (IR_of _)) gL_law_X8_put rfl kmX8_put ⟨⟨Nat.le_of_ble_eq_true rfl, Nat.le_of_ble_eq_true rfl⟩, Nat.le_of_ble_eq_true rfl, Nat.le_of_ble_eq_true rfl⟩ ⟨rfl, rfl⟩ rfl rfl (Nat.le_of_ble_eq_true rfl) [39, 43, 44] rfl rfl (fun _ => rfl) rfl rfl dL_law_173 (kI_of (fun r173 u173 hq173 => ?_))
  dsimp only [putW, List.set, Option.toList, List.cons_append, List.nil_append, padO, mdO, shW, trW, txW, hiW, liW, woW, taW]
  try dsimp only at hq173
  have h173 := hq173
  refine V_eqT XC 845 dL_law_176 (by decide) (by rw [hr159, h173.1, hBm]) ?_
  refine kk _ _ _ _ _ _ _ _ _ _ _ _ _ _ _ _ _ _ _ _ _ _ _ _ _ _ _ _ _ _ _ _ _ _ _ _ _ _ _ _ _ _ _ _ _ _ _ _ _ _ _ _ _ _ _ _ _ _ _ _ _ _ _ _ _ _ _ _ _ _ _ _ _ (shC n F, past, fut) ?_
  exact ⟨ho159, by rw [h173.2.1, hp159, hBm], ⟨hty, hnt, hTT⟩, rfl, h3, hH, hN, hR, hgp, hg⟩

set_option maxRecDepth 100000 in
set_option maxHeartbeats 4000000 in
theorem law_c1 (l : Launch) {pV : Program} {eV : Env} {sV : State} {mV : MethodId} {bV : List Frame} {tV : Method} {cV : Code} {AV : Nat → Prop} {D : va_G} {kI kC : ClassId} {Q : State → Prop} {sc L : Nat} {xs : Nat → Int32} (XC : Cx pV room_1 sV mV #[.ref sc] tV cV cL_law 4 RL wsL_law AV D kI kC) (hXs : va_X sc L xs sV sV.heap) (hbl : sc < sV.heap.size) (hbA : ¬ AV sc) (hL : L ≤ 2048) (a g w b : Nat → Nat) (i : Nat) (hi : i + 4 ≤ L) (gap : Int) (nb : Nat) (BX : (Nat → Int)) (BY : (Nat → Int)) (nt : Nat) (T : (Nat → Int)) (n : Nat) (F : (Nat → Int)) (dn : Int) (DF : (Nat → Int)) (wn : Int) (WX : (Nat → Int)) (WY : (Nat → Int)) (p : Nat) (f : Nat) (ha : Nat) (N : (Nat → Int)) (HS : (Nat → Int)) (ln : Int) (lo : (Nat → Int)) (to : (Nat → Int)) (bo : (Nat → Int)) (ls : (Nat → Int)) (bt : (Nat → Int)) (bb : (Nat → Int)) (ra : (Nat → Int)) (wc : Int) (od : (Nat → Int)) (pl : (Nat → Int)) (wo : (Nat → Int)) (li : (Nat → Int)) (si : (Nat → Int)) (le : (Nat → Int)) (ri : (Nat → Int)) (fi : (Nat → Int)) (wi : (Nat → Int)) (fn : (Nat → Int)) (sl : (Nat → Int)) (ce : Int) (mo : Int) (TK : (Nat → Int)) (TP : (Nat → Int)) (gp : Int) (ke : Nat) (un : Nat) (bu : Nat) (ty : Nat) (pc : Int) (gd : Bool) (rd : Int) (po : Int) (lm : Int) (wd : Int) (G : (Nat → Int)) (H : (Nat → Int)) (A : (Nat → Int)) (MX : (Nat → Int)) (MY : (Nat → Int)) (TM : (Nat → Int)) (RX : (Nat → Int)) (RY : (Nat → Int)) (X : (Nat → Int)) (PX : (Nat → Int)) (PY : (Nat → Int)) (QX : (Nat → Int)) (QY : (Nat → Int)) (TO : (Nat → Int)) (BO : (Nat → Int)) (BE : (Nat → Int)) (RK : (Nat → Int)) (WO : (Nat → Int)) (OD : (Nat → Int)) (IN : (Nat → Int)) (s : St3) (hI : LInv nb BX BY nt T n F p f ha N HS gap gp ke un bu ty G H A MX MY TM s) (kk : ∀ (gap : Int) (nb : Nat) (BX : (Nat → Int)) (BY : (Nat → Int)) (nt : Nat) (T : (Nat → Int)) (n : Nat) (F : (Nat → Int)) (dn : Int) (DF : (Nat → Int)) (wn : Int) (WX : (Nat → Int)) (WY : (Nat → Int)) (p : Nat) (f : Nat) (ha : Nat) (N : (Nat → Int)) (HS : (Nat → Int)) (ln : Int) (lo : (Nat → Int)) (to : (Nat → Int)) (bo : (Nat → Int)) (ls : (Nat → Int)) (bt : (Nat → Int)) (bb : (Nat → Int)) (ra : (Nat → Int)) (wc : Int) (od : (Nat → Int)) (pl : (Nat → Int)) (wo : (Nat → Int)) (li : (Nat → Int)) (si : (Nat → Int)) (le : (Nat → Int)) (ri : (Nat → Int)) (fi : (Nat → Int)) (wi : (Nat → Int)) (fn : (Nat → Int)) (sl : (Nat → Int)) (ce : Int) (mo : Int) (TK : (Nat → Int)) (TP : (Nat → Int)) (gp : Int) (ke : Nat) (un : Nat) (bu : Nat) (ty : Nat) (pc : Int) (gd : Bool) (rd : Int) (po : Int) (lm : Int) (wd : Int) (G : (Nat → Int)) (H : (Nat → Int)) (A : (Nat → Int)) (MX : (Nat → Int)) (MY : (Nat → Int)) (TM : (Nat → Int)) (RX : (Nat → Int)) (RY : (Nat → Int)) (X : (Nat → Int)) (PX : (Nat → Int)) (PY : (Nat → Int)) (QX : (Nat → Int)) (QY : (Nat → Int)) (TO : (Nat → Int)) (BO : (Nat → Int)) (BE : (Nat → Int)) (RK : (Nat → Int)) (WO : (Nat → Int)) (OD : (Nat → Int)) (IN : (Nat → Int)) (s : St3), LInv nb BX BY nt T n F p f ha N HS gap gp ke un bu ty G H A MX MY TM s → VV pV l eV room_1 sV mV #[.ref sc] bV tV cV 4 AV D Q 60 30600 845 [some (.ref sc), some (.ref (a 0)), some (.ref (b 0)), some (.int (iI (i : Int)))] [] ((padO a g w gap :: (trW kI (a 1) (a 2) (a 3) (nb : Int) BX BY ++ (txW kC (a 4) (a 5) (nt : Int) T ++ (shW kI (a 6) (a 7) (n : Int) F ++ (shW kI (a 8) (a 9) dn DF ++ (trW kI (a 10) (a 11) (a 12) wn WX WY ++ (hiW kI (a 13) (a 14) (a 15) (p : Int) (f : Int) (ha : Int) N HS ++ (liW kI g ln lo to bo ls bt bb ra ++ (woW kI w wc od pl wo li si le ri fi wi fn sl ++ (taW kI (a 36) (a 37) (a 38) ce mo TK TP)))))))))) ++ (mdO b gp (ke : Int) (un : Int) (bu : Int) (ty : Int) pc gd rd po lm wd :: [(b 1, IA kI 801 G), (b 2, IA kI 4806 H), (b 3, IA kI 4806 A), (b 4, IA kI 24 MX), (b 5, IA kI 24 MY), (b 6, IA kC 100 TM), (b 7, IA kI 24 RX), (b 8, IA kI 24 RY), (b 9, IA kI 801 X), (b 10, IA kI 24 PX), (b 11, IA kI 24 PY), (b 12, IA kI 24 QX), (b 13, IA kI 24 QY), (b 14, IA kI 16 TO), (b 15, IA kI 16 BO), (b 16, IA kI 16 BE), (b 17, IA kI 16 RK), (b 18, IA kI 16 WO), (b 19, IA kI 16 OD), (b 20, IA kI 10201 IN)]))) : VV pV l eV room_1 sV mV #[.ref sc] bV tV cV 4 AV D Q 60 30600 181 [some (.ref sc), some (.ref (a 0)), some (.ref (b 0)), some (.int (iI (i : Int)))] [] ((padO a g w gap :: (trW kI (a 1) (a 2) (a 3) (nb : Int) BX BY ++ (txW kC (a 4) (a 5) (nt : Int) T ++ (shW kI (a 6) (a 7) (n : Int) F ++ (shW kI (a 8) (a 9) dn DF ++ (trW kI (a 10) (a 11) (a 12) wn WX WY ++ (hiW kI (a 13) (a 14) (a 15) (p : Int) (f : Int) (ha : Int) N HS ++ (liW kI g ln lo to bo ls bt bb ra ++ (woW kI w wc od pl wo li si le ri fi wi fn sl ++ (taW kI (a 36) (a 37) (a 38) ce mo TK TP)))))))))) ++ (mdO b gp (ke : Int) (un : Int) (bu : Int) (ty : Int) pc gd rd po lm wd :: [(b 1, IA kI 801 G), (b 2, IA kI 4806 H), (b 3, IA kI 4806 A), (b 4, IA kI 24 MX), (b 5, IA kI 24 MY), (b 6, IA kC 100 TM), (b 7, IA kI 24 RX), (b 8, IA kI 24 RY), (b 9, IA kI 801 X), (b 10, IA kI 24 PX), (b 11, IA kI 24 PY), (b 12, IA kI 24 QX), (b 13, IA kI 24 QY), (b 14, IA kI 16 TO), (b 15, IA kI 16 BO), (b 16, IA kI 16 BE), (b 17, IA kI 16 RK), (b 18, IA kI 16 WO), (b 19, IA kI 16 OD), (b 20, IA kI 10201 IN)])) := by
  obtain ⟨S0, past, fut⟩ := s
  obtain ⟨hB, hBm, ⟨hty, hnt, hTT⟩, hs0, h3, hH, hN, hR, hgp, hg⟩ := hI
  dsimp only at hs0 hN
  subst hs0
  have hL2 : L < 2147483648 := by omega
  have hn16 : n ≤ 16 := by have := h3.1.1; rwa [shC_len] at this
  have hS : OkS (shC n F) := h3.1
  have hbn : bu = nb := by have := congrArg List.length hBm; rwa [ptsOf_len, ptsOf_len] at this
  have hBk : OkB (ptsOf bu MX MY) := by rw [hBm]; exact hB
  have hT : ∀ i, i < nt → 0 ≤ T i ∧ T i < 65536 := fun i hi => (hTT i hi).2
  have hTm : ∀ i, i < ty → 0 ≤ TM i ∧ TM i < 65536 := fun i hi => by rw [(hTT i (by omega)).1]; exact hT i (by omega)
  have hgm : 0 ≤ gp ∧ gp ≤ 500 := by omega
  dsimp only [putW, List.set, Option.toList, List.cons_append, List.nil_append, padO, mdO, shW, trW, txW, hiW, liW, woW, taW] at kk ⊢
  refine V_aload_n XC 1 rfl dL_law_181 rfl ?_
  refine V_callV (rest := _) (q0 := 0) XC (c_X7_clearPoints l D kI kC _ _ _ _ _ _ _ ) gL_law_X7_clearPoints rfl kmX7_clearPoints ⟨⟨Nat.le_of_ble_eq_true rfl, Nat.le_of_ble_eq_true rfl⟩, Nat.le_of_ble_eq_true rfl, Nat.le_of_ble_eq_true rfl⟩ ⟨rfl, rfl⟩ rfl rfl (Nat.le_of_ble_eq_true rfl) [0, 1, 2, 3] rfl rfl (fun _ => rfl) rfl rfl dL_law_182 (kI_of (fun r182 u182 hq182 => ?_))
  dsimp only [putW, List.set, Option.toList, List.cons_append, List.nil_append, padO, mdO, shW, trW, txW, hiW, liW, woW, taW]
  try dsimp only at hq182
  refine V_aload_n XC 2 rfl dL_law_185 rfl ?_
  refine V_callV (rest := _) (q0 := 39) XC (c_X8_clearPoints l D kI kC _ _ _ _ _ _ _ _ _ _ _ _ ) gL_law_X8_clearPoints rfl kmX8_clearPoints ⟨⟨Nat.le_of_ble_eq_true rfl, Nat.le_of_ble_eq_true rfl⟩, Nat.le_of_ble_eq_true rfl, Nat.le_of_ble_eq_true rfl⟩ ⟨rfl, rfl⟩ rfl rfl (Nat.le_of_ble_eq_true rfl) [39] rfl rfl (fun _ => rfl) rfl rfl dL_law_186 (kI_of (fun r186 u186 hq186 => ?_))
  dsimp only [putW, List.set, Option.toList, List.cons_append, List.nil_append, padO, mdO, shW, trW, txW, hiW, liW, woW, taW]
  try dsimp only at hq186
  refine V_eqT XC 845 dL_law_189 (by decide) (by (try dsimp only at hq182 hq186); omega) ?_
  refine kk _ 0 _ _ _ _ _ _ _ _ _ _ _ _ _ _ _ _ _ _ _ _ _ _ _ _ _ _ _ _ _ _ _ _ _ _ _ _ _ _ _ _ _ _ _ 0 _ _ _ _ _ _ _ _ _ _ _ _ _ _ _ _ _ _ _ _ _ _ _ _ _ _ _ (shC n F, past, fut) ?_
  exact ⟨OkB_nil, rfl, ⟨hty, hnt, hTT⟩, rfl, h3, hH, hN, hR, hgp, hg⟩

set_option maxRecDepth 100000 in
set_option maxHeartbeats 4000000 in
theorem law_c2 (l : Launch) {pV : Program} {eV : Env} {sV : State} {mV : MethodId} {bV : List Frame} {tV : Method} {cV : Code} {AV : Nat → Prop} {D : va_G} {kI kC : ClassId} {Q : State → Prop} {sc L : Nat} {xs : Nat → Int32} (XC : Cx pV room_1 sV mV #[.ref sc] tV cV cL_law 4 RL wsL_law AV D kI kC) (hXs : va_X sc L xs sV sV.heap) (hbl : sc < sV.heap.size) (hbA : ¬ AV sc) (hL : L ≤ 2048) (a g w b : Nat → Nat) (i : Nat) (hi : i + 4 ≤ L) (gap : Int) (nb : Nat) (BX : (Nat → Int)) (BY : (Nat → Int)) (nt : Nat) (T : (Nat → Int)) (n : Nat) (F : (Nat → Int)) (dn : Int) (DF : (Nat → Int)) (wn : Int) (WX : (Nat → Int)) (WY : (Nat → Int)) (p : Nat) (f : Nat) (ha : Nat) (N : (Nat → Int)) (HS : (Nat → Int)) (ln : Int) (lo : (Nat → Int)) (to : (Nat → Int)) (bo : (Nat → Int)) (ls : (Nat → Int)) (bt : (Nat → Int)) (bb : (Nat → Int)) (ra : (Nat → Int)) (wc : Int) (od : (Nat → Int)) (pl : (Nat → Int)) (wo : (Nat → Int)) (li : (Nat → Int)) (si : (Nat → Int)) (le : (Nat → Int)) (ri : (Nat → Int)) (fi : (Nat → Int)) (wi : (Nat → Int)) (fn : (Nat → Int)) (sl : (Nat → Int)) (ce : Int) (mo : Int) (TK : (Nat → Int)) (TP : (Nat → Int)) (gp : Int) (ke : Nat) (un : Nat) (bu : Nat) (ty : Nat) (pc : Int) (gd : Bool) (rd : Int) (po : Int) (lm : Int) (wd : Int) (G : (Nat → Int)) (H : (Nat → Int)) (A : (Nat → Int)) (MX : (Nat → Int)) (MY : (Nat → Int)) (TM : (Nat → Int)) (RX : (Nat → Int)) (RY : (Nat → Int)) (X : (Nat → Int)) (PX : (Nat → Int)) (PY : (Nat → Int)) (QX : (Nat → Int)) (QY : (Nat → Int)) (TO : (Nat → Int)) (BO : (Nat → Int)) (BE : (Nat → Int)) (RK : (Nat → Int)) (WO : (Nat → Int)) (OD : (Nat → Int)) (IN : (Nat → Int)) (s : St3) (hI : LInv nb BX BY nt T n F p f ha N HS gap gp ke un bu ty G H A MX MY TM s) (kk : ∀ (gap : Int) (nb : Nat) (BX : (Nat → Int)) (BY : (Nat → Int)) (nt : Nat) (T : (Nat → Int)) (n : Nat) (F : (Nat → Int)) (dn : Int) (DF : (Nat → Int)) (wn : Int) (WX : (Nat → Int)) (WY : (Nat → Int)) (p : Nat) (f : Nat) (ha : Nat) (N : (Nat → Int)) (HS : (Nat → Int)) (ln : Int) (lo : (Nat → Int)) (to : (Nat → Int)) (bo : (Nat → Int)) (ls : (Nat → Int)) (bt : (Nat → Int)) (bb : (Nat → Int)) (ra : (Nat → Int)) (wc : Int) (od : (Nat → Int)) (pl : (Nat → Int)) (wo : (Nat → Int)) (li : (Nat → Int)) (si : (Nat → Int)) (le : (Nat → Int)) (ri : (Nat → Int)) (fi : (Nat → Int)) (wi : (Nat → Int)) (fn : (Nat → Int)) (sl : (Nat → Int)) (ce : Int) (mo : Int) (TK : (Nat → Int)) (TP : (Nat → Int)) (gp : Int) (ke : Nat) (un : Nat) (bu : Nat) (ty : Nat) (pc : Int) (gd : Bool) (rd : Int) (po : Int) (lm : Int) (wd : Int) (G : (Nat → Int)) (H : (Nat → Int)) (A : (Nat → Int)) (MX : (Nat → Int)) (MY : (Nat → Int)) (TM : (Nat → Int)) (RX : (Nat → Int)) (RY : (Nat → Int)) (X : (Nat → Int)) (PX : (Nat → Int)) (PY : (Nat → Int)) (QX : (Nat → Int)) (QY : (Nat → Int)) (TO : (Nat → Int)) (BO : (Nat → Int)) (BE : (Nat → Int)) (RK : (Nat → Int)) (WO : (Nat → Int)) (OD : (Nat → Int)) (IN : (Nat → Int)) (s : St3), LInv nb BX BY nt T n F p f ha N HS gap gp ke un bu ty G H A MX MY TM s → VV pV l eV room_1 sV mV #[.ref sc] bV tV cV 4 AV D Q 60 30600 845 [some (.ref sc), some (.ref (a 0)), some (.ref (b 0)), some (.int (iI (i : Int)))] [] ((padO a g w gap :: (trW kI (a 1) (a 2) (a 3) (nb : Int) BX BY ++ (txW kC (a 4) (a 5) (nt : Int) T ++ (shW kI (a 6) (a 7) (n : Int) F ++ (shW kI (a 8) (a 9) dn DF ++ (trW kI (a 10) (a 11) (a 12) wn WX WY ++ (hiW kI (a 13) (a 14) (a 15) (p : Int) (f : Int) (ha : Int) N HS ++ (liW kI g ln lo to bo ls bt bb ra ++ (woW kI w wc od pl wo li si le ri fi wi fn sl ++ (taW kI (a 36) (a 37) (a 38) ce mo TK TP)))))))))) ++ (mdO b gp (ke : Int) (un : Int) (bu : Int) (ty : Int) pc gd rd po lm wd :: [(b 1, IA kI 801 G), (b 2, IA kI 4806 H), (b 3, IA kI 4806 A), (b 4, IA kI 24 MX), (b 5, IA kI 24 MY), (b 6, IA kC 100 TM), (b 7, IA kI 24 RX), (b 8, IA kI 24 RY), (b 9, IA kI 801 X), (b 10, IA kI 24 PX), (b 11, IA kI 24 PY), (b 12, IA kI 24 QX), (b 13, IA kI 24 QY), (b 14, IA kI 16 TO), (b 15, IA kI 16 BO), (b 16, IA kI 16 BE), (b 17, IA kI 16 RK), (b 18, IA kI 16 WO), (b 19, IA kI 16 OD), (b 20, IA kI 10201 IN)]))) : VV pV l eV room_1 sV mV #[.ref sc] bV tV cV 4 AV D Q 60 30600 194 [some (.ref sc), some (.ref (a 0)), some (.ref (b 0)), some (.int (iI (i : Int)))] [] ((padO a g w gap :: (trW kI (a 1) (a 2) (a 3) (nb : Int) BX BY ++ (txW kC (a 4) (a 5) (nt : Int) T ++ (shW kI (a 6) (a 7) (n : Int) F ++ (shW kI (a 8) (a 9) dn DF ++ (trW kI (a 10) (a 11) (a 12) wn WX WY ++ (hiW kI (a 13) (a 14) (a 15) (p : Int) (f : Int) (ha : Int) N HS ++ (liW kI g ln lo to bo ls bt bb ra ++ (woW kI w wc od pl wo li si le ri fi wi fn sl ++ (taW kI (a 36) (a 37) (a 38) ce mo TK TP)))))))))) ++ (mdO b gp (ke : Int) (un : Int) (bu : Int) (ty : Int) pc gd rd po lm wd :: [(b 1, IA kI 801 G), (b 2, IA kI 4806 H), (b 3, IA kI 4806 A), (b 4, IA kI 24 MX), (b 5, IA kI 24 MY), (b 6, IA kC 100 TM), (b 7, IA kI 24 RX), (b 8, IA kI 24 RY), (b 9, IA kI 801 X), (b 10, IA kI 24 PX), (b 11, IA kI 24 PY), (b 12, IA kI 24 QX), (b 13, IA kI 24 QY), (b 14, IA kI 16 TO), (b 15, IA kI 16 BO), (b 16, IA kI 16 BE), (b 17, IA kI 16 RK), (b 18, IA kI 16 WO), (b 19, IA kI 16 OD), (b 20, IA kI 10201 IN)])) := by
  obtain ⟨S0, past, fut⟩ := s
  obtain ⟨hB, hBm, ⟨hty, hnt, hTT⟩, hs0, h3, hH, hN, hR, hgp, hg⟩ := hI
  dsimp only at hs0 hN
  subst hs0
  have hL2 : L < 2147483648 := by omega
  have hn16 : n ≤ 16 := by have := h3.1.1; rwa [shC_len] at this
  have hS : OkS (shC n F) := h3.1
  have hbn : bu = nb := by have := congrArg List.length hBm; rwa [ptsOf_len, ptsOf_len] at this
  have hBk : OkB (ptsOf bu MX MY) := by rw [hBm]; exact hB
  have hT : ∀ i, i < nt → 0 ≤ T i ∧ T i < 65536 := fun i hi => (hTT i hi).2
  have hTm : ∀ i, i < ty → 0 ≤ TM i ∧ TM i < 65536 := fun i hi => by rw [(hTT i (by omega)).1]; exact hT i (by omega)
  have hgm : 0 ≤ gp ∧ gp ≤ 500 := by omega
  dsimp only [putW, List.set, Option.toList, List.cons_append, List.nil_append, padO, mdO, shW, trW, txW, hiW, liW, woW, taW] at kk ⊢
  refine V_aload_n XC 1 rfl dL_law_194 rfl ?_
  refine V_aload_n XC 0 rfl dL_law_195 rfl ?_
  refine V_iload_n XC 3 rfl dL_law_196 rfl ?_
  refine V_iconst XC dL_law_197 ?_
  refine V_iadd XC dL_law_198 ?_
  refine V_sld XC hXs hbl hbA hL2 (i + 1) (by omega) (by omega) dL_law_199 ?_
  refine V_i2c XC dL_law_200 (fun z200 hz200 ez200 => ?_)
  refine V_callV (rest := _) (q0 := 0) XC (c_X7_type l D kI kC _ _ _ _ _ _  hnt _ hz200) gL_law_X7_type rfl kmX7_type ⟨⟨Nat.le_of_ble_eq_true rfl, Nat.le_of_ble_eq_true rfl⟩, Nat.le_of_ble_eq_true rfl, Nat.le_of_ble_eq_true rfl⟩ ⟨rfl, rfl⟩ rfl rfl (Nat.le_of_ble_eq_true rfl) [0, 4, 5] rfl rfl (fun _ => rfl) rfl rfl dL_law_201 (kI_of (fun r201 u201 hq201 => ?_))
  obtain ⟨nt201, T201⟩ := u201
  dsimp only [putW, List.set, Option.toList, List.cons_append, List.nil_append, padO, mdO, shW, trW, txW, hiW, liW, woW, taW]
  try dsimp only at hq201
  have h201 := hq201
  refine V_aload_n XC 2 rfl dL_law_204 rfl ?_
  refine V_aload_n XC 0 rfl dL_law_205 rfl ?_
  refine V_iload_n XC 3 rfl dL_law_206 rfl ?_
  refine V_iconst XC dL_law_207 ?_
  refine V_iadd XC dL_law_208 ?_
  refine V_sld XC hXs hbl hbA hL2 (i + 1) (by omega) (by omega) dL_law_209 ?_
  refine V_i2c XC dL_law_210 (fun z210 hz210 ez210 => ?_)
  refine V_callV (rest := _) (q0 := 39) XC (c_X8_type l D kI kC _ _ _ _ _ _ _ _ _ _ _ _ _  (by omega) _ hz210) gL_law_X8_type rfl kmX8_type ⟨⟨Nat.le_of_ble_eq_true rfl, Nat.le_of_ble_eq_true rfl⟩, Nat.le_of_ble_eq_true rfl, Nat.le_of_ble_eq_true rfl⟩ ⟨rfl, rfl⟩ rfl rfl (Nat.le_of_ble_eq_true rfl) [39, 45] rfl rfl (fun _ => rfl) rfl rfl dL_law_211 (kI_of (fun r211 u211 hq211 => ?_))
  dsimp only [putW, List.set, Option.toList, List.cons_append, List.nil_append, padO, mdO, shW, trW, txW, hiW, liW, woW, taW]
  try dsimp only at hq211
  have h211 := hq211
  refine V_eqT XC 845 dL_law_214 (by decide) (by rcases h201 with ⟨e1, e2, -⟩ | ⟨e1, e2, -⟩ <;> rcases h211 with ⟨e3, e4, -⟩ | ⟨e3, e4, -⟩ <;> omega) ?_
  refine kk _ _ _ _ _ _ _ _ _ _ _ _ _ _ _ _ _ _ _ _ _ _ _ _ _ _ _ _ _ _ _ _ _ _ _ _ _ _ _ _ _ _ _ _ _ _ _ _ _ _ _ _ _ _ _ _ _ _ _ _ _ _ _ _ _ _ _ _ _ _ _ _ _ (shC n F, past, fut) ?_
  have ez : z210 = z200 := ez210.trans ez200.symm
  subst ez
  refine ⟨hB, hBm, ?_, rfl, h3, hH, hN, hR, hgp, hg⟩
  rcases h201 with ⟨e1, -, e2⟩ | ⟨e1, -, e2⟩ <;> rcases h211 with ⟨e3, -, e4⟩ | ⟨e3, -, e4⟩
  · cases e2; subst e4; exact ⟨hty, hnt, hTT⟩
  · omega
  · omega
  · cases e2; subst e4
    refine ⟨by (try dsimp only); omega, by (try dsimp only); omega, fun j hj => ?_⟩
    try dsimp only at hj ⊢
    by_cases q : j = nt
    · subst q hty; rw [upz_s, upz_s]; exact ⟨rfl, hz200⟩
    · rw [upz_n q, upz_n (by omega)]; exact hTT j (by omega)

set_option maxRecDepth 100000 in
set_option maxHeartbeats 4000000 in
theorem law_c3 (l : Launch) {pV : Program} {eV : Env} {sV : State} {mV : MethodId} {bV : List Frame} {tV : Method} {cV : Code} {AV : Nat → Prop} {D : va_G} {kI kC : ClassId} {Q : State → Prop} {sc L : Nat} {xs : Nat → Int32} (XC : Cx pV room_1 sV mV #[.ref sc] tV cV cL_law 4 RL wsL_law AV D kI kC) (hXs : va_X sc L xs sV sV.heap) (hbl : sc < sV.heap.size) (hbA : ¬ AV sc) (hL : L ≤ 2048) (a g w b : Nat → Nat) (i : Nat) (hi : i + 4 ≤ L) (gap : Int) (nb : Nat) (BX : (Nat → Int)) (BY : (Nat → Int)) (nt : Nat) (T : (Nat → Int)) (n : Nat) (F : (Nat → Int)) (dn : Int) (DF : (Nat → Int)) (wn : Int) (WX : (Nat → Int)) (WY : (Nat → Int)) (p : Nat) (f : Nat) (ha : Nat) (N : (Nat → Int)) (HS : (Nat → Int)) (ln : Int) (lo : (Nat → Int)) (to : (Nat → Int)) (bo : (Nat → Int)) (ls : (Nat → Int)) (bt : (Nat → Int)) (bb : (Nat → Int)) (ra : (Nat → Int)) (wc : Int) (od : (Nat → Int)) (pl : (Nat → Int)) (wo : (Nat → Int)) (li : (Nat → Int)) (si : (Nat → Int)) (le : (Nat → Int)) (ri : (Nat → Int)) (fi : (Nat → Int)) (wi : (Nat → Int)) (fn : (Nat → Int)) (sl : (Nat → Int)) (ce : Int) (mo : Int) (TK : (Nat → Int)) (TP : (Nat → Int)) (gp : Int) (ke : Nat) (un : Nat) (bu : Nat) (ty : Nat) (pc : Int) (gd : Bool) (rd : Int) (po : Int) (lm : Int) (wd : Int) (G : (Nat → Int)) (H : (Nat → Int)) (A : (Nat → Int)) (MX : (Nat → Int)) (MY : (Nat → Int)) (TM : (Nat → Int)) (RX : (Nat → Int)) (RY : (Nat → Int)) (X : (Nat → Int)) (PX : (Nat → Int)) (PY : (Nat → Int)) (QX : (Nat → Int)) (QY : (Nat → Int)) (TO : (Nat → Int)) (BO : (Nat → Int)) (BE : (Nat → Int)) (RK : (Nat → Int)) (WO : (Nat → Int)) (OD : (Nat → Int)) (IN : (Nat → Int)) (s : St3) (hI : LInv nb BX BY nt T n F p f ha N HS gap gp ke un bu ty G H A MX MY TM s) (kk : ∀ (gap : Int) (nb : Nat) (BX : (Nat → Int)) (BY : (Nat → Int)) (nt : Nat) (T : (Nat → Int)) (n : Nat) (F : (Nat → Int)) (dn : Int) (DF : (Nat → Int)) (wn : Int) (WX : (Nat → Int)) (WY : (Nat → Int)) (p : Nat) (f : Nat) (ha : Nat) (N : (Nat → Int)) (HS : (Nat → Int)) (ln : Int) (lo : (Nat → Int)) (to : (Nat → Int)) (bo : (Nat → Int)) (ls : (Nat → Int)) (bt : (Nat → Int)) (bb : (Nat → Int)) (ra : (Nat → Int)) (wc : Int) (od : (Nat → Int)) (pl : (Nat → Int)) (wo : (Nat → Int)) (li : (Nat → Int)) (si : (Nat → Int)) (le : (Nat → Int)) (ri : (Nat → Int)) (fi : (Nat → Int)) (wi : (Nat → Int)) (fn : (Nat → Int)) (sl : (Nat → Int)) (ce : Int) (mo : Int) (TK : (Nat → Int)) (TP : (Nat → Int)) (gp : Int) (ke : Nat) (un : Nat) (bu : Nat) (ty : Nat) (pc : Int) (gd : Bool) (rd : Int) (po : Int) (lm : Int) (wd : Int) (G : (Nat → Int)) (H : (Nat → Int)) (A : (Nat → Int)) (MX : (Nat → Int)) (MY : (Nat → Int)) (TM : (Nat → Int)) (RX : (Nat → Int)) (RY : (Nat → Int)) (X : (Nat → Int)) (PX : (Nat → Int)) (PY : (Nat → Int)) (QX : (Nat → Int)) (QY : (Nat → Int)) (TO : (Nat → Int)) (BO : (Nat → Int)) (BE : (Nat → Int)) (RK : (Nat → Int)) (WO : (Nat → Int)) (OD : (Nat → Int)) (IN : (Nat → Int)) (s : St3), LInv nb BX BY nt T n F p f ha N HS gap gp ke un bu ty G H A MX MY TM s → VV pV l eV room_1 sV mV #[.ref sc] bV tV cV 4 AV D Q 60 30600 845 [some (.ref sc), some (.ref (a 0)), some (.ref (b 0)), some (.int (iI (i : Int)))] [] ((padO a g w gap :: (trW kI (a 1) (a 2) (a 3) (nb : Int) BX BY ++ (txW kC (a 4) (a 5) (nt : Int) T ++ (shW kI (a 6) (a 7) (n : Int) F ++ (shW kI (a 8) (a 9) dn DF ++ (trW kI (a 10) (a 11) (a 12) wn WX WY ++ (hiW kI (a 13) (a 14) (a 15) (p : Int) (f : Int) (ha : Int) N HS ++ (liW kI g ln lo to bo ls bt bb ra ++ (woW kI w wc od pl wo li si le ri fi wi fn sl ++ (taW kI (a 36) (a 37) (a 38) ce mo TK TP)))))))))) ++ (mdO b gp (ke : Int) (un : Int) (bu : Int) (ty : Int) pc gd rd po lm wd :: [(b 1, IA kI 801 G), (b 2, IA kI 4806 H), (b 3, IA kI 4806 A), (b 4, IA kI 24 MX), (b 5, IA kI 24 MY), (b 6, IA kC 100 TM), (b 7, IA kI 24 RX), (b 8, IA kI 24 RY), (b 9, IA kI 801 X), (b 10, IA kI 24 PX), (b 11, IA kI 24 PY), (b 12, IA kI 24 QX), (b 13, IA kI 24 QY), (b 14, IA kI 16 TO), (b 15, IA kI 16 BO), (b 16, IA kI 16 BE), (b 17, IA kI 16 RK), (b 18, IA kI 16 WO), (b 19, IA kI 16 OD), (b 20, IA kI 10201 IN)]))) : VV pV l eV room_1 sV mV #[.ref sc] bV tV cV 4 AV D Q 60 30600 219 [some (.ref sc), some (.ref (a 0)), some (.ref (b 0)), some (.int (iI (i : Int)))] [] ((padO a g w gap :: (trW kI (a 1) (a 2) (a 3) (nb : Int) BX BY ++ (txW kC (a 4) (a 5) (nt : Int) T ++ (shW kI (a 6) (a 7) (n : Int) F ++ (shW kI (a 8) (a 9) dn DF ++ (trW kI (a 10) (a 11) (a 12) wn WX WY ++ (hiW kI (a 13) (a 14) (a 15) (p : Int) (f : Int) (ha : Int) N HS ++ (liW kI g ln lo to bo ls bt bb ra ++ (woW kI w wc od pl wo li si le ri fi wi fn sl ++ (taW kI (a 36) (a 37) (a 38) ce mo TK TP)))))))))) ++ (mdO b gp (ke : Int) (un : Int) (bu : Int) (ty : Int) pc gd rd po lm wd :: [(b 1, IA kI 801 G), (b 2, IA kI 4806 H), (b 3, IA kI 4806 A), (b 4, IA kI 24 MX), (b 5, IA kI 24 MY), (b 6, IA kC 100 TM), (b 7, IA kI 24 RX), (b 8, IA kI 24 RY), (b 9, IA kI 801 X), (b 10, IA kI 24 PX), (b 11, IA kI 24 PY), (b 12, IA kI 24 QX), (b 13, IA kI 24 QY), (b 14, IA kI 16 TO), (b 15, IA kI 16 BO), (b 16, IA kI 16 BE), (b 17, IA kI 16 RK), (b 18, IA kI 16 WO), (b 19, IA kI 16 OD), (b 20, IA kI 10201 IN)])) := by
  obtain ⟨S0, past, fut⟩ := s
  obtain ⟨hB, hBm, ⟨hty, hnt, hTT⟩, hs0, h3, hH, hN, hR, hgp, hg⟩ := hI
  dsimp only at hs0 hN
  subst hs0
  have hL2 : L < 2147483648 := by omega
  have hn16 : n ≤ 16 := by have := h3.1.1; rwa [shC_len] at this
  have hS : OkS (shC n F) := h3.1
  have hbn : bu = nb := by have := congrArg List.length hBm; rwa [ptsOf_len, ptsOf_len] at this
  have hBk : OkB (ptsOf bu MX MY) := by rw [hBm]; exact hB
  have hT : ∀ i, i < nt → 0 ≤ T i ∧ T i < 65536 := fun i hi => (hTT i hi).2
  have hTm : ∀ i, i < ty → 0 ≤ TM i ∧ TM i < 65536 := fun i hi => by rw [(hTT i (by omega)).1]; exact hT i (by omega)
  have hgm : 0 ≤ gp ∧ gp ≤ 500 := by omega
  dsimp only [putW, List.set, Option.toList, List.cons_append, List.nil_append, padO, mdO, shW, trW, txW, hiW, liW, woW, taW] at kk ⊢
  refine V_aload_n XC 1 rfl dL_law_219 rfl ?_
  refine V_callV (rest := _) (q0 := 0) XC (c_X7_clearText l D kI kC _ _ _ _ _ _ ) gL_law_X7_clearText rfl kmX7_clearText ⟨⟨Nat.le_of_ble_eq_true rfl, Nat.le_of_ble_eq_true rfl⟩, Nat.le_of_ble_eq_true rfl, Nat.le_of_ble_eq_true rfl⟩ ⟨rfl, rfl⟩ rfl rfl (Nat.le_of_ble_eq_true rfl) [0, 4, 5] rfl rfl (fun _ => rfl) rfl rfl dL_law_220 (kI_of (fun r220 u220 hq220 => ?_))
  dsimp only [putW, List.set, Option.toList, List.cons_append, List.nil_append, padO, mdO, shW, trW, txW, hiW, liW, woW, taW]
  try dsimp only at hq220
  refine V_aload_n XC 2 rfl dL_law_223 rfl ?_
  refine V_callV (rest := _) (q0 := 39) XC (c_X8_clearText l D kI kC _ _ _ _ _ _ _ _ _ _ _ _ ) gL_law_X8_clearText rfl kmX8_clearText ⟨⟨Nat.le_of_ble_eq_true rfl, Nat.le_of_ble_eq_true rfl⟩, Nat.le_of_ble_eq_true rfl, Nat.le_of_ble_eq_true rfl⟩ ⟨rfl, rfl⟩ rfl rfl (Nat.le_of_ble_eq_true rfl) [39] rfl rfl (fun _ => rfl) rfl rfl dL_law_224 (kI_of (fun r224 u224 hq224 => ?_))
  dsimp only [putW, List.set, Option.toList, List.cons_append, List.nil_append, padO, mdO, shW, trW, txW, hiW, liW, woW, taW]
  try dsimp only at hq224
  refine V_eqT XC 845 dL_law_227 (by decide) (by (try dsimp only at hq220 hq224); omega) ?_
  refine kk _ _ _ _ 0 _ _ _ _ _ _ _ _ _ _ _ _ _ _ _ _ _ _ _ _ _ _ _ _ _ _ _ _ _ _ _ _ _ _ _ _ _ _ _ _ _ 0 _ _ _ _ _ _ _ _ _ _ _ _ _ _ _ _ _ _ _ _ _ _ _ _ _ _ (shC n F, past, fut) ?_
  exact ⟨hB, hBm, ⟨rfl, Nat.zero_le _, fun i hi => absurd hi (Nat.not_lt_zero i)⟩, rfl, h3, hH, hN, hR, hgp, hg⟩

set_option maxRecDepth 100000 in
set_option maxHeartbeats 4000000 in
theorem law_c4 (l : Launch) {pV : Program} {eV : Env} {sV : State} {mV : MethodId} {bV : List Frame} {tV : Method} {cV : Code} {AV : Nat → Prop} {D : va_G} {kI kC : ClassId} {Q : State → Prop} {sc L : Nat} {xs : Nat → Int32} (XC : Cx pV room_1 sV mV #[.ref sc] tV cV cL_law 4 RL wsL_law AV D kI kC) (hXs : va_X sc L xs sV sV.heap) (hbl : sc < sV.heap.size) (hbA : ¬ AV sc) (hL : L ≤ 2048) (a g w b : Nat → Nat) (i : Nat) (hi : i + 4 ≤ L) (gap : Int) (nb : Nat) (BX : (Nat → Int)) (BY : (Nat → Int)) (nt : Nat) (T : (Nat → Int)) (n : Nat) (F : (Nat → Int)) (dn : Int) (DF : (Nat → Int)) (wn : Int) (WX : (Nat → Int)) (WY : (Nat → Int)) (p : Nat) (f : Nat) (ha : Nat) (N : (Nat → Int)) (HS : (Nat → Int)) (ln : Int) (lo : (Nat → Int)) (to : (Nat → Int)) (bo : (Nat → Int)) (ls : (Nat → Int)) (bt : (Nat → Int)) (bb : (Nat → Int)) (ra : (Nat → Int)) (wc : Int) (od : (Nat → Int)) (pl : (Nat → Int)) (wo : (Nat → Int)) (li : (Nat → Int)) (si : (Nat → Int)) (le : (Nat → Int)) (ri : (Nat → Int)) (fi : (Nat → Int)) (wi : (Nat → Int)) (fn : (Nat → Int)) (sl : (Nat → Int)) (ce : Int) (mo : Int) (TK : (Nat → Int)) (TP : (Nat → Int)) (gp : Int) (ke : Nat) (un : Nat) (bu : Nat) (ty : Nat) (pc : Int) (gd : Bool) (rd : Int) (po : Int) (lm : Int) (wd : Int) (G : (Nat → Int)) (H : (Nat → Int)) (A : (Nat → Int)) (MX : (Nat → Int)) (MY : (Nat → Int)) (TM : (Nat → Int)) (RX : (Nat → Int)) (RY : (Nat → Int)) (X : (Nat → Int)) (PX : (Nat → Int)) (PY : (Nat → Int)) (QX : (Nat → Int)) (QY : (Nat → Int)) (TO : (Nat → Int)) (BO : (Nat → Int)) (BE : (Nat → Int)) (RK : (Nat → Int)) (WO : (Nat → Int)) (OD : (Nat → Int)) (IN : (Nat → Int)) (s : St3) (hI : LInv nb BX BY nt T n F p f ha N HS gap gp ke un bu ty G H A MX MY TM s) (kk : ∀ (gap : Int) (nb : Nat) (BX : (Nat → Int)) (BY : (Nat → Int)) (nt : Nat) (T : (Nat → Int)) (n : Nat) (F : (Nat → Int)) (dn : Int) (DF : (Nat → Int)) (wn : Int) (WX : (Nat → Int)) (WY : (Nat → Int)) (p : Nat) (f : Nat) (ha : Nat) (N : (Nat → Int)) (HS : (Nat → Int)) (ln : Int) (lo : (Nat → Int)) (to : (Nat → Int)) (bo : (Nat → Int)) (ls : (Nat → Int)) (bt : (Nat → Int)) (bb : (Nat → Int)) (ra : (Nat → Int)) (wc : Int) (od : (Nat → Int)) (pl : (Nat → Int)) (wo : (Nat → Int)) (li : (Nat → Int)) (si : (Nat → Int)) (le : (Nat → Int)) (ri : (Nat → Int)) (fi : (Nat → Int)) (wi : (Nat → Int)) (fn : (Nat → Int)) (sl : (Nat → Int)) (ce : Int) (mo : Int) (TK : (Nat → Int)) (TP : (Nat → Int)) (gp : Int) (ke : Nat) (un : Nat) (bu : Nat) (ty : Nat) (pc : Int) (gd : Bool) (rd : Int) (po : Int) (lm : Int) (wd : Int) (G : (Nat → Int)) (H : (Nat → Int)) (A : (Nat → Int)) (MX : (Nat → Int)) (MY : (Nat → Int)) (TM : (Nat → Int)) (RX : (Nat → Int)) (RY : (Nat → Int)) (X : (Nat → Int)) (PX : (Nat → Int)) (PY : (Nat → Int)) (QX : (Nat → Int)) (QY : (Nat → Int)) (TO : (Nat → Int)) (BO : (Nat → Int)) (BE : (Nat → Int)) (RK : (Nat → Int)) (WO : (Nat → Int)) (OD : (Nat → Int)) (IN : (Nat → Int)) (s : St3), LInv nb BX BY nt T n F p f ha N HS gap gp ke un bu ty G H A MX MY TM s → VV pV l eV room_1 sV mV #[.ref sc] bV tV cV 4 AV D Q 60 30600 845 [some (.ref sc), some (.ref (a 0)), some (.ref (b 0)), some (.int (iI (i : Int)))] [] ((padO a g w gap :: (trW kI (a 1) (a 2) (a 3) (nb : Int) BX BY ++ (txW kC (a 4) (a 5) (nt : Int) T ++ (shW kI (a 6) (a 7) (n : Int) F ++ (shW kI (a 8) (a 9) dn DF ++ (trW kI (a 10) (a 11) (a 12) wn WX WY ++ (hiW kI (a 13) (a 14) (a 15) (p : Int) (f : Int) (ha : Int) N HS ++ (liW kI g ln lo to bo ls bt bb ra ++ (woW kI w wc od pl wo li si le ri fi wi fn sl ++ (taW kI (a 36) (a 37) (a 38) ce mo TK TP)))))))))) ++ (mdO b gp (ke : Int) (un : Int) (bu : Int) (ty : Int) pc gd rd po lm wd :: [(b 1, IA kI 801 G), (b 2, IA kI 4806 H), (b 3, IA kI 4806 A), (b 4, IA kI 24 MX), (b 5, IA kI 24 MY), (b 6, IA kC 100 TM), (b 7, IA kI 24 RX), (b 8, IA kI 24 RY), (b 9, IA kI 801 X), (b 10, IA kI 24 PX), (b 11, IA kI 24 PY), (b 12, IA kI 24 QX), (b 13, IA kI 24 QY), (b 14, IA kI 16 TO), (b 15, IA kI 16 BO), (b 16, IA kI 16 BE), (b 17, IA kI 16 RK), (b 18, IA kI 16 WO), (b 19, IA kI 16 OD), (b 20, IA kI 10201 IN)]))) : VV pV l eV room_1 sV mV #[.ref sc] bV tV cV 4 AV D Q 60 30600 232 [some (.ref sc), some (.ref (a 0)), some (.ref (b 0)), some (.int (iI (i : Int)))] [] ((padO a g w gap :: (trW kI (a 1) (a 2) (a 3) (nb : Int) BX BY ++ (txW kC (a 4) (a 5) (nt : Int) T ++ (shW kI (a 6) (a 7) (n : Int) F ++ (shW kI (a 8) (a 9) dn DF ++ (trW kI (a 10) (a 11) (a 12) wn WX WY ++ (hiW kI (a 13) (a 14) (a 15) (p : Int) (f : Int) (ha : Int) N HS ++ (liW kI g ln lo to bo ls bt bb ra ++ (woW kI w wc od pl wo li si le ri fi wi fn sl ++ (taW kI (a 36) (a 37) (a 38) ce mo TK TP)))))))))) ++ (mdO b gp (ke : Int) (un : Int) (bu : Int) (ty : Int) pc gd rd po lm wd :: [(b 1, IA kI 801 G), (b 2, IA kI 4806 H), (b 3, IA kI 4806 A), (b 4, IA kI 24 MX), (b 5, IA kI 24 MY), (b 6, IA kC 100 TM), (b 7, IA kI 24 RX), (b 8, IA kI 24 RY), (b 9, IA kI 801 X), (b 10, IA kI 24 PX), (b 11, IA kI 24 PY), (b 12, IA kI 24 QX), (b 13, IA kI 24 QY), (b 14, IA kI 16 TO), (b 15, IA kI 16 BO), (b 16, IA kI 16 BE), (b 17, IA kI 16 RK), (b 18, IA kI 16 WO), (b 19, IA kI 16 OD), (b 20, IA kI 10201 IN)])) := by
  obtain ⟨S0, past, fut⟩ := s
  obtain ⟨hB, hBm, ⟨hty, hnt, hTT⟩, hs0, h3, hH, hN, hR, hgp, hg⟩ := hI
  dsimp only at hs0 hN
  subst hs0
  have hL2 : L < 2147483648 := by omega
  have hn16 : n ≤ 16 := by have := h3.1.1; rwa [shC_len] at this
  have hS : OkS (shC n F) := h3.1
  have hbn : bu = nb := by have := congrArg List.length hBm; rwa [ptsOf_len, ptsOf_len] at this
  have hBk : OkB (ptsOf bu MX MY) := by rw [hBm]; exact hB
  have hT : ∀ i, i < nt → 0 ≤ T i ∧ T i < 65536 := fun i hi => (hTT i hi).2
  have hTm : ∀ i, i < ty → 0 ≤ TM i ∧ TM i < 65536 := fun i hi => by rw [(hTT i (by omega)).1]; exact hT i (by omega)
  have hgm : 0 ≤ gp ∧ gp ≤ 500 := by omega
  dsimp only [putW, List.set, Option.toList, List.cons_append, List.nil_append, padO, mdO, shW, trW, txW, hiW, liW, woW, taW] at kk ⊢
  refine V_aload_n XC 1 rfl dL_law_232 rfl ?_
  have hpr : prs TM ty 0 [] 0 0 false 0 0 = prs T nt 0 [] 0 0 false 0 0 := by
    rw [hty]
    exact prs_congr nt 0 _ _ _ _ _ _ (fun j _ hj => (hTT j (by omega)).1)
  refine V_callV (rest := _) (q0 := 0) XC (c_X7_readPoints l D kI kC _ _ _ _ _ _ _ _ _ _ _ _  hB hnt hT) gL_law_X7_readPoints rfl kmX7_readPoints ⟨⟨Nat.le_of_ble_eq_true rfl, Nat.le_of_ble_eq_true rfl⟩, Nat.le_of_ble_eq_true rfl, Nat.le_of_ble_eq_true rfl⟩ ⟨rfl, rfl⟩ rfl rfl (Nat.le_of_ble_eq_true rfl) [0, 1, 2, 3, 4, 5, 10, 11, 12] rfl rfl (fun _ => rfl) rfl rfl dL_law_233 (kI_of (fun r233 u233 hq233 => ?_))
  obtain ⟨n233, X233, Y233, wn233, WX233, WY233⟩ := u233
  dsimp only [putW, List.set, Option.toList, List.cons_append, List.nil_append, padO, mdO, shW, trW, txW, hiW, liW, woW, taW]
  try dsimp only at hq233
  obtain ⟨hr233, hp233, ho233⟩ := hq233
  refine V_aload_n XC 2 rfl dL_law_236 rfl ?_
  refine V_callV (rest := _) (q0 := 39) XC (c_X8_readPoints l D kI kC _ _ _ _ _ _ _ _ _ _ _ _ _ _ _ _ _  hBk (by omega) hTm) gL_law_X8_readPoints rfl kmX8_readPoints ⟨⟨Nat.le_of_ble_eq_true rfl, Nat.le_of_ble_eq_true rfl⟩, Nat.le_of_ble_eq_true rfl, Nat.le_of_ble_eq_true rfl⟩ ⟨rfl, rfl⟩ rfl rfl (Nat.le_of_ble_eq_true rfl) [39, 43, 44, 45, 46, 47] rfl rfl (fun _ => rfl) rfl rfl dL_law_237 (kI_of (fun r237 u237 hq237 => ?_))
  dsimp only [putW, List.set, Option.toList, List.cons_append, List.nil_append, padO, mdO, shW, trW, txW, hiW, liW, woW, taW]
  try dsimp only at hq237
  have h237 := hq237
  refine V_eqT XC 845 dL_law_240 (by decide) (by rw [hr233, h237.1, hpr]) ?_
  refine kk _ _ _ _ _ _ _ _ _ _ _ _ _ _ _ _ _ _ _ _ _ _ _ _ _ _ _ _ _ _ _ _ _ _ _ _ _ _ _ _ _ _ _ _ _ _ _ _ _ _ _ _ _ _ _ _ _ _ _ _ _ _ _ _ _ _ _ _ _ _ _ _ _ (shC n F, past, fut) ?_
  exact ⟨ho233, by rw [h237.2.1, hp233, hpr, hBm], ⟨hty, hnt, hTT⟩, rfl, h3, hH, hN, hR, hgp, hg⟩

set_option maxRecDepth 100000 in
set_option maxHeartbeats 4000000 in
theorem law_c5 (l : Launch) {pV : Program} {eV : Env} {sV : State} {mV : MethodId} {bV : List Frame} {tV : Method} {cV : Code} {AV : Nat → Prop} {D : va_G} {kI kC : ClassId} {Q : State → Prop} {sc L : Nat} {xs : Nat → Int32} (XC : Cx pV room_1 sV mV #[.ref sc] tV cV cL_law 4 RL wsL_law AV D kI kC) (hXs : va_X sc L xs sV sV.heap) (hbl : sc < sV.heap.size) (hbA : ¬ AV sc) (hL : L ≤ 2048) (a g w b : Nat → Nat) (i : Nat) (hi : i + 4 ≤ L) (gap : Int) (nb : Nat) (BX : (Nat → Int)) (BY : (Nat → Int)) (nt : Nat) (T : (Nat → Int)) (n : Nat) (F : (Nat → Int)) (dn : Int) (DF : (Nat → Int)) (wn : Int) (WX : (Nat → Int)) (WY : (Nat → Int)) (p : Nat) (f : Nat) (ha : Nat) (N : (Nat → Int)) (HS : (Nat → Int)) (ln : Int) (lo : (Nat → Int)) (to : (Nat → Int)) (bo : (Nat → Int)) (ls : (Nat → Int)) (bt : (Nat → Int)) (bb : (Nat → Int)) (ra : (Nat → Int)) (wc : Int) (od : (Nat → Int)) (pl : (Nat → Int)) (wo : (Nat → Int)) (li : (Nat → Int)) (si : (Nat → Int)) (le : (Nat → Int)) (ri : (Nat → Int)) (fi : (Nat → Int)) (wi : (Nat → Int)) (fn : (Nat → Int)) (sl : (Nat → Int)) (ce : Int) (mo : Int) (TK : (Nat → Int)) (TP : (Nat → Int)) (gp : Int) (ke : Nat) (un : Nat) (bu : Nat) (ty : Nat) (pc : Int) (gd : Bool) (rd : Int) (po : Int) (lm : Int) (wd : Int) (G : (Nat → Int)) (H : (Nat → Int)) (A : (Nat → Int)) (MX : (Nat → Int)) (MY : (Nat → Int)) (TM : (Nat → Int)) (RX : (Nat → Int)) (RY : (Nat → Int)) (X : (Nat → Int)) (PX : (Nat → Int)) (PY : (Nat → Int)) (QX : (Nat → Int)) (QY : (Nat → Int)) (TO : (Nat → Int)) (BO : (Nat → Int)) (BE : (Nat → Int)) (RK : (Nat → Int)) (WO : (Nat → Int)) (OD : (Nat → Int)) (IN : (Nat → Int)) (s : St3) (hI : LInv nb BX BY nt T n F p f ha N HS gap gp ke un bu ty G H A MX MY TM s) (kk : ∀ (gap : Int) (nb : Nat) (BX : (Nat → Int)) (BY : (Nat → Int)) (nt : Nat) (T : (Nat → Int)) (n : Nat) (F : (Nat → Int)) (dn : Int) (DF : (Nat → Int)) (wn : Int) (WX : (Nat → Int)) (WY : (Nat → Int)) (p : Nat) (f : Nat) (ha : Nat) (N : (Nat → Int)) (HS : (Nat → Int)) (ln : Int) (lo : (Nat → Int)) (to : (Nat → Int)) (bo : (Nat → Int)) (ls : (Nat → Int)) (bt : (Nat → Int)) (bb : (Nat → Int)) (ra : (Nat → Int)) (wc : Int) (od : (Nat → Int)) (pl : (Nat → Int)) (wo : (Nat → Int)) (li : (Nat → Int)) (si : (Nat → Int)) (le : (Nat → Int)) (ri : (Nat → Int)) (fi : (Nat → Int)) (wi : (Nat → Int)) (fn : (Nat → Int)) (sl : (Nat → Int)) (ce : Int) (mo : Int) (TK : (Nat → Int)) (TP : (Nat → Int)) (gp : Int) (ke : Nat) (un : Nat) (bu : Nat) (ty : Nat) (pc : Int) (gd : Bool) (rd : Int) (po : Int) (lm : Int) (wd : Int) (G : (Nat → Int)) (H : (Nat → Int)) (A : (Nat → Int)) (MX : (Nat → Int)) (MY : (Nat → Int)) (TM : (Nat → Int)) (RX : (Nat → Int)) (RY : (Nat → Int)) (X : (Nat → Int)) (PX : (Nat → Int)) (PY : (Nat → Int)) (QX : (Nat → Int)) (QY : (Nat → Int)) (TO : (Nat → Int)) (BO : (Nat → Int)) (BE : (Nat → Int)) (RK : (Nat → Int)) (WO : (Nat → Int)) (OD : (Nat → Int)) (IN : (Nat → Int)) (s : St3), LInv nb BX BY nt T n F p f ha N HS gap gp ke un bu ty G H A MX MY TM s → VV pV l eV room_1 sV mV #[.ref sc] bV tV cV 4 AV D Q 60 30600 845 [some (.ref sc), some (.ref (a 0)), some (.ref (b 0)), some (.int (iI (i : Int)))] [] ((padO a g w gap :: (trW kI (a 1) (a 2) (a 3) (nb : Int) BX BY ++ (txW kC (a 4) (a 5) (nt : Int) T ++ (shW kI (a 6) (a 7) (n : Int) F ++ (shW kI (a 8) (a 9) dn DF ++ (trW kI (a 10) (a 11) (a 12) wn WX WY ++ (hiW kI (a 13) (a 14) (a 15) (p : Int) (f : Int) (ha : Int) N HS ++ (liW kI g ln lo to bo ls bt bb ra ++ (woW kI w wc od pl wo li si le ri fi wi fn sl ++ (taW kI (a 36) (a 37) (a 38) ce mo TK TP)))))))))) ++ (mdO b gp (ke : Int) (un : Int) (bu : Int) (ty : Int) pc gd rd po lm wd :: [(b 1, IA kI 801 G), (b 2, IA kI 4806 H), (b 3, IA kI 4806 A), (b 4, IA kI 24 MX), (b 5, IA kI 24 MY), (b 6, IA kC 100 TM), (b 7, IA kI 24 RX), (b 8, IA kI 24 RY), (b 9, IA kI 801 X), (b 10, IA kI 24 PX), (b 11, IA kI 24 PY), (b 12, IA kI 24 QX), (b 13, IA kI 24 QY), (b 14, IA kI 16 TO), (b 15, IA kI 16 BO), (b 16, IA kI 16 BE), (b 17, IA kI 16 RK), (b 18, IA kI 16 WO), (b 19, IA kI 16 OD), (b 20, IA kI 10201 IN)]))) : VV pV l eV room_1 sV mV #[.ref sc] bV tV cV 4 AV D Q 60 30600 245 [some (.ref sc), some (.ref (a 0)), some (.ref (b 0)), some (.int (iI (i : Int)))] [] ((padO a g w gap :: (trW kI (a 1) (a 2) (a 3) (nb : Int) BX BY ++ (txW kC (a 4) (a 5) (nt : Int) T ++ (shW kI (a 6) (a 7) (n : Int) F ++ (shW kI (a 8) (a 9) dn DF ++ (trW kI (a 10) (a 11) (a 12) wn WX WY ++ (hiW kI (a 13) (a 14) (a 15) (p : Int) (f : Int) (ha : Int) N HS ++ (liW kI g ln lo to bo ls bt bb ra ++ (woW kI w wc od pl wo li si le ri fi wi fn sl ++ (taW kI (a 36) (a 37) (a 38) ce mo TK TP)))))))))) ++ (mdO b gp (ke : Int) (un : Int) (bu : Int) (ty : Int) pc gd rd po lm wd :: [(b 1, IA kI 801 G), (b 2, IA kI 4806 H), (b 3, IA kI 4806 A), (b 4, IA kI 24 MX), (b 5, IA kI 24 MY), (b 6, IA kC 100 TM), (b 7, IA kI 24 RX), (b 8, IA kI 24 RY), (b 9, IA kI 801 X), (b 10, IA kI 24 PX), (b 11, IA kI 24 PY), (b 12, IA kI 24 QX), (b 13, IA kI 24 QY), (b 14, IA kI 16 TO), (b 15, IA kI 16 BO), (b 16, IA kI 16 BE), (b 17, IA kI 16 RK), (b 18, IA kI 16 WO), (b 19, IA kI 16 OD), (b 20, IA kI 10201 IN)])) := by
  obtain ⟨S0, past, fut⟩ := s
  obtain ⟨hB, hBm, ⟨hty, hnt, hTT⟩, hs0, h3, hH, hN, hR, hgp, hg⟩ := hI
  dsimp only at hs0 hN
  subst hs0
  have hL2 : L < 2147483648 := by omega
  have hn16 : n ≤ 16 := by have := h3.1.1; rwa [shC_len] at this
  have hS : OkS (shC n F) := h3.1
  have hbn : bu = nb := by have := congrArg List.length hBm; rwa [ptsOf_len, ptsOf_len] at this
  have hBk : OkB (ptsOf bu MX MY) := by rw [hBm]; exact hB
  have hT : ∀ i, i < nt → 0 ≤ T i ∧ T i < 65536 := fun i hi => (hTT i hi).2
  have hTm : ∀ i, i < ty → 0 ≤ TM i ∧ TM i < 65536 := fun i hi => by rw [(hTT i (by omega)).1]; exact hT i (by omega)
  have hgm : 0 ≤ gp ∧ gp ≤ 500 := by omega
  dsimp only [putW, List.set, Option.toList, List.cons_append, List.nil_append, padO, mdO, shW, trW, txW, hiW, liW, woW, taW] at kk ⊢
  refine V_aload_n XC 1 rfl dL_law_245 rfl ?_
  refine V_aload_n XC 0 rfl dL_law_246 rfl ?_
  refine V_iload_n XC 3 rfl dL_law_247 rfl ?_
  refine V_iconst XC dL_law_248 ?_
  refine V_iadd XC dL_law_249 ?_
  refine V_sld XC hXs hbl hbA hL2 (i + 1) (by omega) (by omega) dL_law_250 ?_
  refine V_callV (rest := _) (q0 := 0) XC (c_X7_draw l D kI kC _ _ _ _ _ _ _ _ _ _ _ _ _ _ _ _ h3 hH hB _ (IR_of _)) gL_law_X7_draw rfl kmX7_draw ⟨⟨Nat.le_of_ble_eq_true rfl, Nat.le_of_ble_eq_true rfl⟩, Nat.le_of_ble_eq_true rfl, Nat.le_of_ble_eq_true rfl⟩ ⟨rfl, rfl⟩ rfl rfl (Nat.le_of_ble_eq_true rfl) [0, 1, 2, 3, 6, 7, 13, 14, 15] rfl rfl (fun _ => rfl) rfl rfl dL_law_251 (kI_of (fun r251 u251 hq251 => ?_))
  obtain ⟨n251, F251, p251, f251, ha251, N251, HS251, nb251⟩ := u251
  dsimp only [putW, List.set, Option.toList, List.cons_append, List.nil_append, padO, mdO, shW, trW, txW, hiW, liW, woW, taW]
  try dsimp only at hq251
  obtain ⟨hr251, hb251, hs251, hH251, h3251⟩ := hq251
  refine V_aload_n XC 2 rfl dL_law_254 rfl ?_
  refine V_aload_n XC 0 rfl dL_law_255 rfl ?_
  refine V_iload_n XC 3 rfl dL_law_256 rfl ?_
  refine V_iconst XC dL_law_257 ?_
  refine V_iadd XC dL_law_258 ?_
  refine V_sld XC hXs hbl hbA hL2 (i + 1) (by omega) (by omega) dL_law_259 ?_
  refine V_callV (rest := _) (q0 := 39) XC (c_X8_draw l D kI kC _ _ _ _ _ _ _ _ _ _ _ _ _ _ _ _ _  _ _ _ _ h3 hN hR hBk _ (IR_of _)) gL_law_X8_draw rfl kmX8_draw ⟨⟨Nat.le_of_ble_eq_true rfl, Nat.le_of_ble_eq_true rfl⟩, Nat.le_of_ble_eq_true rfl, Nat.le_of_ble_eq_true rfl⟩ ⟨rfl, rfl⟩ rfl rfl (Nat.le_of_ble_eq_true rfl) [39, 40, 41, 48, 43, 44] rfl rfl (fun _ => rfl) rfl rfl dL_law_260 (kI_of (fun r260 u260 hq260 => ?_))
  dsimp only [putW, List.set, Option.toList, List.cons_append, List.nil_append, padO, mdO, shW, trW, txW, hiW, liW, woW, taW]
  try dsimp only at hq260
  have h260 := hq260
  refine V_eqT XC 845 dL_law_263 (by decide) (by rw [hr251, h260.1, hBm]) ?_
  refine kk _ _ _ _ _ _ _ _ _ _ _ _ _ _ _ _ _ _ _ _ _ _ _ _ _ _ _ _ _ _ _ _ _ _ _ _ _ _ _ _ _ _ _ _ _ _ _ _ _ _ _ _ _ _ _ _ _ _ _ _ _ _ _ _ _ _ _ _ _ _ _ _ _ (actS (shC n F, past, fut) (drawS (shC n F) (ptsOf nb BX BY) (xs (i + 1)).toInt).2) ?_
  by_cases q : (drawS (shC n F) (ptsOf nb BX BY) (xs (i + 1)).toInt).2 = none
  · rw [if_pos q] at hb251
    have e9 := h260.2.1
    rw [hBm, if_pos q] at e9
    exact ⟨by rw [hb251]; exact hB, by rw [hb251, e9]; exact hBm, ⟨hty, hnt, hTT⟩, hs251, h3251, hH251, by have e8 := h260.2.2.1; rw [hBm] at e8; exact e8, by have e8 := h260.2.2.2.1; rw [hBm] at e8; exact e8, hgp, hg⟩
  · rw [if_neg q] at hb251
    have e9 := h260.2.1
    rw [hBm, if_neg q] at e9
    exact ⟨by rw [hb251]; exact OkB_nil, by rw [hb251, e9]; rfl, ⟨hty, hnt, hTT⟩, hs251, h3251, hH251, by have e8 := h260.2.2.1; rw [hBm] at e8; exact e8, by have e8 := h260.2.2.2.1; rw [hBm] at e8; exact e8, hgp, hg⟩

set_option maxRecDepth 100000 in
set_option maxHeartbeats 4000000 in
theorem law_c6 (l : Launch) {pV : Program} {eV : Env} {sV : State} {mV : MethodId} {bV : List Frame} {tV : Method} {cV : Code} {AV : Nat → Prop} {D : va_G} {kI kC : ClassId} {Q : State → Prop} {sc L : Nat} {xs : Nat → Int32} (XC : Cx pV room_1 sV mV #[.ref sc] tV cV cL_law 4 RL wsL_law AV D kI kC) (hXs : va_X sc L xs sV sV.heap) (hbl : sc < sV.heap.size) (hbA : ¬ AV sc) (hL : L ≤ 2048) (a g w b : Nat → Nat) (i : Nat) (hi : i + 4 ≤ L) (gap : Int) (nb : Nat) (BX : (Nat → Int)) (BY : (Nat → Int)) (nt : Nat) (T : (Nat → Int)) (n : Nat) (F : (Nat → Int)) (dn : Int) (DF : (Nat → Int)) (wn : Int) (WX : (Nat → Int)) (WY : (Nat → Int)) (p : Nat) (f : Nat) (ha : Nat) (N : (Nat → Int)) (HS : (Nat → Int)) (ln : Int) (lo : (Nat → Int)) (to : (Nat → Int)) (bo : (Nat → Int)) (ls : (Nat → Int)) (bt : (Nat → Int)) (bb : (Nat → Int)) (ra : (Nat → Int)) (wc : Int) (od : (Nat → Int)) (pl : (Nat → Int)) (wo : (Nat → Int)) (li : (Nat → Int)) (si : (Nat → Int)) (le : (Nat → Int)) (ri : (Nat → Int)) (fi : (Nat → Int)) (wi : (Nat → Int)) (fn : (Nat → Int)) (sl : (Nat → Int)) (ce : Int) (mo : Int) (TK : (Nat → Int)) (TP : (Nat → Int)) (gp : Int) (ke : Nat) (un : Nat) (bu : Nat) (ty : Nat) (pc : Int) (gd : Bool) (rd : Int) (po : Int) (lm : Int) (wd : Int) (G : (Nat → Int)) (H : (Nat → Int)) (A : (Nat → Int)) (MX : (Nat → Int)) (MY : (Nat → Int)) (TM : (Nat → Int)) (RX : (Nat → Int)) (RY : (Nat → Int)) (X : (Nat → Int)) (PX : (Nat → Int)) (PY : (Nat → Int)) (QX : (Nat → Int)) (QY : (Nat → Int)) (TO : (Nat → Int)) (BO : (Nat → Int)) (BE : (Nat → Int)) (RK : (Nat → Int)) (WO : (Nat → Int)) (OD : (Nat → Int)) (IN : (Nat → Int)) (s : St3) (hI : LInv nb BX BY nt T n F p f ha N HS gap gp ke un bu ty G H A MX MY TM s) (kk : ∀ (gap : Int) (nb : Nat) (BX : (Nat → Int)) (BY : (Nat → Int)) (nt : Nat) (T : (Nat → Int)) (n : Nat) (F : (Nat → Int)) (dn : Int) (DF : (Nat → Int)) (wn : Int) (WX : (Nat → Int)) (WY : (Nat → Int)) (p : Nat) (f : Nat) (ha : Nat) (N : (Nat → Int)) (HS : (Nat → Int)) (ln : Int) (lo : (Nat → Int)) (to : (Nat → Int)) (bo : (Nat → Int)) (ls : (Nat → Int)) (bt : (Nat → Int)) (bb : (Nat → Int)) (ra : (Nat → Int)) (wc : Int) (od : (Nat → Int)) (pl : (Nat → Int)) (wo : (Nat → Int)) (li : (Nat → Int)) (si : (Nat → Int)) (le : (Nat → Int)) (ri : (Nat → Int)) (fi : (Nat → Int)) (wi : (Nat → Int)) (fn : (Nat → Int)) (sl : (Nat → Int)) (ce : Int) (mo : Int) (TK : (Nat → Int)) (TP : (Nat → Int)) (gp : Int) (ke : Nat) (un : Nat) (bu : Nat) (ty : Nat) (pc : Int) (gd : Bool) (rd : Int) (po : Int) (lm : Int) (wd : Int) (G : (Nat → Int)) (H : (Nat → Int)) (A : (Nat → Int)) (MX : (Nat → Int)) (MY : (Nat → Int)) (TM : (Nat → Int)) (RX : (Nat → Int)) (RY : (Nat → Int)) (X : (Nat → Int)) (PX : (Nat → Int)) (PY : (Nat → Int)) (QX : (Nat → Int)) (QY : (Nat → Int)) (TO : (Nat → Int)) (BO : (Nat → Int)) (BE : (Nat → Int)) (RK : (Nat → Int)) (WO : (Nat → Int)) (OD : (Nat → Int)) (IN : (Nat → Int)) (s : St3), LInv nb BX BY nt T n F p f ha N HS gap gp ke un bu ty G H A MX MY TM s → VV pV l eV room_1 sV mV #[.ref sc] bV tV cV 4 AV D Q 60 30600 845 [some (.ref sc), some (.ref (a 0)), some (.ref (b 0)), some (.int (iI (i : Int)))] [] ((padO a g w gap :: (trW kI (a 1) (a 2) (a 3) (nb : Int) BX BY ++ (txW kC (a 4) (a 5) (nt : Int) T ++ (shW kI (a 6) (a 7) (n : Int) F ++ (shW kI (a 8) (a 9) dn DF ++ (trW kI (a 10) (a 11) (a 12) wn WX WY ++ (hiW kI (a 13) (a 14) (a 15) (p : Int) (f : Int) (ha : Int) N HS ++ (liW kI g ln lo to bo ls bt bb ra ++ (woW kI w wc od pl wo li si le ri fi wi fn sl ++ (taW kI (a 36) (a 37) (a 38) ce mo TK TP)))))))))) ++ (mdO b gp (ke : Int) (un : Int) (bu : Int) (ty : Int) pc gd rd po lm wd :: [(b 1, IA kI 801 G), (b 2, IA kI 4806 H), (b 3, IA kI 4806 A), (b 4, IA kI 24 MX), (b 5, IA kI 24 MY), (b 6, IA kC 100 TM), (b 7, IA kI 24 RX), (b 8, IA kI 24 RY), (b 9, IA kI 801 X), (b 10, IA kI 24 PX), (b 11, IA kI 24 PY), (b 12, IA kI 24 QX), (b 13, IA kI 24 QY), (b 14, IA kI 16 TO), (b 15, IA kI 16 BO), (b 16, IA kI 16 BE), (b 17, IA kI 16 RK), (b 18, IA kI 16 WO), (b 19, IA kI 16 OD), (b 20, IA kI 10201 IN)]))) : VV pV l eV room_1 sV mV #[.ref sc] bV tV cV 4 AV D Q 60 30600 268 [some (.ref sc), some (.ref (a 0)), some (.ref (b 0)), some (.int (iI (i : Int)))] [] ((padO a g w gap :: (trW kI (a 1) (a 2) (a 3) (nb : Int) BX BY ++ (txW kC (a 4) (a 5) (nt : Int) T ++ (shW kI (a 6) (a 7) (n : Int) F ++ (shW kI (a 8) (a 9) dn DF ++ (trW kI (a 10) (a 11) (a 12) wn WX WY ++ (hiW kI (a 13) (a 14) (a 15) (p : Int) (f : Int) (ha : Int) N HS ++ (liW kI g ln lo to bo ls bt bb ra ++ (woW kI w wc od pl wo li si le ri fi wi fn sl ++ (taW kI (a 36) (a 37) (a 38) ce mo TK TP)))))))))) ++ (mdO b gp (ke : Int) (un : Int) (bu : Int) (ty : Int) pc gd rd po lm wd :: [(b 1, IA kI 801 G), (b 2, IA kI 4806 H), (b 3, IA kI 4806 A), (b 4, IA kI 24 MX), (b 5, IA kI 24 MY), (b 6, IA kC 100 TM), (b 7, IA kI 24 RX), (b 8, IA kI 24 RY), (b 9, IA kI 801 X), (b 10, IA kI 24 PX), (b 11, IA kI 24 PY), (b 12, IA kI 24 QX), (b 13, IA kI 24 QY), (b 14, IA kI 16 TO), (b 15, IA kI 16 BO), (b 16, IA kI 16 BE), (b 17, IA kI 16 RK), (b 18, IA kI 16 WO), (b 19, IA kI 16 OD), (b 20, IA kI 10201 IN)])) := by
  obtain ⟨S0, past, fut⟩ := s
  obtain ⟨hB, hBm, ⟨hty, hnt, hTT⟩, hs0, h3, hH, hN, hR, hgp, hg⟩ := hI
  dsimp only at hs0 hN
  subst hs0
  have hL2 : L < 2147483648 := by omega
  have hn16 : n ≤ 16 := by have := h3.1.1; rwa [shC_len] at this
  have hS : OkS (shC n F) := h3.1
  have hbn : bu = nb := by have := congrArg List.length hBm; rwa [ptsOf_len, ptsOf_len] at this
  have hBk : OkB (ptsOf bu MX MY) := by rw [hBm]; exact hB
  have hT : ∀ i, i < nt → 0 ≤ T i ∧ T i < 65536 := fun i hi => (hTT i hi).2
  have hTm : ∀ i, i < ty → 0 ≤ TM i ∧ TM i < 65536 := fun i hi => by rw [(hTT i (by omega)).1]; exact hT i (by omega)
  have hgm : 0 ≤ gp ∧ gp ≤ 500 := by omega
  dsimp only [putW, List.set, Option.toList, List.cons_append, List.nil_append, padO, mdO, shW, trW, txW, hiW, liW, woW, taW] at kk ⊢
  refine V_aload_n XC 1 rfl dL_law_268 rfl ?_
  refine V_aload_n XC 0 rfl dL_law_269 rfl ?_
  refine V_iload_n XC 3 rfl dL_law_270 rfl ?_
  refine V_iconst XC dL_law_271 ?_
  refine V_iadd XC dL_law_272 ?_
  refine V_sld XC hXs hbl hbA hL2 (i + 1) (by omega) (by omega) dL_law_273 ?_
  refine V_aload_n XC 0 rfl dL_law_274 rfl ?_
  refine V_iload_n XC 3 rfl dL_law_275 rfl ?_
  refine V_iconst XC dL_law_276 ?_
  refine V_iadd XC dL_law_277 ?_
  refine V_sld XC hXs hbl hbA hL2 (i + 2) (by omega) (by omega) dL_law_278 ?_
  refine V_aload_n XC 0 rfl dL_law_279 rfl ?_
  refine V_iload_n XC 3 rfl dL_law_280 rfl ?_
  refine V_iconst XC dL_law_281 ?_
  refine V_iadd XC dL_law_282 ?_
  refine V_sld XC hXs hbl hbA hL2 (i + 3) (by omega) (by omega) dL_law_283 ?_
  refine V_callV (rest := _) (q0 := 0) XC (c_X7_rub l D kI kC _ _ _ _ _ _ _ _ _ _ _ _ _ _ _ _ _ _ h3 hH _ _ _ (IR_of _) (IR_of _) (IR_of _)) gL_law_X7_rub rfl kmX7_rub ⟨⟨Nat.le_of_ble_eq_true rfl, Nat.le_of_ble_eq_true rfl⟩, Nat.le_of_ble_eq_true rfl, Nat.le_of_ble_eq_true rfl⟩ ⟨rfl, rfl⟩ rfl rfl (Nat.le_of_ble_eq_true rfl) [0, 6, 7, 8, 9, 10, 11, 12, 13, 14, 15] rfl rfl (fun _ => rfl) rfl rfl dL_law_284 (kI_of (fun r284 u284 hq284 => ?_))
  obtain ⟨n284, F284, p284, f284, ha284, N284, HS284, wn284, WX284, WY284, dn284, DF284⟩ := u284
  dsimp only [putW, List.set, Option.toList, List.cons_append, List.nil_append, padO, mdO, shW, trW, txW, hiW, liW, woW, taW]
  try dsimp only at hq284
  obtain ⟨hr284, hs284, hH284, h3284⟩ := hq284
  refine V_aload_n XC 2 rfl dL_law_287 rfl ?_
  refine V_aload_n XC 0 rfl dL_law_288 rfl ?_
  refine V_iload_n XC 3 rfl dL_law_289 rfl ?_
  refine V_iconst XC dL_law_290 ?_
  refine V_iadd XC dL_law_291 ?_
  refine V_sld XC hXs hbl hbA hL2 (i + 1) (by omega) (by omega) dL_law_292 ?_
  refine V_aload_n XC 0 rfl dL_law_293 rfl ?_
  refine V_iload_n XC 3 rfl dL_law_294 rfl ?_
  refine V_iconst XC dL_law_295 ?_
  refine V_iadd XC dL_law_296 ?_
  refine V_sld XC hXs hbl hbA hL2 (i + 2) (by omega) (by omega) dL_law_297 ?_
  refine V_aload_n XC 0 rfl dL_law_298 rfl ?_
  refine V_iload_n XC 3 rfl dL_law_299 rfl ?_
  refine V_iconst XC dL_law_300 ?_
  refine V_iadd XC dL_law_301 ?_
  refine V_sld XC hXs hbl hbA hL2 (i + 3) (by omega) (by omega) dL_law_302 ?_
  refine V_callV (rest := _) (q0 := 39) XC (c_X8_rub l D kI kC _ _ _ _ _ _ _ _ _ _ _ _ _ _ _  _ _ _ _ h3 hN hR _ _ _ (IR_of _) (IR_of _) (IR_of _)) gL_law_X8_rub rfl kmX8_rub ⟨⟨Nat.le_of_ble_eq_true rfl, Nat.le_of_ble_eq_true rfl⟩, Nat.le_of_ble_eq_true rfl, Nat.le_of_ble_eq_true rfl⟩ ⟨rfl, rfl⟩ rfl rfl (Nat.le_of_ble_eq_true rfl) [39, 40, 41, 48] rfl rfl (fun _ => rfl) rfl rfl dL_law_303 (kI_of (fun r303 u303 hq303 => ?_))
  dsimp only [putW, List.set, Option.toList, List.cons_append, List.nil_append, padO, mdO, shW, trW, txW, hiW, liW, woW, taW]
  try dsimp only at hq303
  have h303 := hq303
  refine V_eqT XC 845 dL_law_306 (by decide) (hr284.trans h303.1.symm) ?_
  refine kk _ _ _ _ _ _ _ _ _ _ _ _ _ _ _ _ _ _ _ _ _ _ _ _ _ _ _ _ _ _ _ _ _ _ _ _ _ _ _ _ _ _ _ _ _ _ _ _ _ _ _ _ _ _ _ _ _ _ _ _ _ _ _ _ _ _ _ _ _ _ _ _ _ (actS (shC n F, past, fut) (rubS (shC n F) (xs (i + 1)).toInt (xs (i + 2)).toInt (xs (i + 3)).toInt).2) ?_
  exact ⟨hB, hBm, ⟨hty, hnt, hTT⟩, hs284, h3284, hH284, h303.2.1, h303.2.2.1, hgp, hg⟩

set_option maxRecDepth 100000 in
set_option maxHeartbeats 4000000 in
theorem law_c7 (l : Launch) {pV : Program} {eV : Env} {sV : State} {mV : MethodId} {bV : List Frame} {tV : Method} {cV : Code} {AV : Nat → Prop} {D : va_G} {kI kC : ClassId} {Q : State → Prop} {sc L : Nat} {xs : Nat → Int32} (XC : Cx pV room_1 sV mV #[.ref sc] tV cV cL_law 4 RL wsL_law AV D kI kC) (hXs : va_X sc L xs sV sV.heap) (hbl : sc < sV.heap.size) (hbA : ¬ AV sc) (hL : L ≤ 2048) (a g w b : Nat → Nat) (i : Nat) (hi : i + 4 ≤ L) (gap : Int) (nb : Nat) (BX : (Nat → Int)) (BY : (Nat → Int)) (nt : Nat) (T : (Nat → Int)) (n : Nat) (F : (Nat → Int)) (dn : Int) (DF : (Nat → Int)) (wn : Int) (WX : (Nat → Int)) (WY : (Nat → Int)) (p : Nat) (f : Nat) (ha : Nat) (N : (Nat → Int)) (HS : (Nat → Int)) (ln : Int) (lo : (Nat → Int)) (to : (Nat → Int)) (bo : (Nat → Int)) (ls : (Nat → Int)) (bt : (Nat → Int)) (bb : (Nat → Int)) (ra : (Nat → Int)) (wc : Int) (od : (Nat → Int)) (pl : (Nat → Int)) (wo : (Nat → Int)) (li : (Nat → Int)) (si : (Nat → Int)) (le : (Nat → Int)) (ri : (Nat → Int)) (fi : (Nat → Int)) (wi : (Nat → Int)) (fn : (Nat → Int)) (sl : (Nat → Int)) (ce : Int) (mo : Int) (TK : (Nat → Int)) (TP : (Nat → Int)) (gp : Int) (ke : Nat) (un : Nat) (bu : Nat) (ty : Nat) (pc : Int) (gd : Bool) (rd : Int) (po : Int) (lm : Int) (wd : Int) (G : (Nat → Int)) (H : (Nat → Int)) (A : (Nat → Int)) (MX : (Nat → Int)) (MY : (Nat → Int)) (TM : (Nat → Int)) (RX : (Nat → Int)) (RY : (Nat → Int)) (X : (Nat → Int)) (PX : (Nat → Int)) (PY : (Nat → Int)) (QX : (Nat → Int)) (QY : (Nat → Int)) (TO : (Nat → Int)) (BO : (Nat → Int)) (BE : (Nat → Int)) (RK : (Nat → Int)) (WO : (Nat → Int)) (OD : (Nat → Int)) (IN : (Nat → Int)) (s : St3) (hI : LInv nb BX BY nt T n F p f ha N HS gap gp ke un bu ty G H A MX MY TM s) (kk : ∀ (gap : Int) (nb : Nat) (BX : (Nat → Int)) (BY : (Nat → Int)) (nt : Nat) (T : (Nat → Int)) (n : Nat) (F : (Nat → Int)) (dn : Int) (DF : (Nat → Int)) (wn : Int) (WX : (Nat → Int)) (WY : (Nat → Int)) (p : Nat) (f : Nat) (ha : Nat) (N : (Nat → Int)) (HS : (Nat → Int)) (ln : Int) (lo : (Nat → Int)) (to : (Nat → Int)) (bo : (Nat → Int)) (ls : (Nat → Int)) (bt : (Nat → Int)) (bb : (Nat → Int)) (ra : (Nat → Int)) (wc : Int) (od : (Nat → Int)) (pl : (Nat → Int)) (wo : (Nat → Int)) (li : (Nat → Int)) (si : (Nat → Int)) (le : (Nat → Int)) (ri : (Nat → Int)) (fi : (Nat → Int)) (wi : (Nat → Int)) (fn : (Nat → Int)) (sl : (Nat → Int)) (ce : Int) (mo : Int) (TK : (Nat → Int)) (TP : (Nat → Int)) (gp : Int) (ke : Nat) (un : Nat) (bu : Nat) (ty : Nat) (pc : Int) (gd : Bool) (rd : Int) (po : Int) (lm : Int) (wd : Int) (G : (Nat → Int)) (H : (Nat → Int)) (A : (Nat → Int)) (MX : (Nat → Int)) (MY : (Nat → Int)) (TM : (Nat → Int)) (RX : (Nat → Int)) (RY : (Nat → Int)) (X : (Nat → Int)) (PX : (Nat → Int)) (PY : (Nat → Int)) (QX : (Nat → Int)) (QY : (Nat → Int)) (TO : (Nat → Int)) (BO : (Nat → Int)) (BE : (Nat → Int)) (RK : (Nat → Int)) (WO : (Nat → Int)) (OD : (Nat → Int)) (IN : (Nat → Int)) (s : St3), LInv nb BX BY nt T n F p f ha N HS gap gp ke un bu ty G H A MX MY TM s → VV pV l eV room_1 sV mV #[.ref sc] bV tV cV 4 AV D Q 60 30600 845 [some (.ref sc), some (.ref (a 0)), some (.ref (b 0)), some (.int (iI (i : Int)))] [] ((padO a g w gap :: (trW kI (a 1) (a 2) (a 3) (nb : Int) BX BY ++ (txW kC (a 4) (a 5) (nt : Int) T ++ (shW kI (a 6) (a 7) (n : Int) F ++ (shW kI (a 8) (a 9) dn DF ++ (trW kI (a 10) (a 11) (a 12) wn WX WY ++ (hiW kI (a 13) (a 14) (a 15) (p : Int) (f : Int) (ha : Int) N HS ++ (liW kI g ln lo to bo ls bt bb ra ++ (woW kI w wc od pl wo li si le ri fi wi fn sl ++ (taW kI (a 36) (a 37) (a 38) ce mo TK TP)))))))))) ++ (mdO b gp (ke : Int) (un : Int) (bu : Int) (ty : Int) pc gd rd po lm wd :: [(b 1, IA kI 801 G), (b 2, IA kI 4806 H), (b 3, IA kI 4806 A), (b 4, IA kI 24 MX), (b 5, IA kI 24 MY), (b 6, IA kC 100 TM), (b 7, IA kI 24 RX), (b 8, IA kI 24 RY), (b 9, IA kI 801 X), (b 10, IA kI 24 PX), (b 11, IA kI 24 PY), (b 12, IA kI 24 QX), (b 13, IA kI 24 QY), (b 14, IA kI 16 TO), (b 15, IA kI 16 BO), (b 16, IA kI 16 BE), (b 17, IA kI 16 RK), (b 18, IA kI 16 WO), (b 19, IA kI 16 OD), (b 20, IA kI 10201 IN)]))) : VV pV l eV room_1 sV mV #[.ref sc] bV tV cV 4 AV D Q 60 30600 311 [some (.ref sc), some (.ref (a 0)), some (.ref (b 0)), some (.int (iI (i : Int)))] [] ((padO a g w gap :: (trW kI (a 1) (a 2) (a 3) (nb : Int) BX BY ++ (txW kC (a 4) (a 5) (nt : Int) T ++ (shW kI (a 6) (a 7) (n : Int) F ++ (shW kI (a 8) (a 9) dn DF ++ (trW kI (a 10) (a 11) (a 12) wn WX WY ++ (hiW kI (a 13) (a 14) (a 15) (p : Int) (f : Int) (ha : Int) N HS ++ (liW kI g ln lo to bo ls bt bb ra ++ (woW kI w wc od pl wo li si le ri fi wi fn sl ++ (taW kI (a 36) (a 37) (a 38) ce mo TK TP)))))))))) ++ (mdO b gp (ke : Int) (un : Int) (bu : Int) (ty : Int) pc gd rd po lm wd :: [(b 1, IA kI 801 G), (b 2, IA kI 4806 H), (b 3, IA kI 4806 A), (b 4, IA kI 24 MX), (b 5, IA kI 24 MY), (b 6, IA kC 100 TM), (b 7, IA kI 24 RX), (b 8, IA kI 24 RY), (b 9, IA kI 801 X), (b 10, IA kI 24 PX), (b 11, IA kI 24 PY), (b 12, IA kI 24 QX), (b 13, IA kI 24 QY), (b 14, IA kI 16 TO), (b 15, IA kI 16 BO), (b 16, IA kI 16 BE), (b 17, IA kI 16 RK), (b 18, IA kI 16 WO), (b 19, IA kI 16 OD), (b 20, IA kI 10201 IN)])) := by
  obtain ⟨S0, past, fut⟩ := s
  obtain ⟨hB, hBm, ⟨hty, hnt, hTT⟩, hs0, h3, hH, hN, hR, hgp, hg⟩ := hI
  dsimp only at hs0 hN
  subst hs0
  have hL2 : L < 2147483648 := by omega
  have hn16 : n ≤ 16 := by have := h3.1.1; rwa [shC_len] at this
  have hS : OkS (shC n F) := h3.1
  have hbn : bu = nb := by have := congrArg List.length hBm; rwa [ptsOf_len, ptsOf_len] at this
  have hBk : OkB (ptsOf bu MX MY) := by rw [hBm]; exact hB
  have hT : ∀ i, i < nt → 0 ≤ T i ∧ T i < 65536 := fun i hi => (hTT i hi).2
  have hTm : ∀ i, i < ty → 0 ≤ TM i ∧ TM i < 65536 := fun i hi => by rw [(hTT i (by omega)).1]; exact hT i (by omega)
  have hgm : 0 ≤ gp ∧ gp ≤ 500 := by omega
  dsimp only [putW, List.set, Option.toList, List.cons_append, List.nil_append, padO, mdO, shW, trW, txW, hiW, liW, woW, taW] at kk ⊢
  refine V_aload_n XC 1 rfl dL_law_311 rfl ?_
  refine V_aload_n XC 0 rfl dL_law_312 rfl ?_
  refine V_iload_n XC 3 rfl dL_law_313 rfl ?_
  refine V_iconst XC dL_law_314 ?_
  refine V_iadd XC dL_law_315 ?_
  refine V_sld XC hXs hbl hbA hL2 (i + 1) (by omega) (by omega) dL_law_316 ?_
  refine V_aload_n XC 0 rfl dL_law_317 rfl ?_
  refine V_iload_n XC 3 rfl dL_law_318 rfl ?_
  refine V_iconst XC dL_law_319 ?_
  refine V_iadd XC dL_law_320 ?_
  refine V_sld XC hXs hbl hbA hL2 (i + 2) (by omega) (by omega) dL_law_321 ?_
  refine V_callV (rest := _) (q0 := 0) XC (c_X7_smooth l D kI kC _ _ _ _ _ _ _ _ _ _ _ _ _ _ _ _ h3 hH _ _ (IR_of _) (IR_of _)) gL_law_X7_smooth rfl kmX7_smooth ⟨⟨Nat.le_of_ble_eq_true rfl, Nat.le_of_ble_eq_true rfl⟩, Nat.le_of_ble_eq_true rfl, Nat.le_of_ble_eq_true rfl⟩ ⟨rfl, rfl⟩ rfl rfl (Nat.le_of_ble_eq_true rfl) [0, 6, 7, 10, 11, 12, 13, 14, 15] rfl rfl (fun _ => rfl) rfl rfl dL_law_322 (kI_of (fun r322 u322 hq322 => ?_))
  obtain ⟨n322, F322, p322, f322, ha322, N322, HS322, wn322, WX322, WY322⟩ := u322
  dsimp only [putW, List.set, Option.toList, List.cons_append, List.nil_append, padO, mdO, shW, trW, txW, hiW, liW, woW, taW]
  try dsimp only at hq322
  obtain ⟨hr322, hs322, hH322, h3322⟩ := hq322
  refine V_aload_n XC 2 rfl dL_law_325 rfl ?_
  refine V_aload_n XC 0 rfl dL_law_326 rfl ?_
  refine V_iload_n XC 3 rfl dL_law_327 rfl ?_
  refine V_iconst XC dL_law_328 ?_
  refine V_iadd XC dL_law_329 ?_
  refine V_sld XC hXs hbl hbA hL2 (i + 1) (by omega) (by omega) dL_law_330 ?_
  refine V_aload_n XC 0 rfl dL_law_331 rfl ?_
  refine V_iload_n XC 3 rfl dL_law_332 rfl ?_
  refine V_iconst XC dL_law_333 ?_
  refine V_iadd XC dL_law_334 ?_
  refine V_sld XC hXs hbl hbA hL2 (i + 2) (by omega) (by omega) dL_law_335 ?_
  refine V_callV (rest := _) (q0 := 39) XC (c_X8_smooth l D kI kC _ _ _ _ _ _ _ _ _ _ _ _ _ _ _ _ _ _ _  _ _ _ _ h3 hN hR _ _ (IR_of _) (IR_of _)) gL_law_X8_smooth rfl kmX8_smooth ⟨⟨Nat.le_of_ble_eq_true rfl, Nat.le_of_ble_eq_true rfl⟩, Nat.le_of_ble_eq_true rfl, Nat.le_of_ble_eq_true rfl⟩ ⟨rfl, rfl⟩ rfl rfl (Nat.le_of_ble_eq_true rfl) [39, 40, 41, 48, 49, 50, 51, 52] rfl rfl (fun _ => rfl) rfl rfl dL_law_336 (kI_of (fun r336 u336 hq336 => ?_))
  dsimp only [putW, List.set, Option.toList, List.cons_append, List.nil_append, padO, mdO, shW, trW, txW, hiW, liW, woW, taW]
  try dsimp only at hq336
  have h336 := hq336
  refine V_eqT XC 845 dL_law_339 (by decide) (hr322.trans h336.1.symm) ?_
  refine kk _ _ _ _ _ _ _ _ _ _ _ _ _ _ _ _ _ _ _ _ _ _ _ _ _ _ _ _ _ _ _ _ _ _ _ _ _ _ _ _ _ _ _ _ _ _ _ _ _ _ _ _ _ _ _ _ _ _ _ _ _ _ _ _ _ _ _ _ _ _ _ _ _ (actS (shC n F, past, fut) (smoothS (shC n F) (xs (i + 1)).toInt (xs (i + 2)).toInt).2) ?_
  exact ⟨hB, hBm, ⟨hty, hnt, hTT⟩, hs322, h3322, hH322, h336.2.1, h336.2.2.1, hgp, hg⟩

set_option maxRecDepth 100000 in
set_option maxHeartbeats 4000000 in
theorem law_c8 (l : Launch) {pV : Program} {eV : Env} {sV : State} {mV : MethodId} {bV : List Frame} {tV : Method} {cV : Code} {AV : Nat → Prop} {D : va_G} {kI kC : ClassId} {Q : State → Prop} {sc L : Nat} {xs : Nat → Int32} (XC : Cx pV room_1 sV mV #[.ref sc] tV cV cL_law 4 RL wsL_law AV D kI kC) (hXs : va_X sc L xs sV sV.heap) (hbl : sc < sV.heap.size) (hbA : ¬ AV sc) (hL : L ≤ 2048) (a g w b : Nat → Nat) (i : Nat) (hi : i + 4 ≤ L) (gap : Int) (nb : Nat) (BX : (Nat → Int)) (BY : (Nat → Int)) (nt : Nat) (T : (Nat → Int)) (n : Nat) (F : (Nat → Int)) (dn : Int) (DF : (Nat → Int)) (wn : Int) (WX : (Nat → Int)) (WY : (Nat → Int)) (p : Nat) (f : Nat) (ha : Nat) (N : (Nat → Int)) (HS : (Nat → Int)) (ln : Int) (lo : (Nat → Int)) (to : (Nat → Int)) (bo : (Nat → Int)) (ls : (Nat → Int)) (bt : (Nat → Int)) (bb : (Nat → Int)) (ra : (Nat → Int)) (wc : Int) (od : (Nat → Int)) (pl : (Nat → Int)) (wo : (Nat → Int)) (li : (Nat → Int)) (si : (Nat → Int)) (le : (Nat → Int)) (ri : (Nat → Int)) (fi : (Nat → Int)) (wi : (Nat → Int)) (fn : (Nat → Int)) (sl : (Nat → Int)) (ce : Int) (mo : Int) (TK : (Nat → Int)) (TP : (Nat → Int)) (gp : Int) (ke : Nat) (un : Nat) (bu : Nat) (ty : Nat) (pc : Int) (gd : Bool) (rd : Int) (po : Int) (lm : Int) (wd : Int) (G : (Nat → Int)) (H : (Nat → Int)) (A : (Nat → Int)) (MX : (Nat → Int)) (MY : (Nat → Int)) (TM : (Nat → Int)) (RX : (Nat → Int)) (RY : (Nat → Int)) (X : (Nat → Int)) (PX : (Nat → Int)) (PY : (Nat → Int)) (QX : (Nat → Int)) (QY : (Nat → Int)) (TO : (Nat → Int)) (BO : (Nat → Int)) (BE : (Nat → Int)) (RK : (Nat → Int)) (WO : (Nat → Int)) (OD : (Nat → Int)) (IN : (Nat → Int)) (s : St3) (hI : LInv nb BX BY nt T n F p f ha N HS gap gp ke un bu ty G H A MX MY TM s) (kk : ∀ (gap : Int) (nb : Nat) (BX : (Nat → Int)) (BY : (Nat → Int)) (nt : Nat) (T : (Nat → Int)) (n : Nat) (F : (Nat → Int)) (dn : Int) (DF : (Nat → Int)) (wn : Int) (WX : (Nat → Int)) (WY : (Nat → Int)) (p : Nat) (f : Nat) (ha : Nat) (N : (Nat → Int)) (HS : (Nat → Int)) (ln : Int) (lo : (Nat → Int)) (to : (Nat → Int)) (bo : (Nat → Int)) (ls : (Nat → Int)) (bt : (Nat → Int)) (bb : (Nat → Int)) (ra : (Nat → Int)) (wc : Int) (od : (Nat → Int)) (pl : (Nat → Int)) (wo : (Nat → Int)) (li : (Nat → Int)) (si : (Nat → Int)) (le : (Nat → Int)) (ri : (Nat → Int)) (fi : (Nat → Int)) (wi : (Nat → Int)) (fn : (Nat → Int)) (sl : (Nat → Int)) (ce : Int) (mo : Int) (TK : (Nat → Int)) (TP : (Nat → Int)) (gp : Int) (ke : Nat) (un : Nat) (bu : Nat) (ty : Nat) (pc : Int) (gd : Bool) (rd : Int) (po : Int) (lm : Int) (wd : Int) (G : (Nat → Int)) (H : (Nat → Int)) (A : (Nat → Int)) (MX : (Nat → Int)) (MY : (Nat → Int)) (TM : (Nat → Int)) (RX : (Nat → Int)) (RY : (Nat → Int)) (X : (Nat → Int)) (PX : (Nat → Int)) (PY : (Nat → Int)) (QX : (Nat → Int)) (QY : (Nat → Int)) (TO : (Nat → Int)) (BO : (Nat → Int)) (BE : (Nat → Int)) (RK : (Nat → Int)) (WO : (Nat → Int)) (OD : (Nat → Int)) (IN : (Nat → Int)) (s : St3), LInv nb BX BY nt T n F p f ha N HS gap gp ke un bu ty G H A MX MY TM s → VV pV l eV room_1 sV mV #[.ref sc] bV tV cV 4 AV D Q 60 30600 845 [some (.ref sc), some (.ref (a 0)), some (.ref (b 0)), some (.int (iI (i : Int)))] [] ((padO a g w gap :: (trW kI (a 1) (a 2) (a 3) (nb : Int) BX BY ++ (txW kC (a 4) (a 5) (nt : Int) T ++ (shW kI (a 6) (a 7) (n : Int) F ++ (shW kI (a 8) (a 9) dn DF ++ (trW kI (a 10) (a 11) (a 12) wn WX WY ++ (hiW kI (a 13) (a 14) (a 15) (p : Int) (f : Int) (ha : Int) N HS ++ (liW kI g ln lo to bo ls bt bb ra ++ (woW kI w wc od pl wo li si le ri fi wi fn sl ++ (taW kI (a 36) (a 37) (a 38) ce mo TK TP)))))))))) ++ (mdO b gp (ke : Int) (un : Int) (bu : Int) (ty : Int) pc gd rd po lm wd :: [(b 1, IA kI 801 G), (b 2, IA kI 4806 H), (b 3, IA kI 4806 A), (b 4, IA kI 24 MX), (b 5, IA kI 24 MY), (b 6, IA kC 100 TM), (b 7, IA kI 24 RX), (b 8, IA kI 24 RY), (b 9, IA kI 801 X), (b 10, IA kI 24 PX), (b 11, IA kI 24 PY), (b 12, IA kI 24 QX), (b 13, IA kI 24 QY), (b 14, IA kI 16 TO), (b 15, IA kI 16 BO), (b 16, IA kI 16 BE), (b 17, IA kI 16 RK), (b 18, IA kI 16 WO), (b 19, IA kI 16 OD), (b 20, IA kI 10201 IN)]))) : VV pV l eV room_1 sV mV #[.ref sc] bV tV cV 4 AV D Q 60 30600 344 [some (.ref sc), some (.ref (a 0)), some (.ref (b 0)), some (.int (iI (i : Int)))] [] ((padO a g w gap :: (trW kI (a 1) (a 2) (a 3) (nb : Int) BX BY ++ (txW kC (a 4) (a 5) (nt : Int) T ++ (shW kI (a 6) (a 7) (n : Int) F ++ (shW kI (a 8) (a 9) dn DF ++ (trW kI (a 10) (a 11) (a 12) wn WX WY ++ (hiW kI (a 13) (a 14) (a 15) (p : Int) (f : Int) (ha : Int) N HS ++ (liW kI g ln lo to bo ls bt bb ra ++ (woW kI w wc od pl wo li si le ri fi wi fn sl ++ (taW kI (a 36) (a 37) (a 38) ce mo TK TP)))))))))) ++ (mdO b gp (ke : Int) (un : Int) (bu : Int) (ty : Int) pc gd rd po lm wd :: [(b 1, IA kI 801 G), (b 2, IA kI 4806 H), (b 3, IA kI 4806 A), (b 4, IA kI 24 MX), (b 5, IA kI 24 MY), (b 6, IA kC 100 TM), (b 7, IA kI 24 RX), (b 8, IA kI 24 RY), (b 9, IA kI 801 X), (b 10, IA kI 24 PX), (b 11, IA kI 24 PY), (b 12, IA kI 24 QX), (b 13, IA kI 24 QY), (b 14, IA kI 16 TO), (b 15, IA kI 16 BO), (b 16, IA kI 16 BE), (b 17, IA kI 16 RK), (b 18, IA kI 16 WO), (b 19, IA kI 16 OD), (b 20, IA kI 10201 IN)])) := by
  obtain ⟨S0, past, fut⟩ := s
  obtain ⟨hB, hBm, ⟨hty, hnt, hTT⟩, hs0, h3, hH, hN, hR, hgp, hg⟩ := hI
  dsimp only at hs0 hN
  subst hs0
  have hL2 : L < 2147483648 := by omega
  have hn16 : n ≤ 16 := by have := h3.1.1; rwa [shC_len] at this
  have hS : OkS (shC n F) := h3.1
  have hbn : bu = nb := by have := congrArg List.length hBm; rwa [ptsOf_len, ptsOf_len] at this
  have hBk : OkB (ptsOf bu MX MY) := by rw [hBm]; exact hB
  have hT : ∀ i, i < nt → 0 ≤ T i ∧ T i < 65536 := fun i hi => (hTT i hi).2
  have hTm : ∀ i, i < ty → 0 ≤ TM i ∧ TM i < 65536 := fun i hi => by rw [(hTT i (by omega)).1]; exact hT i (by omega)
  have hgm : 0 ≤ gp ∧ gp ≤ 500 := by omega
  dsimp only [putW, List.set, Option.toList, List.cons_append, List.nil_append, padO, mdO, shW, trW, txW, hiW, liW, woW, taW] at kk ⊢
  refine V_aload_n XC 1 rfl dL_law_344 rfl ?_
  refine V_aload_n XC 0 rfl dL_law_345 rfl ?_
  refine V_iload_n XC 3 rfl dL_law_346 rfl ?_
  refine V_iconst XC dL_law_347 ?_
  refine V_iadd XC dL_law_348 ?_
  refine V_sld XC hXs hbl hbA hL2 (i + 1) (by omega) (by omega) dL_law_349 ?_
  refine V_aload_n XC 0 rfl dL_law_350 rfl ?_
  refine V_iload_n XC 3 rfl dL_law_351 rfl ?_
  refine V_iconst XC dL_law_352 ?_
  refine V_iadd XC dL_law_353 ?_
  refine V_sld XC hXs hbl hbA hL2 (i + 2) (by omega) (by omega) dL_law_354 ?_
  refine V_callV (rest := _) (q0 := 0) XC (c_X7_thin l D kI kC _ _ _ _ _ _ _ _ _ _ _ _ _ _ _ _ h3 hH _ _ (IR_of _) (IR_of _)) gL_law_X7_thin rfl kmX7_thin ⟨⟨Nat.le_of_ble_eq_true rfl, Nat.le_of_ble_eq_true rfl⟩, Nat.le_of_ble_eq_true rfl, Nat.le_of_ble_eq_true rfl⟩ ⟨rfl, rfl⟩ rfl rfl (Nat.le_of_ble_eq_true rfl) [0, 6, 7, 10, 11, 12, 13, 14, 15] rfl rfl (fun _ => rfl) rfl rfl dL_law_355 (kI_of (fun r355 u355 hq355 => ?_))
  obtain ⟨n355, F355, p355, f355, ha355, N355, HS355, wn355, WX355, WY355⟩ := u355
  dsimp only [putW, List.set, Option.toList, List.cons_append, List.nil_append, padO, mdO, shW, trW, txW, hiW, liW, woW, taW]
  try dsimp only at hq355
  obtain ⟨hr355, hs355, hH355, h3355⟩ := hq355
  refine V_aload_n XC 2 rfl dL_law_358 rfl ?_
  refine V_aload_n XC 0 rfl dL_law_359 rfl ?_
  refine V_iload_n XC 3 rfl dL_law_360 rfl ?_
  refine V_iconst XC dL_law_361 ?_
  refine V_iadd XC dL_law_362 ?_
  refine V_sld XC hXs hbl hbA hL2 (i + 1) (by omega) (by omega) dL_law_363 ?_
  refine V_aload_n XC 0 rfl dL_law_364 rfl ?_
  refine V_iload_n XC 3 rfl dL_law_365 rfl ?_
  refine V_iconst XC dL_law_366 ?_
  refine V_iadd XC dL_law_367 ?_
  refine V_sld XC hXs hbl hbA hL2 (i + 2) (by omega) (by omega) dL_law_368 ?_
  refine V_callV (rest := _) (q0 := 39) XC (c_X8_thin l D kI kC _ _ _ _ _ _ _ _ _ _ _ _ _ _ _ _ _  _ _ _ _ h3 hN hR _ _ (IR_of _) (IR_of _)) gL_law_X8_thin rfl kmX8_thin ⟨⟨Nat.le_of_ble_eq_true rfl, Nat.le_of_ble_eq_true rfl⟩, Nat.le_of_ble_eq_true rfl, Nat.le_of_ble_eq_true rfl⟩ ⟨rfl, rfl⟩ rfl rfl (Nat.le_of_ble_eq_true rfl) [39, 40, 41, 48, 49, 50] rfl rfl (fun _ => rfl) rfl rfl dL_law_369 (kI_of (fun r369 u369 hq369 => ?_))
  dsimp only [putW, List.set, Option.toList, List.cons_append, List.nil_append, padO, mdO, shW, trW, txW, hiW, liW, woW, taW]
  try dsimp only at hq369
  have h369 := hq369
  refine V_eqT XC 845 dL_law_372 (by decide) (hr355.trans h369.1.symm) ?_
  refine kk _ _ _ _ _ _ _ _ _ _ _ _ _ _ _ _ _ _ _ _ _ _ _ _ _ _ _ _ _ _ _ _ _ _ _ _ _ _ _ _ _ _ _ _ _ _ _ _ _ _ _ _ _ _ _ _ _ _ _ _ _ _ _ _ _ _ _ _ _ _ _ _ _ (actS (shC n F, past, fut) (thinS (shC n F) (xs (i + 1)).toInt (xs (i + 2)).toInt).2) ?_
  exact ⟨hB, hBm, ⟨hty, hnt, hTT⟩, hs355, h3355, hH355, h369.2.1, h369.2.2.1, hgp, hg⟩

set_option maxRecDepth 100000 in
set_option maxHeartbeats 4000000 in
theorem law_c9 (l : Launch) {pV : Program} {eV : Env} {sV : State} {mV : MethodId} {bV : List Frame} {tV : Method} {cV : Code} {AV : Nat → Prop} {D : va_G} {kI kC : ClassId} {Q : State → Prop} {sc L : Nat} {xs : Nat → Int32} (XC : Cx pV room_1 sV mV #[.ref sc] tV cV cL_law 4 RL wsL_law AV D kI kC) (hXs : va_X sc L xs sV sV.heap) (hbl : sc < sV.heap.size) (hbA : ¬ AV sc) (hL : L ≤ 2048) (a g w b : Nat → Nat) (i : Nat) (hi : i + 4 ≤ L) (gap : Int) (nb : Nat) (BX : (Nat → Int)) (BY : (Nat → Int)) (nt : Nat) (T : (Nat → Int)) (n : Nat) (F : (Nat → Int)) (dn : Int) (DF : (Nat → Int)) (wn : Int) (WX : (Nat → Int)) (WY : (Nat → Int)) (p : Nat) (f : Nat) (ha : Nat) (N : (Nat → Int)) (HS : (Nat → Int)) (ln : Int) (lo : (Nat → Int)) (to : (Nat → Int)) (bo : (Nat → Int)) (ls : (Nat → Int)) (bt : (Nat → Int)) (bb : (Nat → Int)) (ra : (Nat → Int)) (wc : Int) (od : (Nat → Int)) (pl : (Nat → Int)) (wo : (Nat → Int)) (li : (Nat → Int)) (si : (Nat → Int)) (le : (Nat → Int)) (ri : (Nat → Int)) (fi : (Nat → Int)) (wi : (Nat → Int)) (fn : (Nat → Int)) (sl : (Nat → Int)) (ce : Int) (mo : Int) (TK : (Nat → Int)) (TP : (Nat → Int)) (gp : Int) (ke : Nat) (un : Nat) (bu : Nat) (ty : Nat) (pc : Int) (gd : Bool) (rd : Int) (po : Int) (lm : Int) (wd : Int) (G : (Nat → Int)) (H : (Nat → Int)) (A : (Nat → Int)) (MX : (Nat → Int)) (MY : (Nat → Int)) (TM : (Nat → Int)) (RX : (Nat → Int)) (RY : (Nat → Int)) (X : (Nat → Int)) (PX : (Nat → Int)) (PY : (Nat → Int)) (QX : (Nat → Int)) (QY : (Nat → Int)) (TO : (Nat → Int)) (BO : (Nat → Int)) (BE : (Nat → Int)) (RK : (Nat → Int)) (WO : (Nat → Int)) (OD : (Nat → Int)) (IN : (Nat → Int)) (s : St3) (hI : LInv nb BX BY nt T n F p f ha N HS gap gp ke un bu ty G H A MX MY TM s) (kk : ∀ (gap : Int) (nb : Nat) (BX : (Nat → Int)) (BY : (Nat → Int)) (nt : Nat) (T : (Nat → Int)) (n : Nat) (F : (Nat → Int)) (dn : Int) (DF : (Nat → Int)) (wn : Int) (WX : (Nat → Int)) (WY : (Nat → Int)) (p : Nat) (f : Nat) (ha : Nat) (N : (Nat → Int)) (HS : (Nat → Int)) (ln : Int) (lo : (Nat → Int)) (to : (Nat → Int)) (bo : (Nat → Int)) (ls : (Nat → Int)) (bt : (Nat → Int)) (bb : (Nat → Int)) (ra : (Nat → Int)) (wc : Int) (od : (Nat → Int)) (pl : (Nat → Int)) (wo : (Nat → Int)) (li : (Nat → Int)) (si : (Nat → Int)) (le : (Nat → Int)) (ri : (Nat → Int)) (fi : (Nat → Int)) (wi : (Nat → Int)) (fn : (Nat → Int)) (sl : (Nat → Int)) (ce : Int) (mo : Int) (TK : (Nat → Int)) (TP : (Nat → Int)) (gp : Int) (ke : Nat) (un : Nat) (bu : Nat) (ty : Nat) (pc : Int) (gd : Bool) (rd : Int) (po : Int) (lm : Int) (wd : Int) (G : (Nat → Int)) (H : (Nat → Int)) (A : (Nat → Int)) (MX : (Nat → Int)) (MY : (Nat → Int)) (TM : (Nat → Int)) (RX : (Nat → Int)) (RY : (Nat → Int)) (X : (Nat → Int)) (PX : (Nat → Int)) (PY : (Nat → Int)) (QX : (Nat → Int)) (QY : (Nat → Int)) (TO : (Nat → Int)) (BO : (Nat → Int)) (BE : (Nat → Int)) (RK : (Nat → Int)) (WO : (Nat → Int)) (OD : (Nat → Int)) (IN : (Nat → Int)) (s : St3), LInv nb BX BY nt T n F p f ha N HS gap gp ke un bu ty G H A MX MY TM s → VV pV l eV room_1 sV mV #[.ref sc] bV tV cV 4 AV D Q 60 30600 845 [some (.ref sc), some (.ref (a 0)), some (.ref (b 0)), some (.int (iI (i : Int)))] [] ((padO a g w gap :: (trW kI (a 1) (a 2) (a 3) (nb : Int) BX BY ++ (txW kC (a 4) (a 5) (nt : Int) T ++ (shW kI (a 6) (a 7) (n : Int) F ++ (shW kI (a 8) (a 9) dn DF ++ (trW kI (a 10) (a 11) (a 12) wn WX WY ++ (hiW kI (a 13) (a 14) (a 15) (p : Int) (f : Int) (ha : Int) N HS ++ (liW kI g ln lo to bo ls bt bb ra ++ (woW kI w wc od pl wo li si le ri fi wi fn sl ++ (taW kI (a 36) (a 37) (a 38) ce mo TK TP)))))))))) ++ (mdO b gp (ke : Int) (un : Int) (bu : Int) (ty : Int) pc gd rd po lm wd :: [(b 1, IA kI 801 G), (b 2, IA kI 4806 H), (b 3, IA kI 4806 A), (b 4, IA kI 24 MX), (b 5, IA kI 24 MY), (b 6, IA kC 100 TM), (b 7, IA kI 24 RX), (b 8, IA kI 24 RY), (b 9, IA kI 801 X), (b 10, IA kI 24 PX), (b 11, IA kI 24 PY), (b 12, IA kI 24 QX), (b 13, IA kI 24 QY), (b 14, IA kI 16 TO), (b 15, IA kI 16 BO), (b 16, IA kI 16 BE), (b 17, IA kI 16 RK), (b 18, IA kI 16 WO), (b 19, IA kI 16 OD), (b 20, IA kI 10201 IN)]))) : VV pV l eV room_1 sV mV #[.ref sc] bV tV cV 4 AV D Q 60 30600 377 [some (.ref sc), some (.ref (a 0)), some (.ref (b 0)), some (.int (iI (i : Int)))] [] ((padO a g w gap :: (trW kI (a 1) (a 2) (a 3) (nb : Int) BX BY ++ (txW kC (a 4) (a 5) (nt : Int) T ++ (shW kI (a 6) (a 7) (n : Int) F ++ (shW kI (a 8) (a 9) dn DF ++ (trW kI (a 10) (a 11) (a 12) wn WX WY ++ (hiW kI (a 13) (a 14) (a 15) (p : Int) (f : Int) (ha : Int) N HS ++ (liW kI g ln lo to bo ls bt bb ra ++ (woW kI w wc od pl wo li si le ri fi wi fn sl ++ (taW kI (a 36) (a 37) (a 38) ce mo TK TP)))))))))) ++ (mdO b gp (ke : Int) (un : Int) (bu : Int) (ty : Int) pc gd rd po lm wd :: [(b 1, IA kI 801 G), (b 2, IA kI 4806 H), (b 3, IA kI 4806 A), (b 4, IA kI 24 MX), (b 5, IA kI 24 MY), (b 6, IA kC 100 TM), (b 7, IA kI 24 RX), (b 8, IA kI 24 RY), (b 9, IA kI 801 X), (b 10, IA kI 24 PX), (b 11, IA kI 24 PY), (b 12, IA kI 24 QX), (b 13, IA kI 24 QY), (b 14, IA kI 16 TO), (b 15, IA kI 16 BO), (b 16, IA kI 16 BE), (b 17, IA kI 16 RK), (b 18, IA kI 16 WO), (b 19, IA kI 16 OD), (b 20, IA kI 10201 IN)])) := by
  obtain ⟨S0, past, fut⟩ := s
  obtain ⟨hB, hBm, ⟨hty, hnt, hTT⟩, hs0, h3, hH, hN, hR, hgp, hg⟩ := hI
  dsimp only at hs0 hN
  subst hs0
  have hL2 : L < 2147483648 := by omega
  have hn16 : n ≤ 16 := by have := h3.1.1; rwa [shC_len] at this
  have hS : OkS (shC n F) := h3.1
  have hbn : bu = nb := by have := congrArg List.length hBm; rwa [ptsOf_len, ptsOf_len] at this
  have hBk : OkB (ptsOf bu MX MY) := by rw [hBm]; exact hB
  have hT : ∀ i, i < nt → 0 ≤ T i ∧ T i < 65536 := fun i hi => (hTT i hi).2
  have hTm : ∀ i, i < ty → 0 ≤ TM i ∧ TM i < 65536 := fun i hi => by rw [(hTT i (by omega)).1]; exact hT i (by omega)
  have hgm : 0 ≤ gp ∧ gp ≤ 500 := by omega
  dsimp only [putW, List.set, Option.toList, List.cons_append, List.nil_append, padO, mdO, shW, trW, txW, hiW, liW, woW, taW] at kk ⊢
  refine V_aload_n XC 1 rfl dL_law_377 rfl ?_
  refine V_aload_n XC 0 rfl dL_law_378 rfl ?_
  refine V_iload_n XC 3 rfl dL_law_379 rfl ?_
  refine V_iconst XC dL_law_380 ?_
  refine V_iadd XC dL_law_381 ?_
  refine V_sld XC hXs hbl hbA hL2 (i + 1) (by omega) (by omega) dL_law_382 ?_
  refine V_aload_n XC 0 rfl dL_law_383 rfl ?_
  refine V_iload_n XC 3 rfl dL_law_384 rfl ?_
  refine V_iconst XC dL_law_385 ?_
  refine V_iadd XC dL_law_386 ?_
  refine V_sld XC hXs hbl hbA hL2 (i + 2) (by omega) (by omega) dL_law_387 ?_
  refine V_callV (rest := _) (q0 := 0) XC (c_X7_join l D kI kC _ _ _ _ _ _ _ _ _ _ _ _ _ _ _ _ h3 hH _ _ (IR_of _) (IR_of _)) gL_law_X7_join rfl kmX7_join ⟨⟨Nat.le_of_ble_eq_true rfl, Nat.le_of_ble_eq_true rfl⟩, Nat.le_of_ble_eq_true rfl, Nat.le_of_ble_eq_true rfl⟩ ⟨rfl, rfl⟩ rfl rfl (Nat.le_of_ble_eq_true rfl) [0, 6, 7, 10, 11, 12, 13, 14, 15] rfl rfl (fun _ => rfl) rfl rfl dL_law_388 (kI_of (fun r388 u388 hq388 => ?_))
  obtain ⟨n388, F388, p388, f388, ha388, N388, HS388, wn388, WX388, WY388⟩ := u388
  dsimp only [putW, List.set, Option.toList, List.cons_append, List.nil_append, padO, mdO, shW, trW, txW, hiW, liW, woW, taW]
  try dsimp only at hq388
  obtain ⟨hr388, hs388, hH388, h3388⟩ := hq388
  refine V_aload_n XC 2 rfl dL_law_391 rfl ?_
  refine V_aload_n XC 0 rfl dL_law_392 rfl ?_
  refine V_iload_n XC 3 rfl dL_law_393 rfl ?_
  refine V_iconst XC dL_law_394 ?_
  refine V_iadd XC dL_law_395 ?_
  refine V_sld XC hXs hbl hbA hL2 (i + 1) (by omega) (by omega) dL_law_396 ?_
  refine V_aload_n XC 0 rfl dL_law_397 rfl ?_
  refine V_iload_n XC 3 rfl dL_law_398 rfl ?_
  refine V_iconst XC dL_law_399 ?_
  refine V_iadd XC dL_law_400 ?_
  refine V_sld XC hXs hbl hbA hL2 (i + 2) (by omega) (by omega) dL_law_401 ?_
  refine V_callV (rest := _) (q0 := 39) XC (c_X8_join l D kI kC _ _ _ _ _ _ _ _ _ _ _ _ _ _ _  _ _ _ _ h3 hN hR _ _ (IR_of _) (IR_of _)) gL_law_X8_join rfl kmX8_join ⟨⟨Nat.le_of_ble_eq_true rfl, Nat.le_of_ble_eq_true rfl⟩, Nat.le_of_ble_eq_true rfl, Nat.le_of_ble_eq_true rfl⟩ ⟨rfl, rfl⟩ rfl rfl (Nat.le_of_ble_eq_true rfl) [39, 40, 41, 48] rfl rfl (fun _ => rfl) rfl rfl dL_law_402 (kI_of (fun r402 u402 hq402 => ?_))
  dsimp only [putW, List.set, Option.toList, List.cons_append, List.nil_append, padO, mdO, shW, trW, txW, hiW, liW, woW, taW]
  try dsimp only at hq402
  have h402 := hq402
  refine V_eqT XC 845 dL_law_405 (by decide) (hr388.trans h402.1.symm) ?_
  refine kk _ _ _ _ _ _ _ _ _ _ _ _ _ _ _ _ _ _ _ _ _ _ _ _ _ _ _ _ _ _ _ _ _ _ _ _ _ _ _ _ _ _ _ _ _ _ _ _ _ _ _ _ _ _ _ _ _ _ _ _ _ _ _ _ _ _ _ _ _ _ _ _ _ (actS (shC n F, past, fut) (joinS (shC n F) (xs (i + 1)).toInt (xs (i + 2)).toInt).2) ?_
  exact ⟨hB, hBm, ⟨hty, hnt, hTT⟩, hs388, h3388, hH388, h402.2.1, h402.2.2.1, hgp, hg⟩

set_option maxRecDepth 100000 in
set_option maxHeartbeats 4000000 in
theorem law_c10 (l : Launch) {pV : Program} {eV : Env} {sV : State} {mV : MethodId} {bV : List Frame} {tV : Method} {cV : Code} {AV : Nat → Prop} {D : va_G} {kI kC : ClassId} {Q : State → Prop} {sc L : Nat} {xs : Nat → Int32} (XC : Cx pV room_1 sV mV #[.ref sc] tV cV cL_law 4 RL wsL_law AV D kI kC) (hXs : va_X sc L xs sV sV.heap) (hbl : sc < sV.heap.size) (hbA : ¬ AV sc) (hL : L ≤ 2048) (a g w b : Nat → Nat) (i : Nat) (hi : i + 4 ≤ L) (gap : Int) (nb : Nat) (BX : (Nat → Int)) (BY : (Nat → Int)) (nt : Nat) (T : (Nat → Int)) (n : Nat) (F : (Nat → Int)) (dn : Int) (DF : (Nat → Int)) (wn : Int) (WX : (Nat → Int)) (WY : (Nat → Int)) (p : Nat) (f : Nat) (ha : Nat) (N : (Nat → Int)) (HS : (Nat → Int)) (ln : Int) (lo : (Nat → Int)) (to : (Nat → Int)) (bo : (Nat → Int)) (ls : (Nat → Int)) (bt : (Nat → Int)) (bb : (Nat → Int)) (ra : (Nat → Int)) (wc : Int) (od : (Nat → Int)) (pl : (Nat → Int)) (wo : (Nat → Int)) (li : (Nat → Int)) (si : (Nat → Int)) (le : (Nat → Int)) (ri : (Nat → Int)) (fi : (Nat → Int)) (wi : (Nat → Int)) (fn : (Nat → Int)) (sl : (Nat → Int)) (ce : Int) (mo : Int) (TK : (Nat → Int)) (TP : (Nat → Int)) (gp : Int) (ke : Nat) (un : Nat) (bu : Nat) (ty : Nat) (pc : Int) (gd : Bool) (rd : Int) (po : Int) (lm : Int) (wd : Int) (G : (Nat → Int)) (H : (Nat → Int)) (A : (Nat → Int)) (MX : (Nat → Int)) (MY : (Nat → Int)) (TM : (Nat → Int)) (RX : (Nat → Int)) (RY : (Nat → Int)) (X : (Nat → Int)) (PX : (Nat → Int)) (PY : (Nat → Int)) (QX : (Nat → Int)) (QY : (Nat → Int)) (TO : (Nat → Int)) (BO : (Nat → Int)) (BE : (Nat → Int)) (RK : (Nat → Int)) (WO : (Nat → Int)) (OD : (Nat → Int)) (IN : (Nat → Int)) (s : St3) (hI : LInv nb BX BY nt T n F p f ha N HS gap gp ke un bu ty G H A MX MY TM s) (kk : ∀ (gap : Int) (nb : Nat) (BX : (Nat → Int)) (BY : (Nat → Int)) (nt : Nat) (T : (Nat → Int)) (n : Nat) (F : (Nat → Int)) (dn : Int) (DF : (Nat → Int)) (wn : Int) (WX : (Nat → Int)) (WY : (Nat → Int)) (p : Nat) (f : Nat) (ha : Nat) (N : (Nat → Int)) (HS : (Nat → Int)) (ln : Int) (lo : (Nat → Int)) (to : (Nat → Int)) (bo : (Nat → Int)) (ls : (Nat → Int)) (bt : (Nat → Int)) (bb : (Nat → Int)) (ra : (Nat → Int)) (wc : Int) (od : (Nat → Int)) (pl : (Nat → Int)) (wo : (Nat → Int)) (li : (Nat → Int)) (si : (Nat → Int)) (le : (Nat → Int)) (ri : (Nat → Int)) (fi : (Nat → Int)) (wi : (Nat → Int)) (fn : (Nat → Int)) (sl : (Nat → Int)) (ce : Int) (mo : Int) (TK : (Nat → Int)) (TP : (Nat → Int)) (gp : Int) (ke : Nat) (un : Nat) (bu : Nat) (ty : Nat) (pc : Int) (gd : Bool) (rd : Int) (po : Int) (lm : Int) (wd : Int) (G : (Nat → Int)) (H : (Nat → Int)) (A : (Nat → Int)) (MX : (Nat → Int)) (MY : (Nat → Int)) (TM : (Nat → Int)) (RX : (Nat → Int)) (RY : (Nat → Int)) (X : (Nat → Int)) (PX : (Nat → Int)) (PY : (Nat → Int)) (QX : (Nat → Int)) (QY : (Nat → Int)) (TO : (Nat → Int)) (BO : (Nat → Int)) (BE : (Nat → Int)) (RK : (Nat → Int)) (WO : (Nat → Int)) (OD : (Nat → Int)) (IN : (Nat → Int)) (s : St3), LInv nb BX BY nt T n F p f ha N HS gap gp ke un bu ty G H A MX MY TM s → VV pV l eV room_1 sV mV #[.ref sc] bV tV cV 4 AV D Q 60 30600 845 [some (.ref sc), some (.ref (a 0)), some (.ref (b 0)), some (.int (iI (i : Int)))] [] ((padO a g w gap :: (trW kI (a 1) (a 2) (a 3) (nb : Int) BX BY ++ (txW kC (a 4) (a 5) (nt : Int) T ++ (shW kI (a 6) (a 7) (n : Int) F ++ (shW kI (a 8) (a 9) dn DF ++ (trW kI (a 10) (a 11) (a 12) wn WX WY ++ (hiW kI (a 13) (a 14) (a 15) (p : Int) (f : Int) (ha : Int) N HS ++ (liW kI g ln lo to bo ls bt bb ra ++ (woW kI w wc od pl wo li si le ri fi wi fn sl ++ (taW kI (a 36) (a 37) (a 38) ce mo TK TP)))))))))) ++ (mdO b gp (ke : Int) (un : Int) (bu : Int) (ty : Int) pc gd rd po lm wd :: [(b 1, IA kI 801 G), (b 2, IA kI 4806 H), (b 3, IA kI 4806 A), (b 4, IA kI 24 MX), (b 5, IA kI 24 MY), (b 6, IA kC 100 TM), (b 7, IA kI 24 RX), (b 8, IA kI 24 RY), (b 9, IA kI 801 X), (b 10, IA kI 24 PX), (b 11, IA kI 24 PY), (b 12, IA kI 24 QX), (b 13, IA kI 24 QY), (b 14, IA kI 16 TO), (b 15, IA kI 16 BO), (b 16, IA kI 16 BE), (b 17, IA kI 16 RK), (b 18, IA kI 16 WO), (b 19, IA kI 16 OD), (b 20, IA kI 10201 IN)]))) : VV pV l eV room_1 sV mV #[.ref sc] bV tV cV 4 AV D Q 60 30600 410 [some (.ref sc), some (.ref (a 0)), some (.ref (b 0)), some (.int (iI (i : Int)))] [] ((padO a g w gap :: (trW kI (a 1) (a 2) (a 3) (nb : Int) BX BY ++ (txW kC (a 4) (a 5) (nt : Int) T ++ (shW kI (a 6) (a 7) (n : Int) F ++ (shW kI (a 8) (a 9) dn DF ++ (trW kI (a 10) (a 11) (a 12) wn WX WY ++ (hiW kI (a 13) (a 14) (a 15) (p : Int) (f : Int) (ha : Int) N HS ++ (liW kI g ln lo to bo ls bt bb ra ++ (woW kI w wc od pl wo li si le ri fi wi fn sl ++ (taW kI (a 36) (a 37) (a 38) ce mo TK TP)))))))))) ++ (mdO b gp (ke : Int) (un : Int) (bu : Int) (ty : Int) pc gd rd po lm wd :: [(b 1, IA kI 801 G), (b 2, IA kI 4806 H), (b 3, IA kI 4806 A), (b 4, IA kI 24 MX), (b 5, IA kI 24 MY), (b 6, IA kC 100 TM), (b 7, IA kI 24 RX), (b 8, IA kI 24 RY), (b 9, IA kI 801 X), (b 10, IA kI 24 PX), (b 11, IA kI 24 PY), (b 12, IA kI 24 QX), (b 13, IA kI 24 QY), (b 14, IA kI 16 TO), (b 15, IA kI 16 BO), (b 16, IA kI 16 BE), (b 17, IA kI 16 RK), (b 18, IA kI 16 WO), (b 19, IA kI 16 OD), (b 20, IA kI 10201 IN)])) := by
  obtain ⟨S0, past, fut⟩ := s
  obtain ⟨hB, hBm, ⟨hty, hnt, hTT⟩, hs0, h3, hH, hN, hR, hgp, hg⟩ := hI
  dsimp only at hs0 hN
  subst hs0
  have hL2 : L < 2147483648 := by omega
  have hn16 : n ≤ 16 := by have := h3.1.1; rwa [shC_len] at this
  have hS : OkS (shC n F) := h3.1
  have hbn : bu = nb := by have := congrArg List.length hBm; rwa [ptsOf_len, ptsOf_len] at this
  have hBk : OkB (ptsOf bu MX MY) := by rw [hBm]; exact hB
  have hT : ∀ i, i < nt → 0 ≤ T i ∧ T i < 65536 := fun i hi => (hTT i hi).2
  have hTm : ∀ i, i < ty → 0 ≤ TM i ∧ TM i < 65536 := fun i hi => by rw [(hTT i (by omega)).1]; exact hT i (by omega)
  have hgm : 0 ≤ gp ∧ gp ≤ 500 := by omega
  dsimp only [putW, List.set, Option.toList, List.cons_append, List.nil_append, padO, mdO, shW, trW, txW, hiW, liW, woW, taW] at kk ⊢
  refine V_aload_n XC 1 rfl dL_law_410 rfl ?_
  refine V_aload_n XC 0 rfl dL_law_411 rfl ?_
  refine V_iload_n XC 3 rfl dL_law_412 rfl ?_
  refine V_iconst XC dL_law_413 ?_
  refine V_iadd XC dL_law_414 ?_
  refine V_sld XC hXs hbl hbA hL2 (i + 1) (by omega) (by omega) dL_law_415 ?_
  refine V_aload_n XC 0 rfl dL_law_416 rfl ?_
  refine V_iload_n XC 3 rfl dL_law_417 rfl ?_
  refine V_iconst XC dL_law_418 ?_
  refine V_iadd XC dL_law_419 ?_
  refine V_sld XC hXs hbl hbA hL2 (i + 2) (by omega) (by omega) dL_law_420 ?_
  refine V_aload_n XC 0 rfl dL_law_421 rfl ?_
  refine V_iload_n XC 3 rfl dL_law_422 rfl ?_
  refine V_iconst XC dL_law_423 ?_
  refine V_iadd XC dL_law_424 ?_
  refine V_sld XC hXs hbl hbA hL2 (i + 3) (by omega) (by omega) dL_law_425 ?_
  refine V_callV (rest := _) (q0 := 0) XC (c_X7_shift l D kI kC _ _ _ _ _ _ _ _ _ _ _ _ _ _ _ _ h3 hH _ _ _ (IR_of _) (IR_of _) (IR_of _)) gL_law_X7_shift rfl kmX7_shift ⟨⟨Nat.le_of_ble_eq_true rfl, Nat.le_of_ble_eq_true rfl⟩, Nat.le_of_ble_eq_true rfl, Nat.le_of_ble_eq_true rfl⟩ ⟨rfl, rfl⟩ rfl rfl (Nat.le_of_ble_eq_true rfl) [0, 6, 7, 10, 11, 12, 13, 14, 15] rfl rfl (fun _ => rfl) rfl rfl dL_law_426 (kI_of (fun r426 u426 hq426 => ?_))
  obtain ⟨n426, F426, p426, f426, ha426, N426, HS426, wn426, WX426, WY426⟩ := u426
  dsimp only [putW, List.set, Option.toList, List.cons_append, List.nil_append, padO, mdO, shW, trW, txW, hiW, liW, woW, taW]
  try dsimp only at hq426
  obtain ⟨hr426, hs426, hH426, h3426⟩ := hq426
  refine V_aload_n XC 2 rfl dL_law_429 rfl ?_
  refine V_aload_n XC 0 rfl dL_law_430 rfl ?_
  refine V_iload_n XC 3 rfl dL_law_431 rfl ?_
  refine V_iconst XC dL_law_432 ?_
  refine V_iadd XC dL_law_433 ?_
  refine V_sld XC hXs hbl hbA hL2 (i + 1) (by omega) (by omega) dL_law_434 ?_
  refine V_aload_n XC 0 rfl dL_law_435 rfl ?_
  refine V_iload_n XC 3 rfl dL_law_436 rfl ?_
  refine V_iconst XC dL_law_437 ?_
  refine V_iadd XC dL_law_438 ?_
  refine V_sld XC hXs hbl hbA hL2 (i + 2) (by omega) (by omega) dL_law_439 ?_
  refine V_aload_n XC 0 rfl dL_law_440 rfl ?_
  refine V_iload_n XC 3 rfl dL_law_441 rfl ?_
  refine V_iconst XC dL_law_442 ?_
  refine V_iadd XC dL_law_443 ?_
  refine V_sld XC hXs hbl hbA hL2 (i + 3) (by omega) (by omega) dL_law_444 ?_
  refine V_callV (rest := _) (q0 := 39) XC (c_X8_shift l D kI kC _ _ _ _ _ _ _ _ _ _ _ _ _ _ _ _ _  _ _ _ _ h3 hN hR _ _ _ (IR_of _) (IR_of _) (IR_of _)) gL_law_X8_shift rfl kmX8_shift ⟨⟨Nat.le_of_ble_eq_true rfl, Nat.le_of_ble_eq_true rfl⟩, Nat.le_of_ble_eq_true rfl, Nat.le_of_ble_eq_true rfl⟩ ⟨rfl, rfl⟩ rfl rfl (Nat.le_of_ble_eq_true rfl) [39, 40, 41, 48, 49, 50] rfl rfl (fun _ => rfl) rfl rfl dL_law_445 (kI_of (fun r445 u445 hq445 => ?_))
  dsimp only [putW, List.set, Option.toList, List.cons_append, List.nil_append, padO, mdO, shW, trW, txW, hiW, liW, woW, taW]
  try dsimp only at hq445
  have h445 := hq445
  refine V_eqT XC 845 dL_law_448 (by decide) (hr426.trans h445.1.symm) ?_
  refine kk _ _ _ _ _ _ _ _ _ _ _ _ _ _ _ _ _ _ _ _ _ _ _ _ _ _ _ _ _ _ _ _ _ _ _ _ _ _ _ _ _ _ _ _ _ _ _ _ _ _ _ _ _ _ _ _ _ _ _ _ _ _ _ _ _ _ _ _ _ _ _ _ _ (actS (shC n F, past, fut) (shiftS (shC n F) (xs (i + 1)).toInt (xs (i + 2)).toInt (xs (i + 3)).toInt).2) ?_
  exact ⟨hB, hBm, ⟨hty, hnt, hTT⟩, hs426, h3426, hH426, h445.2.1, h445.2.2.1, hgp, hg⟩

set_option maxRecDepth 100000 in
set_option maxHeartbeats 4000000 in
theorem law_c11 (l : Launch) {pV : Program} {eV : Env} {sV : State} {mV : MethodId} {bV : List Frame} {tV : Method} {cV : Code} {AV : Nat → Prop} {D : va_G} {kI kC : ClassId} {Q : State → Prop} {sc L : Nat} {xs : Nat → Int32} (XC : Cx pV room_1 sV mV #[.ref sc] tV cV cL_law 4 RL wsL_law AV D kI kC) (hXs : va_X sc L xs sV sV.heap) (hbl : sc < sV.heap.size) (hbA : ¬ AV sc) (hL : L ≤ 2048) (a g w b : Nat → Nat) (i : Nat) (hi : i + 4 ≤ L) (gap : Int) (nb : Nat) (BX : (Nat → Int)) (BY : (Nat → Int)) (nt : Nat) (T : (Nat → Int)) (n : Nat) (F : (Nat → Int)) (dn : Int) (DF : (Nat → Int)) (wn : Int) (WX : (Nat → Int)) (WY : (Nat → Int)) (p : Nat) (f : Nat) (ha : Nat) (N : (Nat → Int)) (HS : (Nat → Int)) (ln : Int) (lo : (Nat → Int)) (to : (Nat → Int)) (bo : (Nat → Int)) (ls : (Nat → Int)) (bt : (Nat → Int)) (bb : (Nat → Int)) (ra : (Nat → Int)) (wc : Int) (od : (Nat → Int)) (pl : (Nat → Int)) (wo : (Nat → Int)) (li : (Nat → Int)) (si : (Nat → Int)) (le : (Nat → Int)) (ri : (Nat → Int)) (fi : (Nat → Int)) (wi : (Nat → Int)) (fn : (Nat → Int)) (sl : (Nat → Int)) (ce : Int) (mo : Int) (TK : (Nat → Int)) (TP : (Nat → Int)) (gp : Int) (ke : Nat) (un : Nat) (bu : Nat) (ty : Nat) (pc : Int) (gd : Bool) (rd : Int) (po : Int) (lm : Int) (wd : Int) (G : (Nat → Int)) (H : (Nat → Int)) (A : (Nat → Int)) (MX : (Nat → Int)) (MY : (Nat → Int)) (TM : (Nat → Int)) (RX : (Nat → Int)) (RY : (Nat → Int)) (X : (Nat → Int)) (PX : (Nat → Int)) (PY : (Nat → Int)) (QX : (Nat → Int)) (QY : (Nat → Int)) (TO : (Nat → Int)) (BO : (Nat → Int)) (BE : (Nat → Int)) (RK : (Nat → Int)) (WO : (Nat → Int)) (OD : (Nat → Int)) (IN : (Nat → Int)) (s : St3) (hI : LInv nb BX BY nt T n F p f ha N HS gap gp ke un bu ty G H A MX MY TM s) (kk : ∀ (gap : Int) (nb : Nat) (BX : (Nat → Int)) (BY : (Nat → Int)) (nt : Nat) (T : (Nat → Int)) (n : Nat) (F : (Nat → Int)) (dn : Int) (DF : (Nat → Int)) (wn : Int) (WX : (Nat → Int)) (WY : (Nat → Int)) (p : Nat) (f : Nat) (ha : Nat) (N : (Nat → Int)) (HS : (Nat → Int)) (ln : Int) (lo : (Nat → Int)) (to : (Nat → Int)) (bo : (Nat → Int)) (ls : (Nat → Int)) (bt : (Nat → Int)) (bb : (Nat → Int)) (ra : (Nat → Int)) (wc : Int) (od : (Nat → Int)) (pl : (Nat → Int)) (wo : (Nat → Int)) (li : (Nat → Int)) (si : (Nat → Int)) (le : (Nat → Int)) (ri : (Nat → Int)) (fi : (Nat → Int)) (wi : (Nat → Int)) (fn : (Nat → Int)) (sl : (Nat → Int)) (ce : Int) (mo : Int) (TK : (Nat → Int)) (TP : (Nat → Int)) (gp : Int) (ke : Nat) (un : Nat) (bu : Nat) (ty : Nat) (pc : Int) (gd : Bool) (rd : Int) (po : Int) (lm : Int) (wd : Int) (G : (Nat → Int)) (H : (Nat → Int)) (A : (Nat → Int)) (MX : (Nat → Int)) (MY : (Nat → Int)) (TM : (Nat → Int)) (RX : (Nat → Int)) (RY : (Nat → Int)) (X : (Nat → Int)) (PX : (Nat → Int)) (PY : (Nat → Int)) (QX : (Nat → Int)) (QY : (Nat → Int)) (TO : (Nat → Int)) (BO : (Nat → Int)) (BE : (Nat → Int)) (RK : (Nat → Int)) (WO : (Nat → Int)) (OD : (Nat → Int)) (IN : (Nat → Int)) (s : St3), LInv nb BX BY nt T n F p f ha N HS gap gp ke un bu ty G H A MX MY TM s → VV pV l eV room_1 sV mV #[.ref sc] bV tV cV 4 AV D Q 60 30600 845 [some (.ref sc), some (.ref (a 0)), some (.ref (b 0)), some (.int (iI (i : Int)))] [] ((padO a g w gap :: (trW kI (a 1) (a 2) (a 3) (nb : Int) BX BY ++ (txW kC (a 4) (a 5) (nt : Int) T ++ (shW kI (a 6) (a 7) (n : Int) F ++ (shW kI (a 8) (a 9) dn DF ++ (trW kI (a 10) (a 11) (a 12) wn WX WY ++ (hiW kI (a 13) (a 14) (a 15) (p : Int) (f : Int) (ha : Int) N HS ++ (liW kI g ln lo to bo ls bt bb ra ++ (woW kI w wc od pl wo li si le ri fi wi fn sl ++ (taW kI (a 36) (a 37) (a 38) ce mo TK TP)))))))))) ++ (mdO b gp (ke : Int) (un : Int) (bu : Int) (ty : Int) pc gd rd po lm wd :: [(b 1, IA kI 801 G), (b 2, IA kI 4806 H), (b 3, IA kI 4806 A), (b 4, IA kI 24 MX), (b 5, IA kI 24 MY), (b 6, IA kC 100 TM), (b 7, IA kI 24 RX), (b 8, IA kI 24 RY), (b 9, IA kI 801 X), (b 10, IA kI 24 PX), (b 11, IA kI 24 PY), (b 12, IA kI 24 QX), (b 13, IA kI 24 QY), (b 14, IA kI 16 TO), (b 15, IA kI 16 BO), (b 16, IA kI 16 BE), (b 17, IA kI 16 RK), (b 18, IA kI 16 WO), (b 19, IA kI 16 OD), (b 20, IA kI 10201 IN)]))) : VV pV l eV room_1 sV mV #[.ref sc] bV tV cV 4 AV D Q 60 30600 453 [some (.ref sc), some (.ref (a 0)), some (.ref (b 0)), some (.int (iI (i : Int)))] [] ((padO a g w gap :: (trW kI (a 1) (a 2) (a 3) (nb : Int) BX BY ++ (txW kC (a 4) (a 5) (nt : Int) T ++ (shW kI (a 6) (a 7) (n : Int) F ++ (shW kI (a 8) (a 9) dn DF ++ (trW kI (a 10) (a 11) (a 12) wn WX WY ++ (hiW kI (a 13) (a 14) (a 15) (p : Int) (f : Int) (ha : Int) N HS ++ (liW kI g ln lo to bo ls bt bb ra ++ (woW kI w wc od pl wo li si le ri fi wi fn sl ++ (taW kI (a 36) (a 37) (a 38) ce mo TK TP)))))))))) ++ (mdO b gp (ke : Int) (un : Int) (bu : Int) (ty : Int) pc gd rd po lm wd :: [(b 1, IA kI 801 G), (b 2, IA kI 4806 H), (b 3, IA kI 4806 A), (b 4, IA kI 24 MX), (b 5, IA kI 24 MY), (b 6, IA kC 100 TM), (b 7, IA kI 24 RX), (b 8, IA kI 24 RY), (b 9, IA kI 801 X), (b 10, IA kI 24 PX), (b 11, IA kI 24 PY), (b 12, IA kI 24 QX), (b 13, IA kI 24 QY), (b 14, IA kI 16 TO), (b 15, IA kI 16 BO), (b 16, IA kI 16 BE), (b 17, IA kI 16 RK), (b 18, IA kI 16 WO), (b 19, IA kI 16 OD), (b 20, IA kI 10201 IN)])) := by
  obtain ⟨S0, past, fut⟩ := s
  obtain ⟨hB, hBm, ⟨hty, hnt, hTT⟩, hs0, h3, hH, hN, hR, hgp, hg⟩ := hI
  dsimp only at hs0 hN
  subst hs0
  have hL2 : L < 2147483648 := by omega
  have hn16 : n ≤ 16 := by have := h3.1.1; rwa [shC_len] at this
  have hS : OkS (shC n F) := h3.1
  have hbn : bu = nb := by have := congrArg List.length hBm; rwa [ptsOf_len, ptsOf_len] at this
  have hBk : OkB (ptsOf bu MX MY) := by rw [hBm]; exact hB
  have hT : ∀ i, i < nt → 0 ≤ T i ∧ T i < 65536 := fun i hi => (hTT i hi).2
  have hTm : ∀ i, i < ty → 0 ≤ TM i ∧ TM i < 65536 := fun i hi => by rw [(hTT i (by omega)).1]; exact hT i (by omega)
  have hgm : 0 ≤ gp ∧ gp ≤ 500 := by omega
  dsimp only [putW, List.set, Option.toList, List.cons_append, List.nil_append, padO, mdO, shW, trW, txW, hiW, liW, woW, taW] at kk ⊢
  refine V_aload_n XC 1 rfl dL_law_453 rfl ?_
  refine V_aload_n XC 0 rfl dL_law_454 rfl ?_
  refine V_iload_n XC 3 rfl dL_law_455 rfl ?_
  refine V_iconst XC dL_law_456 ?_
  refine V_iadd XC dL_law_457 ?_
  refine V_sld XC hXs hbl hbA hL2 (i + 1) (by omega) (by omega) dL_law_458 ?_
  refine V_aload_n XC 0 rfl dL_law_459 rfl ?_
  refine V_iload_n XC 3 rfl dL_law_460 rfl ?_
  refine V_iconst XC dL_law_461 ?_
  refine V_iadd XC dL_law_462 ?_
  refine V_sld XC hXs hbl hbA hL2 (i + 2) (by omega) (by omega) dL_law_463 ?_
  refine V_callV (rest := _) (q0 := 0) XC (c_X7_paint l D kI kC _ _ _ _ _ _ _ _ _ _ _ _ _ h3 hH _ _ (IR_of _) (IR_of _)) gL_law_X7_paint rfl kmX7_paint ⟨⟨Nat.le_of_ble_eq_true rfl, Nat.le_of_ble_eq_true rfl⟩, Nat.le_of_ble_eq_true rfl, Nat.le_of_ble_eq_true rfl⟩ ⟨rfl, rfl⟩ rfl rfl (Nat.le_of_ble_eq_true rfl) [0, 6, 7, 13, 14, 15] rfl rfl (fun _ => rfl) rfl rfl dL_law_464 (kI_of (fun r464 u464 hq464 => ?_))
  obtain ⟨n464, F464, p464, f464, ha464, N464, HS464⟩ := u464
  dsimp only [putW, List.set, Option.toList, List.cons_append, List.nil_append, padO, mdO, shW, trW, txW, hiW, liW, woW, taW]
  try dsimp only at hq464
  obtain ⟨hr464, hs464, hH464, h3464⟩ := hq464
  refine V_aload_n XC 2 rfl dL_law_467 rfl ?_
  refine V_aload_n XC 0 rfl dL_law_468 rfl ?_
  refine V_iload_n XC 3 rfl dL_law_469 rfl ?_
  refine V_iconst XC dL_law_470 ?_
  refine V_iadd XC dL_law_471 ?_
  refine V_sld XC hXs hbl hbA hL2 (i + 1) (by omega) (by omega) dL_law_472 ?_
  refine V_aload_n XC 0 rfl dL_law_473 rfl ?_
  refine V_iload_n XC 3 rfl dL_law_474 rfl ?_
  refine V_iconst XC dL_law_475 ?_
  refine V_iadd XC dL_law_476 ?_
  refine V_sld XC hXs hbl hbA hL2 (i + 2) (by omega) (by omega) dL_law_477 ?_
  refine V_callV (rest := _) (q0 := 39) XC (c_X8_paint l D kI kC _ _ _ _ _ _ _ _ _ _ _ _ _ _  _ _ _ _ h3 hN hR _ _ (IR_of _) (IR_of _)) gL_law_X8_paint rfl kmX8_paint ⟨⟨Nat.le_of_ble_eq_true rfl, Nat.le_of_ble_eq_true rfl⟩, Nat.le_of_ble_eq_true rfl, Nat.le_of_ble_eq_true rfl⟩ ⟨rfl, rfl⟩ rfl rfl (Nat.le_of_ble_eq_true rfl) [39, 40, 41] rfl rfl (fun _ => rfl) rfl rfl dL_law_478 (kI_of (fun r478 u478 hq478 => ?_))
  dsimp only [putW, List.set, Option.toList, List.cons_append, List.nil_append, padO, mdO, shW, trW, txW, hiW, liW, woW, taW]
  try dsimp only at hq478
  have h478 := hq478
  refine V_eqT XC 845 dL_law_481 (by decide) (hr464.trans h478.1.symm) ?_
  refine kk _ _ _ _ _ _ _ _ _ _ _ _ _ _ _ _ _ _ _ _ _ _ _ _ _ _ _ _ _ _ _ _ _ _ _ _ _ _ _ _ _ _ _ _ _ _ _ _ _ _ _ _ _ _ _ _ _ _ _ _ _ _ _ _ _ _ _ _ _ _ _ _ _ (actS (shC n F, past, fut) (paintS (shC n F) (xs (i + 1)).toInt (xs (i + 2)).toInt).2) ?_
  exact ⟨hB, hBm, ⟨hty, hnt, hTT⟩, hs464, h3464, hH464, h478.2.1, h478.2.2.1, hgp, hg⟩

set_option maxRecDepth 100000 in
set_option maxHeartbeats 4000000 in
theorem law_c12 (l : Launch) {pV : Program} {eV : Env} {sV : State} {mV : MethodId} {bV : List Frame} {tV : Method} {cV : Code} {AV : Nat → Prop} {D : va_G} {kI kC : ClassId} {Q : State → Prop} {sc L : Nat} {xs : Nat → Int32} (XC : Cx pV room_1 sV mV #[.ref sc] tV cV cL_law 4 RL wsL_law AV D kI kC) (hXs : va_X sc L xs sV sV.heap) (hbl : sc < sV.heap.size) (hbA : ¬ AV sc) (hL : L ≤ 2048) (a g w b : Nat → Nat) (i : Nat) (hi : i + 4 ≤ L) (gap : Int) (nb : Nat) (BX : (Nat → Int)) (BY : (Nat → Int)) (nt : Nat) (T : (Nat → Int)) (n : Nat) (F : (Nat → Int)) (dn : Int) (DF : (Nat → Int)) (wn : Int) (WX : (Nat → Int)) (WY : (Nat → Int)) (p : Nat) (f : Nat) (ha : Nat) (N : (Nat → Int)) (HS : (Nat → Int)) (ln : Int) (lo : (Nat → Int)) (to : (Nat → Int)) (bo : (Nat → Int)) (ls : (Nat → Int)) (bt : (Nat → Int)) (bb : (Nat → Int)) (ra : (Nat → Int)) (wc : Int) (od : (Nat → Int)) (pl : (Nat → Int)) (wo : (Nat → Int)) (li : (Nat → Int)) (si : (Nat → Int)) (le : (Nat → Int)) (ri : (Nat → Int)) (fi : (Nat → Int)) (wi : (Nat → Int)) (fn : (Nat → Int)) (sl : (Nat → Int)) (ce : Int) (mo : Int) (TK : (Nat → Int)) (TP : (Nat → Int)) (gp : Int) (ke : Nat) (un : Nat) (bu : Nat) (ty : Nat) (pc : Int) (gd : Bool) (rd : Int) (po : Int) (lm : Int) (wd : Int) (G : (Nat → Int)) (H : (Nat → Int)) (A : (Nat → Int)) (MX : (Nat → Int)) (MY : (Nat → Int)) (TM : (Nat → Int)) (RX : (Nat → Int)) (RY : (Nat → Int)) (X : (Nat → Int)) (PX : (Nat → Int)) (PY : (Nat → Int)) (QX : (Nat → Int)) (QY : (Nat → Int)) (TO : (Nat → Int)) (BO : (Nat → Int)) (BE : (Nat → Int)) (RK : (Nat → Int)) (WO : (Nat → Int)) (OD : (Nat → Int)) (IN : (Nat → Int)) (s : St3) (hI : LInv nb BX BY nt T n F p f ha N HS gap gp ke un bu ty G H A MX MY TM s) (kk : ∀ (gap : Int) (nb : Nat) (BX : (Nat → Int)) (BY : (Nat → Int)) (nt : Nat) (T : (Nat → Int)) (n : Nat) (F : (Nat → Int)) (dn : Int) (DF : (Nat → Int)) (wn : Int) (WX : (Nat → Int)) (WY : (Nat → Int)) (p : Nat) (f : Nat) (ha : Nat) (N : (Nat → Int)) (HS : (Nat → Int)) (ln : Int) (lo : (Nat → Int)) (to : (Nat → Int)) (bo : (Nat → Int)) (ls : (Nat → Int)) (bt : (Nat → Int)) (bb : (Nat → Int)) (ra : (Nat → Int)) (wc : Int) (od : (Nat → Int)) (pl : (Nat → Int)) (wo : (Nat → Int)) (li : (Nat → Int)) (si : (Nat → Int)) (le : (Nat → Int)) (ri : (Nat → Int)) (fi : (Nat → Int)) (wi : (Nat → Int)) (fn : (Nat → Int)) (sl : (Nat → Int)) (ce : Int) (mo : Int) (TK : (Nat → Int)) (TP : (Nat → Int)) (gp : Int) (ke : Nat) (un : Nat) (bu : Nat) (ty : Nat) (pc : Int) (gd : Bool) (rd : Int) (po : Int) (lm : Int) (wd : Int) (G : (Nat → Int)) (H : (Nat → Int)) (A : (Nat → Int)) (MX : (Nat → Int)) (MY : (Nat → Int)) (TM : (Nat → Int)) (RX : (Nat → Int)) (RY : (Nat → Int)) (X : (Nat → Int)) (PX : (Nat → Int)) (PY : (Nat → Int)) (QX : (Nat → Int)) (QY : (Nat → Int)) (TO : (Nat → Int)) (BO : (Nat → Int)) (BE : (Nat → Int)) (RK : (Nat → Int)) (WO : (Nat → Int)) (OD : (Nat → Int)) (IN : (Nat → Int)) (s : St3), LInv nb BX BY nt T n F p f ha N HS gap gp ke un bu ty G H A MX MY TM s → VV pV l eV room_1 sV mV #[.ref sc] bV tV cV 4 AV D Q 60 30600 845 [some (.ref sc), some (.ref (a 0)), some (.ref (b 0)), some (.int (iI (i : Int)))] [] ((padO a g w gap :: (trW kI (a 1) (a 2) (a 3) (nb : Int) BX BY ++ (txW kC (a 4) (a 5) (nt : Int) T ++ (shW kI (a 6) (a 7) (n : Int) F ++ (shW kI (a 8) (a 9) dn DF ++ (trW kI (a 10) (a 11) (a 12) wn WX WY ++ (hiW kI (a 13) (a 14) (a 15) (p : Int) (f : Int) (ha : Int) N HS ++ (liW kI g ln lo to bo ls bt bb ra ++ (woW kI w wc od pl wo li si le ri fi wi fn sl ++ (taW kI (a 36) (a 37) (a 38) ce mo TK TP)))))))))) ++ (mdO b gp (ke : Int) (un : Int) (bu : Int) (ty : Int) pc gd rd po lm wd :: [(b 1, IA kI 801 G), (b 2, IA kI 4806 H), (b 3, IA kI 4806 A), (b 4, IA kI 24 MX), (b 5, IA kI 24 MY), (b 6, IA kC 100 TM), (b 7, IA kI 24 RX), (b 8, IA kI 24 RY), (b 9, IA kI 801 X), (b 10, IA kI 24 PX), (b 11, IA kI 24 PY), (b 12, IA kI 24 QX), (b 13, IA kI 24 QY), (b 14, IA kI 16 TO), (b 15, IA kI 16 BO), (b 16, IA kI 16 BE), (b 17, IA kI 16 RK), (b 18, IA kI 16 WO), (b 19, IA kI 16 OD), (b 20, IA kI 10201 IN)]))) : VV pV l eV room_1 sV mV #[.ref sc] bV tV cV 4 AV D Q 60 30600 486 [some (.ref sc), some (.ref (a 0)), some (.ref (b 0)), some (.int (iI (i : Int)))] [] ((padO a g w gap :: (trW kI (a 1) (a 2) (a 3) (nb : Int) BX BY ++ (txW kC (a 4) (a 5) (nt : Int) T ++ (shW kI (a 6) (a 7) (n : Int) F ++ (shW kI (a 8) (a 9) dn DF ++ (trW kI (a 10) (a 11) (a 12) wn WX WY ++ (hiW kI (a 13) (a 14) (a 15) (p : Int) (f : Int) (ha : Int) N HS ++ (liW kI g ln lo to bo ls bt bb ra ++ (woW kI w wc od pl wo li si le ri fi wi fn sl ++ (taW kI (a 36) (a 37) (a 38) ce mo TK TP)))))))))) ++ (mdO b gp (ke : Int) (un : Int) (bu : Int) (ty : Int) pc gd rd po lm wd :: [(b 1, IA kI 801 G), (b 2, IA kI 4806 H), (b 3, IA kI 4806 A), (b 4, IA kI 24 MX), (b 5, IA kI 24 MY), (b 6, IA kC 100 TM), (b 7, IA kI 24 RX), (b 8, IA kI 24 RY), (b 9, IA kI 801 X), (b 10, IA kI 24 PX), (b 11, IA kI 24 PY), (b 12, IA kI 24 QX), (b 13, IA kI 24 QY), (b 14, IA kI 16 TO), (b 15, IA kI 16 BO), (b 16, IA kI 16 BE), (b 17, IA kI 16 RK), (b 18, IA kI 16 WO), (b 19, IA kI 16 OD), (b 20, IA kI 10201 IN)])) := by
  obtain ⟨S0, past, fut⟩ := s
  obtain ⟨hB, hBm, ⟨hty, hnt, hTT⟩, hs0, h3, hH, hN, hR, hgp, hg⟩ := hI
  dsimp only at hs0 hN
  subst hs0
  have hL2 : L < 2147483648 := by omega
  have hn16 : n ≤ 16 := by have := h3.1.1; rwa [shC_len] at this
  have hS : OkS (shC n F) := h3.1
  have hbn : bu = nb := by have := congrArg List.length hBm; rwa [ptsOf_len, ptsOf_len] at this
  have hBk : OkB (ptsOf bu MX MY) := by rw [hBm]; exact hB
  have hT : ∀ i, i < nt → 0 ≤ T i ∧ T i < 65536 := fun i hi => (hTT i hi).2
  have hTm : ∀ i, i < ty → 0 ≤ TM i ∧ TM i < 65536 := fun i hi => by rw [(hTT i (by omega)).1]; exact hT i (by omega)
  have hgm : 0 ≤ gp ∧ gp ≤ 500 := by omega
  dsimp only [putW, List.set, Option.toList, List.cons_append, List.nil_append, padO, mdO, shW, trW, txW, hiW, liW, woW, taW] at kk ⊢
  refine V_aload_n XC 1 rfl dL_law_486 rfl ?_
  refine V_aload_n XC 0 rfl dL_law_487 rfl ?_
  refine V_iload_n XC 3 rfl dL_law_488 rfl ?_
  refine V_iconst XC dL_law_489 ?_
  refine V_iadd XC dL_law_490 ?_
  refine V_sld XC hXs hbl hbA hL2 (i + 1) (by omega) (by omega) dL_law_491 ?_
  refine V_callV (rest := _) (q0 := 0) XC (c_X7_remove l D kI kC _ _ _ _ _ _ _ _ _ _ _ _ _ h3 hH _ (IR_of _)) gL_law_X7_remove rfl kmX7_remove ⟨⟨Nat.le_of_ble_eq_true rfl, Nat.le_of_ble_eq_true rfl⟩, Nat.le_of_ble_eq_true rfl, Nat.le_of_ble_eq_true rfl⟩ ⟨rfl, rfl⟩ rfl rfl (Nat.le_of_ble_eq_true rfl) [0, 6, 7, 13, 14, 15] rfl rfl (fun _ => rfl) rfl rfl dL_law_492 (kI_of (fun r492 u492 hq492 => ?_))
  obtain ⟨n492, F492, p492, f492, ha492, N492, HS492⟩ := u492
  dsimp only [putW, List.set, Option.toList, List.cons_append, List.nil_append, padO, mdO, shW, trW, txW, hiW, liW, woW, taW]
  try dsimp only at hq492
  obtain ⟨hr492, hs492, hH492, h3492⟩ := hq492
  refine V_aload_n XC 2 rfl dL_law_495 rfl ?_
  refine V_aload_n XC 0 rfl dL_law_496 rfl ?_
  refine V_iload_n XC 3 rfl dL_law_497 rfl ?_
  refine V_iconst XC dL_law_498 ?_
  refine V_iadd XC dL_law_499 ?_
  refine V_sld XC hXs hbl hbA hL2 (i + 1) (by omega) (by omega) dL_law_500 ?_
  refine V_callV (rest := _) (q0 := 39) XC (c_X8_remove l D kI kC _ _ _ _ _ _ _ _ _ _ _ _ _ _ _  _ _ _ _ h3 hN hR _ (IR_of _)) gL_law_X8_remove rfl kmX8_remove ⟨⟨Nat.le_of_ble_eq_true rfl, Nat.le_of_ble_eq_true rfl⟩, Nat.le_of_ble_eq_true rfl, Nat.le_of_ble_eq_true rfl⟩ ⟨rfl, rfl⟩ rfl rfl (Nat.le_of_ble_eq_true rfl) [39, 40, 41, 48] rfl rfl (fun _ => rfl) rfl rfl dL_law_501 (kI_of (fun r501 u501 hq501 => ?_))
  dsimp only [putW, List.set, Option.toList, List.cons_append, List.nil_append, padO, mdO, shW, trW, txW, hiW, liW, woW, taW]
  try dsimp only at hq501
  have h501 := hq501
  refine V_eqT XC 845 dL_law_504 (by decide) (hr492.trans h501.1.symm) ?_
  refine kk _ _ _ _ _ _ _ _ _ _ _ _ _ _ _ _ _ _ _ _ _ _ _ _ _ _ _ _ _ _ _ _ _ _ _ _ _ _ _ _ _ _ _ _ _ _ _ _ _ _ _ _ _ _ _ _ _ _ _ _ _ _ _ _ _ _ _ _ _ _ _ _ _ (actS (shC n F, past, fut) (removeS (shC n F) (xs (i + 1)).toInt).2) ?_
  exact ⟨hB, hBm, ⟨hty, hnt, hTT⟩, hs492, h3492, hH492, h501.2.1, h501.2.2.1, hgp, hg⟩

set_option maxRecDepth 100000 in
set_option maxHeartbeats 4000000 in
theorem law_c13 (l : Launch) {pV : Program} {eV : Env} {sV : State} {mV : MethodId} {bV : List Frame} {tV : Method} {cV : Code} {AV : Nat → Prop} {D : va_G} {kI kC : ClassId} {Q : State → Prop} {sc L : Nat} {xs : Nat → Int32} (XC : Cx pV room_1 sV mV #[.ref sc] tV cV cL_law 4 RL wsL_law AV D kI kC) (hXs : va_X sc L xs sV sV.heap) (hbl : sc < sV.heap.size) (hbA : ¬ AV sc) (hL : L ≤ 2048) (a g w b : Nat → Nat) (i : Nat) (hi : i + 4 ≤ L) (gap : Int) (nb : Nat) (BX : (Nat → Int)) (BY : (Nat → Int)) (nt : Nat) (T : (Nat → Int)) (n : Nat) (F : (Nat → Int)) (dn : Int) (DF : (Nat → Int)) (wn : Int) (WX : (Nat → Int)) (WY : (Nat → Int)) (p : Nat) (f : Nat) (ha : Nat) (N : (Nat → Int)) (HS : (Nat → Int)) (ln : Int) (lo : (Nat → Int)) (to : (Nat → Int)) (bo : (Nat → Int)) (ls : (Nat → Int)) (bt : (Nat → Int)) (bb : (Nat → Int)) (ra : (Nat → Int)) (wc : Int) (od : (Nat → Int)) (pl : (Nat → Int)) (wo : (Nat → Int)) (li : (Nat → Int)) (si : (Nat → Int)) (le : (Nat → Int)) (ri : (Nat → Int)) (fi : (Nat → Int)) (wi : (Nat → Int)) (fn : (Nat → Int)) (sl : (Nat → Int)) (ce : Int) (mo : Int) (TK : (Nat → Int)) (TP : (Nat → Int)) (gp : Int) (ke : Nat) (un : Nat) (bu : Nat) (ty : Nat) (pc : Int) (gd : Bool) (rd : Int) (po : Int) (lm : Int) (wd : Int) (G : (Nat → Int)) (H : (Nat → Int)) (A : (Nat → Int)) (MX : (Nat → Int)) (MY : (Nat → Int)) (TM : (Nat → Int)) (RX : (Nat → Int)) (RY : (Nat → Int)) (X : (Nat → Int)) (PX : (Nat → Int)) (PY : (Nat → Int)) (QX : (Nat → Int)) (QY : (Nat → Int)) (TO : (Nat → Int)) (BO : (Nat → Int)) (BE : (Nat → Int)) (RK : (Nat → Int)) (WO : (Nat → Int)) (OD : (Nat → Int)) (IN : (Nat → Int)) (s : St3) (hI : LInv nb BX BY nt T n F p f ha N HS gap gp ke un bu ty G H A MX MY TM s) (kk : ∀ (gap : Int) (nb : Nat) (BX : (Nat → Int)) (BY : (Nat → Int)) (nt : Nat) (T : (Nat → Int)) (n : Nat) (F : (Nat → Int)) (dn : Int) (DF : (Nat → Int)) (wn : Int) (WX : (Nat → Int)) (WY : (Nat → Int)) (p : Nat) (f : Nat) (ha : Nat) (N : (Nat → Int)) (HS : (Nat → Int)) (ln : Int) (lo : (Nat → Int)) (to : (Nat → Int)) (bo : (Nat → Int)) (ls : (Nat → Int)) (bt : (Nat → Int)) (bb : (Nat → Int)) (ra : (Nat → Int)) (wc : Int) (od : (Nat → Int)) (pl : (Nat → Int)) (wo : (Nat → Int)) (li : (Nat → Int)) (si : (Nat → Int)) (le : (Nat → Int)) (ri : (Nat → Int)) (fi : (Nat → Int)) (wi : (Nat → Int)) (fn : (Nat → Int)) (sl : (Nat → Int)) (ce : Int) (mo : Int) (TK : (Nat → Int)) (TP : (Nat → Int)) (gp : Int) (ke : Nat) (un : Nat) (bu : Nat) (ty : Nat) (pc : Int) (gd : Bool) (rd : Int) (po : Int) (lm : Int) (wd : Int) (G : (Nat → Int)) (H : (Nat → Int)) (A : (Nat → Int)) (MX : (Nat → Int)) (MY : (Nat → Int)) (TM : (Nat → Int)) (RX : (Nat → Int)) (RY : (Nat → Int)) (X : (Nat → Int)) (PX : (Nat → Int)) (PY : (Nat → Int)) (QX : (Nat → Int)) (QY : (Nat → Int)) (TO : (Nat → Int)) (BO : (Nat → Int)) (BE : (Nat → Int)) (RK : (Nat → Int)) (WO : (Nat → Int)) (OD : (Nat → Int)) (IN : (Nat → Int)) (s : St3), LInv nb BX BY nt T n F p f ha N HS gap gp ke un bu ty G H A MX MY TM s → VV pV l eV room_1 sV mV #[.ref sc] bV tV cV 4 AV D Q 60 30600 845 [some (.ref sc), some (.ref (a 0)), some (.ref (b 0)), some (.int (iI (i : Int)))] [] ((padO a g w gap :: (trW kI (a 1) (a 2) (a 3) (nb : Int) BX BY ++ (txW kC (a 4) (a 5) (nt : Int) T ++ (shW kI (a 6) (a 7) (n : Int) F ++ (shW kI (a 8) (a 9) dn DF ++ (trW kI (a 10) (a 11) (a 12) wn WX WY ++ (hiW kI (a 13) (a 14) (a 15) (p : Int) (f : Int) (ha : Int) N HS ++ (liW kI g ln lo to bo ls bt bb ra ++ (woW kI w wc od pl wo li si le ri fi wi fn sl ++ (taW kI (a 36) (a 37) (a 38) ce mo TK TP)))))))))) ++ (mdO b gp (ke : Int) (un : Int) (bu : Int) (ty : Int) pc gd rd po lm wd :: [(b 1, IA kI 801 G), (b 2, IA kI 4806 H), (b 3, IA kI 4806 A), (b 4, IA kI 24 MX), (b 5, IA kI 24 MY), (b 6, IA kC 100 TM), (b 7, IA kI 24 RX), (b 8, IA kI 24 RY), (b 9, IA kI 801 X), (b 10, IA kI 24 PX), (b 11, IA kI 24 PY), (b 12, IA kI 24 QX), (b 13, IA kI 24 QY), (b 14, IA kI 16 TO), (b 15, IA kI 16 BO), (b 16, IA kI 16 BE), (b 17, IA kI 16 RK), (b 18, IA kI 16 WO), (b 19, IA kI 16 OD), (b 20, IA kI 10201 IN)]))) : VV pV l eV room_1 sV mV #[.ref sc] bV tV cV 4 AV D Q 60 30600 509 [some (.ref sc), some (.ref (a 0)), some (.ref (b 0)), some (.int (iI (i : Int)))] [] ((padO a g w gap :: (trW kI (a 1) (a 2) (a 3) (nb : Int) BX BY ++ (txW kC (a 4) (a 5) (nt : Int) T ++ (shW kI (a 6) (a 7) (n : Int) F ++ (shW kI (a 8) (a 9) dn DF ++ (trW kI (a 10) (a 11) (a 12) wn WX WY ++ (hiW kI (a 13) (a 14) (a 15) (p : Int) (f : Int) (ha : Int) N HS ++ (liW kI g ln lo to bo ls bt bb ra ++ (woW kI w wc od pl wo li si le ri fi wi fn sl ++ (taW kI (a 36) (a 37) (a 38) ce mo TK TP)))))))))) ++ (mdO b gp (ke : Int) (un : Int) (bu : Int) (ty : Int) pc gd rd po lm wd :: [(b 1, IA kI 801 G), (b 2, IA kI 4806 H), (b 3, IA kI 4806 A), (b 4, IA kI 24 MX), (b 5, IA kI 24 MY), (b 6, IA kC 100 TM), (b 7, IA kI 24 RX), (b 8, IA kI 24 RY), (b 9, IA kI 801 X), (b 10, IA kI 24 PX), (b 11, IA kI 24 PY), (b 12, IA kI 24 QX), (b 13, IA kI 24 QY), (b 14, IA kI 16 TO), (b 15, IA kI 16 BO), (b 16, IA kI 16 BE), (b 17, IA kI 16 RK), (b 18, IA kI 16 WO), (b 19, IA kI 16 OD), (b 20, IA kI 10201 IN)])) := by
  obtain ⟨S0, past, fut⟩ := s
  obtain ⟨hB, hBm, ⟨hty, hnt, hTT⟩, hs0, h3, hH, hN, hR, hgp, hg⟩ := hI
  dsimp only at hs0 hN
  subst hs0
  have hL2 : L < 2147483648 := by omega
  have hn16 : n ≤ 16 := by have := h3.1.1; rwa [shC_len] at this
  have hS : OkS (shC n F) := h3.1
  have hbn : bu = nb := by have := congrArg List.length hBm; rwa [ptsOf_len, ptsOf_len] at this
  have hBk : OkB (ptsOf bu MX MY) := by rw [hBm]; exact hB
  have hT : ∀ i, i < nt → 0 ≤ T i ∧ T i < 65536 := fun i hi => (hTT i hi).2
  have hTm : ∀ i, i < ty → 0 ≤ TM i ∧ TM i < 65536 := fun i hi => by rw [(hTT i (by omega)).1]; exact hT i (by omega)
  have hgm : 0 ≤ gp ∧ gp ≤ 500 := by omega
  dsimp only [putW, List.set, Option.toList, List.cons_append, List.nil_append, padO, mdO, shW, trW, txW, hiW, liW, woW, taW] at kk ⊢
  refine V_aload_n XC 1 rfl dL_law_509 rfl ?_
  refine V_callV (rest := _) (q0 := 0) XC (c_X7_undo l D kI kC _ _ _ _ _ _ _ _ _ _ _ _ _ h3 hH) gL_law_X7_undo rfl kmX7_undo ⟨⟨Nat.le_of_ble_eq_true rfl, Nat.le_of_ble_eq_true rfl⟩, Nat.le_of_ble_eq_true rfl, Nat.le_of_ble_eq_true rfl⟩ ⟨rfl, rfl⟩ rfl rfl (Nat.le_of_ble_eq_true rfl) [0, 6, 7, 13, 14, 15] rfl rfl (fun _ => rfl) rfl rfl dL_law_510 (kI_of (fun r510 u510 hq510 => ?_))
  obtain ⟨n510, F510, p510, f510, ha510, N510, HS510⟩ := u510
  dsimp only [putW, List.set, Option.toList, List.cons_append, List.nil_append, padO, mdO, shW, trW, txW, hiW, liW, woW, taW]
  try dsimp only at hq510
  obtain ⟨hr510, hs510, hH510, h3510⟩ := hq510
  refine V_aload_n XC 2 rfl dL_law_513 rfl ?_
  refine V_callV (rest := _) (q0 := 39) XC (c_X8_undo l D kI kC _ _ _ _ _ _ _ _ _ _ _ _ _ _ _  _ _ _ h3 hN hR) gL_law_X8_undo rfl kmX8_undo ⟨⟨Nat.le_of_ble_eq_true rfl, Nat.le_of_ble_eq_true rfl⟩, Nat.le_of_ble_eq_true rfl, Nat.le_of_ble_eq_true rfl⟩ ⟨rfl, rfl⟩ rfl rfl (Nat.le_of_ble_eq_true rfl) [39, 40, 41, 42] rfl rfl (fun _ => rfl) rfl rfl dL_law_514 (kI_of (fun r514 u514 hq514 => ?_))
  obtain ⟨G514, ke514, un514, H514, A514⟩ := u514
  dsimp only [putW, List.set, Option.toList, List.cons_append, List.nil_append, padO, mdO, shW, trW, txW, hiW, liW, woW, taW]
  try dsimp only at hq514
  obtain ⟨hr514, hN514, hH514, h3514⟩ := hq514
  refine V_eqT XC 845 dL_law_517 (by decide) (hr510.trans hr514.symm) ?_
  refine kk _ _ _ _ _ _ _ _ _ _ _ _ _ _ _ _ _ _ _ _ _ _ _ _ _ _ _ _ _ _ _ _ _ _ _ _ _ _ _ _ _ _ _ _ _ _ _ _ _ _ _ _ _ _ _ _ _ _ _ _ _ _ _ _ _ _ _ _ _ _ _ _ _ (undoS (shC n F, past, fut)).2 ?_
  exact ⟨hB, hBm, ⟨hty, hnt, hTT⟩, hs510, h3510, hH510, hN514, hH514, hgp, hg⟩

set_option maxRecDepth 100000 in
set_option maxHeartbeats 4000000 in
theorem law_c14 (l : Launch) {pV : Program} {eV : Env} {sV : State} {mV : MethodId} {bV : List Frame} {tV : Method} {cV : Code} {AV : Nat → Prop} {D : va_G} {kI kC : ClassId} {Q : State → Prop} {sc L : Nat} {xs : Nat → Int32} (XC : Cx pV room_1 sV mV #[.ref sc] tV cV cL_law 4 RL wsL_law AV D kI kC) (hXs : va_X sc L xs sV sV.heap) (hbl : sc < sV.heap.size) (hbA : ¬ AV sc) (hL : L ≤ 2048) (a g w b : Nat → Nat) (i : Nat) (hi : i + 4 ≤ L) (gap : Int) (nb : Nat) (BX : (Nat → Int)) (BY : (Nat → Int)) (nt : Nat) (T : (Nat → Int)) (n : Nat) (F : (Nat → Int)) (dn : Int) (DF : (Nat → Int)) (wn : Int) (WX : (Nat → Int)) (WY : (Nat → Int)) (p : Nat) (f : Nat) (ha : Nat) (N : (Nat → Int)) (HS : (Nat → Int)) (ln : Int) (lo : (Nat → Int)) (to : (Nat → Int)) (bo : (Nat → Int)) (ls : (Nat → Int)) (bt : (Nat → Int)) (bb : (Nat → Int)) (ra : (Nat → Int)) (wc : Int) (od : (Nat → Int)) (pl : (Nat → Int)) (wo : (Nat → Int)) (li : (Nat → Int)) (si : (Nat → Int)) (le : (Nat → Int)) (ri : (Nat → Int)) (fi : (Nat → Int)) (wi : (Nat → Int)) (fn : (Nat → Int)) (sl : (Nat → Int)) (ce : Int) (mo : Int) (TK : (Nat → Int)) (TP : (Nat → Int)) (gp : Int) (ke : Nat) (un : Nat) (bu : Nat) (ty : Nat) (pc : Int) (gd : Bool) (rd : Int) (po : Int) (lm : Int) (wd : Int) (G : (Nat → Int)) (H : (Nat → Int)) (A : (Nat → Int)) (MX : (Nat → Int)) (MY : (Nat → Int)) (TM : (Nat → Int)) (RX : (Nat → Int)) (RY : (Nat → Int)) (X : (Nat → Int)) (PX : (Nat → Int)) (PY : (Nat → Int)) (QX : (Nat → Int)) (QY : (Nat → Int)) (TO : (Nat → Int)) (BO : (Nat → Int)) (BE : (Nat → Int)) (RK : (Nat → Int)) (WO : (Nat → Int)) (OD : (Nat → Int)) (IN : (Nat → Int)) (s : St3) (hI : LInv nb BX BY nt T n F p f ha N HS gap gp ke un bu ty G H A MX MY TM s) (kk : ∀ (gap : Int) (nb : Nat) (BX : (Nat → Int)) (BY : (Nat → Int)) (nt : Nat) (T : (Nat → Int)) (n : Nat) (F : (Nat → Int)) (dn : Int) (DF : (Nat → Int)) (wn : Int) (WX : (Nat → Int)) (WY : (Nat → Int)) (p : Nat) (f : Nat) (ha : Nat) (N : (Nat → Int)) (HS : (Nat → Int)) (ln : Int) (lo : (Nat → Int)) (to : (Nat → Int)) (bo : (Nat → Int)) (ls : (Nat → Int)) (bt : (Nat → Int)) (bb : (Nat → Int)) (ra : (Nat → Int)) (wc : Int) (od : (Nat → Int)) (pl : (Nat → Int)) (wo : (Nat → Int)) (li : (Nat → Int)) (si : (Nat → Int)) (le : (Nat → Int)) (ri : (Nat → Int)) (fi : (Nat → Int)) (wi : (Nat → Int)) (fn : (Nat → Int)) (sl : (Nat → Int)) (ce : Int) (mo : Int) (TK : (Nat → Int)) (TP : (Nat → Int)) (gp : Int) (ke : Nat) (un : Nat) (bu : Nat) (ty : Nat) (pc : Int) (gd : Bool) (rd : Int) (po : Int) (lm : Int) (wd : Int) (G : (Nat → Int)) (H : (Nat → Int)) (A : (Nat → Int)) (MX : (Nat → Int)) (MY : (Nat → Int)) (TM : (Nat → Int)) (RX : (Nat → Int)) (RY : (Nat → Int)) (X : (Nat → Int)) (PX : (Nat → Int)) (PY : (Nat → Int)) (QX : (Nat → Int)) (QY : (Nat → Int)) (TO : (Nat → Int)) (BO : (Nat → Int)) (BE : (Nat → Int)) (RK : (Nat → Int)) (WO : (Nat → Int)) (OD : (Nat → Int)) (IN : (Nat → Int)) (s : St3), LInv nb BX BY nt T n F p f ha N HS gap gp ke un bu ty G H A MX MY TM s → VV pV l eV room_1 sV mV #[.ref sc] bV tV cV 4 AV D Q 60 30600 845 [some (.ref sc), some (.ref (a 0)), some (.ref (b 0)), some (.int (iI (i : Int)))] [] ((padO a g w gap :: (trW kI (a 1) (a 2) (a 3) (nb : Int) BX BY ++ (txW kC (a 4) (a 5) (nt : Int) T ++ (shW kI (a 6) (a 7) (n : Int) F ++ (shW kI (a 8) (a 9) dn DF ++ (trW kI (a 10) (a 11) (a 12) wn WX WY ++ (hiW kI (a 13) (a 14) (a 15) (p : Int) (f : Int) (ha : Int) N HS ++ (liW kI g ln lo to bo ls bt bb ra ++ (woW kI w wc od pl wo li si le ri fi wi fn sl ++ (taW kI (a 36) (a 37) (a 38) ce mo TK TP)))))))))) ++ (mdO b gp (ke : Int) (un : Int) (bu : Int) (ty : Int) pc gd rd po lm wd :: [(b 1, IA kI 801 G), (b 2, IA kI 4806 H), (b 3, IA kI 4806 A), (b 4, IA kI 24 MX), (b 5, IA kI 24 MY), (b 6, IA kC 100 TM), (b 7, IA kI 24 RX), (b 8, IA kI 24 RY), (b 9, IA kI 801 X), (b 10, IA kI 24 PX), (b 11, IA kI 24 PY), (b 12, IA kI 24 QX), (b 13, IA kI 24 QY), (b 14, IA kI 16 TO), (b 15, IA kI 16 BO), (b 16, IA kI 16 BE), (b 17, IA kI 16 RK), (b 18, IA kI 16 WO), (b 19, IA kI 16 OD), (b 20, IA kI 10201 IN)]))) : VV pV l eV room_1 sV mV #[.ref sc] bV tV cV 4 AV D Q 60 30600 522 [some (.ref sc), some (.ref (a 0)), some (.ref (b 0)), some (.int (iI (i : Int)))] [] ((padO a g w gap :: (trW kI (a 1) (a 2) (a 3) (nb : Int) BX BY ++ (txW kC (a 4) (a 5) (nt : Int) T ++ (shW kI (a 6) (a 7) (n : Int) F ++ (shW kI (a 8) (a 9) dn DF ++ (trW kI (a 10) (a 11) (a 12) wn WX WY ++ (hiW kI (a 13) (a 14) (a 15) (p : Int) (f : Int) (ha : Int) N HS ++ (liW kI g ln lo to bo ls bt bb ra ++ (woW kI w wc od pl wo li si le ri fi wi fn sl ++ (taW kI (a 36) (a 37) (a 38) ce mo TK TP)))))))))) ++ (mdO b gp (ke : Int) (un : Int) (bu : Int) (ty : Int) pc gd rd po lm wd :: [(b 1, IA kI 801 G), (b 2, IA kI 4806 H), (b 3, IA kI 4806 A), (b 4, IA kI 24 MX), (b 5, IA kI 24 MY), (b 6, IA kC 100 TM), (b 7, IA kI 24 RX), (b 8, IA kI 24 RY), (b 9, IA kI 801 X), (b 10, IA kI 24 PX), (b 11, IA kI 24 PY), (b 12, IA kI 24 QX), (b 13, IA kI 24 QY), (b 14, IA kI 16 TO), (b 15, IA kI 16 BO), (b 16, IA kI 16 BE), (b 17, IA kI 16 RK), (b 18, IA kI 16 WO), (b 19, IA kI 16 OD), (b 20, IA kI 10201 IN)])) := by
  obtain ⟨S0, past, fut⟩ := s
  obtain ⟨hB, hBm, ⟨hty, hnt, hTT⟩, hs0, h3, hH, hN, hR, hgp, hg⟩ := hI
  dsimp only at hs0 hN
  subst hs0
  have hL2 : L < 2147483648 := by omega
  have hn16 : n ≤ 16 := by have := h3.1.1; rwa [shC_len] at this
  have hS : OkS (shC n F) := h3.1
  have hbn : bu = nb := by have := congrArg List.length hBm; rwa [ptsOf_len, ptsOf_len] at this
  have hBk : OkB (ptsOf bu MX MY) := by rw [hBm]; exact hB
  have hT : ∀ i, i < nt → 0 ≤ T i ∧ T i < 65536 := fun i hi => (hTT i hi).2
  have hTm : ∀ i, i < ty → 0 ≤ TM i ∧ TM i < 65536 := fun i hi => by rw [(hTT i (by omega)).1]; exact hT i (by omega)
  have hgm : 0 ≤ gp ∧ gp ≤ 500 := by omega
  dsimp only [putW, List.set, Option.toList, List.cons_append, List.nil_append, padO, mdO, shW, trW, txW, hiW, liW, woW, taW] at kk ⊢
  refine V_aload_n XC 1 rfl dL_law_522 rfl ?_
  refine V_callV (rest := _) (q0 := 0) XC (c_X7_redo l D kI kC _ _ _ _ _ _ _ _ _ _ _ _ _ h3 hH) gL_law_X7_redo rfl kmX7_redo ⟨⟨Nat.le_of_ble_eq_true rfl, Nat.le_of_ble_eq_true rfl⟩, Nat.le_of_ble_eq_true rfl, Nat.le_of_ble_eq_true rfl⟩ ⟨rfl, rfl⟩ rfl rfl (Nat.le_of_ble_eq_true rfl) [0, 6, 7, 13, 14, 15] rfl rfl (fun _ => rfl) rfl rfl dL_law_523 (kI_of (fun r523 u523 hq523 => ?_))
  obtain ⟨n523, F523, p523, f523, ha523, N523, HS523⟩ := u523
  dsimp only [putW, List.set, Option.toList, List.cons_append, List.nil_append, padO, mdO, shW, trW, txW, hiW, liW, woW, taW]
  try dsimp only at hq523
  obtain ⟨hr523, hs523, hH523, h3523⟩ := hq523
  refine V_aload_n XC 2 rfl dL_law_526 rfl ?_
  refine V_callV (rest := _) (q0 := 39) XC (c_X8_redo l D kI kC _ _ _ _ _ _ _ _ _ _ _ _ _ _ _  _ _ _ h3 hN hR) gL_law_X8_redo rfl kmX8_redo ⟨⟨Nat.le_of_ble_eq_true rfl, Nat.le_of_ble_eq_true rfl⟩, Nat.le_of_ble_eq_true rfl, Nat.le_of_ble_eq_true rfl⟩ ⟨rfl, rfl⟩ rfl rfl (Nat.le_of_ble_eq_true rfl) [39, 40, 41, 42] rfl rfl (fun _ => rfl) rfl rfl dL_law_527 (kI_of (fun r527 u527 hq527 => ?_))
  obtain ⟨G527, ke527, un527, H527, A527⟩ := u527
  dsimp only [putW, List.set, Option.toList, List.cons_append, List.nil_append, padO, mdO, shW, trW, txW, hiW, liW, woW, taW]
  try dsimp only at hq527
  obtain ⟨hr527, hN527, hH527, h3527⟩ := hq527
  refine V_eqT XC 845 dL_law_530 (by decide) (hr523.trans hr527.symm) ?_
  refine kk _ _ _ _ _ _ _ _ _ _ _ _ _ _ _ _ _ _ _ _ _ _ _ _ _ _ _ _ _ _ _ _ _ _ _ _ _ _ _ _ _ _ _ _ _ _ _ _ _ _ _ _ _ _ _ _ _ _ _ _ _ _ _ _ _ _ _ _ _ _ _ _ _ (redoS (shC n F, past, fut)).2 ?_
  exact ⟨hB, hBm, ⟨hty, hnt, hTT⟩, hs523, h3523, hH523, hN527, hH527, hgp, hg⟩

set_option maxRecDepth 100000 in
set_option maxHeartbeats 4000000 in
theorem law_c15 (l : Launch) {pV : Program} {eV : Env} {sV : State} {mV : MethodId} {bV : List Frame} {tV : Method} {cV : Code} {AV : Nat → Prop} {D : va_G} {kI kC : ClassId} {Q : State → Prop} {sc L : Nat} {xs : Nat → Int32} (XC : Cx pV room_1 sV mV #[.ref sc] tV cV cL_law 4 RL wsL_law AV D kI kC) (hXs : va_X sc L xs sV sV.heap) (hbl : sc < sV.heap.size) (hbA : ¬ AV sc) (hL : L ≤ 2048) (a g w b : Nat → Nat) (i : Nat) (hi : i + 4 ≤ L) (gap : Int) (nb : Nat) (BX : (Nat → Int)) (BY : (Nat → Int)) (nt : Nat) (T : (Nat → Int)) (n : Nat) (F : (Nat → Int)) (dn : Int) (DF : (Nat → Int)) (wn : Int) (WX : (Nat → Int)) (WY : (Nat → Int)) (p : Nat) (f : Nat) (ha : Nat) (N : (Nat → Int)) (HS : (Nat → Int)) (ln : Int) (lo : (Nat → Int)) (to : (Nat → Int)) (bo : (Nat → Int)) (ls : (Nat → Int)) (bt : (Nat → Int)) (bb : (Nat → Int)) (ra : (Nat → Int)) (wc : Int) (od : (Nat → Int)) (pl : (Nat → Int)) (wo : (Nat → Int)) (li : (Nat → Int)) (si : (Nat → Int)) (le : (Nat → Int)) (ri : (Nat → Int)) (fi : (Nat → Int)) (wi : (Nat → Int)) (fn : (Nat → Int)) (sl : (Nat → Int)) (ce : Int) (mo : Int) (TK : (Nat → Int)) (TP : (Nat → Int)) (gp : Int) (ke : Nat) (un : Nat) (bu : Nat) (ty : Nat) (pc : Int) (gd : Bool) (rd : Int) (po : Int) (lm : Int) (wd : Int) (G : (Nat → Int)) (H : (Nat → Int)) (A : (Nat → Int)) (MX : (Nat → Int)) (MY : (Nat → Int)) (TM : (Nat → Int)) (RX : (Nat → Int)) (RY : (Nat → Int)) (X : (Nat → Int)) (PX : (Nat → Int)) (PY : (Nat → Int)) (QX : (Nat → Int)) (QY : (Nat → Int)) (TO : (Nat → Int)) (BO : (Nat → Int)) (BE : (Nat → Int)) (RK : (Nat → Int)) (WO : (Nat → Int)) (OD : (Nat → Int)) (IN : (Nat → Int)) (s : St3) (hI : LInv nb BX BY nt T n F p f ha N HS gap gp ke un bu ty G H A MX MY TM s) (kk : ∀ (gap : Int) (nb : Nat) (BX : (Nat → Int)) (BY : (Nat → Int)) (nt : Nat) (T : (Nat → Int)) (n : Nat) (F : (Nat → Int)) (dn : Int) (DF : (Nat → Int)) (wn : Int) (WX : (Nat → Int)) (WY : (Nat → Int)) (p : Nat) (f : Nat) (ha : Nat) (N : (Nat → Int)) (HS : (Nat → Int)) (ln : Int) (lo : (Nat → Int)) (to : (Nat → Int)) (bo : (Nat → Int)) (ls : (Nat → Int)) (bt : (Nat → Int)) (bb : (Nat → Int)) (ra : (Nat → Int)) (wc : Int) (od : (Nat → Int)) (pl : (Nat → Int)) (wo : (Nat → Int)) (li : (Nat → Int)) (si : (Nat → Int)) (le : (Nat → Int)) (ri : (Nat → Int)) (fi : (Nat → Int)) (wi : (Nat → Int)) (fn : (Nat → Int)) (sl : (Nat → Int)) (ce : Int) (mo : Int) (TK : (Nat → Int)) (TP : (Nat → Int)) (gp : Int) (ke : Nat) (un : Nat) (bu : Nat) (ty : Nat) (pc : Int) (gd : Bool) (rd : Int) (po : Int) (lm : Int) (wd : Int) (G : (Nat → Int)) (H : (Nat → Int)) (A : (Nat → Int)) (MX : (Nat → Int)) (MY : (Nat → Int)) (TM : (Nat → Int)) (RX : (Nat → Int)) (RY : (Nat → Int)) (X : (Nat → Int)) (PX : (Nat → Int)) (PY : (Nat → Int)) (QX : (Nat → Int)) (QY : (Nat → Int)) (TO : (Nat → Int)) (BO : (Nat → Int)) (BE : (Nat → Int)) (RK : (Nat → Int)) (WO : (Nat → Int)) (OD : (Nat → Int)) (IN : (Nat → Int)) (s : St3), LInv nb BX BY nt T n F p f ha N HS gap gp ke un bu ty G H A MX MY TM s → VV pV l eV room_1 sV mV #[.ref sc] bV tV cV 4 AV D Q 60 30600 845 [some (.ref sc), some (.ref (a 0)), some (.ref (b 0)), some (.int (iI (i : Int)))] [] ((padO a g w gap :: (trW kI (a 1) (a 2) (a 3) (nb : Int) BX BY ++ (txW kC (a 4) (a 5) (nt : Int) T ++ (shW kI (a 6) (a 7) (n : Int) F ++ (shW kI (a 8) (a 9) dn DF ++ (trW kI (a 10) (a 11) (a 12) wn WX WY ++ (hiW kI (a 13) (a 14) (a 15) (p : Int) (f : Int) (ha : Int) N HS ++ (liW kI g ln lo to bo ls bt bb ra ++ (woW kI w wc od pl wo li si le ri fi wi fn sl ++ (taW kI (a 36) (a 37) (a 38) ce mo TK TP)))))))))) ++ (mdO b gp (ke : Int) (un : Int) (bu : Int) (ty : Int) pc gd rd po lm wd :: [(b 1, IA kI 801 G), (b 2, IA kI 4806 H), (b 3, IA kI 4806 A), (b 4, IA kI 24 MX), (b 5, IA kI 24 MY), (b 6, IA kC 100 TM), (b 7, IA kI 24 RX), (b 8, IA kI 24 RY), (b 9, IA kI 801 X), (b 10, IA kI 24 PX), (b 11, IA kI 24 PY), (b 12, IA kI 24 QX), (b 13, IA kI 24 QY), (b 14, IA kI 16 TO), (b 15, IA kI 16 BO), (b 16, IA kI 16 BE), (b 17, IA kI 16 RK), (b 18, IA kI 16 WO), (b 19, IA kI 16 OD), (b 20, IA kI 10201 IN)]))) : VV pV l eV room_1 sV mV #[.ref sc] bV tV cV 4 AV D Q 60 30600 535 [some (.ref sc), some (.ref (a 0)), some (.ref (b 0)), some (.int (iI (i : Int)))] [] ((padO a g w gap :: (trW kI (a 1) (a 2) (a 3) (nb : Int) BX BY ++ (txW kC (a 4) (a 5) (nt : Int) T ++ (shW kI (a 6) (a 7) (n : Int) F ++ (shW kI (a 8) (a 9) dn DF ++ (trW kI (a 10) (a 11) (a 12) wn WX WY ++ (hiW kI (a 13) (a 14) (a 15) (p : Int) (f : Int) (ha : Int) N HS ++ (liW kI g ln lo to bo ls bt bb ra ++ (woW kI w wc od pl wo li si le ri fi wi fn sl ++ (taW kI (a 36) (a 37) (a 38) ce mo TK TP)))))))))) ++ (mdO b gp (ke : Int) (un : Int) (bu : Int) (ty : Int) pc gd rd po lm wd :: [(b 1, IA kI 801 G), (b 2, IA kI 4806 H), (b 3, IA kI 4806 A), (b 4, IA kI 24 MX), (b 5, IA kI 24 MY), (b 6, IA kC 100 TM), (b 7, IA kI 24 RX), (b 8, IA kI 24 RY), (b 9, IA kI 801 X), (b 10, IA kI 24 PX), (b 11, IA kI 24 PY), (b 12, IA kI 24 QX), (b 13, IA kI 24 QY), (b 14, IA kI 16 TO), (b 15, IA kI 16 BO), (b 16, IA kI 16 BE), (b 17, IA kI 16 RK), (b 18, IA kI 16 WO), (b 19, IA kI 16 OD), (b 20, IA kI 10201 IN)])) := by
  obtain ⟨S0, past, fut⟩ := s
  obtain ⟨hB, hBm, ⟨hty, hnt, hTT⟩, hs0, h3, hH, hN, hR, hgp, hg⟩ := hI
  dsimp only at hs0 hN
  subst hs0
  have hL2 : L < 2147483648 := by omega
  have hn16 : n ≤ 16 := by have := h3.1.1; rwa [shC_len] at this
  have hS : OkS (shC n F) := h3.1
  have hbn : bu = nb := by have := congrArg List.length hBm; rwa [ptsOf_len, ptsOf_len] at this
  have hBk : OkB (ptsOf bu MX MY) := by rw [hBm]; exact hB
  have hT : ∀ i, i < nt → 0 ≤ T i ∧ T i < 65536 := fun i hi => (hTT i hi).2
  have hTm : ∀ i, i < ty → 0 ≤ TM i ∧ TM i < 65536 := fun i hi => by rw [(hTT i (by omega)).1]; exact hT i (by omega)
  have hgm : 0 ≤ gp ∧ gp ≤ 500 := by omega
  dsimp only [putW, List.set, Option.toList, List.cons_append, List.nil_append, padO, mdO, shW, trW, txW, hiW, liW, woW, taW] at kk ⊢
  refine V_aload_n XC 1 rfl dL_law_535 rfl ?_
  refine V_aload_n XC 0 rfl dL_law_536 rfl ?_
  refine V_iload_n XC 3 rfl dL_law_537 rfl ?_
  refine V_iconst XC dL_law_538 ?_
  refine V_iadd XC dL_law_539 ?_
  refine V_sld XC hXs hbl hbA hL2 (i + 1) (by omega) (by omega) dL_law_540 ?_
  refine V_aload_n XC 0 rfl dL_law_541 rfl ?_
  refine V_iload_n XC 3 rfl dL_law_542 rfl ?_
  refine V_iconst XC dL_law_543 ?_
  refine V_iadd XC dL_law_544 ?_
  refine V_sld XC hXs hbl hbA hL2 (i + 2) (by omega) (by omega) dL_law_545 ?_
  refine V_callV (rest := _) (q0 := 0) XC (c_X7_stroke l D kI kC _ _ _ _ _ _ _ _ _ _ _ _ _ _ _ _ _ _ _ _ _ _ _ _ _ _  hn16 hS hg _ _ (IR_of _) (IR_of _)) gL_law_X7_stroke rfl kmX7_stroke ⟨⟨Nat.le_of_ble_eq_true rfl, Nat.le_of_ble_eq_true rfl⟩, Nat.le_of_ble_eq_true rfl, Nat.le_of_ble_eq_true rfl⟩ ⟨rfl, rfl⟩ rfl rfl (Nat.le_of_ble_eq_true rfl) [0, 6, 7, 16, 17, 18, 19, 20, 21, 22, 23, 24, 25, 26, 27, 28, 29, 30, 31, 32, 33, 34, 35] rfl rfl (fun _ => rfl) rfl rfl dL_law_546 (kI_of (fun r546 u546 hq546 => ?_))
  dsimp only [putW, List.set, Option.toList, List.cons_append, List.nil_append, padO, mdO, shW, trW, txW, hiW, liW, woW, taW]
  try dsimp only at hq546
  have h546 := hq546
  refine V_aload_n XC 2 rfl dL_law_549 rfl ?_
  refine V_aload_n XC 0 rfl dL_law_550 rfl ?_
  refine V_iload_n XC 3 rfl dL_law_551 rfl ?_
  refine V_iconst XC dL_law_552 ?_
  refine V_iadd XC dL_law_553 ?_
  refine V_sld XC hXs hbl hbA hL2 (i + 1) (by omega) (by omega) dL_law_554 ?_
  refine V_aload_n XC 0 rfl dL_law_555 rfl ?_
  refine V_iload_n XC 3 rfl dL_law_556 rfl ?_
  refine V_iconst XC dL_law_557 ?_
  refine V_iadd XC dL_law_558 ?_
  refine V_sld XC hXs hbl hbA hL2 (i + 2) (by omega) (by omega) dL_law_559 ?_
  refine V_callV (rest := _) (q0 := 39) XC (c_X8_stroke l D kI kC _ _ _ _ _ _ _ _ _ _ _ _ _ _ _ _ _ _ _  _ hS hN hgm _ _ (IR_of _) (IR_of _)) gL_law_X8_stroke rfl kmX8_stroke ⟨⟨Nat.le_of_ble_eq_true rfl, Nat.le_of_ble_eq_true rfl⟩, Nat.le_of_ble_eq_true rfl, Nat.le_of_ble_eq_true rfl⟩ ⟨rfl, rfl⟩ rfl rfl (Nat.le_of_ble_eq_true rfl) [39, 40, 53, 54, 55, 56, 57, 58] rfl rfl (fun _ => rfl) rfl rfl dL_law_560 (kI_of (fun r560 u560 hq560 => ?_))
  dsimp only [putW, List.set, Option.toList, List.cons_append, List.nil_append, padO, mdO, shW, trW, txW, hiW, liW, woW, taW]
  try dsimp only at hq560
  have h560 := hq560
  refine V_eqT XC 845 dL_law_563 (by decide) (by first | (rw [h546, h560, hgp]; done) | (rw [h546, h560]; done)) ?_
  refine kk _ _ _ _ _ _ _ _ _ _ _ _ _ _ _ _ _ _ _ _ _ _ _ _ _ _ _ _ _ _ _ _ _ _ _ _ _ _ _ _ _ _ _ _ _ _ _ _ _ _ _ _ _ _ _ _ _ _ _ _ _ _ _ _ _ _ _ _ _ _ _ _ _ (shC n F, past, fut) ?_
  exact ⟨hB, hBm, ⟨hty, hnt, hTT⟩, rfl, h3, hH, hN, hR, hgp, hg⟩

set_option maxRecDepth 100000 in
set_option maxHeartbeats 4000000 in
theorem law_c16 (l : Launch) {pV : Program} {eV : Env} {sV : State} {mV : MethodId} {bV : List Frame} {tV : Method} {cV : Code} {AV : Nat → Prop} {D : va_G} {kI kC : ClassId} {Q : State → Prop} {sc L : Nat} {xs : Nat → Int32} (XC : Cx pV room_1 sV mV #[.ref sc] tV cV cL_law 4 RL wsL_law AV D kI kC) (hXs : va_X sc L xs sV sV.heap) (hbl : sc < sV.heap.size) (hbA : ¬ AV sc) (hL : L ≤ 2048) (a g w b : Nat → Nat) (i : Nat) (hi : i + 4 ≤ L) (gap : Int) (nb : Nat) (BX : (Nat → Int)) (BY : (Nat → Int)) (nt : Nat) (T : (Nat → Int)) (n : Nat) (F : (Nat → Int)) (dn : Int) (DF : (Nat → Int)) (wn : Int) (WX : (Nat → Int)) (WY : (Nat → Int)) (p : Nat) (f : Nat) (ha : Nat) (N : (Nat → Int)) (HS : (Nat → Int)) (ln : Int) (lo : (Nat → Int)) (to : (Nat → Int)) (bo : (Nat → Int)) (ls : (Nat → Int)) (bt : (Nat → Int)) (bb : (Nat → Int)) (ra : (Nat → Int)) (wc : Int) (od : (Nat → Int)) (pl : (Nat → Int)) (wo : (Nat → Int)) (li : (Nat → Int)) (si : (Nat → Int)) (le : (Nat → Int)) (ri : (Nat → Int)) (fi : (Nat → Int)) (wi : (Nat → Int)) (fn : (Nat → Int)) (sl : (Nat → Int)) (ce : Int) (mo : Int) (TK : (Nat → Int)) (TP : (Nat → Int)) (gp : Int) (ke : Nat) (un : Nat) (bu : Nat) (ty : Nat) (pc : Int) (gd : Bool) (rd : Int) (po : Int) (lm : Int) (wd : Int) (G : (Nat → Int)) (H : (Nat → Int)) (A : (Nat → Int)) (MX : (Nat → Int)) (MY : (Nat → Int)) (TM : (Nat → Int)) (RX : (Nat → Int)) (RY : (Nat → Int)) (X : (Nat → Int)) (PX : (Nat → Int)) (PY : (Nat → Int)) (QX : (Nat → Int)) (QY : (Nat → Int)) (TO : (Nat → Int)) (BO : (Nat → Int)) (BE : (Nat → Int)) (RK : (Nat → Int)) (WO : (Nat → Int)) (OD : (Nat → Int)) (IN : (Nat → Int)) (s : St3) (hI : LInv nb BX BY nt T n F p f ha N HS gap gp ke un bu ty G H A MX MY TM s) (kk : ∀ (gap : Int) (nb : Nat) (BX : (Nat → Int)) (BY : (Nat → Int)) (nt : Nat) (T : (Nat → Int)) (n : Nat) (F : (Nat → Int)) (dn : Int) (DF : (Nat → Int)) (wn : Int) (WX : (Nat → Int)) (WY : (Nat → Int)) (p : Nat) (f : Nat) (ha : Nat) (N : (Nat → Int)) (HS : (Nat → Int)) (ln : Int) (lo : (Nat → Int)) (to : (Nat → Int)) (bo : (Nat → Int)) (ls : (Nat → Int)) (bt : (Nat → Int)) (bb : (Nat → Int)) (ra : (Nat → Int)) (wc : Int) (od : (Nat → Int)) (pl : (Nat → Int)) (wo : (Nat → Int)) (li : (Nat → Int)) (si : (Nat → Int)) (le : (Nat → Int)) (ri : (Nat → Int)) (fi : (Nat → Int)) (wi : (Nat → Int)) (fn : (Nat → Int)) (sl : (Nat → Int)) (ce : Int) (mo : Int) (TK : (Nat → Int)) (TP : (Nat → Int)) (gp : Int) (ke : Nat) (un : Nat) (bu : Nat) (ty : Nat) (pc : Int) (gd : Bool) (rd : Int) (po : Int) (lm : Int) (wd : Int) (G : (Nat → Int)) (H : (Nat → Int)) (A : (Nat → Int)) (MX : (Nat → Int)) (MY : (Nat → Int)) (TM : (Nat → Int)) (RX : (Nat → Int)) (RY : (Nat → Int)) (X : (Nat → Int)) (PX : (Nat → Int)) (PY : (Nat → Int)) (QX : (Nat → Int)) (QY : (Nat → Int)) (TO : (Nat → Int)) (BO : (Nat → Int)) (BE : (Nat → Int)) (RK : (Nat → Int)) (WO : (Nat → Int)) (OD : (Nat → Int)) (IN : (Nat → Int)) (s : St3), LInv nb BX BY nt T n F p f ha N HS gap gp ke un bu ty G H A MX MY TM s → VV pV l eV room_1 sV mV #[.ref sc] bV tV cV 4 AV D Q 60 30600 845 [some (.ref sc), some (.ref (a 0)), some (.ref (b 0)), some (.int (iI (i : Int)))] [] ((padO a g w gap :: (trW kI (a 1) (a 2) (a 3) (nb : Int) BX BY ++ (txW kC (a 4) (a 5) (nt : Int) T ++ (shW kI (a 6) (a 7) (n : Int) F ++ (shW kI (a 8) (a 9) dn DF ++ (trW kI (a 10) (a 11) (a 12) wn WX WY ++ (hiW kI (a 13) (a 14) (a 15) (p : Int) (f : Int) (ha : Int) N HS ++ (liW kI g ln lo to bo ls bt bb ra ++ (woW kI w wc od pl wo li si le ri fi wi fn sl ++ (taW kI (a 36) (a 37) (a 38) ce mo TK TP)))))))))) ++ (mdO b gp (ke : Int) (un : Int) (bu : Int) (ty : Int) pc gd rd po lm wd :: [(b 1, IA kI 801 G), (b 2, IA kI 4806 H), (b 3, IA kI 4806 A), (b 4, IA kI 24 MX), (b 5, IA kI 24 MY), (b 6, IA kC 100 TM), (b 7, IA kI 24 RX), (b 8, IA kI 24 RY), (b 9, IA kI 801 X), (b 10, IA kI 24 PX), (b 11, IA kI 24 PY), (b 12, IA kI 24 QX), (b 13, IA kI 24 QY), (b 14, IA kI 16 TO), (b 15, IA kI 16 BO), (b 16, IA kI 16 BE), (b 17, IA kI 16 RK), (b 18, IA kI 16 WO), (b 19, IA kI 16 OD), (b 20, IA kI 10201 IN)]))) : VV pV l eV room_1 sV mV #[.ref sc] bV tV cV 4 AV D Q 60 30600 568 [some (.ref sc), some (.ref (a 0)), some (.ref (b 0)), some (.int (iI (i : Int)))] [] ((padO a g w gap :: (trW kI (a 1) (a 2) (a 3) (nb : Int) BX BY ++ (txW kC (a 4) (a 5) (nt : Int) T ++ (shW kI (a 6) (a 7) (n : Int) F ++ (shW kI (a 8) (a 9) dn DF ++ (trW kI (a 10) (a 11) (a 12) wn WX WY ++ (hiW kI (a 13) (a 14) (a 15) (p : Int) (f : Int) (ha : Int) N HS ++ (liW kI g ln lo to bo ls bt bb ra ++ (woW kI w wc od pl wo li si le ri fi wi fn sl ++ (taW kI (a 36) (a 37) (a 38) ce mo TK TP)))))))))) ++ (mdO b gp (ke : Int) (un : Int) (bu : Int) (ty : Int) pc gd rd po lm wd :: [(b 1, IA kI 801 G), (b 2, IA kI 4806 H), (b 3, IA kI 4806 A), (b 4, IA kI 24 MX), (b 5, IA kI 24 MY), (b 6, IA kC 100 TM), (b 7, IA kI 24 RX), (b 8, IA kI 24 RY), (b 9, IA kI 801 X), (b 10, IA kI 24 PX), (b 11, IA kI 24 PY), (b 12, IA kI 24 QX), (b 13, IA kI 24 QY), (b 14, IA kI 16 TO), (b 15, IA kI 16 BO), (b 16, IA kI 16 BE), (b 17, IA kI 16 RK), (b 18, IA kI 16 WO), (b 19, IA kI 16 OD), (b 20, IA kI 10201 IN)])) := by
  obtain ⟨S0, past, fut⟩ := s
  obtain ⟨hB, hBm, ⟨hty, hnt, hTT⟩, hs0, h3, hH, hN, hR, hgp, hg⟩ := hI
  dsimp only at hs0 hN
  subst hs0
  have hL2 : L < 2147483648 := by omega
  have hn16 : n ≤ 16 := by have := h3.1.1; rwa [shC_len] at this
  have hS : OkS (shC n F) := h3.1
  have hbn : bu = nb := by have := congrArg List.length hBm; rwa [ptsOf_len, ptsOf_len] at this
  have hBk : OkB (ptsOf bu MX MY) := by rw [hBm]; exact hB
  have hT : ∀ i, i < nt → 0 ≤ T i ∧ T i < 65536 := fun i hi => (hTT i hi).2
  have hTm : ∀ i, i < ty → 0 ≤ TM i ∧ TM i < 65536 := fun i hi => by rw [(hTT i (by omega)).1]; exact hT i (by omega)
  have hgm : 0 ≤ gp ∧ gp ≤ 500 := by omega
  dsimp only [putW, List.set, Option.toList, List.cons_append, List.nil_append, padO, mdO, shW, trW, txW, hiW, liW, woW, taW] at kk ⊢
  refine V_aload_n XC 1 rfl dL_law_568 rfl ?_
  refine V_aload_n XC 0 rfl dL_law_569 rfl ?_
  refine V_iload_n XC 3 rfl dL_law_570 rfl ?_
  refine V_iconst XC dL_law_571 ?_
  refine V_iadd XC dL_law_572 ?_
  refine V_sld XC hXs hbl hbA hL2 (i + 1) (by omega) (by omega) dL_law_573 ?_
  refine V_aload_n XC 0 rfl dL_law_574 rfl ?_
  refine V_iload_n XC 3 rfl dL_law_575 rfl ?_
  refine V_iconst XC dL_law_576 ?_
  refine V_iadd XC dL_law_577 ?_
  refine V_sld XC hXs hbl hbA hL2 (i + 2) (by omega) (by omega) dL_law_578 ?_
  refine V_aload_n XC 0 rfl dL_law_579 rfl ?_
  refine V_iload_n XC 3 rfl dL_law_580 rfl ?_
  refine V_iconst XC dL_law_581 ?_
  refine V_iadd XC dL_law_582 ?_
  refine V_sld XC hXs hbl hbA hL2 (i + 3) (by omega) (by omega) dL_law_583 ?_
  refine V_callV (rest := _) (q0 := 0) XC (c_X7_point l D kI kC _ _ _ _ _ _  hn16 hS _ _ _ (IR_of _) (IR_of _) (IR_of _)) gL_law_X7_point rfl kmX7_point ⟨⟨Nat.le_of_ble_eq_true rfl, Nat.le_of_ble_eq_true rfl⟩, Nat.le_of_ble_eq_true rfl, Nat.le_of_ble_eq_true rfl⟩ ⟨rfl, rfl⟩ rfl rfl (Nat.le_of_ble_eq_true rfl) [0, 6, 7] rfl rfl (fun _ => rfl) rfl rfl dL_law_584 (kR_of rfl (fun r584 hq584 => ?_))
  subst hq584
  refine V_aload_n XC 2 rfl dL_law_587 rfl ?_
  refine V_aload_n XC 0 rfl dL_law_588 rfl ?_
  refine V_iload_n XC 3 rfl dL_law_589 rfl ?_
  refine V_iconst XC dL_law_590 ?_
  refine V_iadd XC dL_law_591 ?_
  refine V_sld XC hXs hbl hbA hL2 (i + 1) (by omega) (by omega) dL_law_592 ?_
  refine V_aload_n XC 0 rfl dL_law_593 rfl ?_
  refine V_iload_n XC 3 rfl dL_law_594 rfl ?_
  refine V_iconst XC dL_law_595 ?_
  refine V_iadd XC dL_law_596 ?_
  refine V_sld XC hXs hbl hbA hL2 (i + 2) (by omega) (by omega) dL_law_597 ?_
  refine V_aload_n XC 0 rfl dL_law_598 rfl ?_
  refine V_iload_n XC 3 rfl dL_law_599 rfl ?_
  refine V_iconst XC dL_law_600 ?_
  refine V_iadd XC dL_law_601 ?_
  refine V_sld XC hXs hbl hbA hL2 (i + 3) (by omega) (by omega) dL_law_602 ?_
  refine V_callV (rest := _) (q0 := 39) XC (c_X8_point l D kI kC _ _ _ _ _ _ _ _ _ _ _ _ _  _ hS hN _ _ _ (IR_of _) (IR_of _) (IR_of _)) gL_law_X8_point rfl kmX8_point ⟨⟨Nat.le_of_ble_eq_true rfl, Nat.le_of_ble_eq_true rfl⟩, Nat.le_of_ble_eq_true rfl, Nat.le_of_ble_eq_true rfl⟩ ⟨rfl, rfl⟩ rfl rfl (Nat.le_of_ble_eq_true rfl) [39, 40] rfl rfl (fun _ => rfl) rfl rfl dL_law_603 (kR_of rfl (fun r603 hq603 => ?_))
  subst hq603
  refine V_eqT XC 845 dL_law_606 (by decide) (rfl) ?_
  refine kk _ _ _ _ _ _ _ _ _ _ _ _ _ _ _ _ _ _ _ _ _ _ _ _ _ _ _ _ _ _ _ _ _ _ _ _ _ _ _ _ _ _ _ _ _ _ _ _ _ _ _ _ _ _ _ _ _ _ _ _ _ _ _ _ _ _ _ _ _ _ _ _ _ (shC n F, past, fut) ?_
  exact ⟨hB, hBm, ⟨hty, hnt, hTT⟩, rfl, h3, hH, hN, hR, hgp, hg⟩

set_option maxRecDepth 100000 in
set_option maxHeartbeats 4000000 in
theorem law_c17 (l : Launch) {pV : Program} {eV : Env} {sV : State} {mV : MethodId} {bV : List Frame} {tV : Method} {cV : Code} {AV : Nat → Prop} {D : va_G} {kI kC : ClassId} {Q : State → Prop} {sc L : Nat} {xs : Nat → Int32} (XC : Cx pV room_1 sV mV #[.ref sc] tV cV cL_law 4 RL wsL_law AV D kI kC) (hXs : va_X sc L xs sV sV.heap) (hbl : sc < sV.heap.size) (hbA : ¬ AV sc) (hL : L ≤ 2048) (a g w b : Nat → Nat) (i : Nat) (hi : i + 4 ≤ L) (gap : Int) (nb : Nat) (BX : (Nat → Int)) (BY : (Nat → Int)) (nt : Nat) (T : (Nat → Int)) (n : Nat) (F : (Nat → Int)) (dn : Int) (DF : (Nat → Int)) (wn : Int) (WX : (Nat → Int)) (WY : (Nat → Int)) (p : Nat) (f : Nat) (ha : Nat) (N : (Nat → Int)) (HS : (Nat → Int)) (ln : Int) (lo : (Nat → Int)) (to : (Nat → Int)) (bo : (Nat → Int)) (ls : (Nat → Int)) (bt : (Nat → Int)) (bb : (Nat → Int)) (ra : (Nat → Int)) (wc : Int) (od : (Nat → Int)) (pl : (Nat → Int)) (wo : (Nat → Int)) (li : (Nat → Int)) (si : (Nat → Int)) (le : (Nat → Int)) (ri : (Nat → Int)) (fi : (Nat → Int)) (wi : (Nat → Int)) (fn : (Nat → Int)) (sl : (Nat → Int)) (ce : Int) (mo : Int) (TK : (Nat → Int)) (TP : (Nat → Int)) (gp : Int) (ke : Nat) (un : Nat) (bu : Nat) (ty : Nat) (pc : Int) (gd : Bool) (rd : Int) (po : Int) (lm : Int) (wd : Int) (G : (Nat → Int)) (H : (Nat → Int)) (A : (Nat → Int)) (MX : (Nat → Int)) (MY : (Nat → Int)) (TM : (Nat → Int)) (RX : (Nat → Int)) (RY : (Nat → Int)) (X : (Nat → Int)) (PX : (Nat → Int)) (PY : (Nat → Int)) (QX : (Nat → Int)) (QY : (Nat → Int)) (TO : (Nat → Int)) (BO : (Nat → Int)) (BE : (Nat → Int)) (RK : (Nat → Int)) (WO : (Nat → Int)) (OD : (Nat → Int)) (IN : (Nat → Int)) (s : St3) (hI : LInv nb BX BY nt T n F p f ha N HS gap gp ke un bu ty G H A MX MY TM s) (kk : ∀ (gap : Int) (nb : Nat) (BX : (Nat → Int)) (BY : (Nat → Int)) (nt : Nat) (T : (Nat → Int)) (n : Nat) (F : (Nat → Int)) (dn : Int) (DF : (Nat → Int)) (wn : Int) (WX : (Nat → Int)) (WY : (Nat → Int)) (p : Nat) (f : Nat) (ha : Nat) (N : (Nat → Int)) (HS : (Nat → Int)) (ln : Int) (lo : (Nat → Int)) (to : (Nat → Int)) (bo : (Nat → Int)) (ls : (Nat → Int)) (bt : (Nat → Int)) (bb : (Nat → Int)) (ra : (Nat → Int)) (wc : Int) (od : (Nat → Int)) (pl : (Nat → Int)) (wo : (Nat → Int)) (li : (Nat → Int)) (si : (Nat → Int)) (le : (Nat → Int)) (ri : (Nat → Int)) (fi : (Nat → Int)) (wi : (Nat → Int)) (fn : (Nat → Int)) (sl : (Nat → Int)) (ce : Int) (mo : Int) (TK : (Nat → Int)) (TP : (Nat → Int)) (gp : Int) (ke : Nat) (un : Nat) (bu : Nat) (ty : Nat) (pc : Int) (gd : Bool) (rd : Int) (po : Int) (lm : Int) (wd : Int) (G : (Nat → Int)) (H : (Nat → Int)) (A : (Nat → Int)) (MX : (Nat → Int)) (MY : (Nat → Int)) (TM : (Nat → Int)) (RX : (Nat → Int)) (RY : (Nat → Int)) (X : (Nat → Int)) (PX : (Nat → Int)) (PY : (Nat → Int)) (QX : (Nat → Int)) (QY : (Nat → Int)) (TO : (Nat → Int)) (BO : (Nat → Int)) (BE : (Nat → Int)) (RK : (Nat → Int)) (WO : (Nat → Int)) (OD : (Nat → Int)) (IN : (Nat → Int)) (s : St3), LInv nb BX BY nt T n F p f ha N HS gap gp ke un bu ty G H A MX MY TM s → VV pV l eV room_1 sV mV #[.ref sc] bV tV cV 4 AV D Q 60 30600 845 [some (.ref sc), some (.ref (a 0)), some (.ref (b 0)), some (.int (iI (i : Int)))] [] ((padO a g w gap :: (trW kI (a 1) (a 2) (a 3) (nb : Int) BX BY ++ (txW kC (a 4) (a 5) (nt : Int) T ++ (shW kI (a 6) (a 7) (n : Int) F ++ (shW kI (a 8) (a 9) dn DF ++ (trW kI (a 10) (a 11) (a 12) wn WX WY ++ (hiW kI (a 13) (a 14) (a 15) (p : Int) (f : Int) (ha : Int) N HS ++ (liW kI g ln lo to bo ls bt bb ra ++ (woW kI w wc od pl wo li si le ri fi wi fn sl ++ (taW kI (a 36) (a 37) (a 38) ce mo TK TP)))))))))) ++ (mdO b gp (ke : Int) (un : Int) (bu : Int) (ty : Int) pc gd rd po lm wd :: [(b 1, IA kI 801 G), (b 2, IA kI 4806 H), (b 3, IA kI 4806 A), (b 4, IA kI 24 MX), (b 5, IA kI 24 MY), (b 6, IA kC 100 TM), (b 7, IA kI 24 RX), (b 8, IA kI 24 RY), (b 9, IA kI 801 X), (b 10, IA kI 24 PX), (b 11, IA kI 24 PY), (b 12, IA kI 24 QX), (b 13, IA kI 24 QY), (b 14, IA kI 16 TO), (b 15, IA kI 16 BO), (b 16, IA kI 16 BE), (b 17, IA kI 16 RK), (b 18, IA kI 16 WO), (b 19, IA kI 16 OD), (b 20, IA kI 10201 IN)]))) : VV pV l eV room_1 sV mV #[.ref sc] bV tV cV 4 AV D Q 60 30600 611 [some (.ref sc), some (.ref (a 0)), some (.ref (b 0)), some (.int (iI (i : Int)))] [] ((padO a g w gap :: (trW kI (a 1) (a 2) (a 3) (nb : Int) BX BY ++ (txW kC (a 4) (a 5) (nt : Int) T ++ (shW kI (a 6) (a 7) (n : Int) F ++ (shW kI (a 8) (a 9) dn DF ++ (trW kI (a 10) (a 11) (a 12) wn WX WY ++ (hiW kI (a 13) (a 14) (a 15) (p : Int) (f : Int) (ha : Int) N HS ++ (liW kI g ln lo to bo ls bt bb ra ++ (woW kI w wc od pl wo li si le ri fi wi fn sl ++ (taW kI (a 36) (a 37) (a 38) ce mo TK TP)))))))))) ++ (mdO b gp (ke : Int) (un : Int) (bu : Int) (ty : Int) pc gd rd po lm wd :: [(b 1, IA kI 801 G), (b 2, IA kI 4806 H), (b 3, IA kI 4806 A), (b 4, IA kI 24 MX), (b 5, IA kI 24 MY), (b 6, IA kC 100 TM), (b 7, IA kI 24 RX), (b 8, IA kI 24 RY), (b 9, IA kI 801 X), (b 10, IA kI 24 PX), (b 11, IA kI 24 PY), (b 12, IA kI 24 QX), (b 13, IA kI 24 QY), (b 14, IA kI 16 TO), (b 15, IA kI 16 BO), (b 16, IA kI 16 BE), (b 17, IA kI 16 RK), (b 18, IA kI 16 WO), (b 19, IA kI 16 OD), (b 20, IA kI 10201 IN)])) := by
  obtain ⟨S0, past, fut⟩ := s
  obtain ⟨hB, hBm, ⟨hty, hnt, hTT⟩, hs0, h3, hH, hN, hR, hgp, hg⟩ := hI
  dsimp only at hs0 hN
  subst hs0
  have hL2 : L < 2147483648 := by omega
  have hn16 : n ≤ 16 := by have := h3.1.1; rwa [shC_len] at this
  have hS : OkS (shC n F) := h3.1
  have hbn : bu = nb := by have := congrArg List.length hBm; rwa [ptsOf_len, ptsOf_len] at this
  have hBk : OkB (ptsOf bu MX MY) := by rw [hBm]; exact hB
  have hT : ∀ i, i < nt → 0 ≤ T i ∧ T i < 65536 := fun i hi => (hTT i hi).2
  have hTm : ∀ i, i < ty → 0 ≤ TM i ∧ TM i < 65536 := fun i hi => by rw [(hTT i (by omega)).1]; exact hT i (by omega)
  have hgm : 0 ≤ gp ∧ gp ≤ 500 := by omega
  dsimp only [putW, List.set, Option.toList, List.cons_append, List.nil_append, padO, mdO, shW, trW, txW, hiW, liW, woW, taW] at kk ⊢
  refine V_aload_n XC 1 rfl dL_law_611 rfl ?_
  refine V_aload_n XC 0 rfl dL_law_612 rfl ?_
  refine V_iload_n XC 3 rfl dL_law_613 rfl ?_
  refine V_iconst XC dL_law_614 ?_
  refine V_iadd XC dL_law_615 ?_
  refine V_sld XC hXs hbl hbA hL2 (i + 1) (by omega) (by omega) dL_law_616 ?_
  refine V_callV (rest := _) (q0 := 0) XC (c_X7_read l D kI kC _ _ _ _ _ _ _ _ _ _ _ _ _ _ _ _ _ _ _ _ _ _ _ _ _ _  hn16 hS hg _ (IR_of _)) gL_law_X7_read rfl kmX7_read ⟨⟨Nat.le_of_ble_eq_true rfl, Nat.le_of_ble_eq_true rfl⟩, Nat.le_of_ble_eq_true rfl, Nat.le_of_ble_eq_true rfl⟩ ⟨rfl, rfl⟩ rfl rfl (Nat.le_of_ble_eq_true rfl) [0, 6, 7, 16, 17, 18, 19, 20, 21, 22, 23, 24, 25, 26, 27, 28, 29, 30, 31, 32, 33, 34, 35] rfl rfl (fun _ => rfl) rfl rfl dL_law_617 (kI_of (fun r617 u617 hq617 => ?_))
  dsimp only [putW, List.set, Option.toList, List.cons_append, List.nil_append, padO, mdO, shW, trW, txW, hiW, liW, woW, taW]
  try dsimp only at hq617
  have h617 := hq617
  refine V_aload_n XC 2 rfl dL_law_620 rfl ?_
  refine V_aload_n XC 0 rfl dL_law_621 rfl ?_
  refine V_iload_n XC 3 rfl dL_law_622 rfl ?_
  refine V_iconst XC dL_law_623 ?_
  refine V_iadd XC dL_law_624 ?_
  refine V_sld XC hXs hbl hbA hL2 (i + 1) (by omega) (by omega) dL_law_625 ?_
  refine V_callV (rest := _) (q0 := 39) XC (c_X8_read l D kI kC _ _ _ _ _ _ _ _ _ _ _ _ _ _ _ _ _ _ _  _ hS hN hgm _ (IR_of _)) gL_law_X8_read rfl kmX8_read ⟨⟨Nat.le_of_ble_eq_true rfl, Nat.le_of_ble_eq_true rfl⟩, Nat.le_of_ble_eq_true rfl, Nat.le_of_ble_eq_true rfl⟩ ⟨rfl, rfl⟩ rfl rfl (Nat.le_of_ble_eq_true rfl) [39, 40, 53, 54, 55, 56, 57, 58] rfl rfl (fun _ => rfl) rfl rfl dL_law_626 (kI_of (fun r626 u626 hq626 => ?_))
  dsimp only [putW, List.set, Option.toList, List.cons_append, List.nil_append, padO, mdO, shW, trW, txW, hiW, liW, woW, taW]
  try dsimp only at hq626
  have h626 := hq626
  refine V_eqT XC 845 dL_law_629 (by decide) (by first | (rw [h617, h626, hgp]; done) | (rw [h617, h626]; done)) ?_
  refine kk _ _ _ _ _ _ _ _ _ _ _ _ _ _ _ _ _ _ _ _ _ _ _ _ _ _ _ _ _ _ _ _ _ _ _ _ _ _ _ _ _ _ _ _ _ _ _ _ _ _ _ _ _ _ _ _ _ _ _ _ _ _ _ _ _ _ _ _ _ _ _ _ _ (shC n F, past, fut) ?_
  exact ⟨hB, hBm, ⟨hty, hnt, hTT⟩, rfl, h3, hH, hN, hR, hgp, hg⟩

set_option maxRecDepth 100000 in
set_option maxHeartbeats 4000000 in
theorem law_c18 (l : Launch) {pV : Program} {eV : Env} {sV : State} {mV : MethodId} {bV : List Frame} {tV : Method} {cV : Code} {AV : Nat → Prop} {D : va_G} {kI kC : ClassId} {Q : State → Prop} {sc L : Nat} {xs : Nat → Int32} (XC : Cx pV room_1 sV mV #[.ref sc] tV cV cL_law 4 RL wsL_law AV D kI kC) (hXs : va_X sc L xs sV sV.heap) (hbl : sc < sV.heap.size) (hbA : ¬ AV sc) (hL : L ≤ 2048) (a g w b : Nat → Nat) (i : Nat) (hi : i + 4 ≤ L) (gap : Int) (nb : Nat) (BX : (Nat → Int)) (BY : (Nat → Int)) (nt : Nat) (T : (Nat → Int)) (n : Nat) (F : (Nat → Int)) (dn : Int) (DF : (Nat → Int)) (wn : Int) (WX : (Nat → Int)) (WY : (Nat → Int)) (p : Nat) (f : Nat) (ha : Nat) (N : (Nat → Int)) (HS : (Nat → Int)) (ln : Int) (lo : (Nat → Int)) (to : (Nat → Int)) (bo : (Nat → Int)) (ls : (Nat → Int)) (bt : (Nat → Int)) (bb : (Nat → Int)) (ra : (Nat → Int)) (wc : Int) (od : (Nat → Int)) (pl : (Nat → Int)) (wo : (Nat → Int)) (li : (Nat → Int)) (si : (Nat → Int)) (le : (Nat → Int)) (ri : (Nat → Int)) (fi : (Nat → Int)) (wi : (Nat → Int)) (fn : (Nat → Int)) (sl : (Nat → Int)) (ce : Int) (mo : Int) (TK : (Nat → Int)) (TP : (Nat → Int)) (gp : Int) (ke : Nat) (un : Nat) (bu : Nat) (ty : Nat) (pc : Int) (gd : Bool) (rd : Int) (po : Int) (lm : Int) (wd : Int) (G : (Nat → Int)) (H : (Nat → Int)) (A : (Nat → Int)) (MX : (Nat → Int)) (MY : (Nat → Int)) (TM : (Nat → Int)) (RX : (Nat → Int)) (RY : (Nat → Int)) (X : (Nat → Int)) (PX : (Nat → Int)) (PY : (Nat → Int)) (QX : (Nat → Int)) (QY : (Nat → Int)) (TO : (Nat → Int)) (BO : (Nat → Int)) (BE : (Nat → Int)) (RK : (Nat → Int)) (WO : (Nat → Int)) (OD : (Nat → Int)) (IN : (Nat → Int)) (s : St3) (hI : LInv nb BX BY nt T n F p f ha N HS gap gp ke un bu ty G H A MX MY TM s) (kk : ∀ (gap : Int) (nb : Nat) (BX : (Nat → Int)) (BY : (Nat → Int)) (nt : Nat) (T : (Nat → Int)) (n : Nat) (F : (Nat → Int)) (dn : Int) (DF : (Nat → Int)) (wn : Int) (WX : (Nat → Int)) (WY : (Nat → Int)) (p : Nat) (f : Nat) (ha : Nat) (N : (Nat → Int)) (HS : (Nat → Int)) (ln : Int) (lo : (Nat → Int)) (to : (Nat → Int)) (bo : (Nat → Int)) (ls : (Nat → Int)) (bt : (Nat → Int)) (bb : (Nat → Int)) (ra : (Nat → Int)) (wc : Int) (od : (Nat → Int)) (pl : (Nat → Int)) (wo : (Nat → Int)) (li : (Nat → Int)) (si : (Nat → Int)) (le : (Nat → Int)) (ri : (Nat → Int)) (fi : (Nat → Int)) (wi : (Nat → Int)) (fn : (Nat → Int)) (sl : (Nat → Int)) (ce : Int) (mo : Int) (TK : (Nat → Int)) (TP : (Nat → Int)) (gp : Int) (ke : Nat) (un : Nat) (bu : Nat) (ty : Nat) (pc : Int) (gd : Bool) (rd : Int) (po : Int) (lm : Int) (wd : Int) (G : (Nat → Int)) (H : (Nat → Int)) (A : (Nat → Int)) (MX : (Nat → Int)) (MY : (Nat → Int)) (TM : (Nat → Int)) (RX : (Nat → Int)) (RY : (Nat → Int)) (X : (Nat → Int)) (PX : (Nat → Int)) (PY : (Nat → Int)) (QX : (Nat → Int)) (QY : (Nat → Int)) (TO : (Nat → Int)) (BO : (Nat → Int)) (BE : (Nat → Int)) (RK : (Nat → Int)) (WO : (Nat → Int)) (OD : (Nat → Int)) (IN : (Nat → Int)) (s : St3), LInv nb BX BY nt T n F p f ha N HS gap gp ke un bu ty G H A MX MY TM s → VV pV l eV room_1 sV mV #[.ref sc] bV tV cV 4 AV D Q 60 30600 845 [some (.ref sc), some (.ref (a 0)), some (.ref (b 0)), some (.int (iI (i : Int)))] [] ((padO a g w gap :: (trW kI (a 1) (a 2) (a 3) (nb : Int) BX BY ++ (txW kC (a 4) (a 5) (nt : Int) T ++ (shW kI (a 6) (a 7) (n : Int) F ++ (shW kI (a 8) (a 9) dn DF ++ (trW kI (a 10) (a 11) (a 12) wn WX WY ++ (hiW kI (a 13) (a 14) (a 15) (p : Int) (f : Int) (ha : Int) N HS ++ (liW kI g ln lo to bo ls bt bb ra ++ (woW kI w wc od pl wo li si le ri fi wi fn sl ++ (taW kI (a 36) (a 37) (a 38) ce mo TK TP)))))))))) ++ (mdO b gp (ke : Int) (un : Int) (bu : Int) (ty : Int) pc gd rd po lm wd :: [(b 1, IA kI 801 G), (b 2, IA kI 4806 H), (b 3, IA kI 4806 A), (b 4, IA kI 24 MX), (b 5, IA kI 24 MY), (b 6, IA kC 100 TM), (b 7, IA kI 24 RX), (b 8, IA kI 24 RY), (b 9, IA kI 801 X), (b 10, IA kI 24 PX), (b 11, IA kI 24 PY), (b 12, IA kI 24 QX), (b 13, IA kI 24 QY), (b 14, IA kI 16 TO), (b 15, IA kI 16 BO), (b 16, IA kI 16 BE), (b 17, IA kI 16 RK), (b 18, IA kI 16 WO), (b 19, IA kI 16 OD), (b 20, IA kI 10201 IN)]))) : VV pV l eV room_1 sV mV #[.ref sc] bV tV cV 4 AV D Q 60 30600 634 [some (.ref sc), some (.ref (a 0)), some (.ref (b 0)), some (.int (iI (i : Int)))] [] ((padO a g w gap :: (trW kI (a 1) (a 2) (a 3) (nb : Int) BX BY ++ (txW kC (a 4) (a 5) (nt : Int) T ++ (shW kI (a 6) (a 7) (n : Int) F ++ (shW kI (a 8) (a 9) dn DF ++ (trW kI (a 10) (a 11) (a 12) wn WX WY ++ (hiW kI (a 13) (a 14) (a 15) (p : Int) (f : Int) (ha : Int) N HS ++ (liW kI g ln lo to bo ls bt bb ra ++ (woW kI w wc od pl wo li si le ri fi wi fn sl ++ (taW kI (a 36) (a 37) (a 38) ce mo TK TP)))))))))) ++ (mdO b gp (ke : Int) (un : Int) (bu : Int) (ty : Int) pc gd rd po lm wd :: [(b 1, IA kI 801 G), (b 2, IA kI 4806 H), (b 3, IA kI 4806 A), (b 4, IA kI 24 MX), (b 5, IA kI 24 MY), (b 6, IA kC 100 TM), (b 7, IA kI 24 RX), (b 8, IA kI 24 RY), (b 9, IA kI 801 X), (b 10, IA kI 24 PX), (b 11, IA kI 24 PY), (b 12, IA kI 24 QX), (b 13, IA kI 24 QY), (b 14, IA kI 16 TO), (b 15, IA kI 16 BO), (b 16, IA kI 16 BE), (b 17, IA kI 16 RK), (b 18, IA kI 16 WO), (b 19, IA kI 16 OD), (b 20, IA kI 10201 IN)])) := by
  obtain ⟨S0, past, fut⟩ := s
  obtain ⟨hB, hBm, ⟨hty, hnt, hTT⟩, hs0, h3, hH, hN, hR, hgp, hg⟩ := hI
  dsimp only at hs0 hN
  subst hs0
  have hL2 : L < 2147483648 := by omega
  have hn16 : n ≤ 16 := by have := h3.1.1; rwa [shC_len] at this
  have hS : OkS (shC n F) := h3.1
  have hbn : bu = nb := by have := congrArg List.length hBm; rwa [ptsOf_len, ptsOf_len] at this
  have hBk : OkB (ptsOf bu MX MY) := by rw [hBm]; exact hB
  have hT : ∀ i, i < nt → 0 ≤ T i ∧ T i < 65536 := fun i hi => (hTT i hi).2
  have hTm : ∀ i, i < ty → 0 ≤ TM i ∧ TM i < 65536 := fun i hi => by rw [(hTT i (by omega)).1]; exact hT i (by omega)
  have hgm : 0 ≤ gp ∧ gp ≤ 500 := by omega
  dsimp only [putW, List.set, Option.toList, List.cons_append, List.nil_append, padO, mdO, shW, trW, txW, hiW, liW, woW, taW] at kk ⊢
  refine V_aload_n XC 1 rfl dL_law_634 rfl ?_
  refine V_aload_n XC 0 rfl dL_law_635 rfl ?_
  refine V_iload_n XC 3 rfl dL_law_636 rfl ?_
  refine V_iconst XC dL_law_637 ?_
  refine V_iadd XC dL_law_638 ?_
  refine V_sld XC hXs hbl hbA hL2 (i + 1) (by omega) (by omega) dL_law_639 ?_
  refine V_aload_n XC 0 rfl dL_law_640 rfl ?_
  refine V_iload_n XC 3 rfl dL_law_641 rfl ?_
  refine V_iconst XC dL_law_642 ?_
  refine V_iadd XC dL_law_643 ?_
  refine V_sld XC hXs hbl hbA hL2 (i + 2) (by omega) (by omega) dL_law_644 ?_
  refine V_callV (rest := _) (q0 := 0) XC (c_X7_line l D kI kC _ _ _ _ _ _ _ _ _ _ _ _ _ _ _ _ _ _ _ _ _ _ _ _ _ _  hn16 hS hg _ _ (IR_of _) (IR_of _)) gL_law_X7_line rfl kmX7_line ⟨⟨Nat.le_of_ble_eq_true rfl, Nat.le_of_ble_eq_true rfl⟩, Nat.le_of_ble_eq_true rfl, Nat.le_of_ble_eq_true rfl⟩ ⟨rfl, rfl⟩ rfl rfl (Nat.le_of_ble_eq_true rfl) [0, 6, 7, 16, 17, 18, 19, 20, 21, 22, 23, 24, 25, 26, 27, 28, 29, 30, 31, 32, 33, 34, 35] rfl rfl (fun _ => rfl) rfl rfl dL_law_645 (kI_of (fun r645 u645 hq645 => ?_))
  dsimp only [putW, List.set, Option.toList, List.cons_append, List.nil_append, padO, mdO, shW, trW, txW, hiW, liW, woW, taW]
  try dsimp only at hq645
  have h645 := hq645
  refine V_aload_n XC 2 rfl dL_law_648 rfl ?_
  refine V_aload_n XC 0 rfl dL_law_649 rfl ?_
  refine V_iload_n XC 3 rfl dL_law_650 rfl ?_
  refine V_iconst XC dL_law_651 ?_
  refine V_iadd XC dL_law_652 ?_
  refine V_sld XC hXs hbl hbA hL2 (i + 1) (by omega) (by omega) dL_law_653 ?_
  refine V_aload_n XC 0 rfl dL_law_654 rfl ?_
  refine V_iload_n XC 3 rfl dL_law_655 rfl ?_
  refine V_iconst XC dL_law_656 ?_
  refine V_iadd XC dL_law_657 ?_
  refine V_sld XC hXs hbl hbA hL2 (i + 2) (by omega) (by omega) dL_law_658 ?_
  refine V_callV (rest := _) (q0 := 39) XC (c_X8_line l D kI kC _ _ _ _ _ _ _ _ _ _ _ _ _ _ _ _ _ _ _  _ hS hN hgm _ _ (IR_of _) (IR_of _)) gL_law_X8_line rfl kmX8_line ⟨⟨Nat.le_of_ble_eq_true rfl, Nat.le_of_ble_eq_true rfl⟩, Nat.le_of_ble_eq_true rfl, Nat.le_of_ble_eq_true rfl⟩ ⟨rfl, rfl⟩ rfl rfl (Nat.le_of_ble_eq_true rfl) [39, 40, 53, 54, 55, 56, 57, 58] rfl rfl (fun _ => rfl) rfl rfl dL_law_659 (kI_of (fun r659 u659 hq659 => ?_))
  dsimp only [putW, List.set, Option.toList, List.cons_append, List.nil_append, padO, mdO, shW, trW, txW, hiW, liW, woW, taW]
  try dsimp only at hq659
  have h659 := hq659
  refine V_eqT XC 845 dL_law_662 (by decide) (by first | (rw [h645, h659, hgp]; done) | (rw [h645, h659]; done)) ?_
  refine kk _ _ _ _ _ _ _ _ _ _ _ _ _ _ _ _ _ _ _ _ _ _ _ _ _ _ _ _ _ _ _ _ _ _ _ _ _ _ _ _ _ _ _ _ _ _ _ _ _ _ _ _ _ _ _ _ _ _ _ _ _ _ _ _ _ _ _ _ _ _ _ _ _ (shC n F, past, fut) ?_
  exact ⟨hB, hBm, ⟨hty, hnt, hTT⟩, rfl, h3, hH, hN, hR, hgp, hg⟩

set_option maxRecDepth 100000 in
set_option maxHeartbeats 4000000 in
theorem law_c19 (l : Launch) {pV : Program} {eV : Env} {sV : State} {mV : MethodId} {bV : List Frame} {tV : Method} {cV : Code} {AV : Nat → Prop} {D : va_G} {kI kC : ClassId} {Q : State → Prop} {sc L : Nat} {xs : Nat → Int32} (XC : Cx pV room_1 sV mV #[.ref sc] tV cV cL_law 4 RL wsL_law AV D kI kC) (hXs : va_X sc L xs sV sV.heap) (hbl : sc < sV.heap.size) (hbA : ¬ AV sc) (hL : L ≤ 2048) (a g w b : Nat → Nat) (i : Nat) (hi : i + 4 ≤ L) (gap : Int) (nb : Nat) (BX : (Nat → Int)) (BY : (Nat → Int)) (nt : Nat) (T : (Nat → Int)) (n : Nat) (F : (Nat → Int)) (dn : Int) (DF : (Nat → Int)) (wn : Int) (WX : (Nat → Int)) (WY : (Nat → Int)) (p : Nat) (f : Nat) (ha : Nat) (N : (Nat → Int)) (HS : (Nat → Int)) (ln : Int) (lo : (Nat → Int)) (to : (Nat → Int)) (bo : (Nat → Int)) (ls : (Nat → Int)) (bt : (Nat → Int)) (bb : (Nat → Int)) (ra : (Nat → Int)) (wc : Int) (od : (Nat → Int)) (pl : (Nat → Int)) (wo : (Nat → Int)) (li : (Nat → Int)) (si : (Nat → Int)) (le : (Nat → Int)) (ri : (Nat → Int)) (fi : (Nat → Int)) (wi : (Nat → Int)) (fn : (Nat → Int)) (sl : (Nat → Int)) (ce : Int) (mo : Int) (TK : (Nat → Int)) (TP : (Nat → Int)) (gp : Int) (ke : Nat) (un : Nat) (bu : Nat) (ty : Nat) (pc : Int) (gd : Bool) (rd : Int) (po : Int) (lm : Int) (wd : Int) (G : (Nat → Int)) (H : (Nat → Int)) (A : (Nat → Int)) (MX : (Nat → Int)) (MY : (Nat → Int)) (TM : (Nat → Int)) (RX : (Nat → Int)) (RY : (Nat → Int)) (X : (Nat → Int)) (PX : (Nat → Int)) (PY : (Nat → Int)) (QX : (Nat → Int)) (QY : (Nat → Int)) (TO : (Nat → Int)) (BO : (Nat → Int)) (BE : (Nat → Int)) (RK : (Nat → Int)) (WO : (Nat → Int)) (OD : (Nat → Int)) (IN : (Nat → Int)) (s : St3) (hI : LInv nb BX BY nt T n F p f ha N HS gap gp ke un bu ty G H A MX MY TM s) (kk : ∀ (gap : Int) (nb : Nat) (BX : (Nat → Int)) (BY : (Nat → Int)) (nt : Nat) (T : (Nat → Int)) (n : Nat) (F : (Nat → Int)) (dn : Int) (DF : (Nat → Int)) (wn : Int) (WX : (Nat → Int)) (WY : (Nat → Int)) (p : Nat) (f : Nat) (ha : Nat) (N : (Nat → Int)) (HS : (Nat → Int)) (ln : Int) (lo : (Nat → Int)) (to : (Nat → Int)) (bo : (Nat → Int)) (ls : (Nat → Int)) (bt : (Nat → Int)) (bb : (Nat → Int)) (ra : (Nat → Int)) (wc : Int) (od : (Nat → Int)) (pl : (Nat → Int)) (wo : (Nat → Int)) (li : (Nat → Int)) (si : (Nat → Int)) (le : (Nat → Int)) (ri : (Nat → Int)) (fi : (Nat → Int)) (wi : (Nat → Int)) (fn : (Nat → Int)) (sl : (Nat → Int)) (ce : Int) (mo : Int) (TK : (Nat → Int)) (TP : (Nat → Int)) (gp : Int) (ke : Nat) (un : Nat) (bu : Nat) (ty : Nat) (pc : Int) (gd : Bool) (rd : Int) (po : Int) (lm : Int) (wd : Int) (G : (Nat → Int)) (H : (Nat → Int)) (A : (Nat → Int)) (MX : (Nat → Int)) (MY : (Nat → Int)) (TM : (Nat → Int)) (RX : (Nat → Int)) (RY : (Nat → Int)) (X : (Nat → Int)) (PX : (Nat → Int)) (PY : (Nat → Int)) (QX : (Nat → Int)) (QY : (Nat → Int)) (TO : (Nat → Int)) (BO : (Nat → Int)) (BE : (Nat → Int)) (RK : (Nat → Int)) (WO : (Nat → Int)) (OD : (Nat → Int)) (IN : (Nat → Int)) (s : St3), LInv nb BX BY nt T n F p f ha N HS gap gp ke un bu ty G H A MX MY TM s → VV pV l eV room_1 sV mV #[.ref sc] bV tV cV 4 AV D Q 60 30600 845 [some (.ref sc), some (.ref (a 0)), some (.ref (b 0)), some (.int (iI (i : Int)))] [] ((padO a g w gap :: (trW kI (a 1) (a 2) (a 3) (nb : Int) BX BY ++ (txW kC (a 4) (a 5) (nt : Int) T ++ (shW kI (a 6) (a 7) (n : Int) F ++ (shW kI (a 8) (a 9) dn DF ++ (trW kI (a 10) (a 11) (a 12) wn WX WY ++ (hiW kI (a 13) (a 14) (a 15) (p : Int) (f : Int) (ha : Int) N HS ++ (liW kI g ln lo to bo ls bt bb ra ++ (woW kI w wc od pl wo li si le ri fi wi fn sl ++ (taW kI (a 36) (a 37) (a 38) ce mo TK TP)))))))))) ++ (mdO b gp (ke : Int) (un : Int) (bu : Int) (ty : Int) pc gd rd po lm wd :: [(b 1, IA kI 801 G), (b 2, IA kI 4806 H), (b 3, IA kI 4806 A), (b 4, IA kI 24 MX), (b 5, IA kI 24 MY), (b 6, IA kC 100 TM), (b 7, IA kI 24 RX), (b 8, IA kI 24 RY), (b 9, IA kI 801 X), (b 10, IA kI 24 PX), (b 11, IA kI 24 PY), (b 12, IA kI 24 QX), (b 13, IA kI 24 QY), (b 14, IA kI 16 TO), (b 15, IA kI 16 BO), (b 16, IA kI 16 BE), (b 17, IA kI 16 RK), (b 18, IA kI 16 WO), (b 19, IA kI 16 OD), (b 20, IA kI 10201 IN)]))) : VV pV l eV room_1 sV mV #[.ref sc] bV tV cV 4 AV D Q 60 30600 667 [some (.ref sc), some (.ref (a 0)), some (.ref (b 0)), some (.int (iI (i : Int)))] [] ((padO a g w gap :: (trW kI (a 1) (a 2) (a 3) (nb : Int) BX BY ++ (txW kC (a 4) (a 5) (nt : Int) T ++ (shW kI (a 6) (a 7) (n : Int) F ++ (shW kI (a 8) (a 9) dn DF ++ (trW kI (a 10) (a 11) (a 12) wn WX WY ++ (hiW kI (a 13) (a 14) (a 15) (p : Int) (f : Int) (ha : Int) N HS ++ (liW kI g ln lo to bo ls bt bb ra ++ (woW kI w wc od pl wo li si le ri fi wi fn sl ++ (taW kI (a 36) (a 37) (a 38) ce mo TK TP)))))))))) ++ (mdO b gp (ke : Int) (un : Int) (bu : Int) (ty : Int) pc gd rd po lm wd :: [(b 1, IA kI 801 G), (b 2, IA kI 4806 H), (b 3, IA kI 4806 A), (b 4, IA kI 24 MX), (b 5, IA kI 24 MY), (b 6, IA kC 100 TM), (b 7, IA kI 24 RX), (b 8, IA kI 24 RY), (b 9, IA kI 801 X), (b 10, IA kI 24 PX), (b 11, IA kI 24 PY), (b 12, IA kI 24 QX), (b 13, IA kI 24 QY), (b 14, IA kI 16 TO), (b 15, IA kI 16 BO), (b 16, IA kI 16 BE), (b 17, IA kI 16 RK), (b 18, IA kI 16 WO), (b 19, IA kI 16 OD), (b 20, IA kI 10201 IN)])) := by
  obtain ⟨S0, past, fut⟩ := s
  obtain ⟨hB, hBm, ⟨hty, hnt, hTT⟩, hs0, h3, hH, hN, hR, hgp, hg⟩ := hI
  dsimp only at hs0 hN
  subst hs0
  have hL2 : L < 2147483648 := by omega
  have hn16 : n ≤ 16 := by have := h3.1.1; rwa [shC_len] at this
  have hS : OkS (shC n F) := h3.1
  have hbn : bu = nb := by have := congrArg List.length hBm; rwa [ptsOf_len, ptsOf_len] at this
  have hBk : OkB (ptsOf bu MX MY) := by rw [hBm]; exact hB
  have hT : ∀ i, i < nt → 0 ≤ T i ∧ T i < 65536 := fun i hi => (hTT i hi).2
  have hTm : ∀ i, i < ty → 0 ≤ TM i ∧ TM i < 65536 := fun i hi => by rw [(hTT i (by omega)).1]; exact hT i (by omega)
  have hgm : 0 ≤ gp ∧ gp ≤ 500 := by omega
  dsimp only [putW, List.set, Option.toList, List.cons_append, List.nil_append, padO, mdO, shW, trW, txW, hiW, liW, woW, taW] at kk ⊢
  refine V_aload_n XC 1 rfl dL_law_667 rfl ?_
  refine V_aload_n XC 0 rfl dL_law_668 rfl ?_
  refine V_iload_n XC 3 rfl dL_law_669 rfl ?_
  refine V_iconst XC dL_law_670 ?_
  refine V_iadd XC dL_law_671 ?_
  refine V_sld XC hXs hbl hbA hL2 (i + 1) (by omega) (by omega) dL_law_672 ?_
  refine V_aload_n XC 0 rfl dL_law_673 rfl ?_
  refine V_iload_n XC 3 rfl dL_law_674 rfl ?_
  refine V_iconst XC dL_law_675 ?_
  refine V_iadd XC dL_law_676 ?_
  refine V_sld XC hXs hbl hbA hL2 (i + 2) (by omega) (by omega) dL_law_677 ?_
  refine V_callV (rest := _) (q0 := 0) XC (c_X7_word l D kI kC _ _ _ _ _ _ _ _ _ _ _ _ _ _ _ _ _ _ _ _ _ _ _ _ _ _  hn16 hS hg _ _ (IR_of _) (IR_of _)) gL_law_X7_word rfl kmX7_word ⟨⟨Nat.le_of_ble_eq_true rfl, Nat.le_of_ble_eq_true rfl⟩, Nat.le_of_ble_eq_true rfl, Nat.le_of_ble_eq_true rfl⟩ ⟨rfl, rfl⟩ rfl rfl (Nat.le_of_ble_eq_true rfl) [0, 6, 7, 16, 17, 18, 19, 20, 21, 22, 23, 24, 25, 26, 27, 28, 29, 30, 31, 32, 33, 34, 35] rfl rfl (fun _ => rfl) rfl rfl dL_law_678 (kI_of (fun r678 u678 hq678 => ?_))
  dsimp only [putW, List.set, Option.toList, List.cons_append, List.nil_append, padO, mdO, shW, trW, txW, hiW, liW, woW, taW]
  try dsimp only at hq678
  have h678 := hq678
  refine V_aload_n XC 2 rfl dL_law_681 rfl ?_
  refine V_aload_n XC 0 rfl dL_law_682 rfl ?_
  refine V_iload_n XC 3 rfl dL_law_683 rfl ?_
  refine V_iconst XC dL_law_684 ?_
  refine V_iadd XC dL_law_685 ?_
  refine V_sld XC hXs hbl hbA hL2 (i + 1) (by omega) (by omega) dL_law_686 ?_
  refine V_aload_n XC 0 rfl dL_law_687 rfl ?_
  refine V_iload_n XC 3 rfl dL_law_688 rfl ?_
  refine V_iconst XC dL_law_689 ?_
  refine V_iadd XC dL_law_690 ?_
  refine V_sld XC hXs hbl hbA hL2 (i + 2) (by omega) (by omega) dL_law_691 ?_
  refine V_callV (rest := _) (q0 := 39) XC (c_X8_word l D kI kC _ _ _ _ _ _ _ _ _ _ _ _ _ _ _ _ _ _ _  _ hS hN hgm _ _ (IR_of _) (IR_of _)) gL_law_X8_word rfl kmX8_word ⟨⟨Nat.le_of_ble_eq_true rfl, Nat.le_of_ble_eq_true rfl⟩, Nat.le_of_ble_eq_true rfl, Nat.le_of_ble_eq_true rfl⟩ ⟨rfl, rfl⟩ rfl rfl (Nat.le_of_ble_eq_true rfl) [39, 40, 53, 54, 55, 56, 57, 58] rfl rfl (fun _ => rfl) rfl rfl dL_law_692 (kI_of (fun r692 u692 hq692 => ?_))
  dsimp only [putW, List.set, Option.toList, List.cons_append, List.nil_append, padO, mdO, shW, trW, txW, hiW, liW, woW, taW]
  try dsimp only at hq692
  have h692 := hq692
  refine V_eqT XC 845 dL_law_695 (by decide) (by first | (rw [h678, h692, hgp]; done) | (rw [h678, h692]; done)) ?_
  refine kk _ _ _ _ _ _ _ _ _ _ _ _ _ _ _ _ _ _ _ _ _ _ _ _ _ _ _ _ _ _ _ _ _ _ _ _ _ _ _ _ _ _ _ _ _ _ _ _ _ _ _ _ _ _ _ _ _ _ _ _ _ _ _ _ _ _ _ _ _ _ _ _ _ (shC n F, past, fut) ?_
  exact ⟨hB, hBm, ⟨hty, hnt, hTT⟩, rfl, h3, hH, hN, hR, hgp, hg⟩

set_option maxRecDepth 100000 in
set_option maxHeartbeats 4000000 in
theorem law_c20 (l : Launch) {pV : Program} {eV : Env} {sV : State} {mV : MethodId} {bV : List Frame} {tV : Method} {cV : Code} {AV : Nat → Prop} {D : va_G} {kI kC : ClassId} {Q : State → Prop} {sc L : Nat} {xs : Nat → Int32} (XC : Cx pV room_1 sV mV #[.ref sc] tV cV cL_law 4 RL wsL_law AV D kI kC) (hXs : va_X sc L xs sV sV.heap) (hbl : sc < sV.heap.size) (hbA : ¬ AV sc) (hL : L ≤ 2048) (a g w b : Nat → Nat) (i : Nat) (hi : i + 4 ≤ L) (gap : Int) (nb : Nat) (BX : (Nat → Int)) (BY : (Nat → Int)) (nt : Nat) (T : (Nat → Int)) (n : Nat) (F : (Nat → Int)) (dn : Int) (DF : (Nat → Int)) (wn : Int) (WX : (Nat → Int)) (WY : (Nat → Int)) (p : Nat) (f : Nat) (ha : Nat) (N : (Nat → Int)) (HS : (Nat → Int)) (ln : Int) (lo : (Nat → Int)) (to : (Nat → Int)) (bo : (Nat → Int)) (ls : (Nat → Int)) (bt : (Nat → Int)) (bb : (Nat → Int)) (ra : (Nat → Int)) (wc : Int) (od : (Nat → Int)) (pl : (Nat → Int)) (wo : (Nat → Int)) (li : (Nat → Int)) (si : (Nat → Int)) (le : (Nat → Int)) (ri : (Nat → Int)) (fi : (Nat → Int)) (wi : (Nat → Int)) (fn : (Nat → Int)) (sl : (Nat → Int)) (ce : Int) (mo : Int) (TK : (Nat → Int)) (TP : (Nat → Int)) (gp : Int) (ke : Nat) (un : Nat) (bu : Nat) (ty : Nat) (pc : Int) (gd : Bool) (rd : Int) (po : Int) (lm : Int) (wd : Int) (G : (Nat → Int)) (H : (Nat → Int)) (A : (Nat → Int)) (MX : (Nat → Int)) (MY : (Nat → Int)) (TM : (Nat → Int)) (RX : (Nat → Int)) (RY : (Nat → Int)) (X : (Nat → Int)) (PX : (Nat → Int)) (PY : (Nat → Int)) (QX : (Nat → Int)) (QY : (Nat → Int)) (TO : (Nat → Int)) (BO : (Nat → Int)) (BE : (Nat → Int)) (RK : (Nat → Int)) (WO : (Nat → Int)) (OD : (Nat → Int)) (IN : (Nat → Int)) (s : St3) (hI : LInv nb BX BY nt T n F p f ha N HS gap gp ke un bu ty G H A MX MY TM s) (kk : ∀ (gap : Int) (nb : Nat) (BX : (Nat → Int)) (BY : (Nat → Int)) (nt : Nat) (T : (Nat → Int)) (n : Nat) (F : (Nat → Int)) (dn : Int) (DF : (Nat → Int)) (wn : Int) (WX : (Nat → Int)) (WY : (Nat → Int)) (p : Nat) (f : Nat) (ha : Nat) (N : (Nat → Int)) (HS : (Nat → Int)) (ln : Int) (lo : (Nat → Int)) (to : (Nat → Int)) (bo : (Nat → Int)) (ls : (Nat → Int)) (bt : (Nat → Int)) (bb : (Nat → Int)) (ra : (Nat → Int)) (wc : Int) (od : (Nat → Int)) (pl : (Nat → Int)) (wo : (Nat → Int)) (li : (Nat → Int)) (si : (Nat → Int)) (le : (Nat → Int)) (ri : (Nat → Int)) (fi : (Nat → Int)) (wi : (Nat → Int)) (fn : (Nat → Int)) (sl : (Nat → Int)) (ce : Int) (mo : Int) (TK : (Nat → Int)) (TP : (Nat → Int)) (gp : Int) (ke : Nat) (un : Nat) (bu : Nat) (ty : Nat) (pc : Int) (gd : Bool) (rd : Int) (po : Int) (lm : Int) (wd : Int) (G : (Nat → Int)) (H : (Nat → Int)) (A : (Nat → Int)) (MX : (Nat → Int)) (MY : (Nat → Int)) (TM : (Nat → Int)) (RX : (Nat → Int)) (RY : (Nat → Int)) (X : (Nat → Int)) (PX : (Nat → Int)) (PY : (Nat → Int)) (QX : (Nat → Int)) (QY : (Nat → Int)) (TO : (Nat → Int)) (BO : (Nat → Int)) (BE : (Nat → Int)) (RK : (Nat → Int)) (WO : (Nat → Int)) (OD : (Nat → Int)) (IN : (Nat → Int)) (s : St3), LInv nb BX BY nt T n F p f ha N HS gap gp ke un bu ty G H A MX MY TM s → VV pV l eV room_1 sV mV #[.ref sc] bV tV cV 4 AV D Q 60 30600 845 [some (.ref sc), some (.ref (a 0)), some (.ref (b 0)), some (.int (iI (i : Int)))] [] ((padO a g w gap :: (trW kI (a 1) (a 2) (a 3) (nb : Int) BX BY ++ (txW kC (a 4) (a 5) (nt : Int) T ++ (shW kI (a 6) (a 7) (n : Int) F ++ (shW kI (a 8) (a 9) dn DF ++ (trW kI (a 10) (a 11) (a 12) wn WX WY ++ (hiW kI (a 13) (a 14) (a 15) (p : Int) (f : Int) (ha : Int) N HS ++ (liW kI g ln lo to bo ls bt bb ra ++ (woW kI w wc od pl wo li si le ri fi wi fn sl ++ (taW kI (a 36) (a 37) (a 38) ce mo TK TP)))))))))) ++ (mdO b gp (ke : Int) (un : Int) (bu : Int) (ty : Int) pc gd rd po lm wd :: [(b 1, IA kI 801 G), (b 2, IA kI 4806 H), (b 3, IA kI 4806 A), (b 4, IA kI 24 MX), (b 5, IA kI 24 MY), (b 6, IA kC 100 TM), (b 7, IA kI 24 RX), (b 8, IA kI 24 RY), (b 9, IA kI 801 X), (b 10, IA kI 24 PX), (b 11, IA kI 24 PY), (b 12, IA kI 24 QX), (b 13, IA kI 24 QY), (b 14, IA kI 16 TO), (b 15, IA kI 16 BO), (b 16, IA kI 16 BE), (b 17, IA kI 16 RK), (b 18, IA kI 16 WO), (b 19, IA kI 16 OD), (b 20, IA kI 10201 IN)]))) : VV pV l eV room_1 sV mV #[.ref sc] bV tV cV 4 AV D Q 60 30600 700 [some (.ref sc), some (.ref (a 0)), some (.ref (b 0)), some (.int (iI (i : Int)))] [] ((padO a g w gap :: (trW kI (a 1) (a 2) (a 3) (nb : Int) BX BY ++ (txW kC (a 4) (a 5) (nt : Int) T ++ (shW kI (a 6) (a 7) (n : Int) F ++ (shW kI (a 8) (a 9) dn DF ++ (trW kI (a 10) (a 11) (a 12) wn WX WY ++ (hiW kI (a 13) (a 14) (a 15) (p : Int) (f : Int) (ha : Int) N HS ++ (liW kI g ln lo to bo ls bt bb ra ++ (woW kI w wc od pl wo li si le ri fi wi fn sl ++ (taW kI (a 36) (a 37) (a 38) ce mo TK TP)))))))))) ++ (mdO b gp (ke : Int) (un : Int) (bu : Int) (ty : Int) pc gd rd po lm wd :: [(b 1, IA kI 801 G), (b 2, IA kI 4806 H), (b 3, IA kI 4806 A), (b 4, IA kI 24 MX), (b 5, IA kI 24 MY), (b 6, IA kC 100 TM), (b 7, IA kI 24 RX), (b 8, IA kI 24 RY), (b 9, IA kI 801 X), (b 10, IA kI 24 PX), (b 11, IA kI 24 PY), (b 12, IA kI 24 QX), (b 13, IA kI 24 QY), (b 14, IA kI 16 TO), (b 15, IA kI 16 BO), (b 16, IA kI 16 BE), (b 17, IA kI 16 RK), (b 18, IA kI 16 WO), (b 19, IA kI 16 OD), (b 20, IA kI 10201 IN)])) := by
  obtain ⟨S0, past, fut⟩ := s
  obtain ⟨hB, hBm, ⟨hty, hnt, hTT⟩, hs0, h3, hH, hN, hR, hgp, hg⟩ := hI
  dsimp only at hs0 hN
  subst hs0
  have hL2 : L < 2147483648 := by omega
  have hn16 : n ≤ 16 := by have := h3.1.1; rwa [shC_len] at this
  have hS : OkS (shC n F) := h3.1
  have hbn : bu = nb := by have := congrArg List.length hBm; rwa [ptsOf_len, ptsOf_len] at this
  have hBk : OkB (ptsOf bu MX MY) := by rw [hBm]; exact hB
  have hT : ∀ i, i < nt → 0 ≤ T i ∧ T i < 65536 := fun i hi => (hTT i hi).2
  have hTm : ∀ i, i < ty → 0 ≤ TM i ∧ TM i < 65536 := fun i hi => by rw [(hTT i (by omega)).1]; exact hT i (by omega)
  have hgm : 0 ≤ gp ∧ gp ≤ 500 := by omega
  dsimp only [putW, List.set, Option.toList, List.cons_append, List.nil_append, padO, mdO, shW, trW, txW, hiW, liW, woW, taW] at kk ⊢
  refine V_aload_n XC 1 rfl dL_law_700 rfl ?_
  refine V_aload_n XC 0 rfl dL_law_701 rfl ?_
  refine V_iload_n XC 3 rfl dL_law_702 rfl ?_
  refine V_iconst XC dL_law_703 ?_
  refine V_iadd XC dL_law_704 ?_
  refine V_sld XC hXs hbl hbA hL2 (i + 1) (by omega) (by omega) dL_law_705 ?_
  refine V_callV (rest := _) (q0 := 0) XC (c_X7_setGap l D kI kC _ _ _ _  hg _ (IR_of _)) gL_law_X7_setGap rfl kmX7_setGap ⟨⟨Nat.le_of_ble_eq_true rfl, Nat.le_of_ble_eq_true rfl⟩, Nat.le_of_ble_eq_true rfl, Nat.le_of_ble_eq_true rfl⟩ ⟨rfl, rfl⟩ rfl rfl (Nat.le_of_ble_eq_true rfl) [0] rfl rfl (fun _ => rfl) rfl rfl dL_law_706 (kI_of (fun r706 u706 hq706 => ?_))
  dsimp only [putW, List.set, Option.toList, List.cons_append, List.nil_append, padO, mdO, shW, trW, txW, hiW, liW, woW, taW]
  try dsimp only at hq706
  have h706 := hq706
  refine V_aload_n XC 2 rfl dL_law_709 rfl ?_
  refine V_aload_n XC 0 rfl dL_law_710 rfl ?_
  refine V_iload_n XC 3 rfl dL_law_711 rfl ?_
  refine V_iconst XC dL_law_712 ?_
  refine V_iadd XC dL_law_713 ?_
  refine V_sld XC hXs hbl hbA hL2 (i + 1) (by omega) (by omega) dL_law_714 ?_
  refine V_callV (rest := _) (q0 := 39) XC (c_X8_setGap l D kI kC _ _ _ _ _ _ _ _ _ _ _ _  hgm _ (IR_of _)) gL_law_X8_setGap rfl kmX8_setGap ⟨⟨Nat.le_of_ble_eq_true rfl, Nat.le_of_ble_eq_true rfl⟩, Nat.le_of_ble_eq_true rfl, Nat.le_of_ble_eq_true rfl⟩ ⟨rfl, rfl⟩ rfl rfl (Nat.le_of_ble_eq_true rfl) [39] rfl rfl (fun _ => rfl) rfl rfl dL_law_715 (kI_of (fun r715 u715 hq715 => ?_))
  dsimp only [putW, List.set, Option.toList, List.cons_append, List.nil_append, padO, mdO, shW, trW, txW, hiW, liW, woW, taW]
  try dsimp only at hq715
  have h715 := hq715
  refine V_eqT XC 845 dL_law_718 (by decide) (by rw [h706.1, h715.1, hgp]) ?_
  refine kk _ _ _ _ _ _ _ _ _ _ _ _ _ _ _ _ _ _ _ _ _ _ _ _ _ _ _ _ _ _ _ _ _ _ _ _ _ _ _ _ _ _ _ _ _ _ _ _ _ _ _ _ _ _ _ _ _ _ _ _ _ _ _ _ _ _ _ _ _ _ _ _ _ (shC n F, past, fut) ?_
  refine ⟨hB, hBm, ⟨hty, hnt, hTT⟩, rfl, h3, hH, hN, hR, by rw [h706.2, h715.2, hgp], ?_⟩
  rw [h706.2]
  split
  · exact hg
  · rename_i q
    have q2 : inR (xs (i + 1)).toInt 0 500 = true := by simpa using q
    exact of_decide_eq_true q2

set_option maxRecDepth 100000 in
set_option maxHeartbeats 4000000 in
theorem law_c21 (l : Launch) {pV : Program} {eV : Env} {sV : State} {mV : MethodId} {bV : List Frame} {tV : Method} {cV : Code} {AV : Nat → Prop} {D : va_G} {kI kC : ClassId} {Q : State → Prop} {sc L : Nat} {xs : Nat → Int32} (XC : Cx pV room_1 sV mV #[.ref sc] tV cV cL_law 4 RL wsL_law AV D kI kC) (hXs : va_X sc L xs sV sV.heap) (hbl : sc < sV.heap.size) (hbA : ¬ AV sc) (hL : L ≤ 2048) (a g w b : Nat → Nat) (i : Nat) (hi : i + 4 ≤ L) (gap : Int) (nb : Nat) (BX : (Nat → Int)) (BY : (Nat → Int)) (nt : Nat) (T : (Nat → Int)) (n : Nat) (F : (Nat → Int)) (dn : Int) (DF : (Nat → Int)) (wn : Int) (WX : (Nat → Int)) (WY : (Nat → Int)) (p : Nat) (f : Nat) (ha : Nat) (N : (Nat → Int)) (HS : (Nat → Int)) (ln : Int) (lo : (Nat → Int)) (to : (Nat → Int)) (bo : (Nat → Int)) (ls : (Nat → Int)) (bt : (Nat → Int)) (bb : (Nat → Int)) (ra : (Nat → Int)) (wc : Int) (od : (Nat → Int)) (pl : (Nat → Int)) (wo : (Nat → Int)) (li : (Nat → Int)) (si : (Nat → Int)) (le : (Nat → Int)) (ri : (Nat → Int)) (fi : (Nat → Int)) (wi : (Nat → Int)) (fn : (Nat → Int)) (sl : (Nat → Int)) (ce : Int) (mo : Int) (TK : (Nat → Int)) (TP : (Nat → Int)) (gp : Int) (ke : Nat) (un : Nat) (bu : Nat) (ty : Nat) (pc : Int) (gd : Bool) (rd : Int) (po : Int) (lm : Int) (wd : Int) (G : (Nat → Int)) (H : (Nat → Int)) (A : (Nat → Int)) (MX : (Nat → Int)) (MY : (Nat → Int)) (TM : (Nat → Int)) (RX : (Nat → Int)) (RY : (Nat → Int)) (X : (Nat → Int)) (PX : (Nat → Int)) (PY : (Nat → Int)) (QX : (Nat → Int)) (QY : (Nat → Int)) (TO : (Nat → Int)) (BO : (Nat → Int)) (BE : (Nat → Int)) (RK : (Nat → Int)) (WO : (Nat → Int)) (OD : (Nat → Int)) (IN : (Nat → Int)) (s : St3) (hI : LInv nb BX BY nt T n F p f ha N HS gap gp ke un bu ty G H A MX MY TM s) (kk : ∀ (gap : Int) (nb : Nat) (BX : (Nat → Int)) (BY : (Nat → Int)) (nt : Nat) (T : (Nat → Int)) (n : Nat) (F : (Nat → Int)) (dn : Int) (DF : (Nat → Int)) (wn : Int) (WX : (Nat → Int)) (WY : (Nat → Int)) (p : Nat) (f : Nat) (ha : Nat) (N : (Nat → Int)) (HS : (Nat → Int)) (ln : Int) (lo : (Nat → Int)) (to : (Nat → Int)) (bo : (Nat → Int)) (ls : (Nat → Int)) (bt : (Nat → Int)) (bb : (Nat → Int)) (ra : (Nat → Int)) (wc : Int) (od : (Nat → Int)) (pl : (Nat → Int)) (wo : (Nat → Int)) (li : (Nat → Int)) (si : (Nat → Int)) (le : (Nat → Int)) (ri : (Nat → Int)) (fi : (Nat → Int)) (wi : (Nat → Int)) (fn : (Nat → Int)) (sl : (Nat → Int)) (ce : Int) (mo : Int) (TK : (Nat → Int)) (TP : (Nat → Int)) (gp : Int) (ke : Nat) (un : Nat) (bu : Nat) (ty : Nat) (pc : Int) (gd : Bool) (rd : Int) (po : Int) (lm : Int) (wd : Int) (G : (Nat → Int)) (H : (Nat → Int)) (A : (Nat → Int)) (MX : (Nat → Int)) (MY : (Nat → Int)) (TM : (Nat → Int)) (RX : (Nat → Int)) (RY : (Nat → Int)) (X : (Nat → Int)) (PX : (Nat → Int)) (PY : (Nat → Int)) (QX : (Nat → Int)) (QY : (Nat → Int)) (TO : (Nat → Int)) (BO : (Nat → Int)) (BE : (Nat → Int)) (RK : (Nat → Int)) (WO : (Nat → Int)) (OD : (Nat → Int)) (IN : (Nat → Int)) (s : St3), LInv nb BX BY nt T n F p f ha N HS gap gp ke un bu ty G H A MX MY TM s → VV pV l eV room_1 sV mV #[.ref sc] bV tV cV 4 AV D Q 60 30600 845 [some (.ref sc), some (.ref (a 0)), some (.ref (b 0)), some (.int (iI (i : Int)))] [] ((padO a g w gap :: (trW kI (a 1) (a 2) (a 3) (nb : Int) BX BY ++ (txW kC (a 4) (a 5) (nt : Int) T ++ (shW kI (a 6) (a 7) (n : Int) F ++ (shW kI (a 8) (a 9) dn DF ++ (trW kI (a 10) (a 11) (a 12) wn WX WY ++ (hiW kI (a 13) (a 14) (a 15) (p : Int) (f : Int) (ha : Int) N HS ++ (liW kI g ln lo to bo ls bt bb ra ++ (woW kI w wc od pl wo li si le ri fi wi fn sl ++ (taW kI (a 36) (a 37) (a 38) ce mo TK TP)))))))))) ++ (mdO b gp (ke : Int) (un : Int) (bu : Int) (ty : Int) pc gd rd po lm wd :: [(b 1, IA kI 801 G), (b 2, IA kI 4806 H), (b 3, IA kI 4806 A), (b 4, IA kI 24 MX), (b 5, IA kI 24 MY), (b 6, IA kC 100 TM), (b 7, IA kI 24 RX), (b 8, IA kI 24 RY), (b 9, IA kI 801 X), (b 10, IA kI 24 PX), (b 11, IA kI 24 PY), (b 12, IA kI 24 QX), (b 13, IA kI 24 QY), (b 14, IA kI 16 TO), (b 15, IA kI 16 BO), (b 16, IA kI 16 BE), (b 17, IA kI 16 RK), (b 18, IA kI 16 WO), (b 19, IA kI 16 OD), (b 20, IA kI 10201 IN)]))) : VV pV l eV room_1 sV mV #[.ref sc] bV tV cV 4 AV D Q 60 30600 723 [some (.ref sc), some (.ref (a 0)), some (.ref (b 0)), some (.int (iI (i : Int)))] [] ((padO a g w gap :: (trW kI (a 1) (a 2) (a 3) (nb : Int) BX BY ++ (txW kC (a 4) (a 5) (nt : Int) T ++ (shW kI (a 6) (a 7) (n : Int) F ++ (shW kI (a 8) (a 9) dn DF ++ (trW kI (a 10) (a 11) (a 12) wn WX WY ++ (hiW kI (a 13) (a 14) (a 15) (p : Int) (f : Int) (ha : Int) N HS ++ (liW kI g ln lo to bo ls bt bb ra ++ (woW kI w wc od pl wo li si le ri fi wi fn sl ++ (taW kI (a 36) (a 37) (a 38) ce mo TK TP)))))))))) ++ (mdO b gp (ke : Int) (un : Int) (bu : Int) (ty : Int) pc gd rd po lm wd :: [(b 1, IA kI 801 G), (b 2, IA kI 4806 H), (b 3, IA kI 4806 A), (b 4, IA kI 24 MX), (b 5, IA kI 24 MY), (b 6, IA kC 100 TM), (b 7, IA kI 24 RX), (b 8, IA kI 24 RY), (b 9, IA kI 801 X), (b 10, IA kI 24 PX), (b 11, IA kI 24 PY), (b 12, IA kI 24 QX), (b 13, IA kI 24 QY), (b 14, IA kI 16 TO), (b 15, IA kI 16 BO), (b 16, IA kI 16 BE), (b 17, IA kI 16 RK), (b 18, IA kI 16 WO), (b 19, IA kI 16 OD), (b 20, IA kI 10201 IN)])) := by
  obtain ⟨S0, past, fut⟩ := s
  obtain ⟨hB, hBm, ⟨hty, hnt, hTT⟩, hs0, h3, hH, hN, hR, hgp, hg⟩ := hI
  dsimp only at hs0 hN
  subst hs0
  have hL2 : L < 2147483648 := by omega
  have hn16 : n ≤ 16 := by have := h3.1.1; rwa [shC_len] at this
  have hS : OkS (shC n F) := h3.1
  have hbn : bu = nb := by have := congrArg List.length hBm; rwa [ptsOf_len, ptsOf_len] at this
  have hBk : OkB (ptsOf bu MX MY) := by rw [hBm]; exact hB
  have hT : ∀ i, i < nt → 0 ≤ T i ∧ T i < 65536 := fun i hi => (hTT i hi).2
  have hTm : ∀ i, i < ty → 0 ≤ TM i ∧ TM i < 65536 := fun i hi => by rw [(hTT i (by omega)).1]; exact hT i (by omega)
  have hgm : 0 ≤ gp ∧ gp ≤ 500 := by omega
  dsimp only [putW, List.set, Option.toList, List.cons_append, List.nil_append, padO, mdO, shW, trW, txW, hiW, liW, woW, taW] at kk ⊢
  refine V_aload_n XC 1 rfl dL_law_723 rfl ?_
  refine V_aload_n XC 0 rfl dL_law_724 rfl ?_
  refine V_iload_n XC 3 rfl dL_law_725 rfl ?_
  refine V_iconst XC dL_law_726 ?_
  refine V_iadd XC dL_law_727 ?_
  refine V_sld XC hXs hbl hbA hL2 (i + 1) (by omega) (by omega) dL_law_728 ?_
  refine V_aload_n XC 0 rfl dL_law_729 rfl ?_
  refine V_iload_n XC 3 rfl dL_law_730 rfl ?_
  refine V_iconst XC dL_law_731 ?_
  refine V_iadd XC dL_law_732 ?_
  refine V_sld XC hXs hbl hbA hL2 (i + 2) (by omega) (by omega) dL_law_733 ?_
  refine V_callV (rest := _) (q0 := 0) XC (c_X7_nearest l D kI kC _ _ _ _ _ _  hn16 hS _ _ (IR_of _) (IR_of _)) gL_law_X7_nearest rfl kmX7_nearest ⟨⟨Nat.le_of_ble_eq_true rfl, Nat.le_of_ble_eq_true rfl⟩, Nat.le_of_ble_eq_true rfl, Nat.le_of_ble_eq_true rfl⟩ ⟨rfl, rfl⟩ rfl rfl (Nat.le_of_ble_eq_true rfl) [0, 6, 7] rfl rfl (fun _ => rfl) rfl rfl dL_law_734 (kR_of rfl (fun r734 hq734 => ?_))
  subst hq734
  refine V_aload_n XC 2 rfl dL_law_737 rfl ?_
  refine V_aload_n XC 0 rfl dL_law_738 rfl ?_
  refine V_iload_n XC 3 rfl dL_law_739 rfl ?_
  refine V_iconst XC dL_law_740 ?_
  refine V_iadd XC dL_law_741 ?_
  refine V_sld XC hXs hbl hbA hL2 (i + 1) (by omega) (by omega) dL_law_742 ?_
  refine V_aload_n XC 0 rfl dL_law_743 rfl ?_
  refine V_iload_n XC 3 rfl dL_law_744 rfl ?_
  refine V_iconst XC dL_law_745 ?_
  refine V_iadd XC dL_law_746 ?_
  refine V_sld XC hXs hbl hbA hL2 (i + 2) (by omega) (by omega) dL_law_747 ?_
  refine V_callV (rest := _) (q0 := 39) XC (c_X8_nearest l D kI kC _ _ _ _ _ _ _ _ _ _ _ _ _  _ hS hN _ _ (IR_of _) (IR_of _)) gL_law_X8_nearest rfl kmX8_nearest ⟨⟨Nat.le_of_ble_eq_true rfl, Nat.le_of_ble_eq_true rfl⟩, Nat.le_of_ble_eq_true rfl, Nat.le_of_ble_eq_true rfl⟩ ⟨rfl, rfl⟩ rfl rfl (Nat.le_of_ble_eq_true rfl) [39, 40] rfl rfl (fun _ => rfl) rfl rfl dL_law_748 (kR_of rfl (fun r748 hq748 => ?_))
  subst hq748
  refine V_eqT XC 845 dL_law_751 (by decide) (rfl) ?_
  refine kk _ _ _ _ _ _ _ _ _ _ _ _ _ _ _ _ _ _ _ _ _ _ _ _ _ _ _ _ _ _ _ _ _ _ _ _ _ _ _ _ _ _ _ _ _ _ _ _ _ _ _ _ _ _ _ _ _ _ _ _ _ _ _ _ _ _ _ _ _ _ _ _ _ (shC n F, past, fut) ?_
  exact ⟨hB, hBm, ⟨hty, hnt, hTT⟩, rfl, h3, hH, hN, hR, hgp, hg⟩

set_option maxRecDepth 100000 in
set_option maxHeartbeats 4000000 in
theorem law_c22 (l : Launch) {pV : Program} {eV : Env} {sV : State} {mV : MethodId} {bV : List Frame} {tV : Method} {cV : Code} {AV : Nat → Prop} {D : va_G} {kI kC : ClassId} {Q : State → Prop} {sc L : Nat} {xs : Nat → Int32} (XC : Cx pV room_1 sV mV #[.ref sc] tV cV cL_law 4 RL wsL_law AV D kI kC) (hXs : va_X sc L xs sV sV.heap) (hbl : sc < sV.heap.size) (hbA : ¬ AV sc) (hL : L ≤ 2048) (a g w b : Nat → Nat) (i : Nat) (hi : i + 4 ≤ L) (gap : Int) (nb : Nat) (BX : (Nat → Int)) (BY : (Nat → Int)) (nt : Nat) (T : (Nat → Int)) (n : Nat) (F : (Nat → Int)) (dn : Int) (DF : (Nat → Int)) (wn : Int) (WX : (Nat → Int)) (WY : (Nat → Int)) (p : Nat) (f : Nat) (ha : Nat) (N : (Nat → Int)) (HS : (Nat → Int)) (ln : Int) (lo : (Nat → Int)) (to : (Nat → Int)) (bo : (Nat → Int)) (ls : (Nat → Int)) (bt : (Nat → Int)) (bb : (Nat → Int)) (ra : (Nat → Int)) (wc : Int) (od : (Nat → Int)) (pl : (Nat → Int)) (wo : (Nat → Int)) (li : (Nat → Int)) (si : (Nat → Int)) (le : (Nat → Int)) (ri : (Nat → Int)) (fi : (Nat → Int)) (wi : (Nat → Int)) (fn : (Nat → Int)) (sl : (Nat → Int)) (ce : Int) (mo : Int) (TK : (Nat → Int)) (TP : (Nat → Int)) (gp : Int) (ke : Nat) (un : Nat) (bu : Nat) (ty : Nat) (pc : Int) (gd : Bool) (rd : Int) (po : Int) (lm : Int) (wd : Int) (G : (Nat → Int)) (H : (Nat → Int)) (A : (Nat → Int)) (MX : (Nat → Int)) (MY : (Nat → Int)) (TM : (Nat → Int)) (RX : (Nat → Int)) (RY : (Nat → Int)) (X : (Nat → Int)) (PX : (Nat → Int)) (PY : (Nat → Int)) (QX : (Nat → Int)) (QY : (Nat → Int)) (TO : (Nat → Int)) (BO : (Nat → Int)) (BE : (Nat → Int)) (RK : (Nat → Int)) (WO : (Nat → Int)) (OD : (Nat → Int)) (IN : (Nat → Int)) (s : St3) (hI : LInv nb BX BY nt T n F p f ha N HS gap gp ke un bu ty G H A MX MY TM s) (kk : ∀ (gap : Int) (nb : Nat) (BX : (Nat → Int)) (BY : (Nat → Int)) (nt : Nat) (T : (Nat → Int)) (n : Nat) (F : (Nat → Int)) (dn : Int) (DF : (Nat → Int)) (wn : Int) (WX : (Nat → Int)) (WY : (Nat → Int)) (p : Nat) (f : Nat) (ha : Nat) (N : (Nat → Int)) (HS : (Nat → Int)) (ln : Int) (lo : (Nat → Int)) (to : (Nat → Int)) (bo : (Nat → Int)) (ls : (Nat → Int)) (bt : (Nat → Int)) (bb : (Nat → Int)) (ra : (Nat → Int)) (wc : Int) (od : (Nat → Int)) (pl : (Nat → Int)) (wo : (Nat → Int)) (li : (Nat → Int)) (si : (Nat → Int)) (le : (Nat → Int)) (ri : (Nat → Int)) (fi : (Nat → Int)) (wi : (Nat → Int)) (fn : (Nat → Int)) (sl : (Nat → Int)) (ce : Int) (mo : Int) (TK : (Nat → Int)) (TP : (Nat → Int)) (gp : Int) (ke : Nat) (un : Nat) (bu : Nat) (ty : Nat) (pc : Int) (gd : Bool) (rd : Int) (po : Int) (lm : Int) (wd : Int) (G : (Nat → Int)) (H : (Nat → Int)) (A : (Nat → Int)) (MX : (Nat → Int)) (MY : (Nat → Int)) (TM : (Nat → Int)) (RX : (Nat → Int)) (RY : (Nat → Int)) (X : (Nat → Int)) (PX : (Nat → Int)) (PY : (Nat → Int)) (QX : (Nat → Int)) (QY : (Nat → Int)) (TO : (Nat → Int)) (BO : (Nat → Int)) (BE : (Nat → Int)) (RK : (Nat → Int)) (WO : (Nat → Int)) (OD : (Nat → Int)) (IN : (Nat → Int)) (s : St3), LInv nb BX BY nt T n F p f ha N HS gap gp ke un bu ty G H A MX MY TM s → VV pV l eV room_1 sV mV #[.ref sc] bV tV cV 4 AV D Q 60 30600 845 [some (.ref sc), some (.ref (a 0)), some (.ref (b 0)), some (.int (iI (i : Int)))] [] ((padO a g w gap :: (trW kI (a 1) (a 2) (a 3) (nb : Int) BX BY ++ (txW kC (a 4) (a 5) (nt : Int) T ++ (shW kI (a 6) (a 7) (n : Int) F ++ (shW kI (a 8) (a 9) dn DF ++ (trW kI (a 10) (a 11) (a 12) wn WX WY ++ (hiW kI (a 13) (a 14) (a 15) (p : Int) (f : Int) (ha : Int) N HS ++ (liW kI g ln lo to bo ls bt bb ra ++ (woW kI w wc od pl wo li si le ri fi wi fn sl ++ (taW kI (a 36) (a 37) (a 38) ce mo TK TP)))))))))) ++ (mdO b gp (ke : Int) (un : Int) (bu : Int) (ty : Int) pc gd rd po lm wd :: [(b 1, IA kI 801 G), (b 2, IA kI 4806 H), (b 3, IA kI 4806 A), (b 4, IA kI 24 MX), (b 5, IA kI 24 MY), (b 6, IA kC 100 TM), (b 7, IA kI 24 RX), (b 8, IA kI 24 RY), (b 9, IA kI 801 X), (b 10, IA kI 24 PX), (b 11, IA kI 24 PY), (b 12, IA kI 24 QX), (b 13, IA kI 24 QY), (b 14, IA kI 16 TO), (b 15, IA kI 16 BO), (b 16, IA kI 16 BE), (b 17, IA kI 16 RK), (b 18, IA kI 16 WO), (b 19, IA kI 16 OD), (b 20, IA kI 10201 IN)]))) : VV pV l eV room_1 sV mV #[.ref sc] bV tV cV 4 AV D Q 60 30600 756 [some (.ref sc), some (.ref (a 0)), some (.ref (b 0)), some (.int (iI (i : Int)))] [] ((padO a g w gap :: (trW kI (a 1) (a 2) (a 3) (nb : Int) BX BY ++ (txW kC (a 4) (a 5) (nt : Int) T ++ (shW kI (a 6) (a 7) (n : Int) F ++ (shW kI (a 8) (a 9) dn DF ++ (trW kI (a 10) (a 11) (a 12) wn WX WY ++ (hiW kI (a 13) (a 14) (a 15) (p : Int) (f : Int) (ha : Int) N HS ++ (liW kI g ln lo to bo ls bt bb ra ++ (woW kI w wc od pl wo li si le ri fi wi fn sl ++ (taW kI (a 36) (a 37) (a 38) ce mo TK TP)))))))))) ++ (mdO b gp (ke : Int) (un : Int) (bu : Int) (ty : Int) pc gd rd po lm wd :: [(b 1, IA kI 801 G), (b 2, IA kI 4806 H), (b 3, IA kI 4806 A), (b 4, IA kI 24 MX), (b 5, IA kI 24 MY), (b 6, IA kC 100 TM), (b 7, IA kI 24 RX), (b 8, IA kI 24 RY), (b 9, IA kI 801 X), (b 10, IA kI 24 PX), (b 11, IA kI 24 PY), (b 12, IA kI 24 QX), (b 13, IA kI 24 QY), (b 14, IA kI 16 TO), (b 15, IA kI 16 BO), (b 16, IA kI 16 BE), (b 17, IA kI 16 RK), (b 18, IA kI 16 WO), (b 19, IA kI 16 OD), (b 20, IA kI 10201 IN)])) := by
  obtain ⟨S0, past, fut⟩ := s
  obtain ⟨hB, hBm, ⟨hty, hnt, hTT⟩, hs0, h3, hH, hN, hR, hgp, hg⟩ := hI
  dsimp only at hs0 hN
  subst hs0
  have hL2 : L < 2147483648 := by omega
  have hn16 : n ≤ 16 := by have := h3.1.1; rwa [shC_len] at this
  have hS : OkS (shC n F) := h3.1
  have hbn : bu = nb := by have := congrArg List.length hBm; rwa [ptsOf_len, ptsOf_len] at this
  have hBk : OkB (ptsOf bu MX MY) := by rw [hBm]; exact hB
  have hT : ∀ i, i < nt → 0 ≤ T i ∧ T i < 65536 := fun i hi => (hTT i hi).2
  have hTm : ∀ i, i < ty → 0 ≤ TM i ∧ TM i < 65536 := fun i hi => by rw [(hTT i (by omega)).1]; exact hT i (by omega)
  have hgm : 0 ≤ gp ∧ gp ≤ 500 := by omega
  dsimp only [putW, List.set, Option.toList, List.cons_append, List.nil_append, padO, mdO, shW, trW, txW, hiW, liW, woW, taW] at kk ⊢
  refine V_aload_n XC 1 rfl dL_law_756 rfl ?_
  refine V_aload_n XC 0 rfl dL_law_757 rfl ?_
  refine V_iload_n XC 3 rfl dL_law_758 rfl ?_
  refine V_iconst XC dL_law_759 ?_
  refine V_iadd XC dL_law_760 ?_
  refine V_sld XC hXs hbl hbA hL2 (i + 1) (by omega) (by omega) dL_law_761 ?_
  refine V_aload_n XC 0 rfl dL_law_762 rfl ?_
  refine V_iload_n XC 3 rfl dL_law_763 rfl ?_
  refine V_iconst XC dL_law_764 ?_
  refine V_iadd XC dL_law_765 ?_
  refine V_sld XC hXs hbl hbA hL2 (i + 2) (by omega) (by omega) dL_law_766 ?_
  refine V_callV (rest := _) (q0 := 0) XC (c_X7_cell l D kI kC _ _ _ _ _ _  hn16 hS _ _ (IR_of _) (IR_of _)) gL_law_X7_cell rfl kmX7_cell ⟨⟨Nat.le_of_ble_eq_true rfl, Nat.le_of_ble_eq_true rfl⟩, Nat.le_of_ble_eq_true rfl, Nat.le_of_ble_eq_true rfl⟩ ⟨rfl, rfl⟩ rfl rfl (Nat.le_of_ble_eq_true rfl) [0, 6, 7] rfl rfl (fun _ => rfl) rfl rfl dL_law_767 (kR_of rfl (fun r767 hq767 => ?_))
  subst hq767
  refine V_aload_n XC 2 rfl dL_law_770 rfl ?_
  refine V_aload_n XC 0 rfl dL_law_771 rfl ?_
  refine V_iload_n XC 3 rfl dL_law_772 rfl ?_
  refine V_iconst XC dL_law_773 ?_
  refine V_iadd XC dL_law_774 ?_
  refine V_sld XC hXs hbl hbA hL2 (i + 1) (by omega) (by omega) dL_law_775 ?_
  refine V_aload_n XC 0 rfl dL_law_776 rfl ?_
  refine V_iload_n XC 3 rfl dL_law_777 rfl ?_
  refine V_iconst XC dL_law_778 ?_
  refine V_iadd XC dL_law_779 ?_
  refine V_sld XC hXs hbl hbA hL2 (i + 2) (by omega) (by omega) dL_law_780 ?_
  refine V_callV (rest := _) (q0 := 39) XC (c_X8_cell l D kI kC _ _ _ _ _ _ _ _ _ _ _ _ _ _  _ hS hN _ _ (IR_of _) (IR_of _)) gL_law_X8_cell rfl kmX8_cell ⟨⟨Nat.le_of_ble_eq_true rfl, Nat.le_of_ble_eq_true rfl⟩, Nat.le_of_ble_eq_true rfl, Nat.le_of_ble_eq_true rfl⟩ ⟨rfl, rfl⟩ rfl rfl (Nat.le_of_ble_eq_true rfl) [39, 40, 59] rfl rfl (fun _ => rfl) rfl rfl dL_law_781 (kI_of (fun r781 u781 hq781 => ?_))
  dsimp only [putW, List.set, Option.toList, List.cons_append, List.nil_append, padO, mdO, shW, trW, txW, hiW, liW, woW, taW]
  try dsimp only at hq781
  have h781 := hq781
  refine V_eqT XC 845 dL_law_784 (by decide) (h781.symm) ?_
  refine kk _ _ _ _ _ _ _ _ _ _ _ _ _ _ _ _ _ _ _ _ _ _ _ _ _ _ _ _ _ _ _ _ _ _ _ _ _ _ _ _ _ _ _ _ _ _ _ _ _ _ _ _ _ _ _ _ _ _ _ _ _ _ _ _ _ _ _ _ _ _ _ _ _ (shC n F, past, fut) ?_
  exact ⟨hB, hBm, ⟨hty, hnt, hTT⟩, rfl, h3, hH, hN, hR, hgp, hg⟩

set_option maxRecDepth 100000 in
set_option maxHeartbeats 4000000 in
theorem law_c23 (l : Launch) {pV : Program} {eV : Env} {sV : State} {mV : MethodId} {bV : List Frame} {tV : Method} {cV : Code} {AV : Nat → Prop} {D : va_G} {kI kC : ClassId} {Q : State → Prop} {sc L : Nat} {xs : Nat → Int32} (XC : Cx pV room_1 sV mV #[.ref sc] tV cV cL_law 4 RL wsL_law AV D kI kC) (hXs : va_X sc L xs sV sV.heap) (hbl : sc < sV.heap.size) (hbA : ¬ AV sc) (hL : L ≤ 2048) (a g w b : Nat → Nat) (i : Nat) (hi : i + 4 ≤ L) (gap : Int) (nb : Nat) (BX : (Nat → Int)) (BY : (Nat → Int)) (nt : Nat) (T : (Nat → Int)) (n : Nat) (F : (Nat → Int)) (dn : Int) (DF : (Nat → Int)) (wn : Int) (WX : (Nat → Int)) (WY : (Nat → Int)) (p : Nat) (f : Nat) (ha : Nat) (N : (Nat → Int)) (HS : (Nat → Int)) (ln : Int) (lo : (Nat → Int)) (to : (Nat → Int)) (bo : (Nat → Int)) (ls : (Nat → Int)) (bt : (Nat → Int)) (bb : (Nat → Int)) (ra : (Nat → Int)) (wc : Int) (od : (Nat → Int)) (pl : (Nat → Int)) (wo : (Nat → Int)) (li : (Nat → Int)) (si : (Nat → Int)) (le : (Nat → Int)) (ri : (Nat → Int)) (fi : (Nat → Int)) (wi : (Nat → Int)) (fn : (Nat → Int)) (sl : (Nat → Int)) (ce : Int) (mo : Int) (TK : (Nat → Int)) (TP : (Nat → Int)) (gp : Int) (ke : Nat) (un : Nat) (bu : Nat) (ty : Nat) (pc : Int) (gd : Bool) (rd : Int) (po : Int) (lm : Int) (wd : Int) (G : (Nat → Int)) (H : (Nat → Int)) (A : (Nat → Int)) (MX : (Nat → Int)) (MY : (Nat → Int)) (TM : (Nat → Int)) (RX : (Nat → Int)) (RY : (Nat → Int)) (X : (Nat → Int)) (PX : (Nat → Int)) (PY : (Nat → Int)) (QX : (Nat → Int)) (QY : (Nat → Int)) (TO : (Nat → Int)) (BO : (Nat → Int)) (BE : (Nat → Int)) (RK : (Nat → Int)) (WO : (Nat → Int)) (OD : (Nat → Int)) (IN : (Nat → Int)) (s : St3) (hI : LInv nb BX BY nt T n F p f ha N HS gap gp ke un bu ty G H A MX MY TM s) (kk : ∀ (gap : Int) (nb : Nat) (BX : (Nat → Int)) (BY : (Nat → Int)) (nt : Nat) (T : (Nat → Int)) (n : Nat) (F : (Nat → Int)) (dn : Int) (DF : (Nat → Int)) (wn : Int) (WX : (Nat → Int)) (WY : (Nat → Int)) (p : Nat) (f : Nat) (ha : Nat) (N : (Nat → Int)) (HS : (Nat → Int)) (ln : Int) (lo : (Nat → Int)) (to : (Nat → Int)) (bo : (Nat → Int)) (ls : (Nat → Int)) (bt : (Nat → Int)) (bb : (Nat → Int)) (ra : (Nat → Int)) (wc : Int) (od : (Nat → Int)) (pl : (Nat → Int)) (wo : (Nat → Int)) (li : (Nat → Int)) (si : (Nat → Int)) (le : (Nat → Int)) (ri : (Nat → Int)) (fi : (Nat → Int)) (wi : (Nat → Int)) (fn : (Nat → Int)) (sl : (Nat → Int)) (ce : Int) (mo : Int) (TK : (Nat → Int)) (TP : (Nat → Int)) (gp : Int) (ke : Nat) (un : Nat) (bu : Nat) (ty : Nat) (pc : Int) (gd : Bool) (rd : Int) (po : Int) (lm : Int) (wd : Int) (G : (Nat → Int)) (H : (Nat → Int)) (A : (Nat → Int)) (MX : (Nat → Int)) (MY : (Nat → Int)) (TM : (Nat → Int)) (RX : (Nat → Int)) (RY : (Nat → Int)) (X : (Nat → Int)) (PX : (Nat → Int)) (PY : (Nat → Int)) (QX : (Nat → Int)) (QY : (Nat → Int)) (TO : (Nat → Int)) (BO : (Nat → Int)) (BE : (Nat → Int)) (RK : (Nat → Int)) (WO : (Nat → Int)) (OD : (Nat → Int)) (IN : (Nat → Int)) (s : St3), LInv nb BX BY nt T n F p f ha N HS gap gp ke un bu ty G H A MX MY TM s → VV pV l eV room_1 sV mV #[.ref sc] bV tV cV 4 AV D Q 60 30600 845 [some (.ref sc), some (.ref (a 0)), some (.ref (b 0)), some (.int (iI (i : Int)))] [] ((padO a g w gap :: (trW kI (a 1) (a 2) (a 3) (nb : Int) BX BY ++ (txW kC (a 4) (a 5) (nt : Int) T ++ (shW kI (a 6) (a 7) (n : Int) F ++ (shW kI (a 8) (a 9) dn DF ++ (trW kI (a 10) (a 11) (a 12) wn WX WY ++ (hiW kI (a 13) (a 14) (a 15) (p : Int) (f : Int) (ha : Int) N HS ++ (liW kI g ln lo to bo ls bt bb ra ++ (woW kI w wc od pl wo li si le ri fi wi fn sl ++ (taW kI (a 36) (a 37) (a 38) ce mo TK TP)))))))))) ++ (mdO b gp (ke : Int) (un : Int) (bu : Int) (ty : Int) pc gd rd po lm wd :: [(b 1, IA kI 801 G), (b 2, IA kI 4806 H), (b 3, IA kI 4806 A), (b 4, IA kI 24 MX), (b 5, IA kI 24 MY), (b 6, IA kC 100 TM), (b 7, IA kI 24 RX), (b 8, IA kI 24 RY), (b 9, IA kI 801 X), (b 10, IA kI 24 PX), (b 11, IA kI 24 PY), (b 12, IA kI 24 QX), (b 13, IA kI 24 QY), (b 14, IA kI 16 TO), (b 15, IA kI 16 BO), (b 16, IA kI 16 BE), (b 17, IA kI 16 RK), (b 18, IA kI 16 WO), (b 19, IA kI 16 OD), (b 20, IA kI 10201 IN)]))) : VV pV l eV room_1 sV mV #[.ref sc] bV tV cV 4 AV D Q 60 30600 789 [some (.ref sc), some (.ref (a 0)), some (.ref (b 0)), some (.int (iI (i : Int)))] [] ((padO a g w gap :: (trW kI (a 1) (a 2) (a 3) (nb : Int) BX BY ++ (txW kC (a 4) (a 5) (nt : Int) T ++ (shW kI (a 6) (a 7) (n : Int) F ++ (shW kI (a 8) (a 9) dn DF ++ (trW kI (a 10) (a 11) (a 12) wn WX WY ++ (hiW kI (a 13) (a 14) (a 15) (p : Int) (f : Int) (ha : Int) N HS ++ (liW kI g ln lo to bo ls bt bb ra ++ (woW kI w wc od pl wo li si le ri fi wi fn sl ++ (taW kI (a 36) (a 37) (a 38) ce mo TK TP)))))))))) ++ (mdO b gp (ke : Int) (un : Int) (bu : Int) (ty : Int) pc gd rd po lm wd :: [(b 1, IA kI 801 G), (b 2, IA kI 4806 H), (b 3, IA kI 4806 A), (b 4, IA kI 24 MX), (b 5, IA kI 24 MY), (b 6, IA kC 100 TM), (b 7, IA kI 24 RX), (b 8, IA kI 24 RY), (b 9, IA kI 801 X), (b 10, IA kI 24 PX), (b 11, IA kI 24 PY), (b 12, IA kI 24 QX), (b 13, IA kI 24 QY), (b 14, IA kI 16 TO), (b 15, IA kI 16 BO), (b 16, IA kI 16 BE), (b 17, IA kI 16 RK), (b 18, IA kI 16 WO), (b 19, IA kI 16 OD), (b 20, IA kI 10201 IN)])) := by
  obtain ⟨S0, past, fut⟩ := s
  obtain ⟨hB, hBm, ⟨hty, hnt, hTT⟩, hs0, h3, hH, hN, hR, hgp, hg⟩ := hI
  dsimp only at hs0 hN
  subst hs0
  have hL2 : L < 2147483648 := by omega
  have hn16 : n ≤ 16 := by have := h3.1.1; rwa [shC_len] at this
  have hS : OkS (shC n F) := h3.1
  have hbn : bu = nb := by have := congrArg List.length hBm; rwa [ptsOf_len, ptsOf_len] at this
  have hBk : OkB (ptsOf bu MX MY) := by rw [hBm]; exact hB
  have hT : ∀ i, i < nt → 0 ≤ T i ∧ T i < 65536 := fun i hi => (hTT i hi).2
  have hTm : ∀ i, i < ty → 0 ≤ TM i ∧ TM i < 65536 := fun i hi => by rw [(hTT i (by omega)).1]; exact hT i (by omega)
  have hgm : 0 ≤ gp ∧ gp ≤ 500 := by omega
  dsimp only [putW, List.set, Option.toList, List.cons_append, List.nil_append, padO, mdO, shW, trW, txW, hiW, liW, woW, taW] at kk ⊢
  refine V_aload_n XC 1 rfl dL_law_789 rfl ?_
  refine V_aload_n XC 0 rfl dL_law_790 rfl ?_
  refine V_iload_n XC 3 rfl dL_law_791 rfl ?_
  refine V_iconst XC dL_law_792 ?_
  refine V_iadd XC dL_law_793 ?_
  refine V_sld XC hXs hbl hbA hL2 (i + 1) (by omega) (by omega) dL_law_794 ?_
  refine V_aload_n XC 0 rfl dL_law_795 rfl ?_
  refine V_iload_n XC 3 rfl dL_law_796 rfl ?_
  refine V_iconst XC dL_law_797 ?_
  refine V_iadd XC dL_law_798 ?_
  refine V_sld XC hXs hbl hbA hL2 (i + 2) (by omega) (by omega) dL_law_799 ?_
  refine V_callV (rest := _) (q0 := 0) XC (c_X7_color l D kI kC _ _ _ _ _ _ _ _ _ _  hn16 hS _ _ (IR_of _) (IR_of _)) gL_law_X7_color rfl kmX7_color ⟨⟨Nat.le_of_ble_eq_true rfl, Nat.le_of_ble_eq_true rfl⟩, Nat.le_of_ble_eq_true rfl, Nat.le_of_ble_eq_true rfl⟩ ⟨rfl, rfl⟩ rfl rfl (Nat.le_of_ble_eq_true rfl) [0, 6, 7, 36, 37, 38] rfl rfl (fun _ => rfl) rfl rfl dL_law_800 (kI_of (fun r800 u800 hq800 => ?_))
  dsimp only [putW, List.set, Option.toList, List.cons_append, List.nil_append, padO, mdO, shW, trW, txW, hiW, liW, woW, taW]
  try dsimp only at hq800
  have h800 := hq800
  refine V_aload_n XC 2 rfl dL_law_803 rfl ?_
  refine V_aload_n XC 0 rfl dL_law_804 rfl ?_
  refine V_iload_n XC 3 rfl dL_law_805 rfl ?_
  refine V_iconst XC dL_law_806 ?_
  refine V_iadd XC dL_law_807 ?_
  refine V_sld XC hXs hbl hbA hL2 (i + 1) (by omega) (by omega) dL_law_808 ?_
  refine V_aload_n XC 0 rfl dL_law_809 rfl ?_
  refine V_iload_n XC 3 rfl dL_law_810 rfl ?_
  refine V_iconst XC dL_law_811 ?_
  refine V_iadd XC dL_law_812 ?_
  refine V_sld XC hXs hbl hbA hL2 (i + 2) (by omega) (by omega) dL_law_813 ?_
  refine V_callV (rest := _) (q0 := 39) XC (c_X8_color l D kI kC _ _ _ _ _ _ _ _ _ _ _ _ _ _  _ hS hN _ _ (IR_of _) (IR_of _)) gL_law_X8_color rfl kmX8_color ⟨⟨Nat.le_of_ble_eq_true rfl, Nat.le_of_ble_eq_true rfl⟩, Nat.le_of_ble_eq_true rfl, Nat.le_of_ble_eq_true rfl⟩ ⟨rfl, rfl⟩ rfl rfl (Nat.le_of_ble_eq_true rfl) [39, 40, 59] rfl rfl (fun _ => rfl) rfl rfl dL_law_814 (kI_of (fun r814 u814 hq814 => ?_))
  dsimp only [putW, List.set, Option.toList, List.cons_append, List.nil_append, padO, mdO, shW, trW, txW, hiW, liW, woW, taW]
  try dsimp only at hq814
  have h814 := hq814
  refine V_eqT XC 845 dL_law_817 (by decide) (h800.trans h814.symm) ?_
  refine kk _ _ _ _ _ _ _ _ _ _ _ _ _ _ _ _ _ _ _ _ _ _ _ _ _ _ _ _ _ _ _ _ _ _ _ _ _ _ _ _ _ _ _ _ _ _ _ _ _ _ _ _ _ _ _ _ _ _ _ _ _ _ _ _ _ _ _ _ _ _ _ _ _ (shC n F, past, fut) ?_
  exact ⟨hB, hBm, ⟨hty, hnt, hTT⟩, rfl, h3, hH, hN, hR, hgp, hg⟩

set_option maxRecDepth 100000 in
set_option maxHeartbeats 4000000 in
theorem law_c24 (l : Launch) {pV : Program} {eV : Env} {sV : State} {mV : MethodId} {bV : List Frame} {tV : Method} {cV : Code} {AV : Nat → Prop} {D : va_G} {kI kC : ClassId} {Q : State → Prop} {sc L : Nat} {xs : Nat → Int32} (XC : Cx pV room_1 sV mV #[.ref sc] tV cV cL_law 4 RL wsL_law AV D kI kC) (hXs : va_X sc L xs sV sV.heap) (hbl : sc < sV.heap.size) (hbA : ¬ AV sc) (hL : L ≤ 2048) (a g w b : Nat → Nat) (i : Nat) (hi : i + 4 ≤ L) (gap : Int) (nb : Nat) (BX : (Nat → Int)) (BY : (Nat → Int)) (nt : Nat) (T : (Nat → Int)) (n : Nat) (F : (Nat → Int)) (dn : Int) (DF : (Nat → Int)) (wn : Int) (WX : (Nat → Int)) (WY : (Nat → Int)) (p : Nat) (f : Nat) (ha : Nat) (N : (Nat → Int)) (HS : (Nat → Int)) (ln : Int) (lo : (Nat → Int)) (to : (Nat → Int)) (bo : (Nat → Int)) (ls : (Nat → Int)) (bt : (Nat → Int)) (bb : (Nat → Int)) (ra : (Nat → Int)) (wc : Int) (od : (Nat → Int)) (pl : (Nat → Int)) (wo : (Nat → Int)) (li : (Nat → Int)) (si : (Nat → Int)) (le : (Nat → Int)) (ri : (Nat → Int)) (fi : (Nat → Int)) (wi : (Nat → Int)) (fn : (Nat → Int)) (sl : (Nat → Int)) (ce : Int) (mo : Int) (TK : (Nat → Int)) (TP : (Nat → Int)) (gp : Int) (ke : Nat) (un : Nat) (bu : Nat) (ty : Nat) (pc : Int) (gd : Bool) (rd : Int) (po : Int) (lm : Int) (wd : Int) (G : (Nat → Int)) (H : (Nat → Int)) (A : (Nat → Int)) (MX : (Nat → Int)) (MY : (Nat → Int)) (TM : (Nat → Int)) (RX : (Nat → Int)) (RY : (Nat → Int)) (X : (Nat → Int)) (PX : (Nat → Int)) (PY : (Nat → Int)) (QX : (Nat → Int)) (QY : (Nat → Int)) (TO : (Nat → Int)) (BO : (Nat → Int)) (BE : (Nat → Int)) (RK : (Nat → Int)) (WO : (Nat → Int)) (OD : (Nat → Int)) (IN : (Nat → Int)) (s : St3) (hI : LInv nb BX BY nt T n F p f ha N HS gap gp ke un bu ty G H A MX MY TM s) (kk : ∀ (gap : Int) (nb : Nat) (BX : (Nat → Int)) (BY : (Nat → Int)) (nt : Nat) (T : (Nat → Int)) (n : Nat) (F : (Nat → Int)) (dn : Int) (DF : (Nat → Int)) (wn : Int) (WX : (Nat → Int)) (WY : (Nat → Int)) (p : Nat) (f : Nat) (ha : Nat) (N : (Nat → Int)) (HS : (Nat → Int)) (ln : Int) (lo : (Nat → Int)) (to : (Nat → Int)) (bo : (Nat → Int)) (ls : (Nat → Int)) (bt : (Nat → Int)) (bb : (Nat → Int)) (ra : (Nat → Int)) (wc : Int) (od : (Nat → Int)) (pl : (Nat → Int)) (wo : (Nat → Int)) (li : (Nat → Int)) (si : (Nat → Int)) (le : (Nat → Int)) (ri : (Nat → Int)) (fi : (Nat → Int)) (wi : (Nat → Int)) (fn : (Nat → Int)) (sl : (Nat → Int)) (ce : Int) (mo : Int) (TK : (Nat → Int)) (TP : (Nat → Int)) (gp : Int) (ke : Nat) (un : Nat) (bu : Nat) (ty : Nat) (pc : Int) (gd : Bool) (rd : Int) (po : Int) (lm : Int) (wd : Int) (G : (Nat → Int)) (H : (Nat → Int)) (A : (Nat → Int)) (MX : (Nat → Int)) (MY : (Nat → Int)) (TM : (Nat → Int)) (RX : (Nat → Int)) (RY : (Nat → Int)) (X : (Nat → Int)) (PX : (Nat → Int)) (PY : (Nat → Int)) (QX : (Nat → Int)) (QY : (Nat → Int)) (TO : (Nat → Int)) (BO : (Nat → Int)) (BE : (Nat → Int)) (RK : (Nat → Int)) (WO : (Nat → Int)) (OD : (Nat → Int)) (IN : (Nat → Int)) (s : St3), LInv nb BX BY nt T n F p f ha N HS gap gp ke un bu ty G H A MX MY TM s → VV pV l eV room_1 sV mV #[.ref sc] bV tV cV 4 AV D Q 60 30600 845 [some (.ref sc), some (.ref (a 0)), some (.ref (b 0)), some (.int (iI (i : Int)))] [] ((padO a g w gap :: (trW kI (a 1) (a 2) (a 3) (nb : Int) BX BY ++ (txW kC (a 4) (a 5) (nt : Int) T ++ (shW kI (a 6) (a 7) (n : Int) F ++ (shW kI (a 8) (a 9) dn DF ++ (trW kI (a 10) (a 11) (a 12) wn WX WY ++ (hiW kI (a 13) (a 14) (a 15) (p : Int) (f : Int) (ha : Int) N HS ++ (liW kI g ln lo to bo ls bt bb ra ++ (woW kI w wc od pl wo li si le ri fi wi fn sl ++ (taW kI (a 36) (a 37) (a 38) ce mo TK TP)))))))))) ++ (mdO b gp (ke : Int) (un : Int) (bu : Int) (ty : Int) pc gd rd po lm wd :: [(b 1, IA kI 801 G), (b 2, IA kI 4806 H), (b 3, IA kI 4806 A), (b 4, IA kI 24 MX), (b 5, IA kI 24 MY), (b 6, IA kC 100 TM), (b 7, IA kI 24 RX), (b 8, IA kI 24 RY), (b 9, IA kI 801 X), (b 10, IA kI 24 PX), (b 11, IA kI 24 PY), (b 12, IA kI 24 QX), (b 13, IA kI 24 QY), (b 14, IA kI 16 TO), (b 15, IA kI 16 BO), (b 16, IA kI 16 BE), (b 17, IA kI 16 RK), (b 18, IA kI 16 WO), (b 19, IA kI 16 OD), (b 20, IA kI 10201 IN)]))) : VV pV l eV room_1 sV mV #[.ref sc] bV tV cV 4 AV D Q 60 30600 822 [some (.ref sc), some (.ref (a 0)), some (.ref (b 0)), some (.int (iI (i : Int)))] [] ((padO a g w gap :: (trW kI (a 1) (a 2) (a 3) (nb : Int) BX BY ++ (txW kC (a 4) (a 5) (nt : Int) T ++ (shW kI (a 6) (a 7) (n : Int) F ++ (shW kI (a 8) (a 9) dn DF ++ (trW kI (a 10) (a 11) (a 12) wn WX WY ++ (hiW kI (a 13) (a 14) (a 15) (p : Int) (f : Int) (ha : Int) N HS ++ (liW kI g ln lo to bo ls bt bb ra ++ (woW kI w wc od pl wo li si le ri fi wi fn sl ++ (taW kI (a 36) (a 37) (a 38) ce mo TK TP)))))))))) ++ (mdO b gp (ke : Int) (un : Int) (bu : Int) (ty : Int) pc gd rd po lm wd :: [(b 1, IA kI 801 G), (b 2, IA kI 4806 H), (b 3, IA kI 4806 A), (b 4, IA kI 24 MX), (b 5, IA kI 24 MY), (b 6, IA kC 100 TM), (b 7, IA kI 24 RX), (b 8, IA kI 24 RY), (b 9, IA kI 801 X), (b 10, IA kI 24 PX), (b 11, IA kI 24 PY), (b 12, IA kI 24 QX), (b 13, IA kI 24 QY), (b 14, IA kI 16 TO), (b 15, IA kI 16 BO), (b 16, IA kI 16 BE), (b 17, IA kI 16 RK), (b 18, IA kI 16 WO), (b 19, IA kI 16 OD), (b 20, IA kI 10201 IN)])) := by
  obtain ⟨S0, past, fut⟩ := s
  obtain ⟨hB, hBm, ⟨hty, hnt, hTT⟩, hs0, h3, hH, hN, hR, hgp, hg⟩ := hI
  dsimp only at hs0 hN
  subst hs0
  have hL2 : L < 2147483648 := by omega
  have hn16 : n ≤ 16 := by have := h3.1.1; rwa [shC_len] at this
  have hS : OkS (shC n F) := h3.1
  have hbn : bu = nb := by have := congrArg List.length hBm; rwa [ptsOf_len, ptsOf_len] at this
  have hBk : OkB (ptsOf bu MX MY) := by rw [hBm]; exact hB
  have hT : ∀ i, i < nt → 0 ≤ T i ∧ T i < 65536 := fun i hi => (hTT i hi).2
  have hTm : ∀ i, i < ty → 0 ≤ TM i ∧ TM i < 65536 := fun i hi => by rw [(hTT i (by omega)).1]; exact hT i (by omega)
  have hgm : 0 ≤ gp ∧ gp ≤ 500 := by omega
  dsimp only [putW, List.set, Option.toList, List.cons_append, List.nil_append, padO, mdO, shW, trW, txW, hiW, liW, woW, taW] at kk ⊢
  refine V_aload_n XC 1 rfl dL_law_822 rfl ?_
  refine V_aload_n XC 0 rfl dL_law_823 rfl ?_
  refine V_iload_n XC 3 rfl dL_law_824 rfl ?_
  refine V_iconst XC dL_law_825 ?_
  refine V_iadd XC dL_law_826 ?_
  refine V_sld XC hXs hbl hbA hL2 (i + 1) (by omega) (by omega) dL_law_827 ?_
  have hpk : ke = p := hR.1.trans hH.1.symm
  have huf : un = f := hR.2.1.trans hH.2.1.symm
  refine V_callV (rest := _) (q0 := 0) XC (c_X7_count l D kI kC _ _ _ _ _ _ _ _ _ _ _ _ _ _ _ _ _ _ _ _ _ _ _ _ _ _ _ _ _ _ _ _ _ _ _ _ _ _  hn16 hS hg _ (IR_of _)) gL_law_X7_count rfl kmX7_count ⟨⟨Nat.le_of_ble_eq_true rfl, Nat.le_of_ble_eq_true rfl⟩, Nat.le_of_ble_eq_true rfl, Nat.le_of_ble_eq_true rfl⟩ ⟨rfl, rfl⟩ rfl rfl (Nat.le_of_ble_eq_true rfl) [0, 1, 2, 3, 6, 7, 13, 14, 15, 16, 17, 18, 19, 20, 21, 22, 23, 24, 25, 26, 27, 28, 29, 30, 31, 32, 33, 34, 35, 36, 37, 38] rfl rfl (fun _ => rfl) rfl rfl dL_law_828 (kI_of (fun r828 u828 hq828 => ?_))
  dsimp only [putW, List.set, Option.toList, List.cons_append, List.nil_append, padO, mdO, shW, trW, txW, hiW, liW, woW, taW]
  try dsimp only at hq828
  have h828 := hq828
  refine V_aload_n XC 2 rfl dL_law_831 rfl ?_
  refine V_aload_n XC 0 rfl dL_law_832 rfl ?_
  refine V_iload_n XC 3 rfl dL_law_833 rfl ?_
  refine V_iconst XC dL_law_834 ?_
  refine V_iadd XC dL_law_835 ?_
  refine V_sld XC hXs hbl hbA hL2 (i + 1) (by omega) (by omega) dL_law_836 ?_
  refine V_callV (rest := _) (q0 := 39) XC (c_X8_count l D kI kC _ _ _ _ _ _ _ _ _ _ _ _ _ _ _ _ _ _ _ _  _ hS hN hgm _ (IR_of _)) gL_law_X8_count rfl kmX8_count ⟨⟨Nat.le_of_ble_eq_true rfl, Nat.le_of_ble_eq_true rfl⟩, Nat.le_of_ble_eq_true rfl, Nat.le_of_ble_eq_true rfl⟩ ⟨rfl, rfl⟩ rfl rfl (Nat.le_of_ble_eq_true rfl) [39, 40, 53, 54, 55, 56, 57, 58, 59] rfl rfl (fun _ => rfl) rfl rfl dL_law_837 (kI_of (fun r837 u837 hq837 => ?_))
  dsimp only [putW, List.set, Option.toList, List.cons_append, List.nil_append, padO, mdO, shW, trW, txW, hiW, liW, woW, taW]
  try dsimp only at hq837
  have h837 := hq837
  refine V_eqT XC 845 dL_law_840 (by decide) (by have e1 := h828; have e2 := h837; rw [hgp, hbn, hpk, huf] at e2; exact countR_one e1 e2) ?_
  refine kk _ _ _ _ _ _ _ _ _ _ _ _ _ _ _ _ _ _ _ _ _ _ _ _ _ _ _ _ _ _ _ _ _ _ _ _ _ _ _ _ _ _ _ _ _ _ _ _ _ _ _ _ _ _ _ _ _ _ _ _ _ _ _ _ _ _ _ _ _ _ _ _ _ (shC n F, past, fut) ?_
  exact ⟨hB, hBm, ⟨hty, hnt, hTT⟩, rfl, h3, hH, hN, hR, hgp, hg⟩

end LAW1
