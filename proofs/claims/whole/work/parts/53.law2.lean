/-! the law: its loop, its start (the skeleton's words as they are given) -/

/-! THE CLAIM OUT OF ONE WALK OF THE LAW'S BODY. Your part is whole_start (and what it stands on); all else here is the same for every law, but numbers. -/
def R_law : String := "InkPadLaw"
def lw_P (b : Addr) (xs : List Int32) (args : Array Value) (s : State) : Prop := args = #[.ref b] ∧ s.IntsAt b xs ∧ xs.length ≤ 2048 ∧ (Jvm.Cond.and given_1 narrow_1).before args s = true
def lw_Q (_ : Array Value) (s : State) (o : Outcome) (t : State) : Prop := o = .returned (some (.int 1)) ∧ Framed s o t [] 60 30600
def lw_Z (below : List Frame) (a : Array Value) (s : State) : State → Prop := fun t => ∃ o, t.status = .running ∧ Ended t below o ∧ lw_Q a s o t
/-- the law's own end, with 1 on the stack, nothing written that was there before, its room as the claim has it -/
theorem lw_ret {p : Program} {l : Launch} {e : Env} {s : State} {m : MethodId} {below : List Frame} {meth : Method} {c : Code} {b : Nat} (hx : p.tables.exec = Jvm.exec) (hb : c.code = code) (hr : meth.sig.returnType = ret) (hlocks : meth.locks = false) {pc : Nat} {H : Heap} {ls : Array Slot} (hdg : decode code pc = .ok (.ireturn, 1)) : W p l e room_1 s m #[Value.ref b] below meth c H [] 60 30600 (lw_Z below #[Value.ref b] s) (F0 m pc ls [.int 1]) := by
  intro T hT X
  obtain ⟨fs, hret, hrun, hended, hW, hframe⟩ := X.leave (v := some (.int 1)) (hlocks := hlocks) (fun h => by rw [hr] at h; cases h)
  have hmeth' : T.vm.method? m = some meth := X.method'
  refine ⟨T.setFrames fs, ?_, .returned (some (.int 1)), hrun, hended, rfl, ⟨_, rfl⟩, hW, hframe⟩
  jvm_step X.here [X.here.top, hx, hb, hdg, hmeth', hr, ret, narrow_b1]
  (try refine ⟨rfl, ?_⟩); (try refine ⟨rfl, ?_⟩)
  first | (intro acts; rw [hret _ acts rfl rfl rfl]) | rw [hret _ _ rfl rfl rfl]
  exact Steps.refl _
/-- what holds at the law's entry: the machine, the code, the tables' words (any of lw_tbl by 'hts w (by decide +kernel)'), the script of L ints xs at the cell b, what the Statement gives of the start (any of its parts by flat_of_before) -/
def lw_At (p : Program) (s : State) (m : MethodId) (meth : Method) (c : Code) (b L : Nat) (xs : Nat → Int32) : Prop :=
  p.tables.exec = Jvm.exec ∧ c.code = code ∧ meth.sig.returnType = ret ∧ c.maxLocals = 4 ∧ s.vm.findClass R_law = some m.cls ∧ (∀ w ∈ lw_tbl, w.before #[Value.ref b] s = true) ∧ va_X b L xs s s.heap ∧ b < s.heap.size ∧ meth.locks = false ∧ (Jvm.Cond.and given_1 narrow_1).before #[Value.ref b] s = true

section LAW2

theorem inlX7 : ∀ w ∈ wsX70, w ∈ wsL_law := fun _ h => List.mem_append_left _ (List.mem_append_left _ (List.mem_append_left _ (List.mem_append_left _ (List.mem_append_left _ (List.mem_append_left _ (List.mem_append_left _ (List.mem_append_left _ (List.mem_append_left _ (List.mem_append_right _ h)))))))))

theorem inlX8 : ∀ w ∈ wsX80, w ∈ wsL_law := fun _ h => List.mem_append_left _ (List.mem_append_left _ (List.mem_append_left _ (List.mem_append_left _ (List.mem_append_left _ (List.mem_append_left _ (List.mem_append_left _ (List.mem_append_left _ (List.mem_append_right _ h))))))))

theorem inlX5 : ∀ w ∈ wsX50, w ∈ wsL_law := fun _ h => List.mem_append_left _ (List.mem_append_left _ (List.mem_append_left _ (List.mem_append_left _ (List.mem_append_left _ (List.mem_append_left _ (List.mem_append_left _ (List.mem_append_right _ h)))))))

theorem inlX4 : ∀ w ∈ wsX40, w ∈ wsL_law := fun _ h => List.mem_append_left _ (List.mem_append_left _ (List.mem_append_left _ (List.mem_append_left _ (List.mem_append_left _ (List.mem_append_left _ (List.mem_append_right _ h))))))

theorem inlX2 : ∀ w ∈ wsX20, w ∈ wsL_law := fun _ h => List.mem_append_left _ (List.mem_append_left _ (List.mem_append_left _ (List.mem_append_left _ (List.mem_append_left _ (List.mem_append_right _ h)))))

theorem inlX0 : ∀ w ∈ wsX00, w ∈ wsL_law := fun _ h => List.mem_append_left _ (List.mem_append_left _ (List.mem_append_left _ (List.mem_append_left _ (List.mem_append_right _ h))))

theorem inlX1 : ∀ w ∈ wsX10, w ∈ wsL_law := fun _ h => List.mem_append_left _ (List.mem_append_left _ (List.mem_append_left _ (List.mem_append_right _ h)))

theorem inlX6 : ∀ w ∈ wsX60, w ∈ wsL_law := fun _ h => List.mem_append_left _ (List.mem_append_left _ (List.mem_append_right _ h))

theorem inlX3 : ∀ w ∈ wsX30, w ∈ wsL_law := fun _ h => List.mem_append_left _ (List.mem_append_right _ h)

theorem V_lawret {p : Program} {l : Launch} {e : Env} {s : State} {m : MethodId} {below : List Frame} {meth : Method} {c : Code} {nL : Nat} {own : String} {Ts : List Cond} {A : Nat → Prop} {D : va_G} {kI kC : ClassId} {b : Nat} {lv : List (Option Value)} {ws : va_W}
    (X : Cx p room_1 s m #[.ref b] meth c cL_law nL own Ts A D kI kC) (hr : meth.sig.returnType = ret) (hA : ∀ q, A q → s.heap.size ≤ q) : VV p l e room_1 s m #[.ref b] below meth c nL A D (lw_Z below #[.ref b] s) 60 30600 852 lv [.int (iI 1)] ws := by
  intro H locs ls hP hD hS hl
  exact va_forget (fun q hq => hA _ (hS.2.2 q hq)) (lw_ret X.1 X.2.1 hr X.2.2.2.2.2.2.2.2.1 dL_law_852)

set_option maxRecDepth 100000 in
set_option maxHeartbeats 4000000 in
theorem law_loop (l : Launch) {pV : Program} {eV : Env} {sV : State} {mV : MethodId} {bV : List Frame} {tV : Method} {cV : Code} {AV : Nat → Prop} {D : va_G} {kI kC : ClassId} {sc L : Nat} {xs : Nat → Int32} (XC : Cx pV room_1 sV mV #[.ref sc] tV cV cL_law 4 RL wsL_law AV D kI kC) (hXs : va_X sc L xs sV sV.heap) (hbl : sc < sV.heap.size) (hbA : ¬ AV sc) (hr : tV.sig.returnType = ret) (hA : ∀ q, AV q → sV.heap.size ≤ q) (hL : L ≤ 2048) (a g w b : Nat → Nat) : ∀ (k i : Nat), i ≤ L → L - i < k → ∀ (gap : Int) (nb : Nat) (BX : (Nat → Int)) (BY : (Nat → Int)) (nt : Nat) (T : (Nat → Int)) (n : Nat) (F : (Nat → Int)) (dn : Int) (DF : (Nat → Int)) (wn : Int) (WX : (Nat → Int)) (WY : (Nat → Int)) (p : Nat) (f : Nat) (ha : Nat) (N : (Nat → Int)) (HS : (Nat → Int)) (ln : Int) (lo : (Nat → Int)) (to : (Nat → Int)) (bo : (Nat → Int)) (ls : (Nat → Int)) (bt : (Nat → Int)) (bb : (Nat → Int)) (ra : (Nat → Int)) (wc : Int) (od : (Nat → Int)) (pl : (Nat → Int)) (wo : (Nat → Int)) (li : (Nat → Int)) (si : (Nat → Int)) (le : (Nat → Int)) (ri : (Nat → Int)) (fi : (Nat → Int)) (wi : (Nat → Int)) (fn : (Nat → Int)) (sl : (Nat → Int)) (ce : Int) (mo : Int) (TK : (Nat → Int)) (TP : (Nat → Int)) (gp : Int) (ke : Nat) (un : Nat) (bu : Nat) (ty : Nat) (pc : Int) (gd : Bool) (rd : Int) (po : Int) (lm : Int) (wd : Int) (G : (Nat → Int)) (H : (Nat → Int)) (A : (Nat → Int)) (MX : (Nat → Int)) (MY : (Nat → Int)) (TM : (Nat → Int)) (RX : (Nat → Int)) (RY : (Nat → Int)) (X : (Nat → Int)) (PX : (Nat → Int)) (PY : (Nat → Int)) (QX : (Nat → Int)) (QY : (Nat → Int)) (TO : (Nat → Int)) (BO : (Nat → Int)) (BE : (Nat → Int)) (RK : (Nat → Int)) (WO : (Nat → Int)) (OD : (Nat → Int)) (IN : (Nat → Int)) (s : St3), LInv nb BX BY nt T n F p f ha N HS gap gp ke un bu ty G H A MX MY TM s → VV pV l eV room_1 sV mV #[.ref sc] bV tV cV 4 AV D (lw_Z bV #[.ref sc] sV) 60 30600 18 [some (.ref sc), some (.ref (a 0)), some (.ref (b 0)), some (.int (iI (i : Int)))] [] ((padO a g w gap :: (trW kI (a 1) (a 2) (a 3) (nb : Int) BX BY ++ (txW kC (a 4) (a 5) (nt : Int) T ++ (shW kI (a 6) (a 7) (n : Int) F ++ (shW kI (a 8) (a 9) dn DF ++ (trW kI (a 10) (a 11) (a 12) wn WX WY ++ (hiW kI (a 13) (a 14) (a 15) (p : Int) (f : Int) (ha : Int) N HS ++ (liW kI g ln lo to bo ls bt bb ra ++ (woW kI w wc od pl wo li si le ri fi wi fn sl ++ (taW kI (a 36) (a 37) (a 38) ce mo TK TP)))))))))) ++ (mdO b gp (ke : Int) (un : Int) (bu : Int) (ty : Int) pc gd rd po lm wd :: [(b 1, IA kI 801 G), (b 2, IA kI 4806 H), (b 3, IA kI 4806 A), (b 4, IA kI 24 MX), (b 5, IA kI 24 MY), (b 6, IA kC 100 TM), (b 7, IA kI 24 RX), (b 8, IA kI 24 RY), (b 9, IA kI 801 X), (b 10, IA kI 24 PX), (b 11, IA kI 24 PY), (b 12, IA kI 24 QX), (b 13, IA kI 24 QY), (b 14, IA kI 16 TO), (b 15, IA kI 16 BO), (b 16, IA kI 16 BE), (b 17, IA kI 16 RK), (b 18, IA kI 16 WO), (b 19, IA kI 16 OD), (b 20, IA kI 10201 IN)])) := by
  intro k
  induction k with
  | zero => intro i _ h; exact absurd h (Nat.not_lt_zero _)
  | succ k ih =>
    intro i hiL hk gap nb BX BY nt T n F dn DF wn WX WY p f ha N HS ln lo to bo ls bt bb ra wc od pl wo li si le ri fi wi fn sl ce mo TK TP gp ke un bu ty pc gd rd po lm wd G H A MX MY TM RX RY X PX PY QX QY TO BO BE RK WO OD IN s hI
    have hL2 : L < 2147483648 := by omega
    refine V_iload_n XC 3 rfl dL_law_18 rfl ?_
    refine V_aload_n XC 0 rfl dL_law_19 rfl ?_
    refine V_slen XC hXs hbl hbA hL2 dL_law_20 ?_
    refine V_iconst XC dL_law_21 ?_
    refine V_isub XC dL_law_22 ?_
    refine V_icmp_gt XC 851 dL_law_23 (by decide) ⟨by omega, by omega⟩ ⟨by omega, by omega⟩ (fun h23 => ?_) (fun h23 => ?_)
    · skip
      refine V_iconst XC dL_law_851 ?_
      exact V_lawret XC hr hA
    have kk : ∀ (gap : Int) (nb : Nat) (BX : (Nat → Int)) (BY : (Nat → Int)) (nt : Nat) (T : (Nat → Int)) (n : Nat) (F : (Nat → Int)) (dn : Int) (DF : (Nat → Int)) (wn : Int) (WX : (Nat → Int)) (WY : (Nat → Int)) (p : Nat) (f : Nat) (ha : Nat) (N : (Nat → Int)) (HS : (Nat → Int)) (ln : Int) (lo : (Nat → Int)) (to : (Nat → Int)) (bo : (Nat → Int)) (ls : (Nat → Int)) (bt : (Nat → Int)) (bb : (Nat → Int)) (ra : (Nat → Int)) (wc : Int) (od : (Nat → Int)) (pl : (Nat → Int)) (wo : (Nat → Int)) (li : (Nat → Int)) (si : (Nat → Int)) (le : (Nat → Int)) (ri : (Nat → Int)) (fi : (Nat → Int)) (wi : (Nat → Int)) (fn : (Nat → Int)) (sl : (Nat → Int)) (ce : Int) (mo : Int) (TK : (Nat → Int)) (TP : (Nat → Int)) (gp : Int) (ke : Nat) (un : Nat) (bu : Nat) (ty : Nat) (pc : Int) (gd : Bool) (rd : Int) (po : Int) (lm : Int) (wd : Int) (G : (Nat → Int)) (H : (Nat → Int)) (A : (Nat → Int)) (MX : (Nat → Int)) (MY : (Nat → Int)) (TM : (Nat → Int)) (RX : (Nat → Int)) (RY : (Nat → Int)) (X : (Nat → Int)) (PX : (Nat → Int)) (PY : (Nat → Int)) (QX : (Nat → Int)) (QY : (Nat → Int)) (TO : (Nat → Int)) (BO : (Nat → Int)) (BE : (Nat → Int)) (RK : (Nat → Int)) (WO : (Nat → Int)) (OD : (Nat → Int)) (IN : (Nat → Int)) (s : St3), LInv nb BX BY nt T n F p f ha N HS gap gp ke un bu ty G H A MX MY TM s → VV pV l eV room_1 sV mV #[.ref sc] bV tV cV 4 AV D (lw_Z bV #[.ref sc] sV) 60 30600 845 [some (.ref sc), some (.ref (a 0)), some (.ref (b 0)), some (.int (iI (i : Int)))] [] ((padO a g w gap :: (trW kI (a 1) (a 2) (a 3) (nb : Int) BX BY ++ (txW kC (a 4) (a 5) (nt : Int) T ++ (shW kI (a 6) (a 7) (n : Int) F ++ (shW kI (a 8) (a 9) dn DF ++ (trW kI (a 10) (a 11) (a 12) wn WX WY ++ (hiW kI (a 13) (a 14) (a 15) (p : Int) (f : Int) (ha : Int) N HS ++ (liW kI g ln lo to bo ls bt bb ra ++ (woW kI w wc od pl wo li si le ri fi wi fn sl ++ (taW kI (a 36) (a 37) (a 38) ce mo TK TP)))))))))) ++ (mdO b gp (ke : Int) (un : Int) (bu : Int) (ty : Int) pc gd rd po lm wd :: [(b 1, IA kI 801 G), (b 2, IA kI 4806 H), (b 3, IA kI 4806 A), (b 4, IA kI 24 MX), (b 5, IA kI 24 MY), (b 6, IA kC 100 TM), (b 7, IA kI 24 RX), (b 8, IA kI 24 RY), (b 9, IA kI 801 X), (b 10, IA kI 24 PX), (b 11, IA kI 24 PY), (b 12, IA kI 24 QX), (b 13, IA kI 24 QY), (b 14, IA kI 16 TO), (b 15, IA kI 16 BO), (b 16, IA kI 16 BE), (b 17, IA kI 16 RK), (b 18, IA kI 16 WO), (b 19, IA kI 16 OD), (b 20, IA kI 10201 IN)])) := by
      intro gap nb BX BY nt T n F dn DF wn WX WY p f ha N HS ln lo to bo ls bt bb ra wc od pl wo li si le ri fi wi fn sl ce mo TK TP gp ke un bu ty pc gd rd po lm wd G H A MX MY TM RX RY X PX PY QX QY TO BO BE RK WO OD IN s hI
      refine V_iinc XC dL_law_845 rfl (by decide) ?_
      dsimp only [List.set]
      refine V_goto XC 18 dL_law_848 (by decide) ?_
      exact ih (i + 4) (by omega) (by omega) gap nb BX BY nt T n F dn DF wn WX WY p f ha N HS ln lo to bo ls bt bb ra wc od pl wo li si le ri fi wi fn sl ce mo TK TP gp ke un bu ty pc gd rd po lm wd G H A MX MY TM RX RY X PX PY QX QY TO BO BE RK WO OD IN s hI
    refine V_aload_n XC 0 rfl dL_law_26 rfl ?_
    refine V_iload_n XC 3 rfl dL_law_27 rfl ?_
    refine V_sld XC hXs hbl hbA hL2 (i) (by omega) (by omega) dL_law_28 ?_
    refine V_bipush XC dL_law_29 (by decide) ?_
    refine V_mask (j := 5) XC dL_law_31 (by decide) (by decide) (fun z31 hz31 => ?_)
    rcases (show ((z31 : Int) < 0 ∨ 24 < (z31 : Int)) ∨ (z31 : Int) = 0 ∨ (z31 : Int) = 1 ∨ (z31 : Int) = 2 ∨ (z31 : Int) = 3 ∨ (z31 : Int) = 4 ∨ (z31 : Int) = 5 ∨ (z31 : Int) = 6 ∨ (z31 : Int) = 7 ∨ (z31 : Int) = 8 ∨ (z31 : Int) = 9 ∨ (z31 : Int) = 10 ∨ (z31 : Int) = 11 ∨ (z31 : Int) = 12 ∨ (z31 : Int) = 13 ∨ (z31 : Int) = 14 ∨ (z31 : Int) = 15 ∨ (z31 : Int) = 16 ∨ (z31 : Int) = 17 ∨ (z31 : Int) = 18 ∨ (z31 : Int) = 19 ∨ (z31 : Int) = 20 ∨ (z31 : Int) = 21 ∨ (z31 : Int) = 22 ∨ (z31 : Int) = 23 ∨ (z31 : Int) = 24 from by omega) with h32 | h32 | h32 | h32 | h32 | h32 | h32 | h32 | h32 | h32 | h32 | h32 | h32 | h32 | h32 | h32 | h32 | h32 | h32 | h32 | h32 | h32 | h32 | h32 | h32 | h32
    · skip
      refine V_tabOut XC 845 (by first | assumption | (unfold IR; omega)) dL_law_32 h32 (by decide) ?_
      exact kk gap nb BX BY nt T n F dn DF wn WX WY p f ha N HS ln lo to bo ls bt bb ra wc od pl wo li si le ri fi wi fn sl ce mo TK TP gp ke un bu ty pc gd rd po lm wd G H A MX MY TM RX RY X PX PY QX QY TO BO BE RK WO OD IN s hI
    · skip
      refine V_tabIn XC 148 0 h32 dL_law_32 (by unfold IR; decide) (by decide) (by decide) (by rfl) (by decide) ?_
      exact law_c0 l XC hXs hbl hbA hL a g w b i (by omega) gap nb BX BY nt T n F dn DF wn WX WY p f ha N HS ln lo to bo ls bt bb ra wc od pl wo li si le ri fi wi fn sl ce mo TK TP gp ke un bu ty pc gd rd po lm wd G H A MX MY TM RX RY X PX PY QX QY TO BO BE RK WO OD IN s hI kk
    · skip
      refine V_tabIn XC 181 1 h32 dL_law_32 (by unfold IR; decide) (by decide) (by decide) (by rfl) (by decide) ?_
      exact law_c1 l XC hXs hbl hbA hL a g w b i (by omega) gap nb BX BY nt T n F dn DF wn WX WY p f ha N HS ln lo to bo ls bt bb ra wc od pl wo li si le ri fi wi fn sl ce mo TK TP gp ke un bu ty pc gd rd po lm wd G H A MX MY TM RX RY X PX PY QX QY TO BO BE RK WO OD IN s hI kk
    · skip
      refine V_tabIn XC 194 2 h32 dL_law_32 (by unfold IR; decide) (by decide) (by decide) (by rfl) (by decide) ?_
      exact law_c2 l XC hXs hbl hbA hL a g w b i (by omega) gap nb BX BY nt T n F dn DF wn WX WY p f ha N HS ln lo to bo ls bt bb ra wc od pl wo li si le ri fi wi fn sl ce mo TK TP gp ke un bu ty pc gd rd po lm wd G H A MX MY TM RX RY X PX PY QX QY TO BO BE RK WO OD IN s hI kk
    · skip
      refine V_tabIn XC 219 3 h32 dL_law_32 (by unfold IR; decide) (by decide) (by decide) (by rfl) (by decide) ?_
      exact law_c3 l XC hXs hbl hbA hL a g w b i (by omega) gap nb BX BY nt T n F dn DF wn WX WY p f ha N HS ln lo to bo ls bt bb ra wc od pl wo li si le ri fi wi fn sl ce mo TK TP gp ke un bu ty pc gd rd po lm wd G H A MX MY TM RX RY X PX PY QX QY TO BO BE RK WO OD IN s hI kk
    · skip
      refine V_tabIn XC 232 4 h32 dL_law_32 (by unfold IR; decide) (by decide) (by decide) (by rfl) (by decide) ?_
      exact law_c4 l XC hXs hbl hbA hL a g w b i (by omega) gap nb BX BY nt T n F dn DF wn WX WY p f ha N HS ln lo to bo ls bt bb ra wc od pl wo li si le ri fi wi fn sl ce mo TK TP gp ke un bu ty pc gd rd po lm wd G H A MX MY TM RX RY X PX PY QX QY TO BO BE RK WO OD IN s hI kk
    · skip
      refine V_tabIn XC 245 5 h32 dL_law_32 (by unfold IR; decide) (by decide) (by decide) (by rfl) (by decide) ?_
      exact law_c5 l XC hXs hbl hbA hL a g w b i (by omega) gap nb BX BY nt T n F dn DF wn WX WY p f ha N HS ln lo to bo ls bt bb ra wc od pl wo li si le ri fi wi fn sl ce mo TK TP gp ke un bu ty pc gd rd po lm wd G H A MX MY TM RX RY X PX PY QX QY TO BO BE RK WO OD IN s hI kk
    · skip
      refine V_tabIn XC 268 6 h32 dL_law_32 (by unfold IR; decide) (by decide) (by decide) (by rfl) (by decide) ?_
      exact law_c6 l XC hXs hbl hbA hL a g w b i (by omega) gap nb BX BY nt T n F dn DF wn WX WY p f ha N HS ln lo to bo ls bt bb ra wc od pl wo li si le ri fi wi fn sl ce mo TK TP gp ke un bu ty pc gd rd po lm wd G H A MX MY TM RX RY X PX PY QX QY TO BO BE RK WO OD IN s hI kk
    · skip
      refine V_tabIn XC 311 7 h32 dL_law_32 (by unfold IR; decide) (by decide) (by decide) (by rfl) (by decide) ?_
      exact law_c7 l XC hXs hbl hbA hL a g w b i (by omega) gap nb BX BY nt T n F dn DF wn WX WY p f ha N HS ln lo to bo ls bt bb ra wc od pl wo li si le ri fi wi fn sl ce mo TK TP gp ke un bu ty pc gd rd po lm wd G H A MX MY TM RX RY X PX PY QX QY TO BO BE RK WO OD IN s hI kk
    · skip
      refine V_tabIn XC 344 8 h32 dL_law_32 (by unfold IR; decide) (by decide) (by decide) (by rfl) (by decide) ?_
      exact law_c8 l XC hXs hbl hbA hL a g w b i (by omega) gap nb BX BY nt T n F dn DF wn WX WY p f ha N HS ln lo to bo ls bt bb ra wc od pl wo li si le ri fi wi fn sl ce mo TK TP gp ke un bu ty pc gd rd po lm wd G H A MX MY TM RX RY X PX PY QX QY TO BO BE RK WO OD IN s hI kk
    · skip
      refine V_tabIn XC 377 9 h32 dL_law_32 (by unfold IR; decide) (by decide) (by decide) (by rfl) (by decide) ?_
      exact law_c9 l XC hXs hbl hbA hL a g w b i (by omega) gap nb BX BY nt T n F dn DF wn WX WY p f ha N HS ln lo to bo ls bt bb ra wc od pl wo li si le ri fi wi fn sl ce mo TK TP gp ke un bu ty pc gd rd po lm wd G H A MX MY TM RX RY X PX PY QX QY TO BO BE RK WO OD IN s hI kk
    · skip
      refine V_tabIn XC 410 10 h32 dL_law_32 (by unfold IR; decide) (by decide) (by decide) (by rfl) (by decide) ?_
      exact law_c10 l XC hXs hbl hbA hL a g w b i (by omega) gap nb BX BY nt T n F dn DF wn WX WY p f ha N HS ln lo to bo ls bt bb ra wc od pl wo li si le ri fi wi fn sl ce mo TK TP gp ke un bu ty pc gd rd po lm wd G H A MX MY TM RX RY X PX PY QX QY TO BO BE RK WO OD IN s hI kk
    · skip
      refine V_tabIn XC 453 11 h32 dL_law_32 (by unfold IR; decide) (by decide) (by decide) (by rfl) (by decide) ?_
      exact law_c11 l XC hXs hbl hbA hL a g w b i (by omega) gap nb BX BY nt T n F dn DF wn WX WY p f ha N HS ln lo to bo ls bt bb ra wc od pl wo li si le ri fi wi fn sl ce mo TK TP gp ke un bu ty pc gd rd po lm wd G H A MX MY TM RX RY X PX PY QX QY TO BO BE RK WO OD IN s hI kk
    · skip
      refine V_tabIn XC 486 12 h32 dL_law_32 (by unfold IR; decide) (by decide) (by decide) (by rfl) (by decide) ?_
      exact law_c12 l XC hXs hbl hbA hL a g w b i (by omega) gap nb BX BY nt T n F dn DF wn WX WY p f ha N HS ln lo to bo ls bt bb ra wc od pl wo li si le ri fi wi fn sl ce mo TK TP gp ke un bu ty pc gd rd po lm wd G H A MX MY TM RX RY X PX PY QX QY TO BO BE RK WO OD IN s hI kk
    · skip
      refine V_tabIn XC 509 13 h32 dL_law_32 (by unfold IR; decide) (by decide) (by decide) (by rfl) (by decide) ?_
      exact law_c13 l XC hXs hbl hbA hL a g w b i (by omega) gap nb BX BY nt T n F dn DF wn WX WY p f ha N HS ln lo to bo ls bt bb ra wc od pl wo li si le ri fi wi fn sl ce mo TK TP gp ke un bu ty pc gd rd po lm wd G H A MX MY TM RX RY X PX PY QX QY TO BO BE RK WO OD IN s hI kk
    · skip
      refine V_tabIn XC 522 14 h32 dL_law_32 (by unfold IR; decide) (by decide) (by decide) (by rfl) (by decide) ?_
      exact law_c14 l XC hXs hbl hbA hL a g w b i (by omega) gap nb BX BY nt T n F dn DF wn WX WY p f ha N HS ln lo to bo ls bt bb ra wc od pl wo li si le ri fi wi fn sl ce mo TK TP gp ke un bu ty pc gd rd po lm wd G H A MX MY TM RX RY X PX PY QX QY TO BO BE RK WO OD IN s hI kk
    · skip
      refine V_tabIn XC 535 15 h32 dL_law_32 (by unfold IR; decide) (by decide) (by decide) (by rfl) (by decide) ?_
      exact law_c15 l XC hXs hbl hbA hL a g w b i (by omega) gap nb BX BY nt T n F dn DF wn WX WY p f ha N HS ln lo to bo ls bt bb ra wc od pl wo li si le ri fi wi fn sl ce mo TK TP gp ke un bu ty pc gd rd po lm wd G H A MX MY TM RX RY X PX PY QX QY TO BO BE RK WO OD IN s hI kk
    · skip
      refine V_tabIn XC 568 16 h32 dL_law_32 (by unfold IR; decide) (by decide) (by decide) (by rfl) (by decide) ?_
      exact law_c16 l XC hXs hbl hbA hL a g w b i (by omega) gap nb BX BY nt T n F dn DF wn WX WY p f ha N HS ln lo to bo ls bt bb ra wc od pl wo li si le ri fi wi fn sl ce mo TK TP gp ke un bu ty pc gd rd po lm wd G H A MX MY TM RX RY X PX PY QX QY TO BO BE RK WO OD IN s hI kk
    · skip
      refine V_tabIn XC 611 17 h32 dL_law_32 (by unfold IR; decide) (by decide) (by decide) (by rfl) (by decide) ?_
      exact law_c17 l XC hXs hbl hbA hL a g w b i (by omega) gap nb BX BY nt T n F dn DF wn WX WY p f ha N HS ln lo to bo ls bt bb ra wc od pl wo li si le ri fi wi fn sl ce mo TK TP gp ke un bu ty pc gd rd po lm wd G H A MX MY TM RX RY X PX PY QX QY TO BO BE RK WO OD IN s hI kk
    · skip
      refine V_tabIn XC 634 18 h32 dL_law_32 (by unfold IR; decide) (by decide) (by decide) (by rfl) (by decide) ?_
      exact law_c18 l XC hXs hbl hbA hL a g w b i (by omega) gap nb BX BY nt T n F dn DF wn WX WY p f ha N HS ln lo to bo ls bt bb ra wc od pl wo li si le ri fi wi fn sl ce mo TK TP gp ke un bu ty pc gd rd po lm wd G H A MX MY TM RX RY X PX PY QX QY TO BO BE RK WO OD IN s hI kk
    · skip
      refine V_tabIn XC 667 19 h32 dL_law_32 (by unfold IR; decide) (by decide) (by decide) (by rfl) (by decide) ?_
      exact law_c19 l XC hXs hbl hbA hL a g w b i (by omega) gap nb BX BY nt T n F dn DF wn WX WY p f ha N HS ln lo to bo ls bt bb ra wc od pl wo li si le ri fi wi fn sl ce mo TK TP gp ke un bu ty pc gd rd po lm wd G H A MX MY TM RX RY X PX PY QX QY TO BO BE RK WO OD IN s hI kk
    · skip
      refine V_tabIn XC 700 20 h32 dL_law_32 (by unfold IR; decide) (by decide) (by decide) (by rfl) (by decide) ?_
      exact law_c20 l XC hXs hbl hbA hL a g w b i (by omega) gap nb BX BY nt T n F dn DF wn WX WY p f ha N HS ln lo to bo ls bt bb ra wc od pl wo li si le ri fi wi fn sl ce mo TK TP gp ke un bu ty pc gd rd po lm wd G H A MX MY TM RX RY X PX PY QX QY TO BO BE RK WO OD IN s hI kk
    · skip
      refine V_tabIn XC 723 21 h32 dL_law_32 (by unfold IR; decide) (by decide) (by decide) (by rfl) (by decide) ?_
      exact law_c21 l XC hXs hbl hbA hL a g w b i (by omega) gap nb BX BY nt T n F dn DF wn WX WY p f ha N HS ln lo to bo ls bt bb ra wc od pl wo li si le ri fi wi fn sl ce mo TK TP gp ke un bu ty pc gd rd po lm wd G H A MX MY TM RX RY X PX PY QX QY TO BO BE RK WO OD IN s hI kk
    · skip
      refine V_tabIn XC 756 22 h32 dL_law_32 (by unfold IR; decide) (by decide) (by decide) (by rfl) (by decide) ?_
      exact law_c22 l XC hXs hbl hbA hL a g w b i (by omega) gap nb BX BY nt T n F dn DF wn WX WY p f ha N HS ln lo to bo ls bt bb ra wc od pl wo li si le ri fi wi fn sl ce mo TK TP gp ke un bu ty pc gd rd po lm wd G H A MX MY TM RX RY X PX PY QX QY TO BO BE RK WO OD IN s hI kk
    · skip
      refine V_tabIn XC 789 23 h32 dL_law_32 (by unfold IR; decide) (by decide) (by decide) (by rfl) (by decide) ?_
      exact law_c23 l XC hXs hbl hbA hL a g w b i (by omega) gap nb BX BY nt T n F dn DF wn WX WY p f ha N HS ln lo to bo ls bt bb ra wc od pl wo li si le ri fi wi fn sl ce mo TK TP gp ke un bu ty pc gd rd po lm wd G H A MX MY TM RX RY X PX PY QX QY TO BO BE RK WO OD IN s hI kk
    · skip
      refine V_tabIn XC 822 24 h32 dL_law_32 (by unfold IR; decide) (by decide) (by decide) (by rfl) (by decide) ?_
      exact law_c24 l XC hXs hbl hbA hL a g w b i (by omega) gap nb BX BY nt T n F dn DF wn WX WY p f ha N HS ln lo to bo ls bt bb ra wc od pl wo li si le ri fi wi fn sl ce mo TK TP gp ke un bu ty pc gd rd po lm wd G H A MX MY TM RX RY X PX PY QX QY TO BO BE RK WO OD IN s hI kk

set_option maxRecDepth 100000 in
set_option maxHeartbeats 4000000 in
theorem whole_start {p : Program} {e : Env} {s : State} {m : MethodId} {below : List Frame} {meth : Method} {c : Code} (l : Launch) (hflags : l.flags = flags0) {b L : Nat} {xs : Nat → Int32} (hL : L ≤ 2048) (C0 : lw_At p s m meth c b L xs) : W p l e room_1 s m #[Value.ref b] below meth c s.heap [] 0 0 (lw_Z below #[Value.ref b] s) (entryFrame m ([Value.ref b] : List Value).toArray 4) := by
  obtain ⟨hx, hb, hr, hml, hown, hts0, hX, hbl, hlocks, hgv⟩ := id C0
  have hts : ∀ w ∈ wsL_law, w.before #[Value.ref b] s = true := fun w h => hts0 w (wsL_law_in w h)
  obtain ⟨c0, iS0, hKn0⟩ := u_known (C := RX0) (T := TX0) (N := 5) (n := 5) hts inlX0 (hts (.instantiable RX0 5) (by decide +kernel))
  obtain ⟨c1, iS1, hKn1⟩ := u_known (C := RX1) (T := TX1) (N := 8) (n := 8) hts inlX1 (hts (.instantiable RX1 8) (by decide +kernel))
  obtain ⟨c2, iS2, hKn2⟩ := u_known (C := RX2) (T := TX2) (N := 2) (n := 2) hts inlX2 (hts (.instantiable RX2 2) (by decide +kernel))
  obtain ⟨c3, iS3, hKn3⟩ := u_known (C := RX3) (T := TX3) (N := 4) (n := 4) hts inlX3 (hts (.instantiable RX3 4) (by decide +kernel))
  obtain ⟨c4, iS4, hKn4⟩ := u_known (C := RX4) (T := TX4) (N := 2) (n := 2) hts inlX4 (hts (.instantiable RX4 2) (by decide +kernel))
  obtain ⟨c5, iS5, hKn5⟩ := u_known (C := RX5) (T := TX5) (N := 3) (n := 3) hts inlX5 (hts (.instantiable RX5 3) (by decide +kernel))
  obtain ⟨c6, iS6, hKn6⟩ := u_known (C := RX6) (T := TX6) (N := 12) (n := 12) hts inlX6 (hts (.instantiable RX6 12) (by decide +kernel))
  obtain ⟨c7, iS7, hKn7⟩ := u_known (C := RX7) (T := TX7) (N := 10) (n := 10) hts inlX7 (hts (.instantiable RX7 10) (by decide +kernel))
  obtain ⟨c8, iS8, hKn8⟩ := u_known (C := RX8) (T := TX8) (N := 31) (n := 31) hts inlX8 (hts (.instantiable RX8 31) (by decide +kernel))
  obtain ⟨D, hKc⟩ : ∃ D : va_G, ∀ (k : Nat) (q : vw_C), vwCl[k]? = some q → u_Kn s q.1 q.2.1 q.2.2 (D.1 k) (D.2 k) := by
    refine ⟨(fun k => if k = 0 then c0 else if k = 1 then c1 else if k = 2 then c2 else if k = 3 then c3 else if k = 4 then c4 else if k = 5 then c5 else if k = 6 then c6 else if k = 7 then c7 else c8, fun k => if k = 0 then iS0 else if k = 1 then iS1 else if k = 2 then iS2 else if k = 3 then iS3 else if k = 4 then iS4 else if k = 5 then iS5 else if k = 6 then iS6 else if k = 7 then iS7 else iS8), ?_⟩
    intro k q hq
    match k, hq with
    | 0, hq => cases hq; exact hKn0
    | 1, hq => cases hq; exact hKn1
    | 2, hq => cases hq; exact hKn2
    | 3, hq => cases hq; exact hKn3
    | 4, hq => cases hq; exact hKn4
    | 5, hq => cases hq; exact hKn5
    | 6, hq => cases hq; exact hKn6
    | 7, hq => cases hq; exact hKn7
    | 8, hq => cases hq; exact hKn8
    | k + 9, hq => simp [vwCl] at hq
  obtain ⟨kI, kAI, compI, hfI, hkI, hkdI⟩ := Cond.arrayClass_spec (hts (.arrayClass .int) (by decide +kernel))
  obtain ⟨kC, kAC, compC, hfC, hkC, hkdC⟩ := Cond.arrayClass_spec (hts (.arrayClass .char) (by decide +kernel))
  have hK : va_K D vwCl [(kI, .int), (kC, .char)] s := by
    refine ⟨hKc, fun k q hq => ?_⟩
    match k, hq with
    | 0, hq => cases hq; exact ⟨fun n z => ⟨fun k h => (by cases h), kAI, hkI, compI, hkdI⟩, hfI⟩
    | 1, hq => cases hq; exact ⟨fun n z => ⟨fun k h => (by cases h), kAC, hkC, compC, hkdC⟩, hfC⟩
    | k + 2, hq => simp at hq
  have hNw : ∀ w ∈ nwAll, va_Nw w s := by
    intro w hw
    obtain ⟨a1, a2, a3, a4, rfl⟩ := nwAll_form w hw
    exact va_Nw.of rfl (hts0 _ (nw_in _ hw))
  have XC : Cx p room_1 s m #[.ref b] meth c cL_law 4 RL wsL_law (fun q => s.heap.size ≤ q) D kI kC := ⟨hx, hb, hml, hown, hts, hK, hNw, fun _ h => h, hlocks, rfl⟩
  have hbA : ¬ (fun q : Nat => s.heap.size ≤ q) b := Nat.not_le.mpr hbl
  have hl := lv_entry ([.ref b]) (n := 4) (Nat.le_of_ble_eq_true rfl)
  rw [lg_entry_eq]
  have hV : VV p l e room_1 s m #[.ref b] below meth c 4 (fun q => s.heap.size ≤ q) D (lw_Z below #[Value.ref b] s) 0 0 0 [some (.ref b), none, none, none] [] [] := by
    refine V_new (ci := 7) (fs := [.null, .null, .null, .null, .null, .null, .null, .null, .null, .int (iI 0)]) (C := RX7) (T := TX7) (N := 10) XC inlX7 fpX7 (by decide +kernel) rfl (fun j hj => by rcases (show j = 0 ∨ j = 1 ∨ j = 2 ∨ j = 3 ∨ j = 4 ∨ j = 5 ∨ j = 6 ∨ j = 7 ∨ j = 8 ∨ j = 9 by omega) with rfl | rfl | rfl | rfl | rfl | rfl | rfl | rfl | rfl | rfl <;> rfl) (Nat.le_of_ble_eq_true rfl) (Nat.le_of_ble_eq_true rfl) dL_law_0 (fun q0 => ?_)
    refine V_dup XC dL_law_3 rfl ?_
    refine V_make (w0 := []) XC (c_X7_init l D kI kC _) gL_law_X7_init (by decide +kernel) rfl rfl kmX7_init ⟨⟨(Nat.le_of_ble_eq_true rfl), (Nat.le_of_ble_eq_true rfl)⟩, (Nat.le_of_ble_eq_true rfl), (Nat.le_of_ble_eq_true rfl)⟩ (Nat.le_of_ble_eq_true rfl) rfl dL_law_4 (fun u hu => ?_)
    obtain ⟨a, g, w⟩ := u
    dsimp only at hu
    subst hu
    refine V_astore_n XC 1 rfl dL_law_7 (by decide) ?_
    dsimp only [List.set]
    refine V_new (ci := 8) (fs := [.null, .int (iI 0), .null, .int (iI 0), .null, .int (iI 0), .int (iI 0), .null, .null, .int (iI 0), .null, .int (iI 0), .int (iI 0), .null, .null, .int (iI 0), .null, .int (iI 0), .null, .null, .null, .null, .int (iI 0), .null, .null, .null, .null, .int (iI 0), .null, .null, .null]) (C := RX8) (T := TX8) (N := 31) XC inlX8 fpX8 (by decide +kernel) rfl (fun j hj => by rcases (show j = 0 ∨ j = 1 ∨ j = 2 ∨ j = 3 ∨ j = 4 ∨ j = 5 ∨ j = 6 ∨ j = 7 ∨ j = 8 ∨ j = 9 ∨ j = 10 ∨ j = 11 ∨ j = 12 ∨ j = 13 ∨ j = 14 ∨ j = 15 ∨ j = 16 ∨ j = 17 ∨ j = 18 ∨ j = 19 ∨ j = 20 ∨ j = 21 ∨ j = 22 ∨ j = 23 ∨ j = 24 ∨ j = 25 ∨ j = 26 ∨ j = 27 ∨ j = 28 ∨ j = 29 ∨ j = 30 by omega) with rfl | rfl | rfl | rfl | rfl | rfl | rfl | rfl | rfl | rfl | rfl | rfl | rfl | rfl | rfl | rfl | rfl | rfl | rfl | rfl | rfl | rfl | rfl | rfl | rfl | rfl | rfl | rfl | rfl | rfl | rfl <;> rfl) (Nat.le_of_ble_eq_true rfl) (Nat.le_of_ble_eq_true rfl) dL_law_8 (fun q8 => ?_)
    refine V_dup XC dL_law_11 rfl ?_
    refine V_make XC (c_X8_init l D kI kC _) gL_law_X8_init (by decide +kernel) rfl rfl kmX8_init ⟨⟨(Nat.le_of_ble_eq_true rfl), (Nat.le_of_ble_eq_true rfl)⟩, (Nat.le_of_ble_eq_true rfl), (Nat.le_of_ble_eq_true rfl)⟩ (Nat.le_of_ble_eq_true rfl) rfl dL_law_12 (fun b8 hu8 => ?_)
    subst hu8
    refine V_astore_n XC 2 rfl dL_law_15 (by decide) ?_
    dsimp only [List.set]
    refine V_iconst XC dL_law_16 ?_
    refine V_istore_n XC 3 rfl dL_law_17 (by decide) ?_
    dsimp only [List.set]
    refine law_loop l XC hX hbl hbA hr (fun _ h => h) hL a g w b8 (L + 1) 0 (Nat.zero_le _) (by omega) (20) 0 (fun _ => 0) (fun _ => 0) 0 (fun _ => 0) 0 (fun _ => 0) 0 (fun _ => 0) 0 (fun _ => 0) (fun _ => 0) 0 0 0 (fun _ => 0) (fun _ => 0) 0 (fun _ => 0) (fun _ => 0) (fun _ => 0) (fun _ => 0) (fun _ => 0) (fun _ => 0) (fun _ => 0) 0 (fun _ => 0) (fun _ => 0) (fun _ => 0) (fun _ => 0) (fun _ => 0) (fun _ => 0) (fun _ => 0) (fun _ => 0) (fun _ => 0) (fun _ => 0) (fun _ => 0) 0 0 (fun _ => 0) (fun _ => 0) (20) 0 0 0 0 0 (false) 0 0 0 0 (fun _ => 0) (fun _ => 0) (fun _ => 0) (fun _ => 0) (fun _ => 0) (fun _ => 0) (fun _ => 0) (fun _ => 0) (fun _ => 0) (fun _ => 0) (fun _ => 0) (fun _ => 0) (fun _ => 0) (fun _ => 0) (fun _ => 0) (fun _ => 0) (fun _ => 0) (fun _ => 0) (fun _ => 0) (fun _ => 0) (([], [], [])) ?_
    refine ⟨OkB_nil, rfl, ⟨rfl, by decide, fun i hi => absurd hi (Nat.not_lt_zero i)⟩, rfl, ⟨⟨by decide, fun t ht => absurd ht List.not_mem_nil⟩, ⟨by decide, by decide⟩, fun S hS => absurd hS List.not_mem_nil, fun S hS => absurd hS List.not_mem_nil⟩, ⟨rfl, rfl, by decide, ⟨rfl, rfl⟩, fun j S hj => ?_, fun j S hj => ?_⟩, ⟨rfl, rfl⟩, ⟨rfl, rfl, fun j S hj => ?_, fun j S hj => ?_⟩, rfl, by decide, by decide⟩
    all_goals simp at hj
  exact hV s.heap [] _ (fun k q h => by simp at h) ⟨fun i j p q h => by simp at h, fun k q h => by simp at h⟩ va_S.rf (Lh_entry (List.forall_mem_cons.mpr ⟨rfl, fun _ h => absurd h List.not_mem_nil⟩) hl 3)

end LAW2
