/-! the law: its loop -/
section LAW6

/-! THE CLAIM OUT OF ONE WALK OF THE LAW'S BODY. Your part is whole_start (and what it stands on); all else here is the same for every law, but numbers. -/
def R_law : String := "InkPadLaw"
def lw_P (b : Addr) (xs : List Int32) (args : Array Value) (s : State) : Prop := args = #[.ref b] ∧ s.IntsAt b xs ∧ xs.length ≤ 260 ∧ (Jvm.Cond.and given_1 narrow_1).before args s = true
def lw_Q (_ : Array Value) (s : State) (o : Outcome) (t : State) : Prop := o = .returned (some (.int 1)) ∧ Framed s o t [] 39 8766
def lw_Z (below : List Frame) (a : Array Value) (s : State) : State → Prop := fun t => ∃ o, t.status = .running ∧ Ended t below o ∧ lw_Q a s o t
/-- the law's own end, with 1 on the stack, nothing written that was there before, its room as the claim has it -/
theorem lw_ret {p : Program} {l : Launch} {e : Env} {s : State} {m : MethodId} {below : List Frame} {meth : Method} {c : Code} {b : Nat} (hx : p.tables.exec = Jvm.exec) (hb : c.code = code) (hr : meth.sig.returnType = ret) (hlocks : meth.locks = false) {pc : Nat} {H : Heap} {ls : Array Slot} (hdg : decode code pc = .ok (.ireturn, 1)) : W p l e room_1 s m #[Value.ref b] below meth c H [] 39 8766 (lw_Z below #[Value.ref b] s) (F0 m pc ls [.int 1]) := by
  intro T hT X
  obtain ⟨fs, hret, hrun, hended, hW, hframe⟩ := X.leave (v := some (.int 1)) (hlocks := hlocks) (fun h => by rw [hr] at h; cases h)
  have hmeth' : T.vm.method? m = some meth := X.method'
  refine ⟨T.setFrames fs, ?_, .returned (some (.int 1)), hrun, hended, rfl, ⟨_, rfl⟩, hW, hframe⟩
  jvm_step X.here [X.here.top, hx, hb, hdg, hmeth', hr, ret, narrow_b1]
  (try refine ⟨rfl, ?_⟩); (try refine ⟨rfl, ?_⟩)
  first | (intro acts; rw [hret _ acts rfl rfl rfl]) | rw [hret _ _ rfl rfl rfl]
  exact Steps.refl _
/-- what holds at the law's entry: the machine, the code, the tables' words (any of lw_tbl by 'hts w (by decide +kernel)'), the script of L ints xs at the cell b, what the Statement gives of the start (any of its parts by flat_of_before) -/
def lw_At (p : Program) (s : State) (m : MethodId) (meth : Method) (c : Code) (b L : Nat) (xs : Nat → Int32) : Prop :=
  p.tables.exec = Jvm.exec ∧ c.code = code ∧ meth.sig.returnType = ret ∧ c.maxLocals = 18 ∧ s.vm.findClass R_law = some m.cls ∧ (∀ w ∈ lw_tbl, w.before #[Value.ref b] s = true) ∧ va_X b L xs s s.heap ∧ b < s.heap.size ∧ meth.locks = false ∧ (Jvm.Cond.and given_1 narrow_1).before #[Value.ref b] s = true

def cellP (D : va_G) (kI kC : ClassId) (av : List Value) (sc L : Nat) (xs : Nat → Int32) (sz : Nat) : Array Value → State → Prop := fun a U => conP D kI kC av [] sz a U ∧ va_X sc L xs U U.heap ∧ sc < sz
theorem V_ldc {p : Program} {l : Launch} {e : Env} {R : Room} {s : State} {m : MethodId} {args : Array Value} {below : List Frame} {meth : Method} {c : Code} {cc : ByteArray} {nL : Nat} {own : String} {Ts : List Cond} {A : Nat → Prop} {D : va_G} {kI kC : ClassId} {Q : State → Prop} {cells slots pc : Nat} {lv : List (Option Value)} {st : List Value} {ws : va_W} (X : Cx p R s m args meth c cc nL own Ts A D kI kC) {index : Nat} {v : Int32} (hw : Cond.constant own index v ∈ Ts) (hdg : decode cc pc = .ok (.ldc index, 2)) (k : VV p l e R s m args below meth c nL A D Q cells slots (pc + 2) lv (.int v :: st) ws) : VV p l e R s m args below meth c nL A D Q cells slots pc lv st ws := by
  intro H locs ls hP hD hS hl
  exact lv_ldc X.1 X.2.1 X.2.2.2.1 (X.2.2.2.2.1 _ hw) hdg (k H locs ls hP hD hS hl)
set_option maxRecDepth 100000 in
set_option maxHeartbeats 4000000 in
theorem c_L_cell (l : Launch) (D : va_G) (kI kC : ClassId) (sc L : Nat) (xs : Nat → Int32) (hL : L < 2147483648) (k : Nat) (hk : k < 1000) (sz : Nat) : Met l yL_cell wsL_cell { frames := 0, cells := 0, slots := 0, locals := 0 } (cellP D kI kC [.ref sc, .int (iI (k : Int))] sc L xs sz) (conQ D (qI (fun _ (_ : Unit) => True)) (fun _ => []) (va_A [] sz)) 0 0 (va_A [] sz) := by
  refine Met.ofW (cc := cL_cell) (maxL := 2) (ret := some .int) (by decide +kernel) rfl ?_
  intro p e s m args below meth c s₁ B hml hv
  obtain ⟨⟨rfl, hsz, hP, hK, hD0⟩, hX, hlt⟩ := hv
  subst hsz
  have hts := atoms_spec (ws := wsL_cell) B.pre
  have hown : s.vm.findClass RL = some m.cls := findClass_of_methodNamed B.named
  have hl := lv_entry ([.ref sc, .int (iI (k : Int))]) (n := 2) (Nat.le_of_ble_eq_true rfl)
  rw [lg_entry_eq]
  have XC : Cx p (headSpec wsL_cell { frames := 0, cells := 0, slots := 0, locals := 0 }).room s m _ meth c cL_cell 2 RL wsL_cell (va_A [] s.heap.size) D kI kC := ⟨B.exec, B.bytes, hml, hown, hts, hK.1, hK.2, fun q h => Or.inr h, B.notSynchronized, rfl⟩
  have hrV := B.returns
  have hbA : ¬ va_A [] s.heap.size sc := by
    rintro (⟨j, e2, h⟩ | h)
    · simp at h
    · omega
  have hV : VV p l e (headSpec wsL_cell { frames := 0, cells := 0, slots := 0, locals := 0 }).room s m [.ref sc, .int (iI (k : Int))].toArray below meth c 2 (va_A [] s.heap.size) D (MQ below (conQ D (qI (fun _ (_ : Unit) => True)) (fun _ => []) (va_A [] s.heap.size)) [.ref sc, .int (iI (k : Int))].toArray s 0 0 (va_A [] s.heap.size)) 0 0 0 [some (.ref sc), some (.int (iI (k : Int)))] [] [] := by
    refine V_iload_n XC 1 rfl dL_cell_0 rfl ?_
    refine V_aload_n XC 0 rfl dL_cell_1 rfl ?_
    refine V_slen XC hX hlt hbA hL dL_cell_2 ?_
    refine V_icmp_ge XC 12 dL_cell_3 (by decide) (by unfold IR; omega) (by unfold IR; omega) (fun h3 => ?_) (fun h3 => ?_)
    · refine V_ldc XC kcL_cell_7 dL_cell_12 ?_
      have e7 : (6790003 : Int32) = iI 6790003 := rfl
      rw [e7]
      refine V_iload_n XC 1 rfl dL_cell_14 rfl ?_
      refine V_imul XC dL_cell_15 ?_
      refine V_sipush XC dL_cell_16 (by decide) ?_
      refine V_iadd XC dL_cell_19 ?_
      exact V_iret XC () hrV rfl dL_cell_20 trivial
    · refine V_aload_n XC 0 rfl dL_cell_6 rfl ?_
      refine V_iload_n XC 1 rfl dL_cell_7 rfl ?_
      refine V_sld XC hX hlt hbA hL k rfl (by omega) dL_cell_8 ?_
      refine V_goto XC 20 dL_cell_9 (by decide) ?_
      exact V_iret XC () hrV rfl dL_cell_20 trivial
  exact hV s.heap [] _ hP hD0.self va_S.rf (Lh_entry (List.forall_mem_cons.mpr ⟨rfl, List.forall_mem_cons.mpr ⟨rfl, fun _ h => absurd h List.not_mem_nil⟩⟩) hl 0)
theorem P_cell {p : Program} (l : Launch) {e : Env} {R : Room} {s : State} {m : MethodId} {args : Array Value} {below : List Frame} {meth : Method} {c : Code} {cc : ByteArray} {nL : Nat} {own : String} {Ts : List Cond} {A : Nat → Prop} {D : va_G} {kI kC : ClassId} {Q : State → Prop} {pa pg pw : Nat → Nat} {cells slots pc : Nat} {lv : List (Option Value)} {st : List Value} {σ : PS} (X : Cx p R s m args meth c cc nL own Ts A D kI kC) {sc L : Nat} {xs : Nat → Int32} (hXs : va_X sc L xs s s.heap) (hbl : sc < s.heap.size) (hbA : ¬ A sc) (hL : L < 2147483648) {k index : Nat} (hk : k < 1000) (hG : GoodIn Ts (va_wsS own index yL_cell wsL_cell)) (hR : RF R { frames := 0, cells := 0, slots := 0, locals := 0 } 2 cells slots) (hcat : (st.map fun v => v.category).sum ≤ 8) (hdg : decode cc pc = .ok (.invokestatic index, 3))
    (kk : ∀ z : Int, IR z → PP p l e R s m args below meth c nL A D Q kI kC pa pg pw cells slots (pc + 3) lv (.int (iI z) :: st) σ) : PP p l e R s m args below meth c nL A D Q kI kC pa pg pw cells slots pc lv (.int (iI (k : Int)) :: .ref sc :: st) σ := by
  intro θ hθ
  refine VL_run (rest := st) (W0 := []) (τ := Unit) (W1 := fun _ => []) (Qf := qI (fun _ (_ : Unit) => True)) (rm := { frames := 0, cells := 0, slots := 0, locals := 0 }) (a := [.ref sc, .int (iI (k : Int))].toArray) X [] rfl rfl (fun _ => rfl) (fun H locs ls hP hD hS hsz => ?_) (fun v u hq => ?_)
  · refine va_runS (As := [.ref sc, .int (iI (k : Int))]) ⟨X.1, X.2.1, X.2.2.1, X.2.2.2.1, X.2.2.2.2.1⟩ (c_L_cell l D kI kC sc L xs hL k hk H.size) (va_cwS 2 X.2.2.2.2.1 hG rfl rfl rfl kmL_cell.2 hR.1) ⟨?_, fun U hU hW => ?_⟩ rfl rfl hsz rfl (lv_room hcat) hdg hR.2
    · intro a U g mk h
      exact ⟨conP_blind D kI kC _ _ _ a U g mk h.1, va_X.moved (u := U) (U := U.calling g mk a) (Vm.Alike.refl U.vm) h.2.1, h.2.2⟩
    · refine ⟨conP_of X [] rfl rfl hP hD U hU hW, ?_, ?_⟩
      · rw [hU]
        exact va_X.moved hW.alike (hXs.kept (hS.2.1 sc hbl hbA))
      · exact Nat.lt_of_lt_of_le hbl hS.1
  · obtain ⟨r, rfl, -⟩ := hq
    have h := kk (iI r).toInt (IR_of _) θ hθ
    rw [iI_of] at h
    exact h
theorem P_lawret {p : Program} {l : Launch} {e : Env} {s : State} {m : MethodId} {below : List Frame} {meth : Method} {c : Code} {nL : Nat} {own : String} {Ts : List Cond} {A : Nat → Prop} {D : va_G} {kI kC : ClassId} {pa pg pw : Nat → Nat} {b : Nat} {lv : List (Option Value)} {σ : PS}
    (X : Cx p room_1 s m #[.ref b] meth c cL_law nL own Ts A D kI kC) (hr : meth.sig.returnType = ret) (hA : ∀ q, A q → s.heap.size ≤ q) : PP p l e room_1 s m #[.ref b] below meth c nL A D (lw_Z below #[.ref b] s) kI kC pa pg pw 39 8766 919 lv [.int (iI 1)] σ := by
  intro θ hθ H locs ls hP hD hS hl
  exact va_forget (fun q hq => hA _ (hS.2.2 q hq)) (lw_ret X.1 X.2.1 hr X.2.2.2.2.2.2.2.2.1 dL_law_919)

set_option maxRecDepth 100000 in
set_option maxHeartbeats 4000000 in
theorem law_tail (l : Launch) {pV : Program} {eV : Env} {sV : State} {mV : MethodId} {bV : List Frame} {tV : Method} {cV : Code} {AV : Nat → Prop} {D : va_G} {kI kC : ClassId} {pa pg pw : Nat → Nat} {sc : Nat} (XC : Cx pV room_1 sV mV #[.ref sc] tV cV cL_law 18 RL wsL_law AV D kI kC) (e : Nat) (he : e < 30) (g h so : Int) (hg : IR g) (hh : IR h) (hso : 0 ≤ so ∧ so ≤ 10) (s0 : St3) (σ2 : PS) (o : Option (List Stk)) (h1 : σ2.1 = actS s0 o) (ih : PP pV l eV room_1 sV mV #[.ref sc] bV tV cV 18 AV D (lw_Z bV #[.ref sc] sV) kI kC pa pg pw 39 8766 13 [some (.ref sc), some (.ref (pa 0)), some (.int (iI σ2.2.2.2)), some (.int (iI (((e + 1 : Nat)) : Int))), none, none, none, none, none, none, none, none, none, none, none, none, none, none] [] σ2) : PP pV l eV room_1 sV mV #[.ref sc] bV tV cV 18 AV D (lw_Z bV #[.ref sc] sV) kI kC pa pg pw 39 8766 832 [some (.ref sc), some (.ref (pa 0)), some (.int (iI σ2.2.2.2)), some (.int (iI (e : Int))), some (.int (iI g)), some (.int (iI h)), none, some (.int (iI so)), none, some (.long (hsS s0.1)), none, none, none, none, none, none, none, none] [] σ2 := by
  refine P_ok (fun hok => ?_)
  have h16 := ok_16 hok
  refine P_aload_n XC 1 rfl dL_law_832 rfl ?_
  refine P_call (rest := _) XC (c_L_whole l D kI kC pa pg pw σ2) gL_law_L_whole rfl kmL_whole ⟨⟨(Nat.le_of_ble_eq_true rfl), (Nat.le_of_ble_eq_true rfl)⟩, (Nat.le_of_ble_eq_true rfl), (Nat.le_of_ble_eq_true rfl)⟩ ⟨rfl, rfl⟩ rfl rfl (Nat.le_of_ble_eq_true rfl) dL_law_833 (kL_of ?_)
  dsimp only [Option.toList, List.cons_append, List.nil_append]
  refine P_lload XC dL_law_836 rfl ?_
  refine P_lcmp XC dL_law_838 ?_
  refine P_merge0 881 1 (fun kj839 => ?_) ?_
  · try dsimp only [List.drop] at kj839
    refine P_lc_eq XC 881 dL_law_839 (by decide) (fun h839 => ?_) (fun h839 => ?_)
    · skip
      exact kj839
    have hoo : ∃ S2, o = some S2 := by
      cases o with
      | none => exact absurd (by rw [h1]; rfl) h839
      | some S2 => exact ⟨S2, rfl⟩
    obtain ⟨S2, rfl⟩ := hoo
    have h1' : σ2.1 = (S2, s0.1 :: s0.2.1.take 5, []) := h1
    have hσ2 : σ2 = ((S2, s0.1 :: s0.2.1.take 5, []), σ2.2.1, σ2.2.2.1, σ2.2.2.2) := by rw [← h1']
    have hp6 := hok.2.2.1.2.1.1
    refine P_aload_n XC 1 rfl dL_law_842 rfl ?_
    refine P_bipush XC dL_law_843 (by decide) ?_
    refine P_X7_count XC (by first | (with_reducible assumption) | (unfold IR; omega) | (unfold IR at *; omega)) gL_law_X7_count ⟨⟨(Nat.le_of_ble_eq_true rfl), (Nat.le_of_ble_eq_true rfl)⟩, (Nat.le_of_ble_eq_true rfl), (Nat.le_of_ble_eq_true rfl)⟩ (Nat.le_of_ble_eq_true rfl) dL_law_845 (fun r845 hr845 => ?_)
    have hc8 : r845 = (σ2.1.2.1.length : Int) := cn_8 hr845
    subst hc8
    refine P_if_le XC 881 dL_law_848 (by decide) (by first | (with_reducible assumption) | (unfold IR; omega) | (unfold IR at *; omega)) (fun h848 => ?_) (fun h848 => ?_)
    · skip
      exact kj839
    refine P_iload_n XC 3 rfl dL_law_851 rfl ?_
    refine P_iconst XC dL_law_852 ?_
    refine P_iand XC dL_law_853 ?_
    refine P_any (fun z853 hz853 ez853 => ?_)
    refine P_if_ne XC 881 dL_law_854 (by decide) (by first | (with_reducible assumption) | (unfold IR; omega) | (unfold IR at *; omega)) (fun h854 => ?_) (fun h854 => ?_)
    · skip
      exact kj839
    refine P_iload XC dL_law_857 rfl ?_
    refine P_iconst XC dL_law_859 ?_
    refine P_icmp_eq XC 881 dL_law_860 (by decide) (by first | (with_reducible assumption) | (unfold IR; omega) | (unfold IR at *; omega)) (by first | (with_reducible assumption) | (unfold IR; omega) | (unfold IR at *; omega)) (fun h860 => ?_) (fun h860 => ?_)
    · skip
      exact kj839
    refine P_iload XC dL_law_863 rfl ?_
    refine P_bipush XC dL_law_865 (by decide) ?_
    refine P_icmp_eq XC 881 dL_law_867 (by decide) (by first | (with_reducible assumption) | (unfold IR; omega) | (unfold IR at *; omega)) (by first | (with_reducible assumption) | (unfold IR; omega) | (unfold IR at *; omega)) (fun h867 => ?_) (fun h867 => ?_)
    · skip
      exact kj839
    refine P_aload_n XC 1 rfl dL_law_870 rfl ?_
    refine P_lload XC dL_law_871 rfl ?_
    refine P_call (rest := _) XC (c_L_history l D kI kC pa pg pw σ2 S2 s0.1 (s0.2.1.take 5) σ2.2.1 σ2.2.2.1 σ2.2.2.2 hσ2 _ rfl) gL_law_L_history rfl kmL_history ⟨⟨(Nat.le_of_ble_eq_true rfl), (Nat.le_of_ble_eq_true rfl)⟩, (Nat.le_of_ble_eq_true rfl), (Nat.le_of_ble_eq_true rfl)⟩ ⟨rfl, rfl⟩ rfl rfl (Nat.le_of_ble_eq_true rfl) dL_law_873 (kS_of (fun r873 hr873 => ?_))
    dsimp only [Option.toList, List.cons_append, List.nil_append]
    subst hr873
    refine P_if_ne XC 881 dL_law_876 (by decide) ⟨by decide, by decide⟩ (fun h876 => ?_) (fun h876 => absurd h876 (by decide))
    exact kj839
  try dsimp only [List.drop]
  refine P_aload_n XC 1 rfl dL_law_881 rfl ?_
  refine P_call (rest := _) XC (c_L_strokes l D kI kC pa pg pw σ2) gL_law_L_strokes rfl kmL_strokes ⟨⟨(Nat.le_of_ble_eq_true rfl), (Nat.le_of_ble_eq_true rfl)⟩, (Nat.le_of_ble_eq_true rfl), (Nat.le_of_ble_eq_true rfl)⟩ ⟨rfl, rfl⟩ rfl rfl (Nat.le_of_ble_eq_true rfl) dL_law_882 (kS_of (fun r882 hr882 => ?_))
  dsimp only [Option.toList, List.cons_append, List.nil_append]
  subst hr882
  refine P_if_eq XC 907 dL_law_885 (by decide) ⟨by decide, by decide⟩ (fun h885 => absurd h885 (by decide)) (fun h885 => ?_)
  refine P_aload_n XC 1 rfl dL_law_888 rfl ?_
  refine P_iload XC dL_law_889 rfl ?_
  refine P_iload XC dL_law_891 rfl ?_
  refine P_call (rest := _) XC (c_L_colors l D kI kC pa pg pw σ2 g h hg hh) gL_law_L_colors rfl kmL_colors ⟨⟨(Nat.le_of_ble_eq_true rfl), (Nat.le_of_ble_eq_true rfl)⟩, (Nat.le_of_ble_eq_true rfl), (Nat.le_of_ble_eq_true rfl)⟩ ⟨rfl, rfl⟩ rfl rfl (Nat.le_of_ble_eq_true rfl) dL_law_893 (kS_of (fun r893 hr893 => ?_))
  dsimp only [Option.toList, List.cons_append, List.nil_append]
  subst hr893
  refine P_if_eq XC 907 dL_law_896 (by decide) ⟨by decide, by decide⟩ (fun h896 => absurd h896 (by decide)) (fun h896 => ?_)
  refine P_aload_n XC 1 rfl dL_law_899 rfl ?_
  refine P_iload_n XC 2 rfl dL_law_900 rfl ?_
  refine P_call (rest := _) XC (c_L_order l D kI kC pa pg pw σ2) gL_law_L_order rfl kmL_order ⟨⟨(Nat.le_of_ble_eq_true rfl), (Nat.le_of_ble_eq_true rfl)⟩, (Nat.le_of_ble_eq_true rfl), (Nat.le_of_ble_eq_true rfl)⟩ ⟨rfl, rfl⟩ rfl rfl (Nat.le_of_ble_eq_true rfl) dL_law_901 (kS_of (fun r901 hr901 => ?_))
  dsimp only [Option.toList, List.cons_append, List.nil_append]
  subst hr901
  refine P_if_ne XC 909 dL_law_904 (by decide) ⟨by decide, by decide⟩ (fun h904 => ?_) (fun h904 => absurd h904 (by decide))
  refine P_iinc XC dL_law_909 rfl rfl (by decide) ?_
  dsimp only [List.set]
  refine P_goto XC 13 dL_law_912 (by decide) ?_
  refine P_kill 4 ?_
  refine P_kill 5 ?_
  refine P_kill 7 ?_
  refine P_kill 9 ?_
  dsimp only [List.set]
  exact ih

theorem put_pos {B : List Pt} {x y : Int} (hx : 0 ≤ x ∧ x ≤ 1000) (hy : 0 ≤ y ∧ y ≤ 1000) : 1 ≤ (putS B x y).2.length := by
  unfold putS
  rw [if_neg (by unfold inR; simp only [decide_eq_false_iff_not]; omega)]
  split
  · dsimp only; omega
  · exact addP_pos
theorem paint_val {S : List Stk} {k : Nat} {c : Int} (hk : k < S.length) (hc : 0 ≤ c ∧ c ≤ 3) : paintS S (k : Int) c = (if (gk S k).1 = c then (-5, none) else ((gk S k).1, some (S.set k (c, (gk S k).2)))) := by
  unfold paintS
  rw [if_neg (has_k hk), if_neg (by unfold inR; simp only [decide_eq_false_iff_not]; omega), Int.toNat_natCast]
theorem paint_bad {S : List Stk} {k : Nat} (hk : k < S.length) : paintS S (k : Int) 4 = (-2, none) := by
  unfold paintS
  rw [if_neg (has_k hk)]
  rfl
theorem lf_le_rt (S : List Stk) (k : Nat) : lfS S k ≤ rtS S k ∧ tpS S k ≤ boS S k := by
  have m1 := mnF_le (X := px (gk S k)) (n := szk (gk S k) - 1) 0 (Nat.zero_le _)
  have m2 := le_mxF (X := px (gk S k)) (n := szk (gk S k) - 1) 0 (Nat.zero_le _)
  have m3 := mnF_le (X := py (gk S k)) (n := szk (gk S k) - 1) 0 (Nat.zero_le _)
  have m4 := le_mxF (X := py (gk S k)) (n := szk (gk S k) - 1) 0 (Nat.zero_le _)
  unfold lfS rtS tpS boS lfK rtK tpK boK
  omega
def shP (t : Stk) (dx dy : Int) : List Pt := ptsOf (szk t) (fun i => px t i + dx) (fun i => py t i + dy)
theorem shP_len (t : Stk) (dx dy : Int) : (shP t dx dy).length = szk t := ptsOf_len _ _ _
theorem shift_val {S : List Stk} (hS : OkS S) {k : Nat} {dx dy : Int} (hk : k < S.length) (hx : -1000 ≤ dx ∧ dx ≤ 1000) (hy : -1000 ≤ dy ∧ dy ≤ 1000) : shiftS S (k : Int) dx dy = (if 0 ≤ lfS S k + dx ∧ rtS S k + dx ≤ 1000 ∧ 0 ≤ tpS S k + dy ∧ boS S k + dy ≤ 1000 then (if dx = 0 ∧ dy = 0 then (-5, none) else ((szk (gk S k) : Int), some (S.set k ((gk S k).1, shP (gk S k) dx dy)))) else (-4, none)) := by
  have hl := lf_le_rt S k
  have hz := ok_sz hS hk
  unfold shiftS
  rw [if_neg (has_k hk), if_neg (by unfold inR; simp only [decide_eq_false_iff_not]; omega), Int.toNat_natCast]
  by_cases q : 0 ≤ lfS S k + dx ∧ rtS S k + dx ≤ 1000 ∧ 0 ≤ tpS S k + dy ∧ boS S k + dy ≤ 1000
  · rw [if_pos q, if_neg (by unfold inR; simp only [decide_eq_false_iff_not]; omega)]
    unfold repS
    by_cases w : dx = 0 ∧ dy = 0
    · rw [if_pos w]
      obtain ⟨rfl, rfl⟩ := w
      have e : ptsOf (szk (gk S k)) (fun i => px (gk S k) i + 0) (fun i => py (gk S k) i + 0) = (gk S k).2 := by
        rw [← pxy_pts (gk S k)]
        exact ptsOf_congr (fun i _ => ⟨Int.add_zero _, Int.add_zero _⟩)
      rw [if_pos e.symm]
    · rw [if_neg w, if_neg]
      · rw [ptsOf_len]; rfl
      · intro z
        have z2 : ptsOf (szk (gk S k)) (px (gk S k)) (py (gk S k)) = ptsOf (szk (gk S k)) (fun i => px (gk S k) i + dx) (fun i => py (gk S k) i + dy) := by rw [pxy_pts]; exact z
        have h0 := (ptsOf_inj z2).2 0 (by omega)
        (try dsimp only at h0)
        omega
  · rw [if_neg q, if_pos]
    unfold inR
    simp only [decide_eq_false_iff_not]
    omega
theorem lenF_shift (X Y : Nat → Int) (dx dy : Int) (m : Nat) : lenF (fun i => X i + dx) (fun i => Y i + dy) m = lenF X Y m := by
  unfold lenF
  refine itr_congr (fun i b _ => ?_)
  rw [show X (i + 1) + dx - (X i + dx) = X (i + 1) - X i by omega, show Y (i + 1) + dy - (Y i + dy) = Y (i + 1) - Y i by omega]
theorem shP_at (t : Stk) (dx dy : Int) (c : Int) {i : Nat} (hi : i < szk t) : px (c, shP t dx dy) i = px t i + dx ∧ py (c, shP t dx dy) i = py t i + dy := pxy_of (X := fun i => px t i + dx) (Y := fun i => py t i + dy) hi
theorem shP_lenK (t : Stk) (dx dy : Int) (c : Int) : lenK (c, shP t dx dy) = lenF (px t) (py t) (szk t) := by
  unfold lenK
  have e : szk (c, shP t dx dy) = szk t := shP_len t dx dy
  rw [e, ← lenF_shift (px t) (py t) dx dy]
  exact lenF_congr (fun i hi => shP_at t dx dy c hi)
theorem shift_res (σ : PS) {τ2 : PS} {k : Nat} {dx dy : Int} {sv : Int × Option (List Stk)} (hk : k < σ.1.1.length) (hz : 1 ≤ szk (gk σ.1.1 k)) (h : sv = (if 0 ≤ lfS σ.1.1 k + dx ∧ rtS σ.1.1 k + dx ≤ 1000 ∧ 0 ≤ tpS σ.1.1 k + dy ∧ boS σ.1.1 k + dy ≤ 1000 then (if dx = 0 ∧ dy = 0 then (-5, none) else ((szk (gk σ.1.1 k) : Int), some (σ.1.1.set k ((gk σ.1.1 k).1, shP (gk σ.1.1 k) dx dy)))) else (-4, none))) (hτ : τ2.1 = actS σ.1 sv.2) :
    ∃ sh : Int, (((0 ≤ lfS σ.1.1 k + dx ∧ rtS σ.1.1 k + dx ≤ 1000 ∧ 0 ≤ tpS σ.1.1 k + dy ∧ boS σ.1.1 k + dy ≤ 1000) ∧ sh = dx) ∨ (¬ (0 ≤ lfS σ.1.1 k + dx ∧ rtS σ.1.1 k + dx ≤ 1000 ∧ 0 ≤ tpS σ.1.1 k + dy ∧ boS σ.1.1 k + dy ≤ 1000) ∧ sh = 0)) ∧
    (((0 ≤ lfS σ.1.1 k + dx ∧ rtS σ.1.1 k + dx ≤ 1000 ∧ 0 ≤ tpS σ.1.1 k + dy ∧ boS σ.1.1 k + dy ≤ 1000) ∧ ((dx = 0 ∧ dy = 0 ∧ sv.1 = -5) ∨ (¬ (dx = 0 ∧ dy = 0) ∧ sv.1 = (szk (gk σ.1.1 k) : Int)))) ∨ (¬ (0 ≤ lfS σ.1.1 k + dx ∧ rtS σ.1.1 k + dx ≤ 1000 ∧ 0 ≤ tpS σ.1.1 k + dy ∧ boS σ.1.1 k + dy ≤ 1000) ∧ sv.1 = -4)) ∧
    k < τ2.1.1.length ∧ lenK (gk τ2.1.1 k) = lenF (px (gk σ.1.1 k)) (py (gk σ.1.1 k)) (szk (gk σ.1.1 k)) ∧ 0 < szk (gk τ2.1.1 k) ∧ px (gk τ2.1.1 k) 0 = px (gk σ.1.1 k) 0 + sh := by
  rw [hτ]
  by_cases q : 0 ≤ lfS σ.1.1 k + dx ∧ rtS σ.1.1 k + dx ≤ 1000 ∧ 0 ≤ tpS σ.1.1 k + dy ∧ boS σ.1.1 k + dy ≤ 1000
  · rw [if_pos q] at h
    by_cases w : dx = 0 ∧ dy = 0
    · rw [if_pos w] at h
      subst h
      exact ⟨dx, Or.inl ⟨q, rfl⟩, Or.inl ⟨q, Or.inl ⟨w.1, w.2, rfl⟩⟩, hk, rfl, hz, by rw [w.1, Int.add_zero]; rfl⟩
    · rw [if_neg w] at h
      subst h
      have e : gk (actS σ.1 (some (σ.1.1.set k ((gk σ.1.1 k).1, shP (gk σ.1.1 k) dx dy)))).1 k = ((gk σ.1.1 k).1, shP (gk σ.1.1 k) dx dy) := gk_set hk
      refine ⟨dx, Or.inl ⟨q, rfl⟩, Or.inl ⟨q, Or.inr ⟨w, rfl⟩⟩, ?_, ?_, ?_, ?_⟩
      · show k < (σ.1.1.set k _).length
        rw [List.length_set]; exact hk
      · (try dsimp only); rw [e]; exact shP_lenK _ _ _ _
      · (try dsimp only); rw [e]; show 0 < (shP (gk σ.1.1 k) dx dy).length; rw [shP_len]; exact hz
      · (try dsimp only); rw [e]; exact (shP_at _ _ _ _ hz).1
  · rw [if_neg q] at h
    subst h
    exact ⟨0, Or.inr ⟨q, rfl⟩, Or.inr ⟨q, rfl⟩, hk, rfl, hz, by rw [Int.add_zero]; rfl⟩

set_option maxRecDepth 100000 in
set_option maxHeartbeats 4000000 in
theorem law_main (l : Launch) {pV : Program} {eV : Env} {sV : State} {mV : MethodId} {bV : List Frame} {tV : Method} {cV : Code} {AV : Nat → Prop} {D : va_G} {kI kC : ClassId} {pa pg pw : Nat → Nat} {sc L : Nat} {xs : Nat → Int32} (XC : Cx pV room_1 sV mV #[.ref sc] tV cV cL_law 18 RL wsL_law AV D kI kC) (hXs : va_X sc L xs sV sV.heap) (hbl : sc < sV.heap.size) (hbA : ¬ AV sc) (hr : tV.sig.returnType = ret) (hA : ∀ q, AV q → sV.heap.size ≤ q) (hL : L ≤ 260) (σ0 : PS) (h0 : σ0.2.1 = []) : PP pV l eV room_1 sV mV #[.ref sc] bV tV cV 18 AV D (lw_Z bV #[.ref sc] sV) kI kC pa pg pw 39 8766 13 [some (.ref sc), some (.ref (pa 0)), some (.int (iI σ0.2.2.2)), some (.int (iI (((0 : Nat)) : Int))), none, none, none, none, none, none, none, none, none, none, none, none, none, none] [] σ0 := by
  refine P_loop (τ := Nat × PS) (fun u => 30 - u.1) (fun u => u.1 ≤ 30 ∧ u.2.2.1 = []) (fun u => [some (.ref sc), some (.ref (pa 0)), some (.int (iI u.2.2.2.2)), some (.int (iI (u.1 : Int))), none, none, none, none, none, none, none, none, none, none, none, none, none, none]) (fun u => u.2) (0, σ0) ⟨Nat.zero_le _, h0⟩ rfl rfl (fun u hJ ih13 => ?_)
  obtain ⟨e, σ⟩ := u
  try dsimp only at hJ ih13 ⊢
  obtain ⟨he, hB⟩ := hJ
  refine P_ok (fun hok => ?_)
  have hS := ok_S hok
  have h16 := ok_16 hok
  have hgp := hok.2.2.2
  refine P_iload_n XC 3 rfl dL_law_13 rfl ?_
  refine P_bipush XC dL_law_14 (by decide) ?_
  refine P_icmp_ge XC 915 dL_law_16 (by decide) (by first | (with_reducible assumption) | (unfold IR; omega) | (unfold IR at *; omega)) (by first | (with_reducible assumption) | (unfold IR; omega) | (unfold IR at *; omega)) (fun h16 => ?_) (fun h16 => ?_)
  · skip

    refine P_aload_n XC 1 rfl dL_law_915 rfl ?_
    refine P_call (rest := _) XC (c_L_errors l D kI kC pa pg pw σ hB) gL_law_L_errors rfl kmL_errors ⟨⟨(Nat.le_of_ble_eq_true rfl), (Nat.le_of_ble_eq_true rfl)⟩, (Nat.le_of_ble_eq_true rfl), (Nat.le_of_ble_eq_true rfl)⟩ ⟨rfl, rfl⟩ rfl rfl (Nat.le_of_ble_eq_true rfl) dL_law_916 (kS_of (fun r916 hr916 => ?_))
    dsimp only [Option.toList, List.cons_append, List.nil_append]
    subst hr916
    exact P_lawret XC hr hA
  have he2 : e < 30 := by omega
  refine P_aload_n XC 0 rfl dL_law_19 rfl ?_
  refine P_iconst XC dL_law_20 ?_
  refine P_iload_n XC 3 rfl dL_law_21 rfl ?_
  refine P_imul XC dL_law_22 ?_
  refine P_top (y := ((2 * e : Nat) : Int)) (by omega) ?_
  refine P_cell l XC hXs hbl hbA (by omega) (by omega) gL_law_L_cell ⟨⟨(Nat.le_of_ble_eq_true rfl), (Nat.le_of_ble_eq_true rfl)⟩, (Nat.le_of_ble_eq_true rfl), (Nat.le_of_ble_eq_true rfl)⟩ (Nat.le_of_ble_eq_true rfl) dL_law_23 (fun z23 hz23 => ?_)
  refine P_istore XC dL_law_26 rfl (by decide) ?_
  dsimp only [List.set]
  refine P_aload_n XC 0 rfl dL_law_28 rfl ?_
  refine P_iconst XC dL_law_29 ?_
  refine P_iload_n XC 3 rfl dL_law_30 rfl ?_
  refine P_imul XC dL_law_31 ?_
  refine P_iconst XC dL_law_32 ?_
  refine P_iadd XC dL_law_33 ?_
  refine P_top (y := ((2 * e + 1 : Nat) : Int)) (by omega) ?_
  refine P_cell l XC hXs hbl hbA (by omega) (by omega) gL_law_L_cell ⟨⟨(Nat.le_of_ble_eq_true rfl), (Nat.le_of_ble_eq_true rfl)⟩, (Nat.le_of_ble_eq_true rfl), (Nat.le_of_ble_eq_true rfl)⟩ (Nat.le_of_ble_eq_true rfl) dL_law_34 (fun z34 hz34 => ?_)
  refine P_istore XC dL_law_37 rfl (by decide) ?_
  dsimp only [List.set]
  refine P_aload_n XC 1 rfl dL_law_39 rfl ?_
  refine P_iconst XC dL_law_40 ?_
  refine P_X7_count XC (by first | (with_reducible assumption) | (unfold IR; omega) | (unfold IR at *; omega)) gL_law_X7_count ⟨⟨(Nat.le_of_ble_eq_true rfl), (Nat.le_of_ble_eq_true rfl)⟩, (Nat.le_of_ble_eq_true rfl), (Nat.le_of_ble_eq_true rfl)⟩ (Nat.le_of_ble_eq_true rfl) dL_law_41 (fun r41 hr41 => ?_)
  obtain rfl := cn_0 hr41
  refine P_istore XC dL_law_44 rfl (by decide) ?_
  dsimp only [List.set]
  refine P_iload_n XC 3 rfl dL_law_46 rfl ?_
  refine P_iconst XC dL_law_47 ?_
  refine P_merge (J := fun z => 0 ≤ z ∧ z ≤ 10) 62 2 (fun kj48 => ?_) (fun z48 hz48 => ?_)
  · try dsimp only [List.drop] at kj48
    refine P_icmp_ge XC 55 dL_law_48 (by decide) (by first | (with_reducible assumption) | (unfold IR; omega) | (unfold IR at *; omega)) (by first | (with_reducible assumption) | (unfold IR; omega) | (unfold IR at *; omega)) (fun h48 => ?_) (fun h48 => ?_)
    · skip
      refine P_iload XC dL_law_55 rfl ?_
      refine P_bipush XC dL_law_57 (by decide) ?_
      refine P_call (rest := _) XC (c_L_low l D kI kC pa pg pw _ _ _ hz23 (by decide)) gL_law_L_low rfl kmL_low ⟨⟨(Nat.le_of_ble_eq_true rfl), (Nat.le_of_ble_eq_true rfl)⟩, (Nat.le_of_ble_eq_true rfl), (Nat.le_of_ble_eq_true rfl)⟩ ⟨rfl, rfl⟩ rfl rfl (Nat.le_of_ble_eq_true rfl) dL_law_59 (kS_of (fun r59 hr59 => ?_))
      dsimp only [Option.toList, List.cons_append, List.nil_append]
      exact kj48 _ (by (try dsimp only); omega)
    refine P_iconst XC dL_law_51 ?_
    refine P_goto XC 62 dL_law_52 (by decide) ?_
    exact kj48 _ (by (try dsimp only); omega)
  try dsimp only [List.drop]
  try dsimp only at hz48
  refine P_istore XC dL_law_62 rfl (by decide) ?_
  dsimp only [List.set]
  refine P_iload XC dL_law_64 rfl ?_
  refine P_iconst XC dL_law_66 ?_
  refine P_ishr XC dL_law_67 ?_
  refine P_any (fun z67 hz67 ez67 => ?_)
  refine P_istore XC dL_law_68 rfl (by decide) ?_
  dsimp only [List.set]
  refine P_iload XC dL_law_70 rfl ?_
  refine P_merge (J := fun z => 0 ≤ z ∧ (0 < σ.1.1.length → z < (σ.1.1.length : Int)) ∧ (σ.1.1.length = 0 → z = 0)) 86 1 (fun kj72 => ?_) (fun z72 hz72 => ?_)
  · try dsimp only [List.drop] at kj72
    refine P_if_ne XC 79 dL_law_72 (by decide) (by first | (with_reducible assumption) | (unfold IR; omega) | (unfold IR at *; omega)) (fun h72 => ?_) (fun h72 => ?_)
    · skip
      refine P_iload XC dL_law_79 rfl ?_
      refine P_iload XC dL_law_81 rfl ?_
      refine P_call (rest := _) XC (c_L_low l D kI kC pa pg pw _ _ _ hz67 (by omega)) gL_law_L_low rfl kmL_low ⟨⟨(Nat.le_of_ble_eq_true rfl), (Nat.le_of_ble_eq_true rfl)⟩, (Nat.le_of_ble_eq_true rfl), (Nat.le_of_ble_eq_true rfl)⟩ ⟨rfl, rfl⟩ rfl rfl (Nat.le_of_ble_eq_true rfl) dL_law_83 (kS_of (fun r83 hr83 => ?_))
      dsimp only [Option.toList, List.cons_append, List.nil_append]
      exact kj72 _ (by (try dsimp only); omega)
    refine P_iconst XC dL_law_75 ?_
    refine P_goto XC 86 dL_law_76 (by decide) ?_
    exact kj72 _ (by (try dsimp only); omega)
  try dsimp only [List.drop]
  try dsimp only at hz72
  obtain ⟨k, rfl⟩ : ∃ q : Nat, z72 = (q : Int) := ⟨z72.toNat, by omega⟩
  have hkn : 0 < σ.1.1.length → k < σ.1.1.length := by omega
  have KT : ∀ (σ2 : PS) (gp : Int), (∃ o, σ2.1 = actS σ.1 o) ∧ σ2.2.1 = [] ∧ σ2.2.2.2 = gp → PP pV l eV room_1 sV mV #[.ref sc] bV tV cV 18 AV D (lw_Z bV #[.ref sc] sV) kI kC pa pg pw 39 8766 832 [some (.ref sc), some (.ref (pa 0)), some (.int (iI gp)), some (.int (iI (e : Int))), some (.int (iI z67)), some (.int (iI z34)), none, some (.int (iI z48)), none, some (.long (hsS σ.1.1)), none, none, none, none, none, none, none, none] [] σ2 := by
    rintro σ2 gp ⟨⟨o, ho⟩, hb2, rfl⟩
    exact law_tail l XC e he2 z67 z34 z48 hz67 hz34 hz48 σ.1 σ2 o ho (ih13 (e + 1, σ2) ⟨by (try dsimp only); omega, hb2⟩ (by (try dsimp only); omega))
  refine P_istore XC dL_law_86 rfl (by decide) ?_
  dsimp only [List.set]
  refine P_aload_n XC 1 rfl dL_law_88 rfl ?_
  refine P_call (rest := _) XC (c_L_whole l D kI kC pa pg pw σ) gL_law_L_whole rfl kmL_whole ⟨⟨(Nat.le_of_ble_eq_true rfl), (Nat.le_of_ble_eq_true rfl)⟩, (Nat.le_of_ble_eq_true rfl), (Nat.le_of_ble_eq_true rfl)⟩ ⟨rfl, rfl⟩ rfl rfl (Nat.le_of_ble_eq_true rfl) dL_law_89 (kL_of ?_)
  dsimp only [Option.toList, List.cons_append, List.nil_append]
  refine P_lstore XC dL_law_92 rfl (by decide) ?_
  dsimp only [List.set]
  refine P_iload XC dL_law_94 rfl ?_
  refine P_iconst XC dL_law_96 ?_
  refine P_icmp_ge XC 301 dL_law_97 (by decide) (by first | (with_reducible assumption) | (unfold IR; omega) | (unfold IR at *; omega)) (by first | (with_reducible assumption) | (unfold IR; omega) | (unfold IR at *; omega)) (fun h97 => ?_) (fun h97 => ?_)
  · skip
    refine P_iload XC dL_law_301 rfl ?_
    refine P_iconst XC dL_law_303 ?_
    refine P_icmp_ne XC 399 dL_law_304 (by decide) (by first | (with_reducible assumption) | (unfold IR; omega) | (unfold IR at *; omega)) (by first | (with_reducible assumption) | (unfold IR; omega) | (unfold IR at *; omega)) (fun h304 => ?_) (fun h304 => ?_)
    · skip
      refine P_iload XC dL_law_399 rfl ?_
      refine P_bipush XC dL_law_401 (by decide) ?_
      refine P_merge0 428 2 (fun kj403 => ?_) ?_
      · try dsimp only [List.drop] at kj403
        refine P_icmp_ge XC 428 dL_law_403 (by decide) (by first | (with_reducible assumption) | (unfold IR; omega) | (unfold IR at *; omega)) (by first | (with_reducible assumption) | (unfold IR; omega) | (unfold IR at *; omega)) (fun h403 => ?_) (fun h403 => ?_)
        · skip
          exact kj403
        refine P_iload XC dL_law_406 rfl ?_
        refine P_if_le XC 428 dL_law_408 (by decide) (by first | (with_reducible assumption) | (unfold IR; omega) | (unfold IR at *; omega)) (fun h408 => ?_) (fun h408 => ?_)
        · skip
          exact kj403
        have hk := hkn (by omega)
        refine P_aload_n XC 1 rfl dL_law_411 rfl ?_
        refine P_iload XC dL_law_412 rfl ?_
        refine P_iload XC dL_law_414 rfl ?_
        refine P_iconst XC dL_law_416 ?_
        refine P_ishr XC dL_law_417 ?_
        refine P_any (fun z417 hz417 ez417 => ?_)
        refine P_iload XC dL_law_418 rfl ?_
        refine P_call (rest := _) XC (c_L_shapes l D kI kC pa pg pw σ k _ _ hk hz417 hz34) gL_law_L_shapes rfl kmL_shapes ⟨⟨(Nat.le_of_ble_eq_true rfl), (Nat.le_of_ble_eq_true rfl)⟩, (Nat.le_of_ble_eq_true rfl), (Nat.le_of_ble_eq_true rfl)⟩ ⟨rfl, rfl⟩ rfl rfl (Nat.le_of_ble_eq_true rfl) dL_law_420 (kT_of (fun r420 σ2 hr420 => ?_))
        dsimp only [Option.toList, List.cons_append, List.nil_append]
        obtain ⟨rfl, o, rfl⟩ := hr420
        refine P_if_ne XC 832 dL_law_423 (by decide) ⟨by decide, by decide⟩ (fun h423 => ?_) (fun h423 => absurd h423 (by decide))
        refine P_kill 6 ?_
        refine P_kill 8 ?_
        refine P_kill 11 ?_
        refine P_kill 12 ?_
        refine P_kill 13 ?_
        refine P_kill 14 ?_
        refine P_kill 15 ?_
        refine P_kill 16 ?_
        refine P_kill 17 ?_
        dsimp only [List.set]
        refine KT _ _ ?_
        first | exact hfin | exact ⟨hfo, rfl, hfg⟩ | exact ⟨⟨_, rfl⟩, hB, rfl⟩ | exact ⟨⟨none, rfl⟩, hB, rfl⟩ | exact ⟨⟨none, rfl⟩, rfl, rfl⟩
      try dsimp only [List.drop]
      refine P_iload XC dL_law_428 rfl ?_
      refine P_bipush XC dL_law_430 (by decide) ?_
      refine P_merge0 458 2 (fun kj432 => ?_) ?_
      · try dsimp only [List.drop] at kj432
        refine P_icmp_ne XC 458 dL_law_432 (by decide) (by first | (with_reducible assumption) | (unfold IR; omega) | (unfold IR at *; omega)) (by first | (with_reducible assumption) | (unfold IR; omega) | (unfold IR at *; omega)) (fun h432 => ?_) (fun h432 => ?_)
        · skip
          exact kj432
        refine P_iload XC dL_law_435 rfl ?_
        refine P_if_le XC 458 dL_law_437 (by decide) (by first | (with_reducible assumption) | (unfold IR; omega) | (unfold IR at *; omega)) (fun h437 => ?_) (fun h437 => ?_)
        · skip
          exact kj432
        have hk := hkn (by omega)
        refine P_aload_n XC 1 rfl dL_law_440 rfl ?_
        refine P_iload XC dL_law_441 rfl ?_
        refine P_iload XC dL_law_443 rfl ?_
        refine P_iload XC dL_law_445 rfl ?_
        refine P_call (rest := _) XC (c_L_low l D kI kC pa pg pw _ _ _ hz34 (by omega)) gL_law_L_low rfl kmL_low ⟨⟨(Nat.le_of_ble_eq_true rfl), (Nat.le_of_ble_eq_true rfl)⟩, (Nat.le_of_ble_eq_true rfl), (Nat.le_of_ble_eq_true rfl)⟩ ⟨rfl, rfl⟩ rfl rfl (Nat.le_of_ble_eq_true rfl) dL_law_447 (kS_of (fun r447 hr447 => ?_))
        dsimp only [Option.toList, List.cons_append, List.nil_append]
        obtain ⟨j, rfl⟩ : ∃ q : Nat, r447 = (q : Int) := ⟨r447.toNat, by omega⟩
        refine P_call (rest := _) XC (c_L_joins l D kI kC pa pg pw σ k j hk (by omega)) gL_law_L_joins rfl kmL_joins ⟨⟨(Nat.le_of_ble_eq_true rfl), (Nat.le_of_ble_eq_true rfl)⟩, (Nat.le_of_ble_eq_true rfl), (Nat.le_of_ble_eq_true rfl)⟩ ⟨rfl, rfl⟩ rfl rfl (Nat.le_of_ble_eq_true rfl) dL_law_450 (kT_of (fun r450 σ2 hr450 => ?_))
        dsimp only [Option.toList, List.cons_append, List.nil_append]
        obtain ⟨rfl, o, rfl⟩ := hr450
        refine P_if_ne XC 832 dL_law_453 (by decide) ⟨by decide, by decide⟩ (fun h453 => ?_) (fun h453 => absurd h453 (by decide))
        refine P_kill 6 ?_
        refine P_kill 8 ?_
        refine P_kill 11 ?_
        refine P_kill 12 ?_
        refine P_kill 13 ?_
        refine P_kill 14 ?_
        refine P_kill 15 ?_
        refine P_kill 16 ?_
        refine P_kill 17 ?_
        dsimp only [List.set]
        refine KT _ _ ?_
        first | exact hfin | exact ⟨hfo, rfl, hfg⟩ | exact ⟨⟨_, rfl⟩, hB, rfl⟩ | exact ⟨⟨none, rfl⟩, hB, rfl⟩ | exact ⟨⟨none, rfl⟩, rfl, rfl⟩
      try dsimp only [List.drop]
      refine P_iload XC dL_law_458 rfl ?_
      refine P_bipush XC dL_law_460 (by decide) ?_
      refine P_merge0 541 2 (fun kj462 => ?_) ?_
      · try dsimp only [List.drop] at kj462
        refine P_icmp_ne XC 541 dL_law_462 (by decide) (by first | (with_reducible assumption) | (unfold IR; omega) | (unfold IR at *; omega)) (by first | (with_reducible assumption) | (unfold IR; omega) | (unfold IR at *; omega)) (fun h462 => ?_) (fun h462 => ?_)
        · skip
          exact kj462
        refine P_iload XC dL_law_465 rfl ?_
        refine P_if_le XC 541 dL_law_467 (by decide) (by first | (with_reducible assumption) | (unfold IR; omega) | (unfold IR at *; omega)) (fun h467 => ?_) (fun h467 => ?_)
        · skip
          exact kj462
        have hk := hkn (by omega)
        have hcol := OkK_col (OkS_at hS hk)
        refine P_iload XC dL_law_470 rfl ?_
        refine P_iconst XC dL_law_472 ?_
        refine P_call (rest := _) XC (c_L_low l D kI kC pa pg pw _ _ _ hz34 (by decide)) gL_law_L_low rfl kmL_low ⟨⟨(Nat.le_of_ble_eq_true rfl), (Nat.le_of_ble_eq_true rfl)⟩, (Nat.le_of_ble_eq_true rfl), (Nat.le_of_ble_eq_true rfl)⟩ ⟨rfl, rfl⟩ rfl rfl (Nat.le_of_ble_eq_true rfl) dL_law_473 (kS_of (fun r473 hr473 => ?_))
        dsimp only [Option.toList, List.cons_append, List.nil_append]
        refine P_istore XC dL_law_476 rfl (by decide) ?_
        dsimp only [List.set]
        refine P_aload_n XC 1 rfl dL_law_478 rfl ?_
        refine P_iload XC dL_law_479 rfl ?_
        refine P_iconst XC dL_law_481 ?_
        refine P_X7_stroke XC (by first | (with_reducible assumption) | (unfold IR; omega) | (unfold IR at *; omega)) (by first | (with_reducible assumption) | (unfold IR; omega) | (unfold IR at *; omega)) gL_law_X7_stroke ⟨⟨(Nat.le_of_ble_eq_true rfl), (Nat.le_of_ble_eq_true rfl)⟩, (Nat.le_of_ble_eq_true rfl), (Nat.le_of_ble_eq_true rfl)⟩ (Nat.le_of_ble_eq_true rfl) dL_law_482 ?_
        refine P_top (y := (gk σ.1.1 k).1) (st_0 hk) ?_
        refine P_istore XC dL_law_485 rfl (by decide) ?_
        dsimp only [List.set]
        refine P_aload_n XC 1 rfl dL_law_487 rfl ?_
        refine P_iload XC dL_law_488 rfl ?_
        refine P_iload XC dL_law_490 rfl ?_
        refine P_X7_paint XC (by first | (with_reducible assumption) | (unfold IR; omega) | (unfold IR at *; omega)) (by first | (with_reducible assumption) | (unfold IR; omega) | (unfold IR at *; omega)) gL_law_X7_paint ⟨⟨(Nat.le_of_ble_eq_true rfl), (Nat.le_of_ble_eq_true rfl)⟩, (Nat.le_of_ble_eq_true rfl), (Nat.le_of_ble_eq_true rfl)⟩ (Nat.le_of_ble_eq_true rfl) dL_law_492 ?_
        have hpv := paint_val hk (c := r473) (by omega)
        generalize hpe : paintS σ.1.1 (k : Int) r473 = pv at *
        generalize hτ : ((actS σ.1 pv.2, σ.2.1, σ.2.2.1, σ.2.2.2) : PS) = τ2
        have hfin : (∃ o, τ2.1 = actS σ.1 o) ∧ τ2.2.1 = [] ∧ τ2.2.2.2 = σ.2.2.2 := by rw [← hτ]; exact ⟨⟨_, rfl⟩, hB, rfl⟩
        have hτ1 : τ2.1 = actS σ.1 pv.2 := by rw [← hτ]
        have hpc : (((gk σ.1.1 k).1 = r473 ∧ pv.1 = -5) ∨ ((gk σ.1.1 k).1 ≠ r473 ∧ pv.1 = (gk σ.1.1 k).1)) ∧ k < τ2.1.1.length ∧ (gk τ2.1.1 k).1 = r473 := by
          rw [hτ1]
          by_cases q : (gk σ.1.1 k).1 = r473
          · rw [if_pos q] at hpv
            subst hpv
            exact ⟨Or.inl ⟨q, rfl⟩, hk, q⟩
          · rw [if_neg q] at hpv
            subst hpv
            refine ⟨Or.inr ⟨q, rfl⟩, ?_, ?_⟩
            · show k < (σ.1.1.set k (r473, (gk σ.1.1 k).2)).length
              rw [List.length_set]; exact hk
            · show (gk (σ.1.1.set k (r473, (gk σ.1.1 k).2)) k).1 = r473
              rw [gk_set hk]
        obtain ⟨hpc1, hpc2, hpc3⟩ := hpc
        refine P_iload XC dL_law_495 rfl ?_
        refine P_iload XC dL_law_497 rfl ?_
        refine P_merge (J := fun z => z = pv.1) 509 2 (fun kj499 => ?_) (fun z499 hz499 => ?_)
        · try dsimp only [List.drop] at kj499
          refine P_icmp_ne XC 507 dL_law_499 (by decide) (by first | (with_reducible assumption) | (unfold IR; omega) | (unfold IR at *; omega)) (by first | (with_reducible assumption) | (unfold IR; omega) | (unfold IR at *; omega)) (fun h499 => ?_) (fun h499 => ?_)
          · skip
            refine P_iload XC dL_law_507 rfl ?_
            exact kj499 _ (by (try dsimp only); omega)
          refine P_bipush XC dL_law_502 (by decide) ?_
          refine P_goto XC 509 dL_law_504 (by decide) ?_
          exact kj499 _ (by (try dsimp only); omega)
        try dsimp only [List.drop]
        try dsimp only at hz499
        subst hz499
        refine P_icmp_ne XC 536 dL_law_509 (by decide) (by first | (with_reducible assumption) | (unfold IR; omega) | (unfold IR at *; omega)) (by first | (with_reducible assumption) | (unfold IR; omega) | (unfold IR at *; omega)) (fun h509 => ?_) (fun h509 => ?_)
        · exfalso
          omega
        refine P_aload_n XC 1 rfl dL_law_512 rfl ?_
        refine P_iload XC dL_law_513 rfl ?_
        refine P_iconst XC dL_law_515 ?_
        refine P_X7_stroke XC (by first | (with_reducible assumption) | (unfold IR; omega) | (unfold IR at *; omega)) (by first | (with_reducible assumption) | (unfold IR; omega) | (unfold IR at *; omega)) gL_law_X7_stroke ⟨⟨(Nat.le_of_ble_eq_true rfl), (Nat.le_of_ble_eq_true rfl)⟩, (Nat.le_of_ble_eq_true rfl), (Nat.le_of_ble_eq_true rfl)⟩ (Nat.le_of_ble_eq_true rfl) dL_law_516 ?_
        refine P_top (y := r473) ((st_0 hpc2).trans hpc3) ?_
        refine P_iload XC dL_law_519 rfl ?_
        refine P_icmp_ne XC 536 dL_law_521 (by decide) (by first | (with_reducible assumption) | (unfold IR; omega) | (unfold IR at *; omega)) (by first | (with_reducible assumption) | (unfold IR; omega) | (unfold IR at *; omega)) (fun h521 => ?_) (fun h521 => ?_)
        · exfalso
          omega
        refine P_aload_n XC 1 rfl dL_law_524 rfl ?_
        refine P_iload XC dL_law_525 rfl ?_
        refine P_iconst XC dL_law_527 ?_
        refine P_X7_paint XC (by first | (with_reducible assumption) | (unfold IR; omega) | (unfold IR at *; omega)) (by first | (with_reducible assumption) | (unfold IR; omega) | (unfold IR at *; omega)) gL_law_X7_paint ⟨⟨(Nat.le_of_ble_eq_true rfl), (Nat.le_of_ble_eq_true rfl)⟩, (Nat.le_of_ble_eq_true rfl), (Nat.le_of_ble_eq_true rfl)⟩ (Nat.le_of_ble_eq_true rfl) dL_law_528 ?_
        rw [paint_bad hpc2]
        refine P_top (y := -2) rfl ?_
        change PP _ _ _ _ _ _ _ _ _ _ _ _ _ _ _ _ _ _ _ _ _ _ _ _ τ2
        refine P_bipush XC dL_law_531 (by decide) ?_
        refine P_icmp_eq XC 538 dL_law_533 (by decide) (by first | (with_reducible assumption) | (unfold IR; omega) | (unfold IR at *; omega)) (by first | (with_reducible assumption) | (unfold IR; omega) | (unfold IR at *; omega)) (fun h533 => ?_) (fun h533 => ?_)
        rotate_left
        · exfalso
          omega
        refine P_goto XC 832 dL_law_538 (by decide) ?_
        refine P_kill 6 ?_
        refine P_kill 8 ?_
        refine P_kill 11 ?_
        refine P_kill 12 ?_
        refine P_kill 13 ?_
        refine P_kill 14 ?_
        refine P_kill 15 ?_
        refine P_kill 16 ?_
        refine P_kill 17 ?_
        dsimp only [List.set]
        refine KT _ _ ?_
        first | exact hfin | exact ⟨hfo, rfl, hfg⟩ | exact ⟨⟨_, rfl⟩, hB, rfl⟩ | exact ⟨⟨none, rfl⟩, hB, rfl⟩ | exact ⟨⟨none, rfl⟩, rfl, rfl⟩
      try dsimp only [List.drop]
      refine P_iload XC dL_law_541 rfl ?_
      refine P_bipush XC dL_law_543 (by decide) ?_
      refine P_merge0 761 2 (fun kj545 => ?_) ?_
      · try dsimp only [List.drop] at kj545
        refine P_icmp_ne XC 761 dL_law_545 (by decide) (by first | (with_reducible assumption) | (unfold IR; omega) | (unfold IR at *; omega)) (by first | (with_reducible assumption) | (unfold IR; omega) | (unfold IR at *; omega)) (fun h545 => ?_) (fun h545 => ?_)
        · skip
          exact kj545
        refine P_iload XC dL_law_548 rfl ?_
        refine P_if_le XC 761 dL_law_550 (by decide) (by first | (with_reducible assumption) | (unfold IR; omega) | (unfold IR at *; omega)) (fun h550 => ?_) (fun h550 => ?_)
        · skip
          exact kj545
        have hk := hkn (by omega)
        have hz := ok_sz hS hk
        have hbd := bdS hS hk
        have hlr := lf_le_rt σ.1.1 k
        have hle := lenF_rng (px (gk σ.1.1 k)) (py (gk σ.1.1 k)) (szk (gk σ.1.1 k))
        have hxy := ok_xy hS hk (i := 0) (by omega)
        refine P_iload XC dL_law_553 rfl ?_
        refine P_bipush XC dL_law_555 (by decide) ?_
        refine P_call (rest := _) XC (c_L_low l D kI kC pa pg pw _ _ _ hz34 (by decide)) gL_law_L_low rfl kmL_low ⟨⟨(Nat.le_of_ble_eq_true rfl), (Nat.le_of_ble_eq_true rfl)⟩, (Nat.le_of_ble_eq_true rfl), (Nat.le_of_ble_eq_true rfl)⟩ ⟨rfl, rfl⟩ rfl rfl (Nat.le_of_ble_eq_true rfl) dL_law_557 (kS_of (fun r557 hr557 => ?_))
        dsimp only [Option.toList, List.cons_append, List.nil_append]
        refine P_bipush XC dL_law_560 (by decide) ?_
        refine P_isub XC dL_law_562 ?_
        obtain ⟨dx, hdx⟩ : ∃ q, q = r557 - 50 := ⟨_, rfl⟩
        rw [← hdx]
        refine P_istore XC dL_law_563 rfl (by decide) ?_
        dsimp only [List.set]
        refine P_iload XC dL_law_565 rfl ?_
        refine P_bipush XC dL_law_567 (by decide) ?_
        refine P_ishr XC dL_law_569 ?_
        refine P_any (fun z569 hz569 ez569 => ?_)
        refine P_bipush XC dL_law_570 (by decide) ?_
        refine P_call (rest := _) XC (c_L_low l D kI kC pa pg pw _ _ _ hz569 (by decide)) gL_law_L_low rfl kmL_low ⟨⟨(Nat.le_of_ble_eq_true rfl), (Nat.le_of_ble_eq_true rfl)⟩, (Nat.le_of_ble_eq_true rfl), (Nat.le_of_ble_eq_true rfl)⟩ ⟨rfl, rfl⟩ rfl rfl (Nat.le_of_ble_eq_true rfl) dL_law_572 (kS_of (fun r572 hr572 => ?_))
        dsimp only [Option.toList, List.cons_append, List.nil_append]
        refine P_bipush XC dL_law_575 (by decide) ?_
        refine P_isub XC dL_law_577 ?_
        obtain ⟨dy, hdy⟩ : ∃ q, q = r572 - 50 := ⟨_, rfl⟩
        rw [← hdy]
        refine P_istore XC dL_law_578 rfl (by decide) ?_
        dsimp only [List.set]
        refine P_aload_n XC 1 rfl dL_law_580 rfl ?_
        refine P_iload XC dL_law_581 rfl ?_
        refine P_iconst XC dL_law_583 ?_
        refine P_X7_stroke XC (by first | (with_reducible assumption) | (unfold IR; omega) | (unfold IR at *; omega)) (by first | (with_reducible assumption) | (unfold IR; omega) | (unfold IR at *; omega)) gL_law_X7_stroke ⟨⟨(Nat.le_of_ble_eq_true rfl), (Nat.le_of_ble_eq_true rfl)⟩, (Nat.le_of_ble_eq_true rfl), (Nat.le_of_ble_eq_true rfl)⟩ (Nat.le_of_ble_eq_true rfl) dL_law_584 ?_
        refine P_top (y := lfS σ.1.1 k) (st_2 hk) ?_
        refine P_iload XC dL_law_587 rfl ?_
        refine P_iadd XC dL_law_589 ?_
        refine P_merge (J := fun z => (z = 1 ∧ (0 ≤ lfS σ.1.1 k + dx ∧ rtS σ.1.1 k + dx ≤ 1000 ∧ 0 ≤ tpS σ.1.1 k + dy ∧ boS σ.1.1 k + dy ≤ 1000)) ∨ (z = 0 ∧ ¬ (0 ≤ lfS σ.1.1 k + dx ∧ rtS σ.1.1 k + dx ≤ 1000 ∧ 0 ≤ tpS σ.1.1 k + dy ∧ boS σ.1.1 k + dy ≤ 1000))) 643 1 (fun kj590 => ?_) (fun z590 hz590 => ?_)
        · try dsimp only [List.drop] at kj590
          refine P_if_lt XC 642 dL_law_590 (by decide) (by first | (with_reducible assumption) | (unfold IR; omega) | (unfold IR at *; omega)) (fun h590 => ?_) (fun h590 => ?_)
          · skip
            refine P_iconst XC dL_law_642 ?_
            exact kj590 _ (by (try dsimp only); omega)
          refine P_aload_n XC 1 rfl dL_law_593 rfl ?_
          refine P_iload XC dL_law_594 rfl ?_
          refine P_iconst XC dL_law_596 ?_
          refine P_X7_stroke XC (by first | (with_reducible assumption) | (unfold IR; omega) | (unfold IR at *; omega)) (by first | (with_reducible assumption) | (unfold IR; omega) | (unfold IR at *; omega)) gL_law_X7_stroke ⟨⟨(Nat.le_of_ble_eq_true rfl), (Nat.le_of_ble_eq_true rfl)⟩, (Nat.le_of_ble_eq_true rfl), (Nat.le_of_ble_eq_true rfl)⟩ (Nat.le_of_ble_eq_true rfl) dL_law_597 ?_
          refine P_top (y := rtS σ.1.1 k) (st_3 hk) ?_
          refine P_iload XC dL_law_600 rfl ?_
          refine P_iadd XC dL_law_602 ?_
          refine P_sipush XC dL_law_603 (by decide) ?_
          refine P_icmp_gt XC 642 dL_law_606 (by decide) (by first | (with_reducible assumption) | (unfold IR; omega) | (unfold IR at *; omega)) (by first | (with_reducible assumption) | (unfold IR; omega) | (unfold IR at *; omega)) (fun h606 => ?_) (fun h606 => ?_)
          · skip
            refine P_iconst XC dL_law_642 ?_
            exact kj590 _ (by (try dsimp only); omega)
          refine P_aload_n XC 1 rfl dL_law_609 rfl ?_
          refine P_iload XC dL_law_610 rfl ?_
          refine P_iconst XC dL_law_612 ?_
          refine P_X7_stroke XC (by first | (with_reducible assumption) | (unfold IR; omega) | (unfold IR at *; omega)) (by first | (with_reducible assumption) | (unfold IR; omega) | (unfold IR at *; omega)) gL_law_X7_stroke ⟨⟨(Nat.le_of_ble_eq_true rfl), (Nat.le_of_ble_eq_true rfl)⟩, (Nat.le_of_ble_eq_true rfl), (Nat.le_of_ble_eq_true rfl)⟩ (Nat.le_of_ble_eq_true rfl) dL_law_613 ?_
          refine P_top (y := tpS σ.1.1 k) (st_4 hk) ?_
          refine P_iload XC dL_law_616 rfl ?_
          refine P_iadd XC dL_law_618 ?_
          refine P_if_lt XC 642 dL_law_619 (by decide) (by first | (with_reducible assumption) | (unfold IR; omega) | (unfold IR at *; omega)) (fun h619 => ?_) (fun h619 => ?_)
          · skip
            refine P_iconst XC dL_law_642 ?_
            exact kj590 _ (by (try dsimp only); omega)
          refine P_aload_n XC 1 rfl dL_law_622 rfl ?_
          refine P_iload XC dL_law_623 rfl ?_
          refine P_iconst XC dL_law_625 ?_
          refine P_X7_stroke XC (by first | (with_reducible assumption) | (unfold IR; omega) | (unfold IR at *; omega)) (by first | (with_reducible assumption) | (unfold IR; omega) | (unfold IR at *; omega)) gL_law_X7_stroke ⟨⟨(Nat.le_of_ble_eq_true rfl), (Nat.le_of_ble_eq_true rfl)⟩, (Nat.le_of_ble_eq_true rfl), (Nat.le_of_ble_eq_true rfl)⟩ (Nat.le_of_ble_eq_true rfl) dL_law_626 ?_
          refine P_top (y := boS σ.1.1 k) (st_5 hk) ?_
          refine P_iload XC dL_law_629 rfl ?_
          refine P_iadd XC dL_law_631 ?_
          refine P_sipush XC dL_law_632 (by decide) ?_
          refine P_icmp_gt XC 642 dL_law_635 (by decide) (by first | (with_reducible assumption) | (unfold IR; omega) | (unfold IR at *; omega)) (by first | (with_reducible assumption) | (unfold IR; omega) | (unfold IR at *; omega)) (fun h635 => ?_) (fun h635 => ?_)
          · skip
            refine P_iconst XC dL_law_642 ?_
            exact kj590 _ (by (try dsimp only); omega)
          refine P_iconst XC dL_law_638 ?_
          refine P_goto XC 643 dL_law_639 (by decide) ?_
          exact kj590 _ (by (try dsimp only); omega)
        try dsimp only [List.drop]
        try dsimp only at hz590
        refine P_istore XC dL_law_643 rfl (by decide) ?_
        dsimp only [List.set]
        refine P_aload_n XC 1 rfl dL_law_645 rfl ?_
        refine P_iload XC dL_law_646 rfl ?_
        refine P_bipush XC dL_law_648 (by decide) ?_
        refine P_X7_stroke XC (by first | (with_reducible assumption) | (unfold IR; omega) | (unfold IR at *; omega)) (by first | (with_reducible assumption) | (unfold IR; omega) | (unfold IR at *; omega)) gL_law_X7_stroke ⟨⟨(Nat.le_of_ble_eq_true rfl), (Nat.le_of_ble_eq_true rfl)⟩, (Nat.le_of_ble_eq_true rfl), (Nat.le_of_ble_eq_true rfl)⟩ (Nat.le_of_ble_eq_true rfl) dL_law_650 ?_
        refine P_top (y := lenF (px (gk σ.1.1 k)) (py (gk σ.1.1 k)) (szk (gk σ.1.1 k))) (st_6 hk) ?_
        refine P_istore XC dL_law_653 rfl (by decide) ?_
        dsimp only [List.set]
        refine P_aload_n XC 1 rfl dL_law_655 rfl ?_
        refine P_iload XC dL_law_656 rfl ?_
        refine P_iconst XC dL_law_658 ?_
        refine P_X7_stroke XC (by first | (with_reducible assumption) | (unfold IR; omega) | (unfold IR at *; omega)) (by first | (with_reducible assumption) | (unfold IR; omega) | (unfold IR at *; omega)) gL_law_X7_stroke ⟨⟨(Nat.le_of_ble_eq_true rfl), (Nat.le_of_ble_eq_true rfl)⟩, (Nat.le_of_ble_eq_true rfl), (Nat.le_of_ble_eq_true rfl)⟩ (Nat.le_of_ble_eq_true rfl) dL_law_659 ?_
        refine P_top (y := (szk (gk σ.1.1 k) : Int)) (st_1 hk) ?_
        refine P_istore XC dL_law_662 rfl (by decide) ?_
        dsimp only [List.set]
        refine P_aload_n XC 1 rfl dL_law_664 rfl ?_
        refine P_iload XC dL_law_665 rfl ?_
        refine P_iconst XC dL_law_667 ?_
        refine P_iconst XC dL_law_668 ?_
        refine P_X7_point XC (by first | (with_reducible assumption) | (unfold IR; omega) | (unfold IR at *; omega)) (by first | (with_reducible assumption) | (unfold IR; omega) | (unfold IR at *; omega)) (by first | (with_reducible assumption) | (unfold IR; omega) | (unfold IR at *; omega)) gL_law_X7_point ⟨⟨(Nat.le_of_ble_eq_true rfl), (Nat.le_of_ble_eq_true rfl)⟩, (Nat.le_of_ble_eq_true rfl), (Nat.le_of_ble_eq_true rfl)⟩ (Nat.le_of_ble_eq_true rfl) dL_law_669 ?_
        refine P_top (y := px (gk σ.1.1 k) 0) (pt_0 (i := 0) hk (by omega)) ?_
        refine P_istore XC dL_law_672 rfl (by decide) ?_
        dsimp only [List.set]
        refine P_aload_n XC 1 rfl dL_law_674 rfl ?_
        refine P_iload XC dL_law_675 rfl ?_
        refine P_iload XC dL_law_677 rfl ?_
        refine P_iload XC dL_law_679 rfl ?_
        refine P_X7_shift XC (by first | (with_reducible assumption) | (unfold IR; omega) | (unfold IR at *; omega)) (by first | (with_reducible assumption) | (unfold IR; omega) | (unfold IR at *; omega)) (by first | (with_reducible assumption) | (unfold IR; omega) | (unfold IR at *; omega)) gL_law_X7_shift ⟨⟨(Nat.le_of_ble_eq_true rfl), (Nat.le_of_ble_eq_true rfl)⟩, (Nat.le_of_ble_eq_true rfl), (Nat.le_of_ble_eq_true rfl)⟩ (Nat.le_of_ble_eq_true rfl) dL_law_681 ?_
        have hsv := shift_val hS hk (dx := dx) (dy := dy) (by omega) (by omega)
        generalize hse : shiftS σ.1.1 (k : Int) dx dy = sv at *
        generalize hτ : ((actS σ.1 sv.2, σ.2.1, σ.2.2.1, σ.2.2.2) : PS) = τ2
        have hfin : (∃ o, τ2.1 = actS σ.1 o) ∧ τ2.2.1 = [] ∧ τ2.2.2.2 = σ.2.2.2 := by rw [← hτ]; exact ⟨⟨_, rfl⟩, hB, rfl⟩
        have hτ1 : τ2.1 = actS σ.1 sv.2 := by rw [← hτ]
        obtain ⟨sh, hsh, hs1, hs2, hs3, hs4, hs5⟩ := shift_res σ hk hz.1 hsv hτ1
        refine P_istore XC dL_law_684 rfl (by decide) ?_
        dsimp only [List.set]
        refine P_iload XC dL_law_686 rfl ?_
        refine P_iload XC dL_law_688 rfl ?_
        refine P_merge (J := fun z => z = sv.1) 715 1 (fun kj690 => ?_) (fun z690 hz690 => ?_)
        · try dsimp only [List.drop] at kj690
          refine P_if_ne XC 698 dL_law_690 (by decide) (by unfold IR; omega) (fun h690 => ?_) (fun h690 => ?_)
          · skip
            refine P_iload XC dL_law_698 rfl ?_
            refine P_if_ne XC 713 dL_law_700 (by decide) (by first | (with_reducible assumption) | (unfold IR; omega) | (unfold IR at *; omega)) (fun h700 => ?_) (fun h700 => ?_)
            · skip
              refine P_iload XC dL_law_713 rfl ?_
              exact kj690 _ (by (try dsimp only); omega)
            refine P_iload XC dL_law_703 rfl ?_
            refine P_if_ne XC 713 dL_law_705 (by decide) (by first | (with_reducible assumption) | (unfold IR; omega) | (unfold IR at *; omega)) (fun h705 => ?_) (fun h705 => ?_)
            · skip
              refine P_iload XC dL_law_713 rfl ?_
              exact kj690 _ (by (try dsimp only); omega)
            refine P_bipush XC dL_law_708 (by decide) ?_
            refine P_goto XC 715 dL_law_710 (by decide) ?_
            exact kj690 _ (by (try dsimp only); omega)
          refine P_bipush XC dL_law_693 (by decide) ?_
          refine P_goto XC 715 dL_law_695 (by decide) ?_
          exact kj690 _ (by (try dsimp only); omega)
        try dsimp only [List.drop]
        try dsimp only at hz690
        subst hz690
        refine P_icmp_ne XC 756 dL_law_715 (by decide) (by first | (with_reducible assumption) | (unfold IR; omega) | (unfold IR at *; omega)) (by first | (with_reducible assumption) | (unfold IR; omega) | (unfold IR at *; omega)) (fun h715 => ?_) (fun h715 => ?_)
        · exfalso
          omega
        refine P_aload_n XC 1 rfl dL_law_718 rfl ?_
        refine P_iload XC dL_law_719 rfl ?_
        refine P_bipush XC dL_law_721 (by decide) ?_
        refine P_X7_stroke XC (by first | (with_reducible assumption) | (unfold IR; omega) | (unfold IR at *; omega)) (by first | (with_reducible assumption) | (unfold IR; omega) | (unfold IR at *; omega)) gL_law_X7_stroke ⟨⟨(Nat.le_of_ble_eq_true rfl), (Nat.le_of_ble_eq_true rfl)⟩, (Nat.le_of_ble_eq_true rfl), (Nat.le_of_ble_eq_true rfl)⟩ (Nat.le_of_ble_eq_true rfl) dL_law_723 ?_
        refine P_top (y := lenF (px (gk σ.1.1 k)) (py (gk σ.1.1 k)) (szk (gk σ.1.1 k))) ((st_6 hs2).trans hs3) ?_
        refine P_iload XC dL_law_726 rfl ?_
        refine P_icmp_ne XC 756 dL_law_728 (by decide) (by first | (with_reducible assumption) | (unfold IR; omega) | (unfold IR at *; omega)) (by first | (with_reducible assumption) | (unfold IR; omega) | (unfold IR at *; omega)) (fun h728 => ?_) (fun h728 => ?_)
        · exfalso
          omega
        refine P_aload_n XC 1 rfl dL_law_731 rfl ?_
        refine P_iload XC dL_law_732 rfl ?_
        refine P_iconst XC dL_law_734 ?_
        refine P_iconst XC dL_law_735 ?_
        refine P_X7_point XC (by first | (with_reducible assumption) | (unfold IR; omega) | (unfold IR at *; omega)) (by first | (with_reducible assumption) | (unfold IR; omega) | (unfold IR at *; omega)) (by first | (with_reducible assumption) | (unfold IR; omega) | (unfold IR at *; omega)) gL_law_X7_point ⟨⟨(Nat.le_of_ble_eq_true rfl), (Nat.le_of_ble_eq_true rfl)⟩, (Nat.le_of_ble_eq_true rfl), (Nat.le_of_ble_eq_true rfl)⟩ (Nat.le_of_ble_eq_true rfl) dL_law_736 ?_
        refine P_top (y := px (gk σ.1.1 k) 0 + sh) ((pt_0 (i := 0) hs2 (by omega)).trans hs5) ?_
        refine P_iload XC dL_law_739 rfl ?_
        refine P_iload XC dL_law_741 rfl ?_
        refine P_merge (J := fun z => z = sh) 752 1 (fun kj743 => ?_) (fun z743 hz743 => ?_)
        · try dsimp only [List.drop] at kj743
          refine P_if_eq XC 751 dL_law_743 (by decide) (by first | (with_reducible assumption) | (unfold IR; omega) | (unfold IR at *; omega)) (fun h743 => ?_) (fun h743 => ?_)
          · skip
            refine P_iconst XC dL_law_751 ?_
            exact kj743 _ (by (try dsimp only); omega)
          refine P_iload XC dL_law_746 rfl ?_
          refine P_goto XC 752 dL_law_748 (by decide) ?_
          exact kj743 _ (by (try dsimp only); omega)
        try dsimp only [List.drop]
        try dsimp only at hz743
        subst hz743
        refine P_iadd XC dL_law_752 ?_
        refine P_icmp_eq XC 758 dL_law_753 (by decide) (by first | (with_reducible assumption) | (unfold IR; omega) | (unfold IR at *; omega)) (by first | (with_reducible assumption) | (unfold IR; omega) | (unfold IR at *; omega)) (fun h753 => ?_) (fun h753 => ?_)
        rotate_left
        · exfalso
          omega
        refine P_goto XC 832 dL_law_758 (by decide) ?_
        refine P_kill 6 ?_
        refine P_kill 8 ?_
        refine P_kill 11 ?_
        refine P_kill 12 ?_
        refine P_kill 13 ?_
        refine P_kill 14 ?_
        refine P_kill 15 ?_
        refine P_kill 16 ?_
        refine P_kill 17 ?_
        dsimp only [List.set]
        refine KT _ _ ?_
        first | exact hfin | exact ⟨hfo, rfl, hfg⟩ | exact ⟨⟨_, rfl⟩, hB, rfl⟩ | exact ⟨⟨none, rfl⟩, hB, rfl⟩ | exact ⟨⟨none, rfl⟩, rfl, rfl⟩
      try dsimp only [List.drop]
      refine P_iload XC dL_law_761 rfl ?_
      refine P_merge0 788 1 (fun kj763 => ?_) ?_
      · try dsimp only [List.drop] at kj763
        refine P_if_le XC 788 dL_law_763 (by decide) (by first | (with_reducible assumption) | (unfold IR; omega) | (unfold IR at *; omega)) (fun h763 => ?_) (fun h763 => ?_)
        · skip
          exact kj763
        refine P_iload XC dL_law_766 rfl ?_
        refine P_iconst XC dL_law_768 ?_
        refine P_iand XC dL_law_769 ?_
        refine P_any (fun z769 hz769 ez769 => ?_)
        refine P_if_le XC 788 dL_law_770 (by decide) (by first | (with_reducible assumption) | (unfold IR; omega) | (unfold IR at *; omega)) (fun h770 => ?_) (fun h770 => ?_)
        · skip
          exact kj763
        have hk := hkn (by omega)
        refine P_aload_n XC 1 rfl dL_law_773 rfl ?_
        refine P_iload XC dL_law_774 rfl ?_
        refine P_X7_remove XC (by first | (with_reducible assumption) | (unfold IR; omega) | (unfold IR at *; omega)) gL_law_X7_remove ⟨⟨(Nat.le_of_ble_eq_true rfl), (Nat.le_of_ble_eq_true rfl)⟩, (Nat.le_of_ble_eq_true rfl), (Nat.le_of_ble_eq_true rfl)⟩ (Nat.le_of_ble_eq_true rfl) dL_law_776 ?_
        rw [show removeS σ.1.1 (k : Int) = ((σ.1.1.length : Int) - 1, some (σ.1.1.eraseIdx k)) by unfold removeS; rw [if_neg (has_k hk), Int.toNat_natCast]]
        refine P_top (y := (σ.1.1.length : Int) - 1) rfl ?_
        try dsimp only
        generalize hτ : ((actS σ.1 (some (σ.1.1.eraseIdx k)), σ.2.1, σ.2.2.1, σ.2.2.2) : PS) = τ2
        have hfin : (∃ o, τ2.1 = actS σ.1 o) ∧ τ2.2.1 = [] ∧ τ2.2.2.2 = σ.2.2.2 := by rw [← hτ]; exact ⟨⟨some (σ.1.1.eraseIdx k), rfl⟩, hB, rfl⟩
        refine P_iload XC dL_law_779 rfl ?_
        refine P_iconst XC dL_law_781 ?_
        refine P_isub XC dL_law_782 ?_
        refine P_icmp_eq XC 832 dL_law_783 (by decide) (by first | (with_reducible assumption) | (unfold IR; omega) | (unfold IR at *; omega)) (by first | (with_reducible assumption) | (unfold IR; omega) | (unfold IR at *; omega)) (fun h783 => ?_) (fun h783 => ?_)
        rotate_left
        · exfalso
          omega
        refine P_kill 6 ?_
        refine P_kill 8 ?_
        refine P_kill 11 ?_
        refine P_kill 12 ?_
        refine P_kill 13 ?_
        refine P_kill 14 ?_
        refine P_kill 15 ?_
        refine P_kill 16 ?_
        refine P_kill 17 ?_
        dsimp only [List.set]
        refine KT _ _ ?_
        first | exact hfin | exact ⟨hfo, rfl, hfg⟩ | exact ⟨⟨_, rfl⟩, hB, rfl⟩ | exact ⟨⟨none, rfl⟩, hB, rfl⟩ | exact ⟨⟨none, rfl⟩, rfl, rfl⟩
      try dsimp only [List.drop]
      refine P_iload_n XC 2 rfl dL_law_788 rfl ?_
      refine P_istore XC dL_law_789 rfl (by decide) ?_
      dsimp only [List.set]
      refine P_iload XC dL_law_791 rfl ?_
      refine P_iconst XC dL_law_793 ?_
      refine P_ishr XC dL_law_794 ?_
      refine P_any (fun z794 hz794 ez794 => ?_)
      refine P_bipush XC dL_law_795 (by decide) ?_
      refine P_call (rest := _) XC (c_L_low l D kI kC pa pg pw _ _ _ hz794 (by decide)) gL_law_L_low rfl kmL_low ⟨⟨(Nat.le_of_ble_eq_true rfl), (Nat.le_of_ble_eq_true rfl)⟩, (Nat.le_of_ble_eq_true rfl), (Nat.le_of_ble_eq_true rfl)⟩ ⟨rfl, rfl⟩ rfl rfl (Nat.le_of_ble_eq_true rfl) dL_law_797 (kS_of (fun r797 hr797 => ?_))
      dsimp only [Option.toList, List.cons_append, List.nil_append]
      refine P_istore_n XC 2 rfl dL_law_800 rfl (by decide) ?_
      dsimp only [List.set]
      refine P_aload_n XC 1 rfl dL_law_801 rfl ?_
      refine P_iload_n XC 2 rfl dL_law_802 rfl ?_
      refine P_X7_setGap XC (by first | (with_reducible assumption) | (unfold IR; omega) | (unfold IR at *; omega)) gL_law_X7_setGap ⟨⟨(Nat.le_of_ble_eq_true rfl), (Nat.le_of_ble_eq_true rfl)⟩, (Nat.le_of_ble_eq_true rfl), (Nat.le_of_ble_eq_true rfl)⟩ (Nat.le_of_ble_eq_true rfl) dL_law_803 ?_
      rw [if_neg (show ¬ inR r797 0 500 = false by unfold inR; simp only [decide_eq_false_iff_not]; omega), if_neg (show ¬ inR r797 0 500 = false by unfold inR; simp only [decide_eq_false_iff_not]; omega)]
      refine P_iload XC dL_law_806 rfl ?_
      refine P_icmp_ne XC 830 dL_law_808 (by decide) (by first | (with_reducible assumption) | (unfold IR; omega) | (unfold IR at *; omega)) (by first | (with_reducible assumption) | (unfold IR; omega) | (unfold IR at *; omega)) (fun h808 => ?_) (fun h808 => ?_)
      · exfalso
        omega
      refine P_aload_n XC 1 rfl dL_law_811 rfl ?_
      refine P_bipush XC dL_law_812 (by decide) ?_
      refine P_X7_count XC (by first | (with_reducible assumption) | (unfold IR; omega) | (unfold IR at *; omega)) gL_law_X7_count ⟨⟨(Nat.le_of_ble_eq_true rfl), (Nat.le_of_ble_eq_true rfl)⟩, (Nat.le_of_ble_eq_true rfl), (Nat.le_of_ble_eq_true rfl)⟩ (Nat.le_of_ble_eq_true rfl) dL_law_814 (fun r814 hr814 => ?_)
      have hc10 : r814 = r797 := cn_10 hr814
      subst hc10
      refine P_iload_n XC 2 rfl dL_law_817 rfl ?_
      refine P_icmp_ne XC 830 dL_law_818 (by decide) (by first | (with_reducible assumption) | (unfold IR; omega) | (unfold IR at *; omega)) (by first | (with_reducible assumption) | (unfold IR; omega) | (unfold IR at *; omega)) (fun h818 => ?_) (fun h818 => ?_)
      · exfalso
        omega
      refine P_aload_n XC 1 rfl dL_law_821 rfl ?_
      refine P_iload XC dL_law_822 rfl ?_
      refine P_call (rest := _) XC (c_L_texts l D kI kC pa pg pw _ _ hz67) gL_law_L_texts rfl kmL_texts ⟨⟨(Nat.le_of_ble_eq_true rfl), (Nat.le_of_ble_eq_true rfl)⟩, (Nat.le_of_ble_eq_true rfl), (Nat.le_of_ble_eq_true rfl)⟩ ⟨rfl, rfl⟩ rfl rfl (Nat.le_of_ble_eq_true rfl) dL_law_824 (kT_of (fun r824 σ2 hr824 => ?_))
      dsimp only [Option.toList, List.cons_append, List.nil_append]
      obtain ⟨rfl, X2, rfl⟩ := hr824
      try dsimp only
      refine P_if_ne XC 832 dL_law_827 (by decide) ⟨by decide, by decide⟩ (fun h827 => ?_) (fun h827 => absurd h827 (by decide))
      refine P_kill 6 ?_
      refine P_kill 8 ?_
      refine P_kill 11 ?_
      refine P_kill 12 ?_
      refine P_kill 13 ?_
      refine P_kill 14 ?_
      refine P_kill 15 ?_
      refine P_kill 16 ?_
      refine P_kill 17 ?_
      dsimp only [List.set]
      refine KT _ _ ?_
      first | exact hfin | exact ⟨hfo, rfl, hfg⟩ | exact ⟨⟨_, rfl⟩, hB, rfl⟩ | exact ⟨⟨none, rfl⟩, hB, rfl⟩ | exact ⟨⟨none, rfl⟩, rfl, rfl⟩
    refine P_iload XC dL_law_307 rfl ?_
    refine P_merge (J := fun z => 0 ≤ z ∧ z ≤ 1 ∧ (z = 1 → 0 < σ.1.1.length)) 324 1 (fun kj309 => ?_) (fun z309 hz309 => ?_)
    · try dsimp only [List.drop] at kj309
      refine P_if_le XC 323 dL_law_309 (by decide) (by first | (with_reducible assumption) | (unfold IR; omega) | (unfold IR at *; omega)) (fun h309 => ?_) (fun h309 => ?_)
      · skip
        refine P_iconst XC dL_law_323 ?_
        exact kj309 _ (by (try dsimp only); omega)
      refine P_iload XC dL_law_312 rfl ?_
      refine P_iconst XC dL_law_314 ?_
      refine P_iand XC dL_law_315 ?_
      refine P_any (fun z315 hz315 ez315 => ?_)
      refine P_if_ne XC 323 dL_law_316 (by decide) (by first | (with_reducible assumption) | (unfold IR; omega) | (unfold IR at *; omega)) (fun h316 => ?_) (fun h316 => ?_)
      · skip
        refine P_iconst XC dL_law_323 ?_
        exact kj309 _ (by (try dsimp only); omega)
      refine P_iconst XC dL_law_319 ?_
      refine P_goto XC 324 dL_law_320 (by decide) ?_
      exact kj309 _ (by (try dsimp only); omega)
    try dsimp only [List.drop]
    try dsimp only at hz309
    refine P_istore XC dL_law_324 rfl (by decide) ?_
    dsimp only [List.set]
    refine P_aload_n XC 1 rfl dL_law_326 rfl ?_
    refine P_iload XC dL_law_327 rfl ?_
    refine P_merge (J := fun z => 0 ≤ z ∧ z ≤ 1000) 351 1 (fun kj329 => ?_) (fun z329 hz329 => ?_)
    · try dsimp only [List.drop] at kj329
      refine P_if_eq XC 343 dL_law_329 (by decide) (by first | (with_reducible assumption) | (unfold IR; omega) | (unfold IR at *; omega)) (fun h329 => ?_) (fun h329 => ?_)
      · skip
        refine P_iload XC dL_law_343 rfl ?_
        refine P_sipush XC dL_law_345 (by decide) ?_
        refine P_call (rest := _) XC (c_L_low l D kI kC pa pg pw _ _ _ hz34 (by decide)) gL_law_L_low rfl kmL_low ⟨⟨(Nat.le_of_ble_eq_true rfl), (Nat.le_of_ble_eq_true rfl)⟩, (Nat.le_of_ble_eq_true rfl), (Nat.le_of_ble_eq_true rfl)⟩ ⟨rfl, rfl⟩ rfl rfl (Nat.le_of_ble_eq_true rfl) dL_law_348 (kS_of (fun r348 hr348 => ?_))
        dsimp only [Option.toList, List.cons_append, List.nil_append]
        exact kj329 _ (by (try dsimp only); omega)
      have hk := hkn (by omega)
      have hz := ok_sz hS hk
      have hxy := ok_xy hS hk (i := 0) (by omega)
      refine P_aload_n XC 1 rfl dL_law_332 rfl ?_
      refine P_iload XC dL_law_333 rfl ?_
      refine P_iconst XC dL_law_335 ?_
      refine P_iconst XC dL_law_336 ?_
      refine P_X7_point XC (by first | (with_reducible assumption) | (unfold IR; omega) | (unfold IR at *; omega)) (by first | (with_reducible assumption) | (unfold IR; omega) | (unfold IR at *; omega)) (by first | (with_reducible assumption) | (unfold IR; omega) | (unfold IR at *; omega)) gL_law_X7_point ⟨⟨(Nat.le_of_ble_eq_true rfl), (Nat.le_of_ble_eq_true rfl)⟩, (Nat.le_of_ble_eq_true rfl), (Nat.le_of_ble_eq_true rfl)⟩ (Nat.le_of_ble_eq_true rfl) dL_law_337 ?_
      refine P_top (y := px (gk σ.1.1 k) 0) (pt_0 (i := 0) hk (by omega)) ?_
      refine P_goto XC 351 dL_law_340 (by decide) ?_
      exact kj329 _ (by (try dsimp only); omega)
    try dsimp only [List.drop]
    try dsimp only at hz329
    refine P_iload XC dL_law_351 rfl ?_
    refine P_merge (J := fun z => 0 ≤ z ∧ z ≤ 1000) 378 1 (fun kj353 => ?_) (fun z353 hz353 => ?_)
    · try dsimp only [List.drop] at kj353
      refine P_if_eq XC 367 dL_law_353 (by decide) (by first | (with_reducible assumption) | (unfold IR; omega) | (unfold IR at *; omega)) (fun h353 => ?_) (fun h353 => ?_)
      · skip
        refine P_iload XC dL_law_367 rfl ?_
        refine P_bipush XC dL_law_369 (by decide) ?_
        refine P_ishr XC dL_law_371 ?_
        refine P_any (fun z371 hz371 ez371 => ?_)
        refine P_sipush XC dL_law_372 (by decide) ?_
        refine P_call (rest := _) XC (c_L_low l D kI kC pa pg pw _ _ _ hz371 (by decide)) gL_law_L_low rfl kmL_low ⟨⟨(Nat.le_of_ble_eq_true rfl), (Nat.le_of_ble_eq_true rfl)⟩, (Nat.le_of_ble_eq_true rfl), (Nat.le_of_ble_eq_true rfl)⟩ ⟨rfl, rfl⟩ rfl rfl (Nat.le_of_ble_eq_true rfl) dL_law_375 (kS_of (fun r375 hr375 => ?_))
        dsimp only [Option.toList, List.cons_append, List.nil_append]
        exact kj353 _ (by (try dsimp only); omega)
      have hk := hkn (by omega)
      have hz := ok_sz hS hk
      have hxy := ok_xy hS hk (i := 0) (by omega)
      refine P_aload_n XC 1 rfl dL_law_356 rfl ?_
      refine P_iload XC dL_law_357 rfl ?_
      refine P_iconst XC dL_law_359 ?_
      refine P_iconst XC dL_law_360 ?_
      refine P_X7_point XC (by first | (with_reducible assumption) | (unfold IR; omega) | (unfold IR at *; omega)) (by first | (with_reducible assumption) | (unfold IR; omega) | (unfold IR at *; omega)) (by first | (with_reducible assumption) | (unfold IR; omega) | (unfold IR at *; omega)) gL_law_X7_point ⟨⟨(Nat.le_of_ble_eq_true rfl), (Nat.le_of_ble_eq_true rfl)⟩, (Nat.le_of_ble_eq_true rfl), (Nat.le_of_ble_eq_true rfl)⟩ (Nat.le_of_ble_eq_true rfl) dL_law_361 ?_
      refine P_top (y := py (gk σ.1.1 k) 0) (pt_1 (i := 0) hk (by omega)) ?_
      refine P_goto XC 378 dL_law_364 (by decide) ?_
      exact kj353 _ (by (try dsimp only); omega)
    try dsimp only [List.drop]
    try dsimp only at hz353
    refine P_iload XC dL_law_378 rfl ?_
    refine P_bipush XC dL_law_380 (by decide) ?_
    refine P_ishr XC dL_law_382 ?_
    refine P_any (fun z382 hz382 ez382 => ?_)
    refine P_bipush XC dL_law_383 (by decide) ?_
    refine P_call (rest := _) XC (c_L_low l D kI kC pa pg pw _ _ _ hz382 (by decide)) gL_law_L_low rfl kmL_low ⟨⟨(Nat.le_of_ble_eq_true rfl), (Nat.le_of_ble_eq_true rfl)⟩, (Nat.le_of_ble_eq_true rfl), (Nat.le_of_ble_eq_true rfl)⟩ ⟨rfl, rfl⟩ rfl rfl (Nat.le_of_ble_eq_true rfl) dL_law_385 (kS_of (fun r385 hr385 => ?_))
    dsimp only [Option.toList, List.cons_append, List.nil_append]
    refine P_call (rest := _) XC (c_L_rubs l D kI kC pa pg pw σ _ _ _ (by omega) (by omega) (by omega)) gL_law_L_rubs rfl kmL_rubs ⟨⟨(Nat.le_of_ble_eq_true rfl), (Nat.le_of_ble_eq_true rfl)⟩, (Nat.le_of_ble_eq_true rfl), (Nat.le_of_ble_eq_true rfl)⟩ ⟨rfl, rfl⟩ rfl rfl (Nat.le_of_ble_eq_true rfl) dL_law_388 (kT_of (fun r388 σ2 hr388 => ?_))
    dsimp only [Option.toList, List.cons_append, List.nil_append]
    obtain ⟨rfl, o, rfl⟩ := hr388
    refine P_if_ne XC 396 dL_law_391 (by decide) ⟨by decide, by decide⟩ (fun h391 => ?_) (fun h391 => absurd h391 (by decide))
    refine P_goto XC 832 dL_law_396 (by decide) ?_
    refine P_kill 6 ?_
    refine P_kill 8 ?_
    refine P_kill 11 ?_
    refine P_kill 12 ?_
    refine P_kill 13 ?_
    refine P_kill 14 ?_
    refine P_kill 15 ?_
    refine P_kill 16 ?_
    refine P_kill 17 ?_
    dsimp only [List.set]
    refine KT _ _ ?_
    first | exact hfin | exact ⟨hfo, rfl, hfg⟩ | exact ⟨⟨_, rfl⟩, hB, rfl⟩ | exact ⟨⟨none, rfl⟩, hB, rfl⟩ | exact ⟨⟨none, rfl⟩, rfl, rfl⟩
  refine P_iconst XC dL_law_100 ?_
  refine P_iload XC dL_law_101 rfl ?_
  refine P_bipush XC dL_law_103 (by decide) ?_
  refine P_call (rest := _) XC (c_L_low l D kI kC pa pg pw _ _ _ hz67 (by decide)) gL_law_L_low rfl kmL_low ⟨⟨(Nat.le_of_ble_eq_true rfl), (Nat.le_of_ble_eq_true rfl)⟩, (Nat.le_of_ble_eq_true rfl), (Nat.le_of_ble_eq_true rfl)⟩ ⟨rfl, rfl⟩ rfl rfl (Nat.le_of_ble_eq_true rfl) dL_law_105 (kS_of (fun r105 hr105 => ?_))
  dsimp only [Option.toList, List.cons_append, List.nil_append]
  refine P_iadd XC dL_law_108 ?_
  obtain ⟨m, hm⟩ : ∃ m : Nat, (m : Int) = 1 + r105 := ⟨(1 + r105).toNat, by omega⟩
  rw [← hm]
  have hm9 : 1 ≤ m ∧ m ≤ 9 := by omega
  refine P_istore XC dL_law_109 rfl (by decide) ?_
  dsimp only [List.set]
  refine P_iload XC dL_law_111 rfl ?_
  refine P_sipush XC dL_law_113 (by decide) ?_
  refine P_call (rest := _) XC (c_L_low l D kI kC pa pg pw _ _ _ hz34 (by decide)) gL_law_L_low rfl kmL_low ⟨⟨(Nat.le_of_ble_eq_true rfl), (Nat.le_of_ble_eq_true rfl)⟩, (Nat.le_of_ble_eq_true rfl), (Nat.le_of_ble_eq_true rfl)⟩ ⟨rfl, rfl⟩ rfl rfl (Nat.le_of_ble_eq_true rfl) dL_law_116 (kS_of (fun r116 hr116 => ?_))
  dsimp only [Option.toList, List.cons_append, List.nil_append]
  refine P_istore XC dL_law_119 rfl (by decide) ?_
  dsimp only [List.set]
  refine P_iload XC dL_law_121 rfl ?_
  refine P_bipush XC dL_law_123 (by decide) ?_
  refine P_ishr XC dL_law_125 ?_
  refine P_any (fun z125 hz125 ez125 => ?_)
  refine P_sipush XC dL_law_126 (by decide) ?_
  refine P_call (rest := _) XC (c_L_low l D kI kC pa pg pw _ _ _ hz125 (by decide)) gL_law_L_low rfl kmL_low ⟨⟨(Nat.le_of_ble_eq_true rfl), (Nat.le_of_ble_eq_true rfl)⟩, (Nat.le_of_ble_eq_true rfl), (Nat.le_of_ble_eq_true rfl)⟩ ⟨rfl, rfl⟩ rfl rfl (Nat.le_of_ble_eq_true rfl) dL_law_129 (kS_of (fun r129 hr129 => ?_))
  dsimp only [Option.toList, List.cons_append, List.nil_append]
  refine P_istore XC dL_law_132 rfl (by decide) ?_
  dsimp only [List.set]
  refine P_iconst XC dL_law_134 ?_
  refine P_istore XC dL_law_135 rfl (by decide) ?_
  dsimp only [List.set]
  refine P_kill 15 ?_
  dsimp only [List.set]
  refine P_kill 16 ?_
  dsimp only [List.set]
  refine P_kill 17 ?_
  dsimp only [List.set]
  refine P_loop (τ := Nat × PS × Int × Int) (fun u => m - u.1) (fun u => u.1 ≤ m ∧ u.2.1.1 = σ.1 ∧ u.2.1.2.2.2 = σ.2.2.2 ∧ (0 ≤ u.2.2.1 ∧ u.2.2.1 ≤ 1000) ∧ (0 ≤ u.2.2.2 ∧ u.2.2.2 ≤ 1000) ∧ (0 < u.1 → 1 ≤ u.2.1.2.1.length)) (fun u => [some (.ref sc), some (.ref (pa 0)), some (.int (iI σ.2.2.2)), some (.int (iI (e : Int))), some (.int (iI z67)), some (.int (iI z34)), some (.int (iI (σ.1.1.length : Int))), some (.int (iI z48)), some (.int (iI (k : Int))), some (.long (hsS σ.1.1)), none, some (.int (iI (m : Int))), some (.int (iI u.2.2.1)), some (.int (iI u.2.2.2)), some (.int (iI (u.1 : Int))), none, none, none]) (fun u => u.2.1) (0, σ, _, _) ⟨Nat.zero_le _, rfl, rfl, by (try dsimp only); omega, by (try dsimp only); omega, fun z => absurd z (Nat.lt_irrefl 0)⟩ rfl rfl (fun u hJ ih137 => ?_)
  obtain ⟨p, τ, x, y⟩ := u
  try dsimp only at hJ ih137 ⊢
  obtain ⟨hpm, ht1, htg, hx, hy, hbl1⟩ := hJ
  refine P_ok (fun hokt => ?_)
  have h24 := hokt.1.1
  refine P_iload XC dL_law_137 rfl ?_
  refine P_iload XC dL_law_139 rfl ?_
  refine P_icmp_ge XC 211 dL_law_141 (by decide) (by first | (with_reducible assumption) | (unfold IR; omega) | (unfold IR at *; omega)) (by first | (with_reducible assumption) | (unfold IR; omega) | (unfold IR at *; omega)) (fun h141 => ?_) (fun h141 => ?_)
  · skip
    have hpe : p = m := by omega
    subst hpe
    have hb1 := hbl1 (by omega)
    refine P_aload_n XC 1 rfl dL_law_211 rfl ?_
    refine P_bipush XC dL_law_212 (by decide) ?_
    refine P_X7_count XC (by first | (with_reducible assumption) | (unfold IR; omega) | (unfold IR at *; omega)) gL_law_X7_count ⟨⟨(Nat.le_of_ble_eq_true rfl), (Nat.le_of_ble_eq_true rfl)⟩, (Nat.le_of_ble_eq_true rfl), (Nat.le_of_ble_eq_true rfl)⟩ (Nat.le_of_ble_eq_true rfl) dL_law_214 (fun r214 hr214 => ?_)
    have hc7 : r214 = (τ.2.1.length : Int) := cn_7 hr214
    subst hc7
    refine P_istore XC dL_law_217 rfl (by decide) ?_
    dsimp only [List.set]
    refine P_aload_n XC 1 rfl dL_law_219 rfl ?_
    refine P_iload XC dL_law_220 rfl ?_
    refine P_iconst XC dL_law_222 ?_
    refine P_ishr XC dL_law_223 ?_
    refine P_any (fun z223 hz223 ez223 => ?_)
    refine P_iconst XC dL_law_224 ?_
    refine P_call (rest := _) XC (c_L_low l D kI kC pa pg pw _ _ _ hz223 (by decide)) gL_law_L_low rfl kmL_low ⟨⟨(Nat.le_of_ble_eq_true rfl), (Nat.le_of_ble_eq_true rfl)⟩, (Nat.le_of_ble_eq_true rfl), (Nat.le_of_ble_eq_true rfl)⟩ ⟨rfl, rfl⟩ rfl rfl (Nat.le_of_ble_eq_true rfl) dL_law_225 (kS_of (fun r225 hr225 => ?_))
    dsimp only [Option.toList, List.cons_append, List.nil_append]
    refine P_X7_draw XC (by first | (with_reducible assumption) | (unfold IR; omega) | (unfold IR at *; omega)) gL_law_X7_draw ⟨⟨(Nat.le_of_ble_eq_true rfl), (Nat.le_of_ble_eq_true rfl)⟩, (Nat.le_of_ble_eq_true rfl), (Nat.le_of_ble_eq_true rfl)⟩ (Nat.le_of_ble_eq_true rfl) dL_law_228 ?_
    have hdr : drawS τ.1.1 τ.2.1 r225 = (if 16 ≤ σ.1.1.length then (-3, none) else ((σ.1.1.length : Int), some (σ.1.1 ++ [(r225, τ.2.1)]))) := by
      unfold drawS
      rw [if_neg (by unfold inR; simp only [decide_eq_false_iff_not]; omega), if_neg (by omega), ht1]
    generalize hdv : drawS τ.1.1 τ.2.1 r225 = dv at *
    generalize hτ : ((actS τ.1 dv.2, (if dv.2 = none then τ.2.1 else []), τ.2.2.1, τ.2.2.2) : PS) = τ2
    have hfo : ∃ o, τ2.1 = actS σ.1 o := ⟨dv.2, by rw [← hτ, ht1]⟩
    have hfg : τ2.2.2.2 = σ.2.2.2 := by rw [← hτ]; exact htg
    have hdc : (16 ≤ σ.1.1.length ∧ dv.1 = -3 ∧ τ2.2.1 = τ.2.1) ∨ (σ.1.1.length < 16 ∧ dv.1 = (σ.1.1.length : Int) ∧ τ2.2.1 = [] ∧ τ2.1.1 = σ.1.1 ++ [(r225, τ.2.1)]) := by
      by_cases q : 16 ≤ σ.1.1.length
      · rw [if_pos q] at hdr
        subst hdr
        exact Or.inl ⟨q, rfl, by rw [← hτ]; rfl⟩
      · rw [if_neg q] at hdr
        subst hdr
        exact Or.inr ⟨by omega, rfl, by rw [← hτ]; rfl, by rw [← hτ, ht1]; rfl⟩
    have hdz : (16 ≤ σ.1.1.length ∧ dv.1 = -3) ∨ (σ.1.1.length < 16 ∧ dv.1 = (σ.1.1.length : Int)) := by
      rcases hdc with ⟨a, b, _⟩ | ⟨a, b, _⟩
      · exact Or.inl ⟨a, b⟩
      · exact Or.inr ⟨a, b⟩
    refine P_istore XC dL_law_231 rfl (by decide) ?_
    dsimp only [List.set]
    refine P_iload XC dL_law_233 rfl ?_
    refine P_iload XC dL_law_235 rfl ?_
    refine P_bipush XC dL_law_237 (by decide) ?_
    refine P_merge (J := fun z => z = dv.1) 249 2 (fun kj239 => ?_) (fun z239 hz239 => ?_)
    · try dsimp only [List.drop] at kj239
      refine P_icmp_ne XC 247 dL_law_239 (by decide) (by first | (with_reducible assumption) | (unfold IR; omega) | (unfold IR at *; omega)) (by first | (with_reducible assumption) | (unfold IR; omega) | (unfold IR at *; omega)) (fun h239 => ?_) (fun h239 => ?_)
      · skip
        refine P_iload XC dL_law_247 rfl ?_
        exact kj239 _ (by (try dsimp only); omega)
      refine P_bipush XC dL_law_242 (by decide) ?_
      refine P_goto XC 249 dL_law_244 (by decide) ?_
      exact kj239 _ (by (try dsimp only); omega)
    try dsimp only [List.drop]
    try dsimp only at hz239
    subst hz239
    refine P_icmp_ne XC 296 dL_law_249 (by decide) (by first | (with_reducible assumption) | (unfold IR; omega) | (unfold IR at *; omega)) (by first | (with_reducible assumption) | (unfold IR; omega) | (unfold IR at *; omega)) (fun h249 => ?_) (fun h249 => ?_)
    · exfalso
      omega
    refine P_iload XC dL_law_252 rfl ?_
    refine P_bipush XC dL_law_254 (by decide) ?_
    refine P_icmp_ge XC 280 dL_law_256 (by decide) (by first | (with_reducible assumption) | (unfold IR; omega) | (unfold IR at *; omega)) (by first | (with_reducible assumption) | (unfold IR; omega) | (unfold IR at *; omega)) (fun h256 => ?_) (fun h256 => ?_)
    · skip
      refine P_iload XC dL_law_280 rfl ?_
      refine P_bipush XC dL_law_282 (by decide) ?_
      refine P_icmp_ne XC 298 dL_law_284 (by decide) (by first | (with_reducible assumption) | (unfold IR; omega) | (unfold IR at *; omega)) (by first | (with_reducible assumption) | (unfold IR; omega) | (unfold IR at *; omega)) (fun h284 => ?_) (fun h284 => ?_)
      · skip
        have hfin : (∃ o, τ2.1 = actS σ.1 o) ∧ τ2.2.1 = [] ∧ τ2.2.2.2 = σ.2.2.2 := ⟨hfo, by
          rcases hdc with ⟨a, _⟩ | ⟨_, _, a, _⟩
          · omega
          · exact a, hfg⟩
        refine P_goto XC 832 dL_law_298 (by decide) ?_
        refine P_kill 6 ?_
        refine P_kill 8 ?_
        refine P_kill 11 ?_
        refine P_kill 12 ?_
        refine P_kill 13 ?_
        refine P_kill 14 ?_
        refine P_kill 15 ?_
        refine P_kill 16 ?_
        refine P_kill 17 ?_
        dsimp only [List.set]
        refine KT _ _ ?_
        first | exact hfin | exact ⟨hfo, rfl, hfg⟩ | exact ⟨⟨_, rfl⟩, hB, rfl⟩ | exact ⟨⟨none, rfl⟩, hB, rfl⟩ | exact ⟨⟨none, rfl⟩, rfl, rfl⟩
      have hd5 : τ2.2.1 = τ.2.1 := by
        rcases hdc with ⟨_, _, a⟩ | ⟨a, _⟩
        · exact a
        · omega
      refine P_aload_n XC 1 rfl dL_law_287 rfl ?_
      refine P_X7_clearPoints XC  gL_law_X7_clearPoints ⟨⟨(Nat.le_of_ble_eq_true rfl), (Nat.le_of_ble_eq_true rfl)⟩, (Nat.le_of_ble_eq_true rfl), (Nat.le_of_ble_eq_true rfl)⟩ (Nat.le_of_ble_eq_true rfl) dL_law_288 ?_
      refine P_top (y := (τ.2.1.length : Int)) (by rw [hd5]) ?_
      refine P_iload XC dL_law_291 rfl ?_
      refine P_icmp_eq XC 298 dL_law_293 (by decide) (by first | (with_reducible assumption) | (unfold IR; omega) | (unfold IR at *; omega)) (by first | (with_reducible assumption) | (unfold IR; omega) | (unfold IR at *; omega)) (fun h293 => ?_) (fun h293 => ?_)
      rotate_left
      · exfalso
        omega
      refine P_goto XC 832 dL_law_298 (by decide) ?_
      refine P_kill 6 ?_
      refine P_kill 8 ?_
      refine P_kill 11 ?_
      refine P_kill 12 ?_
      refine P_kill 13 ?_
      refine P_kill 14 ?_
      refine P_kill 15 ?_
      refine P_kill 16 ?_
      refine P_kill 17 ?_
      dsimp only [List.set]
      refine KT _ _ ?_
      first | exact hfin | exact ⟨hfo, rfl, hfg⟩ | exact ⟨⟨_, rfl⟩, hB, rfl⟩ | exact ⟨⟨none, rfl⟩, hB, rfl⟩ | exact ⟨⟨none, rfl⟩, rfl, rfl⟩
    obtain ⟨_, _, hd3, hd4⟩ := hdc.resolve_left (fun z => by omega)
    have hfin : (∃ o, τ2.1 = actS σ.1 o) ∧ τ2.2.1 = [] ∧ τ2.2.2.2 = σ.2.2.2 := ⟨hfo, hd3, hfg⟩
    have hl2 : σ.1.1.length < τ2.1.1.length := by rw [hd4, List.length_append, List.length_singleton]; omega
    have hgk2 : gk τ2.1.1 σ.1.1.length = (r225, τ.2.1) := by rw [hd4]; unfold gk; rw [List.getD_eq_getElem?_getD, List.getElem?_append_right (Nat.le_refl _), Nat.sub_self]; rfl
    refine P_aload_n XC 1 rfl dL_law_259 rfl ?_
    refine P_iload XC dL_law_260 rfl ?_
    refine P_iconst XC dL_law_262 ?_
    refine P_X7_stroke XC (by first | (with_reducible assumption) | (unfold IR; omega) | (unfold IR at *; omega)) (by first | (with_reducible assumption) | (unfold IR; omega) | (unfold IR at *; omega)) gL_law_X7_stroke ⟨⟨(Nat.le_of_ble_eq_true rfl), (Nat.le_of_ble_eq_true rfl)⟩, (Nat.le_of_ble_eq_true rfl), (Nat.le_of_ble_eq_true rfl)⟩ (Nat.le_of_ble_eq_true rfl) dL_law_263 ?_
    refine P_top (y := (τ.2.1.length : Int)) ((st_1 hl2).trans (by rw [hgk2]; rfl)) ?_
    refine P_iload XC dL_law_266 rfl ?_
    refine P_icmp_ne XC 296 dL_law_268 (by decide) (by first | (with_reducible assumption) | (unfold IR; omega) | (unfold IR at *; omega)) (by first | (with_reducible assumption) | (unfold IR; omega) | (unfold IR at *; omega)) (fun h268 => ?_) (fun h268 => ?_)
    · exfalso
      omega
    refine P_aload_n XC 1 rfl dL_law_271 rfl ?_
    refine P_bipush XC dL_law_272 (by decide) ?_
    refine P_X7_count XC (by first | (with_reducible assumption) | (unfold IR; omega) | (unfold IR at *; omega)) gL_law_X7_count ⟨⟨(Nat.le_of_ble_eq_true rfl), (Nat.le_of_ble_eq_true rfl)⟩, (Nat.le_of_ble_eq_true rfl), (Nat.le_of_ble_eq_true rfl)⟩ (Nat.le_of_ble_eq_true rfl) dL_law_274 (fun r274 hr274 => ?_)
    have hc7 : r274 = 0 := by
      have := cn_7 hr274
      rw [this, hd3]
      rfl
    subst hc7
    refine P_if_ne XC 296 dL_law_277 (by decide) (by first | (with_reducible assumption) | (unfold IR; omega) | (unfold IR at *; omega)) (fun h277 => ?_) (fun h277 => ?_)
    · exfalso
      omega
    refine P_iload XC dL_law_280 rfl ?_
    refine P_bipush XC dL_law_282 (by decide) ?_
    refine P_icmp_ne XC 298 dL_law_284 (by decide) (by first | (with_reducible assumption) | (unfold IR; omega) | (unfold IR at *; omega)) (by first | (with_reducible assumption) | (unfold IR; omega) | (unfold IR at *; omega)) (fun h284 => ?_) (fun h284 => ?_)
    · skip
      have hfin : (∃ o, τ2.1 = actS σ.1 o) ∧ τ2.2.1 = [] ∧ τ2.2.2.2 = σ.2.2.2 := ⟨hfo, by
        rcases hdc with ⟨a, _⟩ | ⟨_, _, a, _⟩
        · omega
        · exact a, hfg⟩
      refine P_goto XC 832 dL_law_298 (by decide) ?_
      refine P_kill 6 ?_
      refine P_kill 8 ?_
      refine P_kill 11 ?_
      refine P_kill 12 ?_
      refine P_kill 13 ?_
      refine P_kill 14 ?_
      refine P_kill 15 ?_
      refine P_kill 16 ?_
      refine P_kill 17 ?_
      dsimp only [List.set]
      refine KT _ _ ?_
      first | exact hfin | exact ⟨hfo, rfl, hfg⟩ | exact ⟨⟨_, rfl⟩, hB, rfl⟩ | exact ⟨⟨none, rfl⟩, hB, rfl⟩ | exact ⟨⟨none, rfl⟩, rfl, rfl⟩
    have hd5 : τ2.2.1 = τ.2.1 := by
      rcases hdc with ⟨_, _, a⟩ | ⟨a, _⟩
      · exact a
      · omega
    refine P_aload_n XC 1 rfl dL_law_287 rfl ?_
    refine P_X7_clearPoints XC  gL_law_X7_clearPoints ⟨⟨(Nat.le_of_ble_eq_true rfl), (Nat.le_of_ble_eq_true rfl)⟩, (Nat.le_of_ble_eq_true rfl), (Nat.le_of_ble_eq_true rfl)⟩ (Nat.le_of_ble_eq_true rfl) dL_law_288 ?_
    refine P_top (y := (τ.2.1.length : Int)) (by rw [hd5]) ?_
    refine P_iload XC dL_law_291 rfl ?_
    refine P_icmp_eq XC 298 dL_law_293 (by decide) (by first | (with_reducible assumption) | (unfold IR; omega) | (unfold IR at *; omega)) (by first | (with_reducible assumption) | (unfold IR; omega) | (unfold IR at *; omega)) (fun h293 => ?_) (fun h293 => ?_)
    rotate_left
    · exfalso
      omega
    refine P_goto XC 832 dL_law_298 (by decide) ?_
    refine P_kill 6 ?_
    refine P_kill 8 ?_
    refine P_kill 11 ?_
    refine P_kill 12 ?_
    refine P_kill 13 ?_
    refine P_kill 14 ?_
    refine P_kill 15 ?_
    refine P_kill 16 ?_
    refine P_kill 17 ?_
    dsimp only [List.set]
    refine KT _ _ ?_
    first | exact hfin | exact ⟨hfo, rfl, hfg⟩ | exact ⟨⟨_, rfl⟩, hB, rfl⟩ | exact ⟨⟨none, rfl⟩, hB, rfl⟩ | exact ⟨⟨none, rfl⟩, rfl, rfl⟩
  have hp2 : p < m := by omega
  refine P_aload_n XC 1 rfl dL_law_144 rfl ?_
  refine P_iload XC dL_law_145 rfl ?_
  refine P_iload XC dL_law_147 rfl ?_
  refine P_X7_put XC (by first | (with_reducible assumption) | (unfold IR; omega) | (unfold IR at *; omega)) (by first | (with_reducible assumption) | (unfold IR; omega) | (unfold IR at *; omega)) gL_law_X7_put ⟨⟨(Nat.le_of_ble_eq_true rfl), (Nat.le_of_ble_eq_true rfl)⟩, (Nat.le_of_ble_eq_true rfl), (Nat.le_of_ble_eq_true rfl)⟩ (Nat.le_of_ble_eq_true rfl) dL_law_149 ?_
  try dsimp only
  refine P_pop XC dL_law_152 rfl ?_
  refine P_iload XC dL_law_153 rfl ?_
  refine P_iload XC dL_law_155 rfl ?_
  refine P_iload XC dL_law_157 rfl ?_
  refine P_ishr XC dL_law_159 ?_
  refine P_any (fun z159 hz159 ez159 => ?_)
  refine P_bipush XC dL_law_160 (by decide) ?_
  refine P_call (rest := _) XC (c_L_low l D kI kC pa pg pw _ _ _ hz159 (by decide)) gL_law_L_low rfl kmL_low ⟨⟨(Nat.le_of_ble_eq_true rfl), (Nat.le_of_ble_eq_true rfl)⟩, (Nat.le_of_ble_eq_true rfl), (Nat.le_of_ble_eq_true rfl)⟩ ⟨rfl, rfl⟩ rfl rfl (Nat.le_of_ble_eq_true rfl) dL_law_162 (kS_of (fun r162 hr162 => ?_))
  dsimp only [Option.toList, List.cons_append, List.nil_append]
  refine P_iadd XC dL_law_165 ?_
  refine P_bipush XC dL_law_166 (by decide) ?_
  refine P_isub XC dL_law_168 ?_
  refine P_sipush XC dL_law_169 (by decide) ?_
  refine P_iadd XC dL_law_172 ?_
  refine P_sipush XC dL_law_173 (by decide) ?_
  refine P_irem XC dL_law_176 (by omega) (by omega) (by omega) (by omega) ?_

  refine P_istore XC dL_law_177 rfl (by decide) ?_
  dsimp only [List.set]
  refine P_iload XC dL_law_179 rfl ?_
  refine P_iload XC dL_law_181 rfl ?_
  refine P_iload XC dL_law_183 rfl ?_
  refine P_ishr XC dL_law_185 ?_
  refine P_any (fun z185 hz185 ez185 => ?_)
  refine P_bipush XC dL_law_186 (by decide) ?_
  refine P_call (rest := _) XC (c_L_low l D kI kC pa pg pw _ _ _ hz185 (by decide)) gL_law_L_low rfl kmL_low ⟨⟨(Nat.le_of_ble_eq_true rfl), (Nat.le_of_ble_eq_true rfl)⟩, (Nat.le_of_ble_eq_true rfl), (Nat.le_of_ble_eq_true rfl)⟩ ⟨rfl, rfl⟩ rfl rfl (Nat.le_of_ble_eq_true rfl) dL_law_188 (kS_of (fun r188 hr188 => ?_))
  dsimp only [Option.toList, List.cons_append, List.nil_append]
  refine P_iadd XC dL_law_191 ?_
  refine P_bipush XC dL_law_192 (by decide) ?_
  refine P_isub XC dL_law_194 ?_
  refine P_sipush XC dL_law_195 (by decide) ?_
  refine P_iadd XC dL_law_198 ?_
  refine P_sipush XC dL_law_199 (by decide) ?_
  refine P_irem XC dL_law_202 (by omega) (by omega) (by omega) (by omega) ?_

  refine P_istore XC dL_law_203 rfl (by decide) ?_
  dsimp only [List.set]
  refine P_iinc XC dL_law_205 rfl rfl (by decide) ?_
  dsimp only [List.set]
  refine P_goto XC 137 dL_law_208 (by decide) ?_
  refine ih137 (p + 1, _, _, _) ⟨by (try dsimp only); omega, ht1, htg, by (try dsimp only); omega, by (try dsimp only); omega, fun _ => ?_⟩ (by (try dsimp only); omega)
  exact put_pos hx hy

end LAW6
