/-! the V layer: making objects and rows, constructors, the script -/
section VNEW
variable {p : Program} {l : Launch} {e : Env} {R : Room} {s : State} {m : MethodId} {args : Array Value} {below : List Frame} {meth : Method} {c : Code} {cc : ByteArray} {nL : Nat} {own : String} {Ts : List Cond} {A : Nat → Prop} {D : va_G} {kI kC : ClassId} {Q : State → Prop} {cells slots pc : Nat} {lv : List (Option Value)} {st : List Value} {ws : va_W}
theorem V_new (X : Cx p R s m args meth c cc nL own Ts A D kI kC) {C : String} {T : u_T} {N ci index : Nat} {ty0 : Nat → FieldType} {fs : List Value} (hin : ∀ w ∈ u_ws C T N, w ∈ Ts) (hf : FP N T ty0) (hw : Cond.classLink own index C ∈ Ts ∧ Cond.instantiable C N ∈ Ts ∧ Cond.initialized C ∈ Ts) (hc : vwCl[ci]? = some (C, T, N)) (hfs : ∀ j, j < N → defaultValue (ty0 j) = vp_V fs j) (hcells : cells + 1 ≤ R.cells) (hslots : slots + N ≤ R.slots) (hdg : decode cc pc = .ok (.new index, 3))
    (k : ∀ q : Nat, VV p l e R s m args below meth c nL A D Q (cells + 1) (slots + N) (pc + 3) lv (.ref q :: st) (ws ++ [(q, .inr (ci, fs))])) : VV p l e R s m args below meth c nL A D Q cells slots pc lv st ws := by
  intro H locs ls hP hD hS hl
  exact va_new X.1 X.2.1 X.2.2.2.2.1 hin ty0 hf.1 X.2.2.2.1 (X.2.2.2.2.1 _ hw.1) (X.2.2.2.2.1 _ hw.2.1) (X.2.2.2.2.1 _ hw.2.2) X.2.2.2.2.2.1 hP hD hS X.2.2.2.2.2.2.2.1 hc hfs hcells hslots hdg (fun q H1 h1 h2 h3 => k q H1 locs ls h1 h2 h3 hl)
theorem V_newI (X : Cx p R s m args meth c cc nL own Ts A D kI kC) {i : Int} (n : Nat) (hi : i = (n : Int)) (hn : n < 100000) (hw : Cond.arrayClass .int ∈ Ts) (hcells : cells + 1 ≤ R.cells) (hslots : slots + n ≤ R.slots) (hdg : decode cc pc = .ok (.newarray .int, 2))
    (k : ∀ q : Nat, VV p l e R s m args below meth c nL A D Q (cells + 1) (slots + n) (pc + 2) lv (.ref q :: st) (ws ++ [(q, IA kI n (fun _ => 0))])) : VV p l e R s m args below meth c nL A D Q cells slots pc lv (.int (iI i) :: st) ws := by
  subst hi
  intro H locs ls hP hD hS hl
  refine va_newaK (atype := .int) X.1 X.2.1 (X.2.2.2.2.1 _ hw) rfl hdg rfl (iI_nn (by omega)) (iI_cl (by omega)) (by show n * 4 ≤ _; omega) hcells hslots rfl (fun H1 cA e1 z1 o1 hAr hNm => ?_)
  have h2 : s.vm.findClass ("[" ++ (newarray.typeOf .int).toString) = some kI := (X.2.2.2.2.2.1.2 0 (kI, .int) rfl).2
  have hcA : cA = kI := Option.some.inj (hNm.symm.trans h2)
  subst hcA
  have hk : ∀ (k : Nat) (x : Nat × va_E), ws[k]? = some x → H1[x.1]? = H[x.1]? := fun k x hx => o1 x.1 ((hP k x hx).lt)
  refine k H.size H1 locs ls ((hP.kept hk).app (fun k x hx => ?_)) (hD.push hP rfl (X.2.2.2.2.2.2.2.1 _ hS.1)) ⟨Nat.le_trans hS.1 (by omega), fun x h1 h2 => (o1 x (Nat.lt_of_lt_of_le h1 hS.1)).trans (hS.2.1 x h1 h2), hS.2.2⟩ hl
  have hz : k < 1 := (List.getElem?_eq_some_iff.mp hx).1
  rw [show k = 0 by omega] at hx
  cases hx
  exact e1
theorem V_newC (X : Cx p R s m args meth c cc nL own Ts A D kI kC) {i : Int} (n : Nat) (hi : i = (n : Int)) (hn : n < 100000) (hw : Cond.arrayClass .char ∈ Ts) (hcells : cells + 1 ≤ R.cells) (hslots : slots + n ≤ R.slots) (hdg : decode cc pc = .ok (.newarray .char, 2))
    (k : ∀ q : Nat, VV p l e R s m args below meth c nL A D Q (cells + 1) (slots + n) (pc + 2) lv (.ref q :: st) (ws ++ [(q, IA kC n (fun _ => 0))])) : VV p l e R s m args below meth c nL A D Q cells slots pc lv (.int (iI i) :: st) ws := by
  subst hi
  intro H locs ls hP hD hS hl
  refine va_newaK (atype := .char) X.1 X.2.1 (X.2.2.2.2.1 _ hw) rfl hdg rfl (iI_nn (by omega)) (iI_cl (by omega)) (by show n * 2 ≤ _; omega) hcells hslots rfl (fun H1 cA e1 z1 o1 hAr hNm => ?_)
  have h2 : s.vm.findClass ("[" ++ (newarray.typeOf .char).toString) = some kC := (X.2.2.2.2.2.1.2 1 (kC, .char) rfl).2
  have hcA : cA = kC := Option.some.inj (hNm.symm.trans h2)
  subst hcA
  have hk : ∀ (k : Nat) (x : Nat × va_E), ws[k]? = some x → H1[x.1]? = H[x.1]? := fun k x hx => o1 x.1 ((hP k x hx).lt)
  refine k H.size H1 locs ls ((hP.kept hk).app (fun k x hx => ?_)) (hD.push hP rfl (X.2.2.2.2.2.2.2.1 _ hS.1)) ⟨Nat.le_trans hS.1 (by omega), fun x h1 h2 => (o1 x (Nat.lt_of_lt_of_le h1 hS.1)).trans (hS.2.1 x h1 h2), hS.2.2⟩ hl
  have hz : k < 1 := (List.getElem?_eq_some_iff.mp hx).1
  rw [show k = 0 by omega] at hx
  cases hx
  exact e1
theorem V_putF (X : Cx p R s m args meth c cc nL own Ts A D kI kC) {ci N index a : Nat} {T : u_T} {fs : List Value} {v : Value} {ty : FieldType} {ty0 : Nat → FieldType} (hname : meth.name = "<init>") (j : Nat) (hf : FL Ts own index ci j own T N) (hp : FP N T ty0) (hd : parseFieldDescriptor (T j).2.2.1 = some ty) (hn : narrow ty v = v) (hfit : fits ty v = true) (hfin : (T j).2.2.2 = true) (hdc : (T j).1 = own) (q0 : Nat) (he : ws[q0]? = some (a, .inr (ci, fs))) (hj : j < fs.length) (hdg : decode cc pc = .ok (.putfield index, 3))
    (k : VV p l e R s m args below meth c nL A D Q cells slots (pc + 3) lv st (ws.set q0 (a, .inr (ci, fs.set j v)))) : VV p l e R s m args below meth c nL A D Q cells slots pc lv (v :: .ref a :: st) ws := by
  intro H locs ls hP hD hS hl
  exact va_putF (D := D) X.1 X.2.1 X.2.2.2.2.1 hf.1 ty0 hp.1 hp.2 X.2.2.2.1 X.2.2.2.2.2.1 hP hD hS q0 he hf.2.2.2 j hf.2.2.1 (X.2.2.2.2.1 _ hf.2.1) (fun _ h9 => h9) hfin hname hdc hd hn hfit hj hdg (fun H1 locs1 h1 h2 h3 => k H1 locs1 ls h1 h2 h3 hl)
theorem V_obj (X : Cx p R s m args meth c cc nL own Ts A D kI kC) {idx a : Nat} (hw : Cond.methodLink own idx Lib.objectInit ∈ Ts ∧ Cond.instanceMethod Lib.objectInit ∈ Ts ∧ Cond.code Lib.objectInit ⟨#[0xb1]⟩ 1 none ∈ Ts) (hfr : 1 ≤ R.frames) (hlo : (st.map fun v => v.category).sum + 12 ≤ R.locals) (hdg : decode cc pc = .ok (.invokespecial idx, 3))
    (k : VV p l e R s m args below meth c nL A D Q cells slots (pc + 3) lv st ws) : VV p l e R s m args below meth c nL A D Q cells slots pc lv (.ref a :: st) ws := by
  intro H locs ls hP hD hS hl
  refine W.objInit X.1 X.2.1 X.2.2.2.1 (X.2.2.2.2.1 _ hw.1) (X.2.2.2.2.1 _ hw.2.1) (X.2.2.2.2.1 _ hw.2.2) rfl (hl.1.trans X.2.2.1.symm) rfl hdg hfr ?_ (k H locs ls hP hD hS hl)
  show 2 * 0 + _ + 12 ≤ _
  omega
/-- a contract out of a walk, of a constructor -/
theorem Con.ofI {y : MethodName} {wsc ws' : List Cond} {rm : Room} {maxL : Nat} {ret : Option FieldType} {av : List Value} {W0 : va_W} {σ : Type} {Qf : Option Value → σ → Prop} {W1 : σ → va_W}
    (hy : plainName y.cls = true) (hyn : y.name = "<init>") (hw : wsc = Cond.code y cc maxL ret :: ws') (hcat : ∀ v ∈ av, v.category = 1) (hle : av.length ≤ maxL)
    (body : ∀ (p : Program) (e : Env) (s : State) (m : MethodId) (below : List Frame) (meth : Method) (c : Code) (A : Nat → Prop), Cx p rm s m av.toArray meth c cc maxL y.cls wsc A D kI kC → meth.sig.returnType = ret → meth.name = "<init>" →
      VV p l e rm s m av.toArray below meth c maxL A D (MQ below (conQ D Qf W1 A) av.toArray s rm.cells rm.slots A) 0 0 0 (av.map some ++ List.replicate (maxL - av.length) none) [] W0) : Con l y wsc rm D kI kC av W0 Qf W1 := by
  intro sz
  refine Met.ofW (cc := cc) (maxL := maxL) (ret := ret) hy hw ?_
  intro p e s m args below meth c s₁ B hml hv
  obtain ⟨rfl, hsz, hP, hK, hD0⟩ := hv
  subst hsz
  have hts := atoms_spec (ws := wsc) B.pre
  have hown : s.vm.findClass y.cls = some m.cls := findClass_of_methodNamed B.named
  have hl := lv_entry av (n := maxL) (by rw [lg_sl_one av hcat]; exact hle)
  have hin : meth.name = "<init>" := by rw [← hyn]; exact (name_of_methodNamed B.named B.method).1
  rw [lg_entry_eq]
  exact body p e s m below meth c (va_A W0 s.heap.size) ⟨B.exec, B.bytes, hml, hown, hts, hK.1, hK.2, fun q h => Or.inr h, B.notSynchronized, rfl⟩ B.returns hin s.heap [] _ hP hD0.self va_S.rf (Lh_entry hcat hl _)
theorem nd_of : ∀ {is : List Nat}, is.Nodup → va_nd is = true
  | [], _ => rfl
  | a :: is, h => by
    obtain ⟨h1, h2⟩ := List.nodup_cons.mp h
    simp only [va_nd, Bool.and_eq_true, decide_eq_true_eq]
    exact ⟨h1, nd_of h2⟩
theorem range_get {w : va_W} {x : Nat × va_E} : (List.range w.length).map (fun i => (w ++ [x])[i]?) = w.map some := by
  apply List.ext_getElem?
  intro i
  by_cases h : i < w.length
  · rw [List.getElem?_map, List.getElem?_range h, List.getElem?_map, List.getElem?_eq_getElem h]
    show some ((w ++ [x])[i]?) = _
    rw [List.getElem?_append_left h, List.getElem?_eq_getElem h]
    rfl
  · rw [List.getElem?_eq_none (by rw [List.length_map, List.length_range]; omega), List.getElem?_eq_none (by rw [List.length_map]; omega)]
/-- behind a constructor, once it is known to run: what it made stands behind the rest -/
theorem V_runG (X : Cx p R s m args meth c cc nL own Ts A D kI kC) {w0 : va_W} {x : Nat × va_E} {σ : Type} {f : σ → Prop} {W1 : σ → va_W} {rm : Room} {a : Array Value} {rest : List Value} (hws : ws = w0 ++ [x])
    (hr : ∀ (H : Heap) (locs : List Loc) (ls : Array Slot), va_P D vwCl ws H → va_D A ws → ls.size = nL → va_Run p l e R s m args below meth c H locs cells slots rm.cells rm.slots (F0 m pc ls st) rest (conQ D (qV f) W1 (va_A [x] H.size) a) (va_A [x] H.size))
    (k : ∀ u : σ, f u → VV p l e R s m args below meth c nL A D Q (cells + rm.cells) (slots + rm.slots) (pc + 3) lv rest (w0 ++ W1 u)) : VV p l e R s m args below meth c nL A D Q cells slots pc lv st ws := by
  subst hws
  intro H locs ls hP hD hS hl T hT XS
  have hC : [w0.length].map (fun i => (w0 ++ [x])[i]?) = [x].map some := by simp
  have hF := va_free (wc := [x]) hD hS X.2.2.2.2.2.2.2.1 [w0.length] hC
  obtain ⟨v, st₀, t, T', L, h0, X', hL, e1, e2, ⟨⟨v2, u, hv, ⟨hp0, hp⟩, hb, hd⟩, hz, hk⟩, hst⟩ := hr H locs ls hP hD hl.1 T hT XS
  cases hv
  subst hp0
  rw [h0] at hz hk
  have hk2 : ∀ q : Nat, q < H.size → ¬ va_A [x] H.size q → T'.heap[q]? = H[q]? := fun q h1 h2 => by rw [e1]; exact hk q h1 h2
  obtain ⟨g1, g2⟩ := va_join (wr := w0) (w1 := W1 u) hP hD [w0.length] (List.range w0.length) hC range_get (nd_of List.nodup_range) (fun i hi hj => by
    have h1 := List.mem_range.mp hi
    have h2 := List.mem_singleton.mp hj
    omega) hk2 hF (by rw [e1]; exact hb) hd
  obtain ⟨t2, a1, b1⟩ := k u hp T'.heap (locs ++ L) ls g1 g2
    ⟨Nat.le_trans hS.1 (by rw [e1]; exact hz), fun q h1 h2 => by rw [e1, hk q (Nat.lt_of_lt_of_le h1 hS.1) (fun z => h2 (hF q z))]; exact hS.2.1 q h1 h2, fun q hq => by
      rcases List.mem_append.mp hq with h | h
      · exact hS.2.2 q h
      · exact hF _ (hL q h)⟩ hl T' rfl X'
  exact ⟨t2, hst t2 a1, b1⟩
theorem V_makeN (X : Cx p R s m args meth c cc nL own Ts A D kI kC) {y : MethodName} {wsc wsc' : List Cond} {rm : Room} {bytes : ByteArray} {maxL index ci b : Nat} {C host : String} {rest : List Value} {fs : List Value} {w0 : va_W} {σ : Type} {f : σ → Prop} {W1 : σ → va_W}
    (hM : Con l y wsc rm D kI kC [.ref b] [(b, .inr (ci, fs))] (qV f) W1) (hG : GoodIn Ts wsc) (hN : Cond.methodLinkNest own index y host ∈ nwAll) (hT : Cond.instanceMethod y ∈ Ts ∧ Cond.initialized y.cls ∈ Ts) (hyn : y.name = "<init>") (hw : wsc = Cond.code y bytes maxL none :: wsc') (hd : KM y C 0) (hR : RF R rm maxL cells slots) (hcat : (rest.map fun v => v.category).sum ≤ 8)
    (hws : ws = w0 ++ [(b, .inr (ci, fs))]) (hdg : decode cc pc = .ok (.invokespecial index, 3))
    (k : ∀ u : σ, f u → VV p l e R s m args below meth c nL A D Q (cells + rm.cells) (slots + rm.slots) (pc + 3) lv rest (w0 ++ W1 u)) : VV p l e R s m args below meth c nL A D Q cells slots pc lv (.ref b :: rest) ws := by
  refine V_runG X (a := ([Value.ref b] : List Value).toArray) hws (fun H locs ls hP hD hsz => ?_) k
  subst hws
  exact va_runIN (As := []) ⟨X.1, X.2.1, X.2.2.1, X.2.2.2.1, X.2.2.2.2.1⟩ (hM H.size) ⟨va_cnB 0 X.2.2.2.2.1 hG hw rfl rfl (X.2.2.2.2.2.2.1 _ hN) (X.2.2.2.2.1 _ hT.2) hd.2 hR.1, hyn, X.2.2.2.2.1 _ hT.1⟩ ⟨conP_blind D kI kC _ _ _, fun U hU hW => conP_of X [w0.length] (by simp) rfl hP hD U hU hW⟩ rfl rfl hsz rfl (lv_room hcat) hdg hR.2
theorem V_make (X : Cx p R s m args meth c cc nL own Ts A D kI kC) {y : MethodName} {wsc wsc' : List Cond} {rm : Room} {bytes : ByteArray} {maxL index ci b : Nat} {C : String} {rest : List Value} {fs : List Value} {w0 : va_W} {σ : Type} {f : σ → Prop} {W1 : σ → va_W}
    (hM : Con l y wsc rm D kI kC [.ref b] [(b, .inr (ci, fs))] (qV f) W1) (hG : GoodIn Ts wsc) (hT : Cond.methodLink own index y ∈ Ts ∧ Cond.instanceMethod y ∈ Ts ∧ Cond.initialized y.cls ∈ Ts) (hyn : y.name = "<init>") (hw : wsc = Cond.code y bytes maxL none :: wsc') (hd : KM y C 0) (hR : RF R rm maxL cells slots) (hcat : (rest.map fun v => v.category).sum ≤ 8)
    (hws : ws = w0 ++ [(b, .inr (ci, fs))]) (hdg : decode cc pc = .ok (.invokespecial index, 3))
    (k : ∀ u : σ, f u → VV p l e R s m args below meth c nL A D Q (cells + rm.cells) (slots + rm.slots) (pc + 3) lv rest (w0 ++ W1 u)) : VV p l e R s m args below meth c nL A D Q cells slots pc lv (.ref b :: rest) ws := by
  refine V_runG X (a := ([Value.ref b] : List Value).toArray) hws (fun H locs ls hP hD hsz => ?_) k
  subst hws
  exact va_runI (As := []) ⟨X.1, X.2.1, X.2.2.1, X.2.2.2.1, X.2.2.2.2.1⟩ (hM H.size) (cwI 0 X.2.2.2.2.1 hG hw rfl rfl (X.2.2.2.2.1 _ hT.2.2) (X.2.2.2.2.1 _ hT.1) (X.2.2.2.2.1 _ hT.2.1) hyn hd.2 hR.1) ⟨conP_blind D kI kC _ _ _, fun U hU hW => conP_of X [w0.length] (by simp) rfl hP hD U hU hW⟩ rfl rfl hsz rfl (lv_room hcat) hdg hR.2
/-- the script's length, its elements -/
theorem V_slen (X : Cx p R s m args meth c cc nL own Ts A D kI kC) {b L : Nat} {xs : Nat → Int32} (hX : va_X b L xs s s.heap) (hbl : b < s.heap.size) (hbA : ¬ A b) (hL : L < 2147483648) (hdg : decode cc pc = .ok (.arraylength, 1))
    (k : VV p l e R s m args below meth c nL A D Q cells slots (pc + 1) lv (.int (iI (L : Int)) :: st) ws) : VV p l e R s m args below meth c nL A D Q cells slots pc lv (.ref b :: st) ws := by
  intro H locs ls hP hD hS hl
  refine va_slen X.1 X.2.1 hX hbl hbA hS hdg ?_
  rw [show Int32.ofNat L = iI (L : Int) from (iI_N hL).symm]
  exact k H locs ls hP hD hS hl
theorem V_sld (X : Cx p R s m args meth c cc nL own Ts A D kI kC) {b L : Nat} {xs : Nat → Int32} {i : Int} (hX : va_X b L xs s s.heap) (hbl : b < s.heap.size) (hbA : ¬ A b) (hL : L < 2147483648) (j : Nat) (hi : i = (j : Int)) (hj : j < L) (hdg : decode cc pc = .ok (.iaload, 1))
    (k : VV p l e R s m args below meth c nL A D Q cells slots (pc + 1) lv (.int (iI (xs j).toInt) :: st) ws) : VV p l e R s m args below meth c nL A D Q cells slots pc lv (.int (iI i) :: .ref b :: st) ws := by
  subst hi
  intro H locs ls hP hD hS hl
  refine va_sld X.1 X.2.1 hX hbl hbA hS (iI_in hj hL) hdg ?_
  rw [iI_cl (by omega), show xs j = iI (xs j).toInt from (iI_of _).symm]
  rw [iI_of]
  have h := k H locs ls hP hD hS hl
  rw [iI_of] at h
  exact h
theorem V_i2c (X : Cx p R s m args meth c cc nL own Ts A D kI kC) {x : Int} (hdg : decode cc pc = .ok (.i2c, 1))
    (k : ∀ z : Int, 0 ≤ z ∧ z < 65536 → z = ((iI x).toUInt32 % 65536).toInt32.toInt → VV p l e R s m args below meth c nL A D Q cells slots (pc + 1) lv (.int (iI z) :: st) ws) : VV p l e R s m args below meth c nL A D Q cells slots pc lv (.int (iI x) :: st) ws := by
  intro H locs ls hP hD hS hl
  refine lv_i2c (v := iI ((iI x).toUInt32 % 65536).toInt32.toInt) X.1 X.2.1 hdg (iI_of _).symm ?_
  refine k _ ?_ rfl H locs ls hP hD hS hl
  have h1 : ((iI x).toUInt32 % 65536).toNat < 65536 := by
    rw [UInt32.toNat_mod]
    exact Nat.mod_lt _ (by decide)
  generalize (iI x).toUInt32 % 65536 = w at h1
  have h2 : w.toInt32.toInt = (w.toNat : Int) := by
    show w.toInt32.toBitVec.toInt = _
    rw [BitVec.toInt_eq_toNat_of_lt]
    · rfl
    · show 2 * w.toNat < 2 ^ 32
      omega
  rw [h2]
  omega
theorem V_mask (X : Cx p R s m args meth c cc nL own Ts A D kI kC) {x : Int} {j : Nat} {y : Int32} (hdg : decode cc pc = .ok (.iand, 1)) (hm : y.toBitVec.toNat = 2 ^ j - 1) (hj : 2 ^ j < 2147483648)
    (k : ∀ z : Nat, z < 2 ^ j → VV p l e R s m args below meth c nL A D Q cells slots (pc + 1) lv (.int (iI (z : Int)) :: st) ws) : VV p l e R s m args below meth c nL A D Q cells slots pc lv (.int y :: .int (iI x) :: st) ws := by
  intro H locs ls hP hD hS hl
  refine lv_iand X.1 X.2.1 hdg ?_
  have h1 : (iI x).toBitVec.toNat % 2 ^ j < 2 ^ j := Nat.mod_lt _ (Nat.two_pow_pos j)
  rw [pk_and _ j hm, ← iI_N (Nat.lt_trans h1 hj)]
  exact k _ h1 H locs ls hP hD hS hl
end VNEW
