/-! the P layer: the whole pad's world behind one state; longs among the variables -/
section PKIT
/-- what a pad holds: strokes, past, future; buffer; text; gap -/
abbrev PS : Type := St3 × List Pt × List Int × Int
abbrev TH : Type := Int × Nat × (Nat → Int) × (Nat → Int) × Nat × (Nat → Int) × Nat × (Nat → Int) × Int × (Nat → Int) × Int × (Nat → Int) × (Nat → Int) × Nat × Nat × Nat × (Nat → Int) × (Nat → Int) × Int × (Nat → Int) × (Nat → Int) × (Nat → Int) × (Nat → Int) × (Nat → Int) × (Nat → Int) × (Nat → Int) × Int × (Nat → Int) × (Nat → Int) × (Nat → Int) × (Nat → Int) × (Nat → Int) × (Nat → Int) × (Nat → Int) × (Nat → Int) × (Nat → Int) × (Nat → Int) × (Nat → Int) × Int × Int × (Nat → Int) × (Nat → Int)
def thW (kI kC : ClassId) (a g w : Nat → Nat) : TH → va_W := fun (gap, nb, BX, BY, nt, T, n, F, dn, DF, wn, WX, WY, p, f, ha, N, HS, ln, lo, to, bo, ls, bt, bb, ra, wc, od, pl, wo, li, si, le, ri, fi, wi, fn, sl, ce, mo, TK, TP) => (padO a g w gap :: (trW kI (a 1) (a 2) (a 3) (nb : Int) BX BY ++ (txW kC (a 4) (a 5) (nt : Int) T ++ (shW kI (a 6) (a 7) (n : Int) F ++ (shW kI (a 8) (a 9) dn DF ++ (trW kI (a 10) (a 11) (a 12) wn WX WY ++ (hiW kI (a 13) (a 14) (a 15) (p : Int) (f : Int) (ha : Int) N HS ++ (liW kI g ln lo to bo ls bt bb ra ++ (woW kI w wc od pl wo li si le ri fi wi fn sl ++ (taW kI (a 36) (a 37) (a 38) ce mo TK TP))))))))))
def thI : TH → PS → Prop := fun (gap, nb, BX, BY, nt, T, n, F, dn, DF, wn, WX, WY, p, f, ha, N, HS, ln, lo, to, bo, ls, bt, bb, ra, wc, od, pl, wo, li, si, le, ri, fi, wi, fn, sl, ce, mo, TK, TP) (s, B, X, gp) => ptsOf nb BX BY = B ∧ OkB B ∧ (nt = X.length ∧ X.length ≤ 100 ∧ ∀ i, i < X.length → T i = X.getD i 0 ∧ 0 ≤ X.getD i 0 ∧ X.getD i 0 < 65536) ∧ shC n F = s.1 ∧ Ok3 s ∧ HR s p f ha N HS ∧ gap = gp ∧ 0 ≤ gp ∧ gp ≤ 500
def OkPS (σ : PS) : Prop := OkB σ.2.1 ∧ (σ.2.2.1.length ≤ 100 ∧ ∀ i, i < σ.2.2.1.length → 0 ≤ σ.2.2.1.getD i 0 ∧ σ.2.2.1.getD i 0 < 65536) ∧ Ok3 σ.1 ∧ 0 ≤ σ.2.2.2 ∧ σ.2.2.2 ≤ 500
theorem thI_ok {θ : TH} {σ : PS} (h : thI θ σ) : OkPS σ := ⟨h.2.1, ⟨h.2.2.1.2.1, fun i hi => (h.2.2.1.2.2 i hi).2⟩, h.2.2.2.2.1, h.2.2.2.2.2.2.2.1, h.2.2.2.2.2.2.2.2⟩
theorem thW_len (kI kC : ClassId) (a g w : Nat → Nat) (θ : TH) : (thW kI kC a g w θ).length = 39 := rfl
/-- the variables, longs among them -/
def L2 (ls : Array Slot) (nL : Nat) (lv : List (Option Value)) : Prop := ls.size = nL ∧ lv_wf ls ∧ ∀ (i : Nat) (v : Value), lv[i]? = some (some v) → ls[i]? = some (.val v)
def okL (lv : List (Option Value)) (i : Nat) : Bool := match i with
  | 0 => true
  | i + 1 => match lv[i]? with
    | some (some w) => w.category == 1
    | _ => true
theorem okL_s {lv : List (Option Value)} {k : Nat} {w : Value} (h : okL lv (k + 1) = true) (hk : lv[k]? = some (some w)) : w.category = 1 := by
  unfold okL at h
  dsimp only at h
  rw [hk] at h
  exact eq_of_beq h
theorem L2_has {ls : Array Slot} {nL : Nat} {lv : List (Option Value)} (h : L2 ls nL lv) : lv_has ls nL (lvl lv) := ⟨h.1, h.2.1, fun q hq => h.2.2 _ _ (lvl_mem.mp hq)⟩
theorem L2_set {ls ls1 : Array Slot} {nL i : Nat} {v : Value} {lv : List (Option Value)} (h : L2 ls nL lv) (ho : okL lv i = true) (h1 : lv_has ls1 nL ((i, v) :: (lvl lv).filter (fun q => !(q.1 == i) && !(q.1 + 1 == i && q.2.category == 2)))) : L2 ls1 nL (lv.set i (some v)) := by
  refine ⟨h1.1, h1.2.1, fun k w hk => ?_⟩
  by_cases e : i = k
  · subst e
    have hlt : i < lv.length := by
      have := (List.getElem?_eq_some_iff.mp hk).1
      rwa [List.length_set] at this
    rw [List.getElem?_set_self hlt] at hk
    cases hk
    exact h1.2.2 (i, v) List.mem_cons_self
  · rw [List.getElem?_set_ne e] at hk
    refine h1.2.2 (k, w) (List.mem_cons_of_mem _ (List.mem_filter.mpr ⟨lvl_mem.mpr hk, ?_⟩))
    have e1 : (k == i) = false := by simpa using fun z => e z.symm
    have e2 : (k + 1 == i && w.category == 2) = false := by
      by_cases z : k + 1 = i
      · subst z
        rw [okL_s ho hk]
        simp
      · simp [z]
    dsimp only
    rw [e1, e2]
    rfl
theorem L2_set2 {ls ls1 : Array Slot} {nL i : Nat} {v : Value} {lv : List (Option Value)} (h : L2 ls nL lv) (ho : okL lv i = true) (h1 : lv_has ls1 nL ((i, v) :: (lvl lv).filter (fun q => !(q.1 == i) && (!(q.1 == i + 1) && !(q.1 + 1 == i && q.2.category == 2))))) : L2 ls1 nL ((lv.set i (some v)).set (i + 1) none) := by
  refine ⟨h1.1, h1.2.1, fun k w hk => ?_⟩
  by_cases e0 : i + 1 = k
  · subst e0
    have hlt : i + 1 < (lv.set i (some v)).length := by
      have := (List.getElem?_eq_some_iff.mp hk).1
      rwa [List.length_set] at this
    rw [List.getElem?_set_self hlt] at hk
    cases hk
  rw [List.getElem?_set_ne e0] at hk
  by_cases e : i = k
  · subst e
    have hlt : i < lv.length := by
      have := (List.getElem?_eq_some_iff.mp hk).1
      rwa [List.length_set] at this
    rw [List.getElem?_set_self hlt] at hk
    cases hk
    exact h1.2.2 (i, v) List.mem_cons_self
  · rw [List.getElem?_set_ne e] at hk
    refine h1.2.2 (k, w) (List.mem_cons_of_mem _ (List.mem_filter.mpr ⟨lvl_mem.mpr hk, ?_⟩))
    have e1 : (k == i) = false := by simpa using fun z => e z.symm
    have e3 : (k == i + 1) = false := by simpa using fun z => e0 z.symm
    have e2 : (k + 1 == i && w.category == 2) = false := by
      by_cases z : k + 1 = i
      · subst z
        rw [okL_s ho hk]
        simp
      · simp [z]
    dsimp only
    rw [e1, e2, e3]
    rfl
theorem L2_kill {ls : Array Slot} {nL : Nat} {lv : List (Option Value)} (h : L2 ls nL lv) (i : Nat) : L2 ls nL (lv.set i none) := by
  refine ⟨h.1, h.2.1, fun k w hk => ?_⟩
  by_cases e : i = k
  · subst e
    have hlt : i < lv.length := by
      have := (List.getElem?_eq_some_iff.mp hk).1
      rwa [List.length_set] at this
    rw [List.getElem?_set_self hlt] at hk
    cases hk
  · rw [List.getElem?_set_ne e] at hk
    exact h.2.2 k w hk
theorem L2_idx {lv : List (Option Value)} {i : Nat} {v : Value} (h : lv[i]? = some (some v)) : ∃ j : Nat, (lvl lv)[j]? = some (i, v) := List.getElem?_of_mem (lvl_mem.mpr h)
/-- the variables with which a method begins -/
def entL (av : List Value) : List (Option Value) := av.flatMap (fun v => if v.category = 2 then [some v, none] else [some v])
theorem entL_mem : ∀ (av : List Value) (k : Nat) (i : Nat) (v : Value), (entL av)[i]? = some (some v) → (k + i, v) ∈ lv_args k av
  | [], k, i, v, h => by simp [entL] at h
  | a :: av, k, i, v, h => by
    unfold entL at h
    rw [List.flatMap_cons] at h
    have ih := entL_mem av
    unfold entL at ih
    unfold lv_args
    by_cases hc : a.category = 2
    · rw [if_pos hc] at h ⊢
      match i, h with
      | 0, h => simp at h; subst h; exact List.mem_cons_self
      | 1, h => simp at h
      | i + 2, h =>
        have h2 : (av.flatMap (fun v => if v.category = 2 then [some v, none] else [some v]))[i]? = some (some v) := by simpa using h
        have := ih (k + 2) i v h2
        rw [show k + (i + 2) = k + 2 + i by omega]
        exact List.mem_cons_of_mem _ this
    · rw [if_neg hc] at h ⊢
      match i, h with
      | 0, h => simp at h; subst h; exact List.mem_cons_self
      | i + 1, h =>
        have h2 : (av.flatMap (fun v => if v.category = 2 then [some v, none] else [some v]))[i]? = some (some v) := by simpa using h
        have := ih (k + 1) i v h2
        rw [show k + (i + 1) = k + 1 + i by omega]
        exact List.mem_cons_of_mem _ this
theorem L2_entry {ls : Array Slot} {nL : Nat} {av : List Value} (h : lv_has ls nL (lv_args 0 av)) (r : Nat) : L2 ls nL (entL av ++ List.replicate r none) := by
  refine ⟨h.1, h.2.1, fun i v hi => ?_⟩
  by_cases q : i < (entL av).length
  · rw [List.getElem?_append_left q] at hi
    have := entL_mem av 0 i v hi
    rw [Nat.zero_add] at this
    exact h.2.2 _ this
  · rw [List.getElem?_append_right (by omega)] at hi
    have := List.mem_of_getElem? hi
    rw [List.mem_replicate] at this
    cases this.2
theorem i2c_id {x : Int} (h0 : 0 ≤ x) (h1 : x < 65536) : ((iI x).toUInt32 % 65536).toInt32 = iI x := by
  obtain ⟨a, rfl⟩ : ∃ a : Nat, x = (a : Int) := ⟨x.toNat, by omega⟩
  have e1 : (iI (a : Int)).toUInt32.toNat = a := iI_bv (by omega)
  have e2 : (iI (a : Int)).toUInt32 % 65536 = (iI (a : Int)).toUInt32 := by
    apply UInt32.toNat_inj.mp
    rw [UInt32.toNat_mod, e1]
    exact Nat.mod_eq_of_lt (by show a < 65536; omega)
  rw [e2]
  rfl
theorem range_map {α : Type} (ws : List α) : (List.range ws.length).map (fun i => ws[i]?) = ws.map some := by
  apply List.ext_getElem?
  intro i
  rw [List.getElem?_map, List.getElem?_map]
  by_cases h : i < ws.length
  · rw [List.getElem?_range h, List.getElem?_eq_getElem h, Option.map_some, Option.map_some, List.getElem?_eq_getElem h]
  · rw [List.getElem?_eq_none (by rw [List.length_range]; omega), List.getElem?_eq_none (by omega)]
    rfl
theorem putW_range (ws w1 : va_W) (h : w1.length = ws.length) : putW ws (List.range ws.length) w1 = w1 := by
  have hnd : va_nd (List.range ws.length) = true := by
    have key : ∀ (l : List Nat), l.Nodup → va_nd l = true := by
      intro l
      induction l with
      | nil => intro _; rfl
      | cons a l ih =>
        intro hn
        rw [List.nodup_cons] at hn
        simp only [va_nd, Bool.and_eq_true, decide_eq_true_eq]
        exact ⟨hn.1, ih hn.2⟩
    exact key _ List.nodup_range
  have hl : ∀ (is : List Nat) (u v : va_W), (putW u is v).length = u.length := by
    intro is
    induction is with
    | nil => intro u v; cases v <;> rfl
    | cons i is ih => intro u v; cases v with
      | nil => rfl
      | cons q v => show (putW (u.set i q) is v).length = _; rw [ih, List.length_set]
  apply List.ext_getElem?
  intro k
  by_cases hk : k < ws.length
  · have hk2 : k < (putW ws (List.range ws.length) w1).length := by rw [hl]; exact hk
    rcases putW_get (List.range ws.length) ws w1 (by rw [List.length_range]; exact h) hnd k _ (List.getElem?_eq_getElem hk2) with ⟨j, h1, h2⟩ | ⟨h1, h2⟩
    · rw [List.getElem?_eq_getElem hk2, ← h2]
      rw [List.getElem?_eq_some_iff] at h1
      obtain ⟨h3, h4⟩ := h1
      rw [List.getElem_range] at h4
      rw [h4]
    · exact absurd (List.mem_range.mpr hk) h1
  · rw [List.getElem?_eq_none (by rw [hl]; omega), List.getElem?_eq_none (by omega)]
def VL (p : Program) (l : Launch) (e : Env) (R : Room) (s : State) (m : MethodId) (args : Array Value) (below : List Frame) (meth : Method) (c : Code) (nL : Nat) (A : Nat → Prop) (D : va_G) (Q : State → Prop) (cells slots pc : Nat) (lv : List (Option Value)) (st : List Value) (ws : va_W) : Prop :=
  ∀ (H : Heap) (locs : List Loc) (ls : Array Slot), va_P D vwCl ws H → va_D A ws → va_S A s.heap H locs → L2 ls nL lv → W p l e R s m args below meth c H locs cells slots Q (F0 m pc ls st)
def PP (p : Program) (l : Launch) (e : Env) (R : Room) (s : State) (m : MethodId) (args : Array Value) (below : List Frame) (meth : Method) (c : Code) (nL : Nat) (A : Nat → Prop) (D : va_G) (Q : State → Prop) (kI kC : ClassId) (pa pg pw : Nat → Nat) (cells slots pc : Nat) (lv : List (Option Value)) (st : List Value) (σ : PS) : Prop :=
  ∀ θ : TH, thI θ σ → VL p l e R s m args below meth c nL A D Q cells slots pc lv st (thW kI kC pa pg pw θ)
variable {p : Program} {l : Launch} {e : Env} {R : Room} {s : State} {m : MethodId} {args : Array Value} {below : List Frame} {meth : Method} {c : Code} {cc : ByteArray} {nL : Nat} {own : String} {Ts : List Cond} {A : Nat → Prop} {D : va_G} {kI kC : ClassId} {Q : State → Prop} {pa pg pw : Nat → Nat} {cells slots pc : Nat} {lv : List (Option Value)} {st : List Value} {σ : PS}
theorem P_iconst (X : Cx p R s m args meth c cc nL own Ts A D kI kC) {n : Int} (hdg : decode cc pc = .ok (.iconst n, 1)) (k : PP p l e R s m args below meth c nL A D Q kI kC pa pg pw cells slots (pc + 1) lv (.int (iI n) :: st) σ) : PP p l e R s m args below meth c nL A D Q kI kC pa pg pw cells slots pc lv st σ := by
  intro θ hθ H locs ls hP hD hS hl
  refine lv_iconst (v := iI n) X.1 X.2.1 hdg rfl ?_
  exact k θ hθ H locs ls hP hD hS hl
theorem P_bipush (X : Cx p R s m args meth c cc nL own Ts A D kI kC) {n : Int} (hdg : decode cc pc = .ok (.bipush n, 2)) (hv : (Int8.ofInt n).toInt32 = iI n) (k : PP p l e R s m args below meth c nL A D Q kI kC pa pg pw cells slots (pc + 2) lv (.int (iI n) :: st) σ) : PP p l e R s m args below meth c nL A D Q kI kC pa pg pw cells slots pc lv st σ := by
  intro θ hθ H locs ls hP hD hS hl
  refine lv_bipush (v := iI n) X.1 X.2.1 hdg hv ?_
  exact k θ hθ H locs ls hP hD hS hl
theorem P_sipush (X : Cx p R s m args meth c cc nL own Ts A D kI kC) {n : Int} (hdg : decode cc pc = .ok (.sipush n, 3)) (hv : (Int16.ofInt n).toInt32 = iI n) (k : PP p l e R s m args below meth c nL A D Q kI kC pa pg pw cells slots (pc + 3) lv (.int (iI n) :: st) σ) : PP p l e R s m args below meth c nL A D Q kI kC pa pg pw cells slots pc lv st σ := by
  intro θ hθ H locs ls hP hD hS hl
  refine lv_sipush (v := iI n) X.1 X.2.1 hdg hv ?_
  exact k θ hθ H locs ls hP hD hS hl
theorem P_iload_n (X : Cx p R s m args meth c cc nL own Ts A D kI kC) {i : Fin 4} {x : Int32} (j : Nat) (hij : (i : Nat) = j) (hdg : decode cc pc = .ok (.iload_n i, 1)) (hv : lv[j]? = some (some (.int x))) (k : PP p l e R s m args below meth c nL A D Q kI kC pa pg pw cells slots (pc + 1) lv (.int x :: st) σ) : PP p l e R s m args below meth c nL A D Q kI kC pa pg pw cells slots pc lv st σ := by
  intro θ hθ H locs ls hP hD hS hl
  refine lv_iload_n X.1 X.2.1 hdg hij (hl.2.2 _ _ hv) ?_
  exact k θ hθ H locs ls hP hD hS hl
theorem P_iload (X : Cx p R s m args meth c cc nL own Ts A D kI kC) {i : Nat} {x : Int32} (hdg : decode cc pc = .ok (.iload i, 2)) (hv : lv[i]? = some (some (.int x))) (k : PP p l e R s m args below meth c nL A D Q kI kC pa pg pw cells slots (pc + 2) lv (.int x :: st) σ) : PP p l e R s m args below meth c nL A D Q kI kC pa pg pw cells slots pc lv st σ := by
  intro θ hθ H locs ls hP hD hS hl
  refine lv_iload X.1 X.2.1 hdg (hl.2.2 _ _ hv) ?_
  exact k θ hθ H locs ls hP hD hS hl
theorem P_aload_n (X : Cx p R s m args meth c cc nL own Ts A D kI kC) {i : Fin 4} {x : Nat} (j : Nat) (hij : (i : Nat) = j) (hdg : decode cc pc = .ok (.aload_n i, 1)) (hv : lv[j]? = some (some (.ref x))) (k : PP p l e R s m args below meth c nL A D Q kI kC pa pg pw cells slots (pc + 1) lv (.ref x :: st) σ) : PP p l e R s m args below meth c nL A D Q kI kC pa pg pw cells slots pc lv st σ := by
  intro θ hθ H locs ls hP hD hS hl
  refine lv_aload_n X.1 X.2.1 hdg hij (hl.2.2 _ _ hv) ?_
  exact k θ hθ H locs ls hP hD hS hl
theorem P_aload (X : Cx p R s m args meth c cc nL own Ts A D kI kC) {i : Nat} {x : Nat} (hdg : decode cc pc = .ok (.aload i, 2)) (hv : lv[i]? = some (some (.ref x))) (k : PP p l e R s m args below meth c nL A D Q kI kC pa pg pw cells slots (pc + 2) lv (.ref x :: st) σ) : PP p l e R s m args below meth c nL A D Q kI kC pa pg pw cells slots pc lv st σ := by
  intro θ hθ H locs ls hP hD hS hl
  refine lv_aload X.1 X.2.1 hdg (hl.2.2 _ _ hv) ?_
  exact k θ hθ H locs ls hP hD hS hl
theorem P_iadd (X : Cx p R s m args meth c cc nL own Ts A D kI kC) {x y : Int} (hdg : decode cc pc = .ok (.iadd, 1)) (k : PP p l e R s m args below meth c nL A D Q kI kC pa pg pw cells slots (pc + 1) lv (.int (iI (x + y)) :: st) σ) : PP p l e R s m args below meth c nL A D Q kI kC pa pg pw cells slots pc lv (.int (iI y) :: .int (iI x) :: st) σ := by
  intro θ hθ H locs ls hP hD hS hl
  refine lv_iadd X.1 X.2.1 hdg ?_
  rw [iI_add]
  exact k θ hθ H locs ls hP hD hS hl
theorem P_isub (X : Cx p R s m args meth c cc nL own Ts A D kI kC) {x y : Int} (hdg : decode cc pc = .ok (.isub, 1)) (k : PP p l e R s m args below meth c nL A D Q kI kC pa pg pw cells slots (pc + 1) lv (.int (iI (x - y)) :: st) σ) : PP p l e R s m args below meth c nL A D Q kI kC pa pg pw cells slots pc lv (.int (iI y) :: .int (iI x) :: st) σ := by
  intro θ hθ H locs ls hP hD hS hl
  refine lv_isub X.1 X.2.1 hdg ?_
  rw [iI_sub]
  exact k θ hθ H locs ls hP hD hS hl
theorem P_imul (X : Cx p R s m args meth c cc nL own Ts A D kI kC) {x y : Int} (hdg : decode cc pc = .ok (.imul, 1)) (k : PP p l e R s m args below meth c nL A D Q kI kC pa pg pw cells slots (pc + 1) lv (.int (iI (x * y)) :: st) σ) : PP p l e R s m args below meth c nL A D Q kI kC pa pg pw cells slots pc lv (.int (iI y) :: .int (iI x) :: st) σ := by
  intro θ hθ H locs ls hP hD hS hl
  refine lv_imul X.1 X.2.1 hdg ?_
  rw [iI_mul]
  exact k θ hθ H locs ls hP hD hS hl
theorem P_idiv (X : Cx p R s m args meth c cc nL own Ts A D kI kC) {x y : Int} (hdg : decode cc pc = .ok (.idiv, 1)) (hx : 0 ≤ x) (hx2 : x < 2147483648) (hy : 0 < y) (hy2 : y < 2147483648) (k : PP p l e R s m args below meth c nL A D Q kI kC pa pg pw cells slots (pc + 1) lv (.int (iI (x / y)) :: st) σ) : PP p l e R s m args below meth c nL A D Q kI kC pa pg pw cells slots pc lv (.int (iI y) :: .int (iI x) :: st) σ := by
  intro θ hθ H locs ls hP hD hS hl
  refine lv_idiv X.1 X.2.1 hdg (iI_ne0 hy hy2) ?_
  rw [iI_div hx hx2 hy hy2]
  exact k θ hθ H locs ls hP hD hS hl
theorem P_dup (X : Cx p R s m args meth c cc nL own Ts A D kI kC) {va : Value} (hdg : decode cc pc = .ok (.dup, 1)) (hc : va.category = 1) (k : PP p l e R s m args below meth c nL A D Q kI kC pa pg pw cells slots (pc + 1) lv (va :: va :: st) σ) : PP p l e R s m args below meth c nL A D Q kI kC pa pg pw cells slots pc lv (va :: st) σ := by
  intro θ hθ H locs ls hP hD hS hl
  refine lv_dup X.1 X.2.1 hdg hc ?_
  exact k θ hθ H locs ls hP hD hS hl
theorem P_goto (X : Cx p R s m args meth c cc nL own Ts A D kI kC) {off : Int} (tgt : Nat) (hdg : decode cc pc = .ok (.goto off, 3)) (ht : (pc : Int) + off = (tgt : Int)) (k : PP p l e R s m args below meth c nL A D Q kI kC pa pg pw cells slots tgt lv st σ) : PP p l e R s m args below meth c nL A D Q kI kC pa pg pw cells slots pc lv st σ := by
  intro θ hθ H locs ls hP hD hS hl
  refine lv_goto X.1 X.2.1 hdg ht ?_
  exact k θ hθ H locs ls hP hD hS hl
theorem P_icmp_eq (X : Cx p R s m args meth c cc nL own Ts A D kI kC) {x y off : Int} (tgt : Nat) (hdg : decode cc pc = .ok (.if_icmp .eq off, 3)) (ht : (pc : Int) + off = (tgt : Int)) (hx : IR x) (hy : IR y) (kt : x = y → PP p l e R s m args below meth c nL A D Q kI kC pa pg pw cells slots tgt lv st σ) (kf : x ≠ y → PP p l e R s m args below meth c nL A D Q kI kC pa pg pw cells slots (pc + 3) lv st σ) : PP p l e R s m args below meth c nL A D Q kI kC pa pg pw cells slots pc lv (.int (iI y) :: .int (iI x) :: st) σ := by
  intro θ hθ H locs ls hP hD hS hl
  refine lv_icmp_eq X.1 X.2.1 hdg ht (fun h => kt (by have q1 := iI_eq hx hy; have q2 := iI_lt hx hy; have q3 := iI_le hx hy; have q4 := iI_lt hy hx; have q5 := iI_le hy hx; simp only [q1, q2, q3, q4, q5] at h; omega) θ hθ H locs ls hP hD hS hl) (fun h => kf (by have q1 := iI_eq hx hy; have q2 := iI_lt hx hy; have q3 := iI_le hx hy; have q4 := iI_lt hy hx; have q5 := iI_le hy hx; simp only [q1, q2, q3, q4, q5] at h; omega) θ hθ H locs ls hP hD hS hl)
theorem P_if_eq (X : Cx p R s m args meth c cc nL own Ts A D kI kC) {x off : Int} (tgt : Nat) (hdg : decode cc pc = .ok (.ifCond .eq off, 3)) (ht : (pc : Int) + off = (tgt : Int)) (hx : IR x) (kt : x = 0 → PP p l e R s m args below meth c nL A D Q kI kC pa pg pw cells slots tgt lv st σ) (kf : x ≠ 0 → PP p l e R s m args below meth c nL A D Q kI kC pa pg pw cells slots (pc + 3) lv st σ) : PP p l e R s m args below meth c nL A D Q kI kC pa pg pw cells slots pc lv (.int (iI x) :: st) σ := by
  intro θ hθ H locs ls hP hD hS hl
  have hy : IR 0 := ⟨by decide, by decide⟩
  have e0 : (0 : Int32) = iI 0 := rfl
  refine lv_if_eq X.1 X.2.1 hdg ht (fun h => kt (by rw [e0] at h; have q1 := iI_eq hx hy; have q2 := iI_lt hx hy; have q3 := iI_le hx hy; have q4 := iI_lt hy hx; have q5 := iI_le hy hx; simp only [q1, q2, q3, q4, q5] at h; omega) θ hθ H locs ls hP hD hS hl) (fun h => kf (by rw [e0] at h; have q1 := iI_eq hx hy; have q2 := iI_lt hx hy; have q3 := iI_le hx hy; have q4 := iI_lt hy hx; have q5 := iI_le hy hx; simp only [q1, q2, q3, q4, q5] at h; omega) θ hθ H locs ls hP hD hS hl)
theorem P_icmp_ne (X : Cx p R s m args meth c cc nL own Ts A D kI kC) {x y off : Int} (tgt : Nat) (hdg : decode cc pc = .ok (.if_icmp .ne off, 3)) (ht : (pc : Int) + off = (tgt : Int)) (hx : IR x) (hy : IR y) (kt : x ≠ y → PP p l e R s m args below meth c nL A D Q kI kC pa pg pw cells slots tgt lv st σ) (kf : x = y → PP p l e R s m args below meth c nL A D Q kI kC pa pg pw cells slots (pc + 3) lv st σ) : PP p l e R s m args below meth c nL A D Q kI kC pa pg pw cells slots pc lv (.int (iI y) :: .int (iI x) :: st) σ := by
  intro θ hθ H locs ls hP hD hS hl
  refine lv_icmp_ne X.1 X.2.1 hdg ht (fun h => kt (by have q1 := iI_eq hx hy; have q2 := iI_lt hx hy; have q3 := iI_le hx hy; have q4 := iI_lt hy hx; have q5 := iI_le hy hx; simp only [q1, q2, q3, q4, q5] at h; omega) θ hθ H locs ls hP hD hS hl) (fun h => kf (by have q1 := iI_eq hx hy; have q2 := iI_lt hx hy; have q3 := iI_le hx hy; have q4 := iI_lt hy hx; have q5 := iI_le hy hx; simp only [q1, q2, q3, q4, q5] at h; omega) θ hθ H locs ls hP hD hS hl)
theorem P_if_ne (X : Cx p R s m args meth c cc nL own Ts A D kI kC) {x off : Int} (tgt : Nat) (hdg : decode cc pc = .ok (.ifCond .ne off, 3)) (ht : (pc : Int) + off = (tgt : Int)) (hx : IR x) (kt : x ≠ 0 → PP p l e R s m args below meth c nL A D Q kI kC pa pg pw cells slots tgt lv st σ) (kf : x = 0 → PP p l e R s m args below meth c nL A D Q kI kC pa pg pw cells slots (pc + 3) lv st σ) : PP p l e R s m args below meth c nL A D Q kI kC pa pg pw cells slots pc lv (.int (iI x) :: st) σ := by
  intro θ hθ H locs ls hP hD hS hl
  have hy : IR 0 := ⟨by decide, by decide⟩
  have e0 : (0 : Int32) = iI 0 := rfl
  refine lv_if_ne X.1 X.2.1 hdg ht (fun h => kt (by rw [e0] at h; have q1 := iI_eq hx hy; have q2 := iI_lt hx hy; have q3 := iI_le hx hy; have q4 := iI_lt hy hx; have q5 := iI_le hy hx; simp only [q1, q2, q3, q4, q5] at h; omega) θ hθ H locs ls hP hD hS hl) (fun h => kf (by rw [e0] at h; have q1 := iI_eq hx hy; have q2 := iI_lt hx hy; have q3 := iI_le hx hy; have q4 := iI_lt hy hx; have q5 := iI_le hy hx; simp only [q1, q2, q3, q4, q5] at h; omega) θ hθ H locs ls hP hD hS hl)
theorem P_icmp_lt (X : Cx p R s m args meth c cc nL own Ts A D kI kC) {x y off : Int} (tgt : Nat) (hdg : decode cc pc = .ok (.if_icmp .lt off, 3)) (ht : (pc : Int) + off = (tgt : Int)) (hx : IR x) (hy : IR y) (kt : x < y → PP p l e R s m args below meth c nL A D Q kI kC pa pg pw cells slots tgt lv st σ) (kf : y ≤ x → PP p l e R s m args below meth c nL A D Q kI kC pa pg pw cells slots (pc + 3) lv st σ) : PP p l e R s m args below meth c nL A D Q kI kC pa pg pw cells slots pc lv (.int (iI y) :: .int (iI x) :: st) σ := by
  intro θ hθ H locs ls hP hD hS hl
  refine lv_icmp_lt X.1 X.2.1 hdg ht (fun h => kt (by have q1 := iI_eq hx hy; have q2 := iI_lt hx hy; have q3 := iI_le hx hy; have q4 := iI_lt hy hx; have q5 := iI_le hy hx; simp only [q1, q2, q3, q4, q5] at h; omega) θ hθ H locs ls hP hD hS hl) (fun h => kf (by have q1 := iI_eq hx hy; have q2 := iI_lt hx hy; have q3 := iI_le hx hy; have q4 := iI_lt hy hx; have q5 := iI_le hy hx; simp only [q1, q2, q3, q4, q5] at h; omega) θ hθ H locs ls hP hD hS hl)
theorem P_if_lt (X : Cx p R s m args meth c cc nL own Ts A D kI kC) {x off : Int} (tgt : Nat) (hdg : decode cc pc = .ok (.ifCond .lt off, 3)) (ht : (pc : Int) + off = (tgt : Int)) (hx : IR x) (kt : x < 0 → PP p l e R s m args below meth c nL A D Q kI kC pa pg pw cells slots tgt lv st σ) (kf : 0 ≤ x → PP p l e R s m args below meth c nL A D Q kI kC pa pg pw cells slots (pc + 3) lv st σ) : PP p l e R s m args below meth c nL A D Q kI kC pa pg pw cells slots pc lv (.int (iI x) :: st) σ := by
  intro θ hθ H locs ls hP hD hS hl
  have hy : IR 0 := ⟨by decide, by decide⟩
  have e0 : (0 : Int32) = iI 0 := rfl
  refine lv_if_lt X.1 X.2.1 hdg ht (fun h => kt (by rw [e0] at h; have q1 := iI_eq hx hy; have q2 := iI_lt hx hy; have q3 := iI_le hx hy; have q4 := iI_lt hy hx; have q5 := iI_le hy hx; simp only [q1, q2, q3, q4, q5] at h; omega) θ hθ H locs ls hP hD hS hl) (fun h => kf (by rw [e0] at h; have q1 := iI_eq hx hy; have q2 := iI_lt hx hy; have q3 := iI_le hx hy; have q4 := iI_lt hy hx; have q5 := iI_le hy hx; simp only [q1, q2, q3, q4, q5] at h; omega) θ hθ H locs ls hP hD hS hl)
theorem P_icmp_ge (X : Cx p R s m args meth c cc nL own Ts A D kI kC) {x y off : Int} (tgt : Nat) (hdg : decode cc pc = .ok (.if_icmp .ge off, 3)) (ht : (pc : Int) + off = (tgt : Int)) (hx : IR x) (hy : IR y) (kt : y ≤ x → PP p l e R s m args below meth c nL A D Q kI kC pa pg pw cells slots tgt lv st σ) (kf : x < y → PP p l e R s m args below meth c nL A D Q kI kC pa pg pw cells slots (pc + 3) lv st σ) : PP p l e R s m args below meth c nL A D Q kI kC pa pg pw cells slots pc lv (.int (iI y) :: .int (iI x) :: st) σ := by
  intro θ hθ H locs ls hP hD hS hl
  refine lv_icmp_ge X.1 X.2.1 hdg ht (fun h => kt (by have q1 := iI_eq hx hy; have q2 := iI_lt hx hy; have q3 := iI_le hx hy; have q4 := iI_lt hy hx; have q5 := iI_le hy hx; simp only [q1, q2, q3, q4, q5] at h; omega) θ hθ H locs ls hP hD hS hl) (fun h => kf (by have q1 := iI_eq hx hy; have q2 := iI_lt hx hy; have q3 := iI_le hx hy; have q4 := iI_lt hy hx; have q5 := iI_le hy hx; simp only [q1, q2, q3, q4, q5] at h; omega) θ hθ H locs ls hP hD hS hl)
theorem P_if_ge (X : Cx p R s m args meth c cc nL own Ts A D kI kC) {x off : Int} (tgt : Nat) (hdg : decode cc pc = .ok (.ifCond .ge off, 3)) (ht : (pc : Int) + off = (tgt : Int)) (hx : IR x) (kt : 0 ≤ x → PP p l e R s m args below meth c nL A D Q kI kC pa pg pw cells slots tgt lv st σ) (kf : x < 0 → PP p l e R s m args below meth c nL A D Q kI kC pa pg pw cells slots (pc + 3) lv st σ) : PP p l e R s m args below meth c nL A D Q kI kC pa pg pw cells slots pc lv (.int (iI x) :: st) σ := by
  intro θ hθ H locs ls hP hD hS hl
  have hy : IR 0 := ⟨by decide, by decide⟩
  have e0 : (0 : Int32) = iI 0 := rfl
  refine lv_if_ge X.1 X.2.1 hdg ht (fun h => kt (by rw [e0] at h; have q1 := iI_eq hx hy; have q2 := iI_lt hx hy; have q3 := iI_le hx hy; have q4 := iI_lt hy hx; have q5 := iI_le hy hx; simp only [q1, q2, q3, q4, q5] at h; omega) θ hθ H locs ls hP hD hS hl) (fun h => kf (by rw [e0] at h; have q1 := iI_eq hx hy; have q2 := iI_lt hx hy; have q3 := iI_le hx hy; have q4 := iI_lt hy hx; have q5 := iI_le hy hx; simp only [q1, q2, q3, q4, q5] at h; omega) θ hθ H locs ls hP hD hS hl)
theorem P_icmp_gt (X : Cx p R s m args meth c cc nL own Ts A D kI kC) {x y off : Int} (tgt : Nat) (hdg : decode cc pc = .ok (.if_icmp .gt off, 3)) (ht : (pc : Int) + off = (tgt : Int)) (hx : IR x) (hy : IR y) (kt : y < x → PP p l e R s m args below meth c nL A D Q kI kC pa pg pw cells slots tgt lv st σ) (kf : x ≤ y → PP p l e R s m args below meth c nL A D Q kI kC pa pg pw cells slots (pc + 3) lv st σ) : PP p l e R s m args below meth c nL A D Q kI kC pa pg pw cells slots pc lv (.int (iI y) :: .int (iI x) :: st) σ := by
  intro θ hθ H locs ls hP hD hS hl
  refine lv_icmp_gt X.1 X.2.1 hdg ht (fun h => kt (by have q1 := iI_eq hx hy; have q2 := iI_lt hx hy; have q3 := iI_le hx hy; have q4 := iI_lt hy hx; have q5 := iI_le hy hx; simp only [q1, q2, q3, q4, q5] at h; omega) θ hθ H locs ls hP hD hS hl) (fun h => kf (by have q1 := iI_eq hx hy; have q2 := iI_lt hx hy; have q3 := iI_le hx hy; have q4 := iI_lt hy hx; have q5 := iI_le hy hx; simp only [q1, q2, q3, q4, q5] at h; omega) θ hθ H locs ls hP hD hS hl)
theorem P_if_gt (X : Cx p R s m args meth c cc nL own Ts A D kI kC) {x off : Int} (tgt : Nat) (hdg : decode cc pc = .ok (.ifCond .gt off, 3)) (ht : (pc : Int) + off = (tgt : Int)) (hx : IR x) (kt : 0 < x → PP p l e R s m args below meth c nL A D Q kI kC pa pg pw cells slots tgt lv st σ) (kf : x ≤ 0 → PP p l e R s m args below meth c nL A D Q kI kC pa pg pw cells slots (pc + 3) lv st σ) : PP p l e R s m args below meth c nL A D Q kI kC pa pg pw cells slots pc lv (.int (iI x) :: st) σ := by
  intro θ hθ H locs ls hP hD hS hl
  have hy : IR 0 := ⟨by decide, by decide⟩
  have e0 : (0 : Int32) = iI 0 := rfl
  refine lv_if_gt X.1 X.2.1 hdg ht (fun h => kt (by rw [e0] at h; have q1 := iI_eq hx hy; have q2 := iI_lt hx hy; have q3 := iI_le hx hy; have q4 := iI_lt hy hx; have q5 := iI_le hy hx; simp only [q1, q2, q3, q4, q5] at h; omega) θ hθ H locs ls hP hD hS hl) (fun h => kf (by rw [e0] at h; have q1 := iI_eq hx hy; have q2 := iI_lt hx hy; have q3 := iI_le hx hy; have q4 := iI_lt hy hx; have q5 := iI_le hy hx; simp only [q1, q2, q3, q4, q5] at h; omega) θ hθ H locs ls hP hD hS hl)
theorem P_icmp_le (X : Cx p R s m args meth c cc nL own Ts A D kI kC) {x y off : Int} (tgt : Nat) (hdg : decode cc pc = .ok (.if_icmp .le off, 3)) (ht : (pc : Int) + off = (tgt : Int)) (hx : IR x) (hy : IR y) (kt : x ≤ y → PP p l e R s m args below meth c nL A D Q kI kC pa pg pw cells slots tgt lv st σ) (kf : y < x → PP p l e R s m args below meth c nL A D Q kI kC pa pg pw cells slots (pc + 3) lv st σ) : PP p l e R s m args below meth c nL A D Q kI kC pa pg pw cells slots pc lv (.int (iI y) :: .int (iI x) :: st) σ := by
  intro θ hθ H locs ls hP hD hS hl
  refine lv_icmp_le X.1 X.2.1 hdg ht (fun h => kt (by have q1 := iI_eq hx hy; have q2 := iI_lt hx hy; have q3 := iI_le hx hy; have q4 := iI_lt hy hx; have q5 := iI_le hy hx; simp only [q1, q2, q3, q4, q5] at h; omega) θ hθ H locs ls hP hD hS hl) (fun h => kf (by have q1 := iI_eq hx hy; have q2 := iI_lt hx hy; have q3 := iI_le hx hy; have q4 := iI_lt hy hx; have q5 := iI_le hy hx; simp only [q1, q2, q3, q4, q5] at h; omega) θ hθ H locs ls hP hD hS hl)
theorem P_if_le (X : Cx p R s m args meth c cc nL own Ts A D kI kC) {x off : Int} (tgt : Nat) (hdg : decode cc pc = .ok (.ifCond .le off, 3)) (ht : (pc : Int) + off = (tgt : Int)) (hx : IR x) (kt : x ≤ 0 → PP p l e R s m args below meth c nL A D Q kI kC pa pg pw cells slots tgt lv st σ) (kf : 0 < x → PP p l e R s m args below meth c nL A D Q kI kC pa pg pw cells slots (pc + 3) lv st σ) : PP p l e R s m args below meth c nL A D Q kI kC pa pg pw cells slots pc lv (.int (iI x) :: st) σ := by
  intro θ hθ H locs ls hP hD hS hl
  have hy : IR 0 := ⟨by decide, by decide⟩
  have e0 : (0 : Int32) = iI 0 := rfl
  refine lv_if_le X.1 X.2.1 hdg ht (fun h => kt (by rw [e0] at h; have q1 := iI_eq hx hy; have q2 := iI_lt hx hy; have q3 := iI_le hx hy; have q4 := iI_lt hy hx; have q5 := iI_le hy hx; simp only [q1, q2, q3, q4, q5] at h; omega) θ hθ H locs ls hP hD hS hl) (fun h => kf (by rw [e0] at h; have q1 := iI_eq hx hy; have q2 := iI_lt hx hy; have q3 := iI_le hx hy; have q4 := iI_lt hy hx; have q5 := iI_le hy hx; simp only [q1, q2, q3, q4, q5] at h; omega) θ hθ H locs ls hP hD hS hl)
theorem P_bif_eq (X : Cx p R s m args meth c cc nL own Ts A D kI kC) {b : Bool} {off : Int} (tgt : Nat) (hdg : decode cc pc = .ok (.ifCond .eq off, 3)) (ht : (pc : Int) + off = (tgt : Int)) (kt : b = false → PP p l e R s m args below meth c nL A D Q kI kC pa pg pw cells slots tgt lv st σ) (kf : b = true → PP p l e R s m args below meth c nL A D Q kI kC pa pg pw cells slots (pc + 3) lv st σ) : PP p l e R s m args below meth c nL A D Q kI kC pa pg pw cells slots pc lv (.int (iI (bI b)) :: st) σ := P_if_eq X tgt hdg ht (IR_bI b) (fun h => kt (bI_0 h)) (fun h => kf (bI_1 h))
theorem P_bif_ne (X : Cx p R s m args meth c cc nL own Ts A D kI kC) {b : Bool} {off : Int} (tgt : Nat) (hdg : decode cc pc = .ok (.ifCond .ne off, 3)) (ht : (pc : Int) + off = (tgt : Int)) (kt : b = true → PP p l e R s m args below meth c nL A D Q kI kC pa pg pw cells slots tgt lv st σ) (kf : b = false → PP p l e R s m args below meth c nL A D Q kI kC pa pg pw cells slots (pc + 3) lv st σ) : PP p l e R s m args below meth c nL A D Q kI kC pa pg pw cells slots pc lv (.int (iI (bI b)) :: st) σ := P_if_ne X tgt hdg ht (IR_bI b) (fun h => kt (bI_1 h)) (fun h => kf (bI_0 h))
theorem P_top {x y : Int} (h : x = y) (k : PP p l e R s m args below meth c nL A D Q kI kC pa pg pw cells slots pc lv (.int (iI y) :: st) σ) : PP p l e R s m args below meth c nL A D Q kI kC pa pg pw cells slots pc lv (.int (iI x) :: st) σ := by rw [h]; exact k
theorem P_istore_n (X : Cx p R s m args meth c cc nL own Ts A D kI kC) {i : Fin 4} {x : Int32} (j : Nat) (hij : (i : Nat) = j) (hdg : decode cc pc = .ok (.istore_n i, 1)) (ho : okL lv j = true) (hi : j < nL) (k : PP p l e R s m args below meth c nL A D Q kI kC pa pg pw cells slots (pc + 1) (lv.set j (some (.int x))) st σ) : PP p l e R s m args below meth c nL A D Q kI kC pa pg pw cells slots pc lv (.int x :: st) σ := by
  intro θ hθ H locs ls hP hD hS hl
  refine lv_istore_n X.1 X.2.1 hdg hij (L2_has hl) hi rfl (fun ls1 h1 => ?_)
  exact k θ hθ H locs ls1 hP hD hS (L2_set hl ho h1)
theorem P_istore (X : Cx p R s m args meth c cc nL own Ts A D kI kC) {i : Nat} {x : Int32} (hdg : decode cc pc = .ok (.istore i, 2)) (ho : okL lv i = true) (hi : i < nL) (k : PP p l e R s m args below meth c nL A D Q kI kC pa pg pw cells slots (pc + 2) (lv.set i (some (.int x))) st σ) : PP p l e R s m args below meth c nL A D Q kI kC pa pg pw cells slots pc lv (.int x :: st) σ := by
  intro θ hθ H locs ls hP hD hS hl
  refine lv_istore X.1 X.2.1 hdg (L2_has hl) hi rfl (fun ls1 h1 => ?_)
  exact k θ hθ H locs ls1 hP hD hS (L2_set hl ho h1)
theorem P_astore_n (X : Cx p R s m args meth c cc nL own Ts A D kI kC) {i : Fin 4} {x : Nat} (j : Nat) (hij : (i : Nat) = j) (hdg : decode cc pc = .ok (.astore_n i, 1)) (ho : okL lv j = true) (hi : j < nL) (k : PP p l e R s m args below meth c nL A D Q kI kC pa pg pw cells slots (pc + 1) (lv.set j (some (.ref x))) st σ) : PP p l e R s m args below meth c nL A D Q kI kC pa pg pw cells slots pc lv (.ref x :: st) σ := by
  intro θ hθ H locs ls hP hD hS hl
  refine lv_astore_n X.1 X.2.1 hdg hij (L2_has hl) hi rfl (fun ls1 h1 => ?_)
  exact k θ hθ H locs ls1 hP hD hS (L2_set hl ho h1)
theorem P_astore (X : Cx p R s m args meth c cc nL own Ts A D kI kC) {i : Nat} {x : Nat} (hdg : decode cc pc = .ok (.astore i, 2)) (ho : okL lv i = true) (hi : i < nL) (k : PP p l e R s m args below meth c nL A D Q kI kC pa pg pw cells slots (pc + 2) (lv.set i (some (.ref x))) st σ) : PP p l e R s m args below meth c nL A D Q kI kC pa pg pw cells slots pc lv (.ref x :: st) σ := by
  intro θ hθ H locs ls hP hD hS hl
  refine lv_astore X.1 X.2.1 hdg (L2_has hl) hi rfl (fun ls1 h1 => ?_)
  exact k θ hθ H locs ls1 hP hD hS (L2_set hl ho h1)
theorem P_lstore_n (X : Cx p R s m args meth c cc nL own Ts A D kI kC) {i : Fin 4} {x : Int64} (j : Nat) (hij : (i : Nat) = j) (hdg : decode cc pc = .ok (.lstore_n i, 1)) (ho : okL lv j = true) (hi : j + 1 < nL) (k : PP p l e R s m args below meth c nL A D Q kI kC pa pg pw cells slots (pc + 1) ((lv.set j (some (.long x))).set (j + 1) none) st σ) : PP p l e R s m args below meth c nL A D Q kI kC pa pg pw cells slots pc lv (.long x :: st) σ := by
  intro θ hθ H locs ls hP hD hS hl
  refine lv_lstore_n X.1 X.2.1 hdg hij (L2_has hl) hi rfl (fun ls1 h1 => ?_)
  exact k θ hθ H locs ls1 hP hD hS (L2_set2 hl ho h1)
theorem P_lstore (X : Cx p R s m args meth c cc nL own Ts A D kI kC) {i : Nat} {x : Int64} (hdg : decode cc pc = .ok (.lstore i, 2)) (ho : okL lv i = true) (hi : i + 1 < nL) (k : PP p l e R s m args below meth c nL A D Q kI kC pa pg pw cells slots (pc + 2) ((lv.set i (some (.long x))).set (i + 1) none) st σ) : PP p l e R s m args below meth c nL A D Q kI kC pa pg pw cells slots pc lv (.long x :: st) σ := by
  intro θ hθ H locs ls hP hD hS hl
  refine lv_lstore X.1 X.2.1 hdg (L2_has hl) hi rfl (fun ls1 h1 => ?_)
  exact k θ hθ H locs ls1 hP hD hS (L2_set2 hl ho h1)
theorem P_lload_n (X : Cx p R s m args meth c cc nL own Ts A D kI kC) {i : Fin 4} {x : Int64} (j : Nat) (hij : (i : Nat) = j) (hdg : decode cc pc = .ok (.lload_n i, 1)) (hv : lv[j]? = some (some (.long x))) (k : PP p l e R s m args below meth c nL A D Q kI kC pa pg pw cells slots (pc + 1) lv (.long x :: st) σ) : PP p l e R s m args below meth c nL A D Q kI kC pa pg pw cells slots pc lv st σ := by
  intro θ hθ H locs ls hP hD hS hl
  refine lv_lload_n X.1 X.2.1 hdg hij (hl.2.2 _ _ hv) ?_
  exact k θ hθ H locs ls hP hD hS hl
theorem P_lload (X : Cx p R s m args meth c cc nL own Ts A D kI kC) {i : Nat} {x : Int64} (hdg : decode cc pc = .ok (.lload i, 2)) (hv : lv[i]? = some (some (.long x))) (k : PP p l e R s m args below meth c nL A D Q kI kC pa pg pw cells slots (pc + 2) lv (.long x :: st) σ) : PP p l e R s m args below meth c nL A D Q kI kC pa pg pw cells slots pc lv st σ := by
  intro θ hθ H locs ls hP hD hS hl
  refine lv_lload X.1 X.2.1 hdg (hl.2.2 _ _ hv) ?_
  exact k θ hθ H locs ls hP hD hS hl
theorem P_iinc (X : Cx p R s m args meth c cc nL own Ts A D kI kC) {i : Nat} {n : Int} {x : Int} (hdg : decode cc pc = .ok (.iinc i n, 3)) (hv : lv[i]? = some (some (.int (iI x)))) (ho : okL lv i = true) (hi : i < nL) (k : PP p l e R s m args below meth c nL A D Q kI kC pa pg pw cells slots (pc + 3) (lv.set i (some (.int (iI (x + n))))) st σ) : PP p l e R s m args below meth c nL A D Q kI kC pa pg pw cells slots pc lv st σ := by
  intro θ hθ H locs ls hP hD hS hl
  obtain ⟨j, hj⟩ := L2_idx hv
  refine lv_iinc (k := j) (v := iI (x + n)) X.1 X.2.1 hdg (L2_has hl) hj (iI_add x n) hi rfl (fun ls1 h1 => ?_)
  exact k θ hθ H locs ls1 hP hD hS (L2_set hl ho h1)
theorem P_kill (i : Nat) (k : PP p l e R s m args below meth c nL A D Q kI kC pa pg pw cells slots pc (lv.set i none) st σ) : PP p l e R s m args below meth c nL A D Q kI kC pa pg pw cells slots pc lv st σ := by
  intro θ hθ H locs ls hP hD hS hl
  exact k θ hθ H locs ls hP hD hS (L2_kill hl i)
theorem P_ldc (X : Cx p R s m args meth c cc nL own Ts A D kI kC) {index : Nat} {v : Int32} (hw : Cond.constant own index v ∈ Ts) (hdg : decode cc pc = .ok (.ldc index, 2)) (k : PP p l e R s m args below meth c nL A D Q kI kC pa pg pw cells slots (pc + 2) lv (.int v :: st) σ) : PP p l e R s m args below meth c nL A D Q kI kC pa pg pw cells slots pc lv st σ := by
  intro θ hθ H locs ls hP hD hS hl
  refine lv_ldc X.1 X.2.1 X.2.2.2.1 (X.2.2.2.2.1 _ hw) hdg ?_
  exact k θ hθ H locs ls hP hD hS hl
theorem P_ldc2 (X : Cx p R s m args meth c cc nL own Ts A D kI kC) {index : Nat} {v : Int64} (hw : Cond.constantLong own index v ∈ Ts) (hdg : decode cc pc = .ok (.ldc2_w index, 3)) (k : PP p l e R s m args below meth c nL A D Q kI kC pa pg pw cells slots (pc + 3) lv (.long v :: st) σ) : PP p l e R s m args below meth c nL A D Q kI kC pa pg pw cells slots pc lv st σ := by
  intro θ hθ H locs ls hP hD hS hl
  refine lv_ldc2 X.1 X.2.1 X.2.2.2.1 (X.2.2.2.2.1 _ hw) hdg ?_
  exact k θ hθ H locs ls hP hD hS hl
theorem P_iand (X : Cx p R s m args meth c cc nL own Ts A D kI kC) {x y : Int32} (hdg : decode cc pc = .ok (.iand, 1)) (k : PP p l e R s m args below meth c nL A D Q kI kC pa pg pw cells slots (pc + 1) lv (.int (x &&& y) :: st) σ) : PP p l e R s m args below meth c nL A D Q kI kC pa pg pw cells slots pc lv (.int y :: .int x :: st) σ := by
  intro θ hθ H locs ls hP hD hS hl
  refine lv_iand X.1 X.2.1 hdg ?_
  exact k θ hθ H locs ls hP hD hS hl
theorem P_ior (X : Cx p R s m args meth c cc nL own Ts A D kI kC) {x y : Int32} (hdg : decode cc pc = .ok (.ior, 1)) (k : PP p l e R s m args below meth c nL A D Q kI kC pa pg pw cells slots (pc + 1) lv (.int (x ||| y) :: st) σ) : PP p l e R s m args below meth c nL A D Q kI kC pa pg pw cells slots pc lv (.int y :: .int x :: st) σ := by
  intro θ hθ H locs ls hP hD hS hl
  refine lv_ior X.1 X.2.1 hdg ?_
  exact k θ hθ H locs ls hP hD hS hl
theorem P_ishl (X : Cx p R s m args meth c cc nL own Ts A D kI kC) {x y : Int32} (hdg : decode cc pc = .ok (.ishl, 1)) (k : PP p l e R s m args below meth c nL A D Q kI kC pa pg pw cells slots (pc + 1) lv (.int (x <<< (y &&& 31)) :: st) σ) : PP p l e R s m args below meth c nL A D Q kI kC pa pg pw cells slots pc lv (.int y :: .int x :: st) σ := by
  intro θ hθ H locs ls hP hD hS hl
  refine lv_ishl X.1 X.2.1 hdg ?_
  exact k θ hθ H locs ls hP hD hS hl
theorem P_ishr (X : Cx p R s m args meth c cc nL own Ts A D kI kC) {x y : Int32} (hdg : decode cc pc = .ok (.ishr, 1)) (k : PP p l e R s m args below meth c nL A D Q kI kC pa pg pw cells slots (pc + 1) lv (.int (x >>> (y &&& 31)) :: st) σ) : PP p l e R s m args below meth c nL A D Q kI kC pa pg pw cells slots pc lv (.int y :: .int x :: st) σ := by
  intro θ hθ H locs ls hP hD hS hl
  refine lv_ishr X.1 X.2.1 hdg ?_
  exact k θ hθ H locs ls hP hD hS hl
theorem P_ladd (X : Cx p R s m args meth c cc nL own Ts A D kI kC) {x y : Int64} (hdg : decode cc pc = .ok (.ladd, 1)) (k : PP p l e R s m args below meth c nL A D Q kI kC pa pg pw cells slots (pc + 1) lv (.long (x + y) :: st) σ) : PP p l e R s m args below meth c nL A D Q kI kC pa pg pw cells slots pc lv (.long y :: .long x :: st) σ := by
  intro θ hθ H locs ls hP hD hS hl
  refine lv_ladd X.1 X.2.1 hdg ?_
  exact k θ hθ H locs ls hP hD hS hl
theorem P_lmul (X : Cx p R s m args meth c cc nL own Ts A D kI kC) {x y : Int64} (hdg : decode cc pc = .ok (.lmul, 1)) (k : PP p l e R s m args below meth c nL A D Q kI kC pa pg pw cells slots (pc + 1) lv (.long (x * y) :: st) σ) : PP p l e R s m args below meth c nL A D Q kI kC pa pg pw cells slots pc lv (.long y :: .long x :: st) σ := by
  intro θ hθ H locs ls hP hD hS hl
  refine lv_lmul X.1 X.2.1 hdg ?_
  exact k θ hθ H locs ls hP hD hS hl
theorem P_i2l (X : Cx p R s m args meth c cc nL own Ts A D kI kC) {x : Int} (hdg : decode cc pc = .ok (.i2l, 1)) (k : PP p l e R s m args below meth c nL A D Q kI kC pa pg pw cells slots (pc + 1) lv (.long (iI x).toInt64 :: st) σ) : PP p l e R s m args below meth c nL A D Q kI kC pa pg pw cells slots pc lv (.int (iI x) :: st) σ := by
  intro θ hθ H locs ls hP hD hS hl
  refine lv_i2l X.1 X.2.1 hdg rfl ?_
  exact k θ hθ H locs ls hP hD hS hl
theorem P_lcmp (X : Cx p R s m args meth c cc nL own Ts A D kI kC) {x y : Int64} (hdg : decode cc pc = .ok (.lcmp, 1)) (k : PP p l e R s m args below meth c nL A D Q kI kC pa pg pw cells slots (pc + 1) lv (.int (lg_cmp x y) :: st) σ) : PP p l e R s m args below meth c nL A D Q kI kC pa pg pw cells slots pc lv (.long y :: .long x :: st) σ := by
  intro θ hθ H locs ls hP hD hS hl
  refine W.lcmp X.1 X.2.1 hdg ?_
  exact k θ hθ H locs ls hP hD hS hl
theorem P_pop (X : Cx p R s m args meth c cc nL own Ts A D kI kC) {va : Value} (hdg : decode cc pc = .ok (.pop, 1)) (hc : va.category = 1) (k : PP p l e R s m args below meth c nL A D Q kI kC pa pg pw cells slots (pc + 1) lv st σ) : PP p l e R s m args below meth c nL A D Q kI kC pa pg pw cells slots pc lv (va :: st) σ := by
  intro θ hθ H locs ls hP hD hS hl
  refine lv_pop X.1 X.2.1 hdg hc ?_
  exact k θ hθ H locs ls hP hD hS hl
theorem P_irem (X : Cx p R s m args meth c cc nL own Ts A D kI kC) {x y : Int} (hdg : decode cc pc = .ok (.irem, 1)) (hx : 0 ≤ x) (hx2 : x < 2147483648) (hy : 0 < y) (hy2 : y < 2147483648) (k : PP p l e R s m args below meth c nL A D Q kI kC pa pg pw cells slots (pc + 1) lv (.int (iI (x % y)) :: st) σ) : PP p l e R s m args below meth c nL A D Q kI kC pa pg pw cells slots pc lv (.int (iI y) :: .int (iI x) :: st) σ := by
  intro θ hθ H locs ls hP hD hS hl
  refine lv_irem X.1 X.2.1 hdg (iI_ne0 hy hy2) ?_
  rw [iI_div hx hx2 hy hy2, iI_mul, iI_sub, show x - x / y * y = x % y by rw [Int.emod_def, Int.mul_comm]]
  exact k θ hθ H locs ls hP hD hS hl
theorem P_any {x : Int32} (k : ∀ z : Int, IR z → iI z = x → PP p l e R s m args below meth c nL A D Q kI kC pa pg pw cells slots pc lv (.int (iI z) :: st) σ) : PP p l e R s m args below meth c nL A D Q kI kC pa pg pw cells slots pc lv (.int x :: st) σ := by
  have h := k x.toInt (IR_of x) (iI_of x)
  rw [iI_of] at h
  exact h
theorem P_eqv {x y : Int32} (h : x = y) (k : PP p l e R s m args below meth c nL A D Q kI kC pa pg pw cells slots pc lv (.int y :: st) σ) : PP p l e R s m args below meth c nL A D Q kI kC pa pg pw cells slots pc lv (.int x :: st) σ := by rw [h]; exact k
theorem P_i2c (X : Cx p R s m args meth c cc nL own Ts A D kI kC) {x : Int} (hx : 0 ≤ x ∧ x < 65536) (hdg : decode cc pc = .ok (.i2c, 1)) (k : PP p l e R s m args below meth c nL A D Q kI kC pa pg pw cells slots (pc + 1) lv (.int (iI x) :: st) σ) : PP p l e R s m args below meth c nL A D Q kI kC pa pg pw cells slots pc lv (.int (iI x) :: st) σ := by
  intro θ hθ H locs ls hP hD hS hl
  exact lv_i2c (v := iI x) X.1 X.2.1 hdg (i2c_id hx.1 hx.2) (k θ hθ H locs ls hP hD hS hl)
theorem P_lc_ne (X : Cx p R s m args meth c cc nL own Ts A D kI kC) {x y : Int64} {off : Int} (tgt : Nat) (hdg : decode cc pc = .ok (.ifCond .ne off, 3)) (ht : (pc : Int) + off = (tgt : Int)) (kt : x ≠ y → PP p l e R s m args below meth c nL A D Q kI kC pa pg pw cells slots tgt lv st σ) (kf : x = y → PP p l e R s m args below meth c nL A D Q kI kC pa pg pw cells slots (pc + 3) lv st σ) : PP p l e R s m args below meth c nL A D Q kI kC pa pg pw cells slots pc lv (.int (lg_cmp x y) :: st) σ := by
  intro θ hθ H locs ls hP hD hS hl
  exact lv_if_ne X.1 X.2.1 hdg ht (fun h => kt (by have := lg_cmp_eq x y; first | exact this.mp h | exact fun z => h (this.mpr z)) θ hθ H locs ls hP hD hS hl) (fun h => kf (by have := lg_cmp_eq x y; first | exact this.mp h | exact fun z => h (this.mpr z) | exact this.mp (Classical.not_not.mp h)) θ hθ H locs ls hP hD hS hl)
theorem P_lc_eq (X : Cx p R s m args meth c cc nL own Ts A D kI kC) {x y : Int64} {off : Int} (tgt : Nat) (hdg : decode cc pc = .ok (.ifCond .eq off, 3)) (ht : (pc : Int) + off = (tgt : Int)) (kt : x = y → PP p l e R s m args below meth c nL A D Q kI kC pa pg pw cells slots tgt lv st σ) (kf : x ≠ y → PP p l e R s m args below meth c nL A D Q kI kC pa pg pw cells slots (pc + 3) lv st σ) : PP p l e R s m args below meth c nL A D Q kI kC pa pg pw cells slots pc lv (.int (lg_cmp x y) :: st) σ := by
  intro θ hθ H locs ls hP hD hS hl
  exact lv_if_eq X.1 X.2.1 hdg ht (fun h => kt (by have := lg_cmp_eq x y; first | exact this.mp h | exact fun z => h (this.mpr z)) θ hθ H locs ls hP hD hS hl) (fun h => kf (by have := lg_cmp_eq x y; first | exact this.mp h | exact fun z => h (this.mpr z) | exact this.mp (Classical.not_not.mp h)) θ hθ H locs ls hP hD hS hl)
theorem P_lc_gt (X : Cx p R s m args meth c cc nL own Ts A D kI kC) {x y : Int64} {off : Int} (tgt : Nat) (hdg : decode cc pc = .ok (.ifCond .gt off, 3)) (ht : (pc : Int) + off = (tgt : Int)) (kt : ¬ x ≤ y → PP p l e R s m args below meth c nL A D Q kI kC pa pg pw cells slots tgt lv st σ) (kf : x ≤ y → PP p l e R s m args below meth c nL A D Q kI kC pa pg pw cells slots (pc + 3) lv st σ) : PP p l e R s m args below meth c nL A D Q kI kC pa pg pw cells slots pc lv (.int (lg_cmp x y) :: st) σ := by
  intro θ hθ H locs ls hP hD hS hl
  exact lv_if_gt X.1 X.2.1 hdg ht (fun h => kt (fun z => by have := lg_cmp_gt x y; exact absurd (this.mp h) (Int64.not_lt.mpr z)) θ hθ H locs ls hP hD hS hl) (fun h => kf (Int64.not_lt.mp (fun z => h ((lg_cmp_gt x y).mpr z))) θ hθ H locs ls hP hD hS hl)
/-- any call, once it is known to run -/
theorem VL_run {ws : va_W} (X : Cx p R s m args meth c cc nL own Ts A D kI kC) {W0 : va_W} {τ : Type} {Qf : Option Value → τ → Prop} {W1 : τ → va_W} {rm : Room} {a : Array Value} {rest : List Value}
    (is : List Nat) (hC : is.map (fun i => ws[i]?) = W0.map some) (hnd : va_nd is = true) (hlen : ∀ u, (W1 u).length = is.length)
    (hr : ∀ (H : Heap) (locs : List Loc) (ls : Array Slot), va_P D vwCl ws H → va_D A ws → va_S A s.heap H locs → ls.size = nL → va_Run p l e R s m args below meth c H locs cells slots rm.cells rm.slots (F0 m pc ls st) rest (conQ D Qf W1 (va_A W0 H.size) a) (va_A W0 H.size))
    (k : ∀ (v : Option Value) (u : τ), Qf v u → VL p l e R s m args below meth c nL A D Q (cells + rm.cells) (slots + rm.slots) (pc + 3) lv (v.toList ++ rest) (putW ws is (W1 u))) : VL p l e R s m args below meth c nL A D Q cells slots pc lv st ws := by
  intro H locs ls hP hD hS hl T hT XS
  have hF := va_free (wc := W0) hD hS X.2.2.2.2.2.2.2.1 is hC
  obtain ⟨v, st₀, t, T', L, h0, X', hL, e1, e2, ⟨⟨v2, u, hv, hp, hb, hd⟩, hz, hk⟩, hst⟩ := hr H locs ls hP hD hS hl.1 T hT XS
  cases hv
  rw [h0] at hz hk
  have hk2 : ∀ q : Nat, q < H.size → ¬ va_A W0 H.size q → T'.heap[q]? = H[q]? := fun q h1 h2 => by rw [e1]; exact hk q h1 h2
  obtain ⟨g1, g2⟩ := va_put1 hP hD is hC hnd (hlen u) hk2 hF (by rw [e1]; exact hb) hd
  obtain ⟨t2, a1, b1⟩ := k v u hp T'.heap (locs ++ L) ls g1 g2
    ⟨Nat.le_trans hS.1 (by rw [e1]; exact hz), fun q h1 h2 => by rw [e1, hk q (Nat.lt_of_lt_of_le h1 hS.1) (fun z => h2 (hF q z))]; exact hS.2.1 q h1 h2, fun q hq => by
      rcases List.mem_append.mp hq with h | h
      · exact hS.2.2 q h
      · exact hF _ (hL q h)⟩ hl T' rfl X'
  exact ⟨t2, hst t2 a1, b1⟩
theorem VL_callV {ws : va_W} (X : Cx p R s m args meth c cc nL own Ts A D kI kC) {y : MethodName} {wsc wsc' : List Cond} {rm : Room} {bytes : ByteArray} {maxL n index ci q0 b : Nat} {ret : Option FieldType} {C : String} {T : u_T} {N : Nat} {As rest : List Value} {fs : List Value} {W0 : va_W} {τ : Type} {Qf : Option Value → τ → Prop} {W1 : τ → va_W}
    (hM : Con l y wsc rm D kI kC (.ref b :: As) W0 Qf W1) (hG : GoodIn Ts (wsV own index C y wsc)) (hw : wsc = Cond.code y bytes maxL ret :: wsc') (hd : KM y C n) (hR : RF R rm maxL cells slots) (hz : rm.cells = 0 ∧ rm.slots = 0) (hn : As.length = n) (hst : st = As.reverse ++ .ref b :: rest) (hcat : (rest.map fun v => v.category).sum ≤ 8)
    (is : List Nat) (hC : is.map (fun i => ws[i]?) = W0.map some) (hnd : va_nd is = true) (hlen : ∀ u, (W1 u).length = is.length) (he : ws[q0]? = some (b, .inr (ci, fs))) (hc : vwCl[ci]? = some (C, T, N)) (hdg : decode cc pc = .ok (.invokevirtual index, 3))
    (k : ∀ (v : Option Value) (u : τ), Qf v u → VL p l e R s m args below meth c nL A D Q cells slots (pc + 3) lv (v.toList ++ rest) (putW ws is (W1 u))) : VL p l e R s m args below meth c nL A D Q cells slots pc lv st ws := by
  refine VL_run X (a := (Value.ref b :: As).toArray) is hC hnd hlen (fun H locs ls hP hD hS hsz => ?_) (fun v u h => by rw [hz.1, hz.2]; exact k v u h)
  exact va_runV ⟨X.1, X.2.1, X.2.2.1, X.2.2.2.1, X.2.2.2.2.1⟩ (hM H.size) (cwV n X.2.2.2.2.1 hG hw rfl rfl hd hR.1) ⟨conP_blind D kI kC _ _ _, va_recv X.2.2.2.2.2.1 hP hc he, fun U hU hW => conP_of X is hC hnd hP hD U hU hW⟩ rfl hn hsz hst (lv_room hcat) hdg hR.2
theorem VL_callS {ws : va_W} (X : Cx p R s m args meth c cc nL own Ts A D kI kC) {y : MethodName} {wsc wsc' : List Cond} {rm : Room} {bytes : ByteArray} {maxL n index : Nat} {ret : Option FieldType} {C : String} {As rest : List Value} {W0 : va_W} {τ : Type} {Qf : Option Value → τ → Prop} {W1 : τ → va_W}
    (hM : Con l y wsc rm D kI kC As W0 Qf W1) (hG : GoodIn Ts (va_wsS own index y wsc)) (hw : wsc = Cond.code y bytes maxL ret :: wsc') (hd : KM y C n) (hR : RF R rm maxL cells slots) (hz : rm.cells = 0 ∧ rm.slots = 0) (hn : As.length = n) (hst : st = As.reverse ++ rest) (hcat : (rest.map fun v => v.category).sum ≤ 8)
    (is : List Nat) (hC : is.map (fun i => ws[i]?) = W0.map some) (hnd : va_nd is = true) (hlen : ∀ u, (W1 u).length = is.length) (hdg : decode cc pc = .ok (.invokestatic index, 3))
    (k : ∀ (v : Option Value) (u : τ), Qf v u → VL p l e R s m args below meth c nL A D Q cells slots (pc + 3) lv (v.toList ++ rest) (putW ws is (W1 u))) : VL p l e R s m args below meth c nL A D Q cells slots pc lv st ws := by
  refine VL_run X (a := As.toArray) is hC hnd hlen (fun H locs ls hP hD hS hsz => ?_) (fun v u h => by rw [hz.1, hz.2]; exact k v u h)
  exact va_runS ⟨X.1, X.2.1, X.2.2.1, X.2.2.2.1, X.2.2.2.2.1⟩ (hM H.size) (va_cwS n X.2.2.2.2.1 hG hw rfl rfl hd.2 hR.1) ⟨conP_blind D kI kC _ _ _, fun U hU hW => conP_of X is hC hnd hP hD U hU hW⟩ rfl hn hsz hst (lv_room hcat) hdg hR.2
/-- a law's method: its contract over a pad's state -/
def PCon (l : Launch) (y : MethodName) (wsc : List Cond) (rm : Room) (D : va_G) (kI kC : ClassId) (pa pg pw : Nat → Nat) (av : List Value) (σ : PS) (f : Option Value → PS → Prop) : Prop :=
  ∀ θ : TH, thI θ σ → Con l y wsc rm D kI kC av (thW kI kC pa pg pw θ) (σ := TH) (fun v u => ∃ σ2, f v σ2 ∧ thI u σ2) (thW kI kC pa pg pw)
theorem PCon.of {y : MethodName} {wsc ws' : List Cond} {rm : Room} {maxL : Nat} {ret : Option FieldType} {av : List Value} {f : Option Value → PS → Prop}
    (hy : plainName y.cls = true) (hw : wsc = Cond.code y cc maxL ret :: ws') (hle : (lg_sl av).length ≤ maxL)
    (body : ∀ (p : Program) (e : Env) (s : State) (m : MethodId) (below : List Frame) (meth : Method) (c : Code) (A : Nat → Prop) (Qf : Option Value → TH → Prop), Cx p rm s m av.toArray meth c cc maxL y.cls wsc A D kI kC → meth.sig.returnType = ret → (∀ v σ2 u, f v σ2 → thI u σ2 → Qf v u) →
      PP p l e rm s m av.toArray below meth c maxL A D (MQ below (conQ D Qf (thW kI kC pa pg pw) A) av.toArray s rm.cells rm.slots A) kI kC pa pg pw 0 0 0 (entL av ++ List.replicate (maxL - (lg_sl av).length) none) [] σ) : PCon l y wsc rm D kI kC pa pg pw av σ f := by
  intro θ hθ sz
  refine Met.ofW (cc := cc) (maxL := maxL) (ret := ret) hy hw ?_
  intro p e s m args below meth c s₁ B hml hv
  obtain ⟨rfl, hsz, hP, hK, hD0⟩ := hv
  subst hsz
  have hts := atoms_spec (ws := wsc) B.pre
  have hown : s.vm.findClass y.cls = some m.cls := findClass_of_methodNamed B.named
  have hl := lv_entry av (n := maxL) hle
  rw [lg_entry_eq]
  exact body p e s m below meth c (va_A (thW kI kC pa pg pw θ) s.heap.size) _ ⟨B.exec, B.bytes, hml, hown, hts, hK.1, hK.2, fun q h => Or.inr h, B.notSynchronized, rfl⟩ B.returns (fun v σ2 u h1 h2 => ⟨σ2, h1, h2⟩) θ hθ s.heap [] _ hP hD0.self va_S.rf (L2_entry hl _)
theorem P_call (X : Cx p R s m args meth c cc nL own Ts A D kI kC) {y : MethodName} {wsc wsc' : List Cond} {rm : Room} {bytes : ByteArray} {maxL n index : Nat} {ret : Option FieldType} {C : String} {As rest : List Value} {f : Option Value → PS → Prop}
    (hM : PCon l y wsc rm D kI kC pa pg pw As σ f) (hG : GoodIn Ts (va_wsS own index y wsc)) (hw : wsc = Cond.code y bytes maxL ret :: wsc') (hd : KM y C n) (hR : RF R rm maxL cells slots) (hz : rm.cells = 0 ∧ rm.slots = 0) (hn : As.length = n) (hst : st = As.reverse ++ rest) (hcat : (rest.map fun v => v.category).sum ≤ 8)
    (hdg : decode cc pc = .ok (.invokestatic index, 3))
    (k : ∀ (v : Option Value) (σ2 : PS), f v σ2 → PP p l e R s m args below meth c nL A D Q kI kC pa pg pw cells slots (pc + 3) lv (v.toList ++ rest) σ2) : PP p l e R s m args below meth c nL A D Q kI kC pa pg pw cells slots pc lv st σ := by
  intro θ hθ
  have hl := thW_len kI kC pa pg pw θ
  generalize hws : thW kI kC pa pg pw θ = ws at hl ⊢
  have hrm := range_map ws
  rw [hl] at hrm
  have hM2 := hM θ hθ
  rw [hws] at hM2
  refine VL_callS X hM2 hG hw hd hR hz hn hst hcat (List.range 39) hrm rfl (fun u => by rw [thW_len, List.length_range]) hdg (fun v u hu => ?_)
  obtain ⟨σ2, h1, h2⟩ := hu
  have h3 := putW_range ws (thW kI kC pa pg pw u) (by rw [hl]; exact thW_len kI kC pa pg pw u)
  rw [hl] at h3
  rw [h3]
  exact k v σ2 h1 u h2
theorem P_loop {τ : Type} (μ : τ → Nat) (J : τ → Prop) (lvf : τ → List (Option Value)) (wsf : τ → PS) (u0 : τ) (h0 : J u0) (elv : lvf u0 = lv) (ews : wsf u0 = σ)
    (body : ∀ u, J u → (∀ u', J u' → μ u' < μ u → PP p l e R s m args below meth c nL A D Q kI kC pa pg pw cells slots pc (lvf u') st (wsf u')) → PP p l e R s m args below meth c nL A D Q kI kC pa pg pw cells slots pc (lvf u) st (wsf u)) : PP p l e R s m args below meth c nL A D Q kI kC pa pg pw cells slots pc lv st σ := by
  subst elv ews
  have key : ∀ (k : Nat) (u : τ), μ u < k → J u → PP p l e R s m args below meth c nL A D Q kI kC pa pg pw cells slots pc (lvf u) st (wsf u) := by
    intro k
    induction k with
    | zero => intro u h; exact absurd h (Nat.not_lt_zero _)
    | succ k ih => exact fun u h hJ => body u hJ (fun u' hJ' hlt => ih u' (by omega) hJ')
  exact key (μ u0 + 1) u0 (Nat.lt_succ_self _) h0
theorem P_loopR {τ : Type} (μ : τ → Nat) (J : τ → Prop) (lvf : τ → List (Option Value)) (u0 : τ) (h0 : J u0) (elv : lvf u0 = lv)
    (body : ∀ u, J u → (∀ u', J u' → μ u' < μ u → PP p l e R s m args below meth c nL A D Q kI kC pa pg pw cells slots pc (lvf u') st σ) → PP p l e R s m args below meth c nL A D Q kI kC pa pg pw cells slots pc (lvf u) st σ) : PP p l e R s m args below meth c nL A D Q kI kC pa pg pw cells slots pc lv st σ :=
  P_loop μ J lvf (fun _ => σ) u0 h0 elv rfl body
theorem P_ok (k : OkPS σ → PP p l e R s m args below meth c nL A D Q kI kC pa pg pw cells slots pc lv st σ) : PP p l e R s m args below meth c nL A D Q kI kC pa pg pw cells slots pc lv st σ := fun θ hθ => k (thI_ok hθ) θ hθ
/-- ends -/
theorem P_iret (X : Cx p R s m args meth c cc nL own Ts A D kI kC) {Qf : Option Value → TH → Prop} {r : Int} (hr : meth.sig.returnType = some .int) (hdg : decode cc pc = .ok (.ireturn, 1)) (hq : ∀ u, thI u σ → Qf (some (.int (iI r))) u) : PP p l e R s m args below meth c nL A D (MQ below (conQ D Qf (thW kI kC pa pg pw) A) args s cells slots A) kI kC pa pg pw cells slots pc lv [.int (iI r)] σ := by
  intro θ hθ H locs ls hP hD hS hl
  exact W.iret X.1 X.2.1 hr (fun t ht hW => ⟨⟨_, θ, rfl, hq θ hθ, by rw [ht]; exact hP, hD⟩, hS.F ht⟩) hS.2.2 hdg (hlocks := X.2.2.2.2.2.2.2.2.1)
theorem P_zret (X : Cx p R s m args meth c cc nL own Ts A D kI kC) {Qf : Option Value → TH → Prop} {r : Bool} (hr : meth.sig.returnType = some .boolean) (hdg : decode cc pc = .ok (.ireturn, 1)) (hq : ∀ u, thI u σ → Qf (some (.int (iI (bI r)))) u) : PP p l e R s m args below meth c nL A D (MQ below (conQ D Qf (thW kI kC pa pg pw) A) args s cells slots A) kI kC pa pg pw cells slots pc lv [.int (iI (bI r))] σ := by
  intro θ hθ H locs ls hP hD hS hl
  exact W.zret X.1 X.2.1 hr (by cases r <;> rfl) (fun t ht hW => ⟨⟨_, θ, rfl, hq θ hθ, by rw [ht]; exact hP, hD⟩, hS.F ht⟩) hS.2.2 hdg (hlocks := X.2.2.2.2.2.2.2.2.1)
theorem P_lret (X : Cx p R s m args meth c cc nL own Ts A D kI kC) {Qf : Option Value → TH → Prop} {r : Int64} (hr : meth.sig.returnType = some .long) (hdg : decode cc pc = .ok (.lreturn, 1)) (hq : ∀ u, thI u σ → Qf (some (.long r)) u) : PP p l e R s m args below meth c nL A D (MQ below (conQ D Qf (thW kI kC pa pg pw) A) args s cells slots A) kI kC pa pg pw cells slots pc lv [.long r] σ := by
  intro θ hθ H locs ls hP hD hS hl
  exact W.lret X.1 X.2.1 hr (fun t ht hW => ⟨⟨_, θ, rfl, hq θ hθ, by rw [ht]; exact hP, hD⟩, hS.F ht⟩) hS.2.2 hdg (hlocks := X.2.2.2.2.2.2.2.2.1)
end PKIT
