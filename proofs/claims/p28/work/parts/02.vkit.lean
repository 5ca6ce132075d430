/-! the V layer: the machine at a place, its world and its variables as lists; ints by their mathematical values -/
section VKIT
def iI (z : Int) : Int32 := Int32.ofInt z
def IR (z : Int) : Prop := -2147483648 ≤ z ∧ z < 2147483648
def bI (b : Bool) : Int := cond b 1 0
theorem IR_bI (b : Bool) : IR (bI b) := by cases b <;> exact ⟨by decide, by decide⟩
theorem bI_0 {b : Bool} (h : bI b = 0) : b = false := by cases b with | false => rfl | true => exact absurd h (by decide)
theorem bI_1 {b : Bool} (h : bI b ≠ 0) : b = true := by cases b with | true => rfl | false => exact absurd rfl h
theorem iI_bm {z : Int} (h : IR z) : z.bmod (2 ^ 32) = z := by
  have h1 := h.1
  have h2 := h.2
  rw [Int.bmod_eq_of_le (by omega) (by omega)]
theorem iI_T {z : Int} (h : IR z) : (iI z).toInt = z := by
  unfold iI
  rw [Int32.toInt_ofInt]
  exact iI_bm h
theorem iI_of (x : Int32) : iI x.toInt = x := Int32.ofInt_toInt x
theorem IR_of (x : Int32) : IR x.toInt := by
  have h1 := Int32.le_toInt x
  have h2 := Int32.toInt_lt x
  unfold IR
  omega
theorem iI_add (a b : Int) : iI a + iI b = iI (a + b) := (Int32.ofInt_add a b).symm
theorem iI_sub (a b : Int) : iI a - iI b = iI (a - b) := (Int32.ofInt_sub a b).symm
theorem iI_mul (a b : Int) : iI a * iI b = iI (a * b) := (Int32.ofInt_mul a b).symm
theorem iI_eq {a b : Int} (ha : IR a) (hb : IR b) : iI a = iI b ↔ a = b := by rw [← Int32.toInt_inj, iI_T ha, iI_T hb]
theorem iI_lt {a b : Int} (ha : IR a) (hb : IR b) : iI a < iI b ↔ a < b := by rw [Int32.lt_iff_toInt_lt, iI_T ha, iI_T hb]
theorem iI_le {a b : Int} (ha : IR a) (hb : IR b) : iI a ≤ iI b ↔ a ≤ b := by rw [Int32.le_iff_toInt_le, iI_T ha, iI_T hb]
theorem iI_N {k : Nat} (h : k < 2147483648) : iI (k : Int) = nI k := by
  apply Int32.toInt_inj.mp
  rw [iI_T ⟨by omega, by omega⟩, nI_toInt h]
theorem iI_cl {k : Nat} (h : k < 2147483648) : (iI (k : Int)).toNatClampNeg = k := by rw [iI_N h, nI_clamp h]
theorem iI_in {k n : Nat} (h : k < n) (hn : n < 2147483648) : vp_in (iI (k : Int)) n := by rw [iI_N (by omega)]; exact vp_in_nI h hn
theorem iI_nn {k : Nat} (h : k < 2147483648) : ¬ iI (k : Int) < 0 := by rw [iI_N h]; exact nI_pos h
theorem iI_ne0 {y : Int} (hy : 0 < y) (hy2 : y < 2147483648) : ¬ iI y = 0 := by
  intro h
  have h2 : iI y = iI 0 := h
  rw [iI_eq ⟨by omega, hy2⟩ ⟨by decide, by decide⟩] at h2
  omega
theorem iI_div {x y : Int} (hx : 0 ≤ x) (hx2 : x < 2147483648) (hy : 0 < y) (hy2 : y < 2147483648) : iI x / iI y = iI (x / y) := by
  obtain ⟨a, rfl⟩ : ∃ a : Nat, x = (a : Int) := ⟨x.toNat, by omega⟩
  obtain ⟨b, rfl⟩ : ∃ b : Nat, y = (b : Int) := ⟨y.toNat, by omega⟩
  have hlt : a / b < 2147483648 := Nat.lt_of_le_of_lt (Nat.div_le_self a b) (by omega)
  rw [iI_N (by omega), iI_N (by omega), pk_div (by omega) (by omega) (by omega), ← Int.natCast_ediv, iI_N hlt]
theorem iI_bv {k : Nat} (h : k < 2147483648) : (iI (k : Int)).toBitVec.toNat = k := by rw [iI_N h]; exact pk_tn (by omega)
theorem iI_mask {x : Int} {y : Int32} (j : Nat) (hx : 0 ≤ x) (hx2 : x < 2147483648) (hm : y.toBitVec.toNat = 2 ^ j - 1) : iI x &&& y = iI (x % (2 : Int) ^ j) := by
  obtain ⟨a, rfl⟩ : ∃ a : Nat, x = (a : Int) := ⟨x.toNat, by omega⟩
  have hlt : a % 2 ^ j < 2147483648 := Nat.lt_of_le_of_lt (Nat.mod_le a _) (by omega)
  rw [pk_and _ j hm, iI_bv (by omega), ← iI_N hlt]
  congr 1
theorem iI_shr1 {x : Int} (hx : 0 ≤ x) (hx2 : x < 2147483648) : iI x >>> (iI 1 &&& 31) = iI (x / 2) := by
  obtain ⟨a, rfl⟩ : ∃ a : Nat, x = (a : Int) := ⟨x.toNat, by omega⟩
  have hlt : a / 2 < 2147483648 := by omega
  rw [iI_N (by omega), pk_shrN (by omega) _ 1 (by decide), ← iI_N (by omega)]
  congr 1
theorem iI_max {x y : Int} (hx : IR x) (hy : IR y) : (if iI x < iI y then iI y else iI x) = iI (max x y) := by
  have h := iI_lt hx hy
  by_cases q : x < y
  · rw [if_pos (h.mpr q)]; congr 1; omega
  · rw [if_neg (fun z => q (h.mp z))]; congr 1; omega
theorem iI_min {x y : Int} (hx : IR x) (hy : IR y) : (if iI y < iI x then iI y else iI x) = iI (min x y) := by
  have h := iI_lt hy hx
  by_cases q : y < x
  · rw [if_pos (h.mpr q)]; congr 1; omega
  · rw [if_neg (fun z => q (h.mp z))]; congr 1; omega
theorem iI_char {x : Int} (hx : 0 ≤ x) (hx2 : x < 65536) : vp_nar .char (iI x) = iI x := by
  obtain ⟨a, rfl⟩ : ∃ a : Nat, x = (a : Int) := ⟨x.toNat, by omega⟩
  rw [iI_N (by omega)]
  have h := (pk_charN (q := a) (by omega)).1
  unfold vp_nar
  rw [h]
/-- a row of ints (or signs) as a cell -/
def IA (k : ClassId) (n : Nat) (F : Nat → Int) : va_E := .inl (k, n, .inl (fun j => iI (F j)))
def upz (F : Nat → Int) (j : Nat) (x : Int) : Nat → Int := fun i => if i = j then x else F i
def cpz (F G : Nat → Int) (sp dp n : Nat) : Nat → Int := fun k => if dp ≤ k ∧ k < dp + n then F (sp + (k - dp)) else G k
theorem upz_s {F : Nat → Int} {j : Nat} {x : Int} : upz F j x j = x := if_pos rfl
theorem upz_n {F : Nat → Int} {i j : Nat} {x : Int} (h : i ≠ j) : upz F j x i = F i := if_neg h
theorem upd_upz (F : Nat → Int) (j : Nat) (x : Int) : upd (fun i => iI (F i)) j (iI x) = fun i => iI (upz F j x i) := by
  funext i
  unfold upz
  by_cases h : i = j
  · subst h; rw [pk_us, if_pos rfl]
  · rw [pk_un h, if_neg h]
theorem cpy_cpz (F G : Nat → Int) (sp dp n : Nat) : va_cpy (fun i => iI (F i)) (fun i => iI (G i)) sp dp n = fun i => iI (cpz F G sp dp n i) := by
  funext i
  unfold va_cpy cpz
  by_cases h : dp ≤ i ∧ i < dp + n
  · rw [if_pos h, if_pos h]
  · rw [if_neg h, if_neg h]
/-- the variables -/
def Lh (ls : Array Slot) (nL : Nat) (lv : List (Option Value)) : Prop := ls.size = nL ∧ lv_wf ls ∧ ∀ (i : Nat) (v : Value), lv[i]? = some (some v) → ls[i]? = some (.val v) ∧ v.category = 1
def lvl (lv : List (Option Value)) : List (Nat × Value) := (List.range lv.length).filterMap (fun j => match lv[j]? with
  | some (some v) => some (j, v)
  | _ => none)
theorem lvl_mem {lv : List (Option Value)} {q : Nat × Value} : q ∈ lvl lv ↔ lv[q.1]? = some (some q.2) := by
  unfold lvl
  rw [List.mem_filterMap]
  constructor
  · rintro ⟨j, -, hj⟩
    split at hj
    · next v hv => cases hj; exact hv
    · cases hj
  · intro h
    refine ⟨q.1, List.mem_range.mpr (List.getElem?_eq_some_iff.mp h).1, ?_⟩
    rw [h]
theorem Lh_has {ls : Array Slot} {nL : Nat} {lv : List (Option Value)} (h : Lh ls nL lv) : lv_has ls nL (lvl lv) := ⟨h.1, h.2.1, fun q hq => (h.2.2 _ _ (lvl_mem.mp hq)).1⟩
theorem Lh_idx {lv : List (Option Value)} {i : Nat} {v : Value} (h : lv[i]? = some (some v)) : ∃ j : Nat, (lvl lv)[j]? = some (i, v) := List.getElem?_of_mem (lvl_mem.mpr h)
theorem Lh_set {ls ls1 : Array Slot} {nL i : Nat} {v : Value} {lv : List (Option Value)} (h : Lh ls nL lv) (h1 : lv_has ls1 nL ((i, v) :: (lvl lv).filter (fun q => !(q.1 == i) && !(q.1 + 1 == i && q.2.category == 2)))) (hc : v.category = 1) : Lh ls1 nL (lv.set i (some v)) := by
  refine ⟨h1.1, h1.2.1, fun k w hk => ?_⟩
  by_cases e : i = k
  · subst e
    have hlt : i < lv.length := by
      have := (List.getElem?_eq_some_iff.mp hk).1
      rwa [List.length_set] at this
    rw [List.getElem?_set_self hlt] at hk
    cases hk
    exact ⟨h1.2.2 (i, v) List.mem_cons_self, hc⟩
  · rw [List.getElem?_set_ne e] at hk
    have hq := h.2.2 k w hk
    refine ⟨h1.2.2 (k, w) (List.mem_cons_of_mem _ (List.mem_filter.mpr ⟨lvl_mem.mpr hk, ?_⟩)), hq.2⟩
    have e1 : (k == i) = false := by simpa using fun z => e z.symm
    simp [e1, hq.2]
theorem Lh_kill {ls : Array Slot} {nL : Nat} {lv : List (Option Value)} (h : Lh ls nL lv) (i : Nat) : Lh ls nL (lv.set i none) := by
  refine ⟨h.1, h.2.1, fun k w hk => ?_⟩
  by_cases e : i = k
  · subst e
    have hlt : i < lv.length := by
      have := (List.getElem?_eq_some_iff.mp hk).1
      rwa [List.length_set] at this
    rw [List.getElem?_set_self hlt] at hk
    cases hk
  · rw [List.getElem?_set_ne e] at hk
    exact h.2.2 k w hk
theorem lv_args_mem : ∀ (av : List Value) (k : Nat), (∀ v ∈ av, v.category = 1) → ∀ (i : Nat) (v : Value), av[i]? = some v → (k + i, v) ∈ lv_args k av
  | [], k, _, i, v, h => by simp at h
  | a :: av, k, hc, i, v, h => by
    have ha := hc a List.mem_cons_self
    unfold lv_args
    rw [if_neg (by rw [ha]; decide)]
    cases i with
    | zero =>
      rw [List.getElem?_cons_zero] at h
      cases h
      exact List.mem_cons_self
    | succ i =>
      rw [List.getElem?_cons_succ] at h
      have := lv_args_mem av (k + 1) (fun v hv => hc v (List.mem_cons_of_mem _ hv)) i v h
      rw [show k + (i + 1) = k + 1 + i by omega]
      exact List.mem_cons_of_mem _ this
theorem Lh_entry {ls : Array Slot} {nL : Nat} {av : List Value} (hc : ∀ v ∈ av, v.category = 1) (h : lv_has ls nL (lv_args 0 av)) (r : Nat) : Lh ls nL (av.map some ++ List.replicate r none) := by
  refine ⟨h.1, h.2.1, fun i v hi => ?_⟩
  by_cases q : i < (av.map some).length
  · rw [List.getElem?_append_left q, List.getElem?_map] at hi
    cases ha : av[i]? with
    | none => rw [ha] at hi; cases hi
    | some w =>
      rw [ha] at hi
      cases hi
      have := lv_args_mem av 0 hc i v ha
      rw [Nat.zero_add] at this
      exact ⟨h.2.2 _ this, hc v (List.mem_of_getElem? ha)⟩
  · rw [List.getElem?_append_right (by omega)] at hi
    have := List.mem_of_getElem? hi
    rw [List.mem_replicate] at this
    cases this.2
/-- the world behind a call: the callee's cells put back at their places -/
def putW : va_W → List Nat → va_W → va_W
  | ws, i :: is, q :: qs => putW (ws.set i q) is qs
  | ws, _, _ => ws
theorem putW_get : ∀ (is : List Nat) (ws w1 : va_W), w1.length = is.length → va_nd is = true → ∀ (k : Nat) (q : Nat × va_E), (putW ws is w1)[k]? = some q → (∃ j : Nat, is[j]? = some k ∧ w1[j]? = some q) ∨ (k ∉ is ∧ ws[k]? = some q)
  | [], ws, w1, _, _, k, q, h => by
    have e : putW ws [] w1 = ws := by cases w1 <;> rfl
    rw [e] at h
    exact Or.inr ⟨List.not_mem_nil, h⟩
  | i :: is, ws, [], hl, _, _, _, _ => by simp at hl
  | i :: is, ws, p :: ps, hl, hn, k, q, h => by
    simp only [va_nd, Bool.and_eq_true, decide_eq_true_eq] at hn
    rcases putW_get is (ws.set i p) ps (by simpa using hl) hn.2 k q h with ⟨j, h1, h2⟩ | ⟨h1, h2⟩
    · exact Or.inl ⟨j + 1, by simpa using h1, by simpa using h2⟩
    · by_cases e : i = k
      · subst e
        have hlt : i < ws.length := by
          have := (List.getElem?_eq_some_iff.mp h2).1
          rwa [List.length_set] at this
        rw [List.getElem?_set_self hlt] at h2
        exact Or.inl ⟨0, rfl, h2⟩
      · rw [List.getElem?_set_ne e] at h2
        exact Or.inr ⟨fun z => (List.mem_cons.mp z).elim (fun z => e z.symm) h1, h2⟩
theorem putW_same : ∀ (is : List Nat) (ws wc : va_W), is.map (fun i => ws[i]?) = wc.map some → putW ws is wc = ws
  | [], ws, wc, _ => by cases wc <;> rfl
  | i :: is, ws, [], h => by simp at h
  | i :: is, ws, p :: ps, h => by
    simp only [List.map_cons, List.cons.injEq] at h
    have e : ws.set i p = ws := by
      apply List.ext_getElem?
      intro k
      by_cases e : i = k
      · subst e
        rw [List.getElem?_set_self (List.getElem?_eq_some_iff.mp h.1).1, h.1]
      · rw [List.getElem?_set_ne e]
    show putW (ws.set i p) is ps = ws
    rw [e]
    exact putW_same is ws ps h.2
theorem va_put1 {A0 : Nat → Prop} {D : va_G} {cl : List vw_C} {ws wc w1 : va_W} {H H1 : Heap} (hP : va_P D cl ws H) (hD : va_D A0 ws) (is : List Nat) (hC : is.map (fun i => ws[i]?) = wc.map some) (hn : va_nd is = true) (hl : w1.length = is.length)
    (hk : ∀ q : Nat, q < H.size → ¬ va_A wc H.size q → H1[q]? = H[q]?) (hF : ∀ q, va_A wc H.size q → A0 q) (hP1 : va_P D cl w1 H1) (hD1 : va_D (va_A wc H.size) w1) : va_P D cl (putW ws is w1) H1 ∧ va_D A0 (putW ws is w1) := by
  have apart : ∀ (k : Nat) (q : Nat × va_E), k ∉ is → ws[k]? = some q → q.1 < H.size ∧ ¬ va_A wc H.size q.1 := by
    intro k q hk1 hq
    have hlt := (hP k q hq).lt
    refine ⟨hlt, fun h => ?_⟩
    rcases h with ⟨k2, e, h⟩ | h
    · have h1 : (is.map (fun i => ws[i]?))[k2]? = some (some (q.1, e)) := by rw [hC, List.getElem?_map, h]; rfl
      rw [List.getElem?_map] at h1
      cases hi : is[k2]? with
      | none => rw [hi] at h1; cases h1
      | some i =>
        rw [hi] at h1
        have h4 : ws[i]? = some (q.1, e) := Option.some.inj h1
        have hij := hD.1 k i q (q.1, e) hq h4 rfl
        subst hij
        exact hk1 (List.mem_of_getElem? hi)
    · omega
  refine ⟨fun k q hq => ?_, fun i j x y hi hj hxy => ?_, fun k q hq => ?_⟩
  · rcases putW_get is ws w1 hl hn k q hq with ⟨j, _, h2⟩ | ⟨h1, h2⟩
    · exact hP1 j q h2
    · obtain ⟨g1, g2⟩ := apart k q h1 h2
      exact (hP k q h2).kept (hk q.1 g1 g2)
  · rcases putW_get is ws w1 hl hn i x hi with ⟨a, a1, a2⟩ | ⟨a1, a2⟩ <;> rcases putW_get is ws w1 hl hn j y hj with ⟨b, b1, b2⟩ | ⟨b1, b2⟩
    · have := hD1.1 a b x y a2 b2 hxy
      subst this
      rw [a1] at b1
      exact Option.some.inj b1
    · exact absurd (hD1.2 a x a2) (by rw [hxy]; exact (apart j y b1 b2).2)
    · exact absurd (hD1.2 b y b2) (by rw [← hxy]; exact (apart i x a1 a2).2)
    · exact hD.1 i j x y a2 b2 hxy
  · rcases putW_get is ws w1 hl hn k q hq with ⟨j, _, h2⟩ | ⟨h1, h2⟩
    · exact hF _ (hD1.2 j q h2)
    · exact hD.2 k q h2
/-- nest words that the tables say -/
def nwAll : List Cond := [.methodLinkNest RX2 68 yX7_square RX7, .methodLinkNest RX2 71 yX7_root RX7, .methodLinkNest RX3 43 yX7_cellOf RX7, .methodLinkNest RX5 48 yX7_square RX7, .methodLinkNest RX7 11 yX5_init RX7, .methodLinkNest RX7 18 yX4_init RX7, .methodLinkNest RX7 25 yX2_init RX7, .methodLinkNest RX7 38 yX0_init RX7, .methodLinkNest RX7 45 yX1_init RX7, .methodLinkNest RX7 52 yX6_init RX7, .methodLinkNest RX7 59 yX3_init RX7]
theorem nwAll_form : ∀ w ∈ nwAll, ∃ (a : String) (i : Nat) (x : MethodName) (h : String), w = .methodLinkNest a i x h := by
  intro w hw
  simp only [nwAll, List.mem_cons, List.not_mem_nil, or_false] at hw
  rcases hw with rfl | rfl | rfl | rfl | rfl | rfl | rfl | rfl | rfl | rfl | rfl <;> exact ⟨_, _, _, _, rfl⟩
/-- what a method knows of the tables -/
def KK (D : va_G) (kI kC : ClassId) (U : State) : Prop := va_K D vwCl [(kI, .int), (kC, .char)] U ∧ ∀ w ∈ nwAll, va_Nw w U
theorem KK.warm {D : va_G} {kI kC : ClassId} {s U : State} (hW : s.WarmedH U.vm) (h : KK D kI kC s) : KK D kI kC U := by
  refine ⟨va_K.moved hW.alike h.1, fun w hw => ?_⟩
  obtain ⟨a, i, x, q, rfl⟩ := nwAll_form w hw
  exact va_Nw.warmM hW (h.2 _ hw)
theorem KK.call {D : va_G} {kI kC : ClassId} {U : State} (g : JFrame) (mk : MethodId) (a : Array Value) (h : KK D kI kC U) : KK D kI kC (U.calling g mk a) := by
  refine ⟨va_K.moved (u := U) (U := U.calling g mk a) (Vm.Alike.refl U.vm) h.1, fun w hw => ?_⟩
  obtain ⟨a, i, x, q, rfl⟩ := nwAll_form w hw
  exact va_Nw.same rfl rfl (h.2 _ hw)
def FL (Ts : List Cond) (own : String) (index ci j : Nat) (C : String) (T : u_T) (N : Nat) : Prop := (∀ w ∈ u_ws C T N, w ∈ Ts) ∧ Cond.fieldLink own index (T j).1 (T j).2.1 (T j).2.2.1 ∈ Ts ∧ j < N ∧ vwCl[ci]? = some (C, T, N)
def FP (N : Nat) (T : u_T) (ty0 : Nat → FieldType) : Prop := (∀ k, k < N → parseFieldDescriptor (T k).2.2.1 = some (ty0 k)) ∧ (∀ a, a < N → ∀ b, b < N → a ≠ b → (T a).2.1 ≠ (T b).2.1)
def MC (Ts : List Cond) (own : String) (index : Nat) : Prop := Cond.methodLink own index arraycopyName ∈ Ts ∧ Cond.native arraycopyName ∈ Ts ∧ Cond.static arraycopyName ∈ Ts ∧ Cond.initialized "java/lang/System" ∈ Ts
def MM_max (Ts : List Cond) (own : String) (index : Nat) : Prop := Cond.methodLink own index Lib.Math.max.name ∈ Ts ∧ Cond.static Lib.Math.max.name ∈ Ts ∧ Cond.initialized "java/lang/Math" ∈ Ts ∧ Cond.code Lib.Math.max.name Lib.Math.max.code 2 (some .int) ∈ Ts
def MM_min (Ts : List Cond) (own : String) (index : Nat) : Prop := Cond.methodLink own index Lib.Math.min.name ∈ Ts ∧ Cond.static Lib.Math.min.name ∈ Ts ∧ Cond.initialized "java/lang/Math" ∈ Ts ∧ Cond.code Lib.Math.min.name Lib.Math.min.code 2 (some .int) ∈ Ts
def Cx (p : Program) (R : Room) (s : State) (m : MethodId) (args : Array Value) (meth : Method) (c : Code) (cc : ByteArray) (nL : Nat) (own : String) (Ts : List Cond) (A : Nat → Prop) (D : va_G) (kI kC : ClassId) : Prop :=
  p.tables.exec = Jvm.exec ∧ c.code = cc ∧ c.maxLocals = nL ∧ s.vm.findClass own = some m.cls ∧ (∀ w ∈ Ts, w.before args s = true) ∧ va_K D vwCl [(kI, .int), (kC, .char)] s ∧ (∀ w ∈ nwAll, va_Nw w s) ∧ (∀ q, s.heap.size ≤ q → A q) ∧ meth.locks = false ∧ R = R
def VV (p : Program) (l : Launch) (e : Env) (R : Room) (s : State) (m : MethodId) (args : Array Value) (below : List Frame) (meth : Method) (c : Code) (nL : Nat) (A : Nat → Prop) (D : va_G) (Q : State → Prop) (cells slots pc : Nat) (lv : List (Option Value)) (st : List Value) (ws : va_W) : Prop :=
  ∀ (H : Heap) (locs : List Loc) (ls : Array Slot), va_P D vwCl ws H → va_D A ws → va_S A s.heap H locs → Lh ls nL lv → W p l e R s m args below meth c H locs cells slots Q (F0 m pc ls st)
variable {p : Program} {l : Launch} {e : Env} {R : Room} {s : State} {m : MethodId} {args : Array Value} {below : List Frame} {meth : Method} {c : Code} {cc : ByteArray} {nL : Nat} {own : String} {Ts : List Cond} {A : Nat → Prop} {D : va_G} {kI kC : ClassId} {Q : State → Prop} {cells slots pc : Nat} {lv : List (Option Value)} {st : List Value} {ws : va_W}
theorem V_iconst (X : Cx p R s m args meth c cc nL own Ts A D kI kC) {n : Int} (hdg : decode cc pc = .ok (.iconst n, 1)) (k : VV p l e R s m args below meth c nL A D Q cells slots (pc + 1) lv (.int (iI n) :: st) ws) : VV p l e R s m args below meth c nL A D Q cells slots pc lv st ws := by
  intro H locs ls hP hD hS hl
  refine lv_iconst (v := iI n) X.1 X.2.1 hdg rfl ?_
  exact k H locs ls hP hD hS hl
theorem V_bipush (X : Cx p R s m args meth c cc nL own Ts A D kI kC) {n : Int} (hdg : decode cc pc = .ok (.bipush n, 2)) (hv : (Int8.ofInt n).toInt32 = iI n) (k : VV p l e R s m args below meth c nL A D Q cells slots (pc + 2) lv (.int (iI n) :: st) ws) : VV p l e R s m args below meth c nL A D Q cells slots pc lv st ws := by
  intro H locs ls hP hD hS hl
  refine lv_bipush (v := iI n) X.1 X.2.1 hdg hv ?_
  exact k H locs ls hP hD hS hl
theorem V_sipush (X : Cx p R s m args meth c cc nL own Ts A D kI kC) {n : Int} (hdg : decode cc pc = .ok (.sipush n, 3)) (hv : (Int16.ofInt n).toInt32 = iI n) (k : VV p l e R s m args below meth c nL A D Q cells slots (pc + 3) lv (.int (iI n) :: st) ws) : VV p l e R s m args below meth c nL A D Q cells slots pc lv st ws := by
  intro H locs ls hP hD hS hl
  refine lv_sipush (v := iI n) X.1 X.2.1 hdg hv ?_
  exact k H locs ls hP hD hS hl
theorem V_iload_n (X : Cx p R s m args meth c cc nL own Ts A D kI kC) {i : Fin 4} {x : Int32} (j : Nat) (hij : (i : Nat) = j) (hdg : decode cc pc = .ok (.iload_n i, 1)) (hv : lv[j]? = some (some (.int x))) (k : VV p l e R s m args below meth c nL A D Q cells slots (pc + 1) lv (.int x :: st) ws) : VV p l e R s m args below meth c nL A D Q cells slots pc lv st ws := by
  intro H locs ls hP hD hS hl
  refine lv_iload_n X.1 X.2.1 hdg hij (hl.2.2 _ _ hv).1 ?_
  exact k H locs ls hP hD hS hl
theorem V_iload (X : Cx p R s m args meth c cc nL own Ts A D kI kC) {i : Nat} {x : Int32} (hdg : decode cc pc = .ok (.iload i, 2)) (hv : lv[i]? = some (some (.int x))) (k : VV p l e R s m args below meth c nL A D Q cells slots (pc + 2) lv (.int x :: st) ws) : VV p l e R s m args below meth c nL A D Q cells slots pc lv st ws := by
  intro H locs ls hP hD hS hl
  refine lv_iload X.1 X.2.1 hdg (hl.2.2 _ _ hv).1 ?_
  exact k H locs ls hP hD hS hl
theorem V_aload_n (X : Cx p R s m args meth c cc nL own Ts A D kI kC) {i : Fin 4} {x : Nat} (j : Nat) (hij : (i : Nat) = j) (hdg : decode cc pc = .ok (.aload_n i, 1)) (hv : lv[j]? = some (some (.ref x))) (k : VV p l e R s m args below meth c nL A D Q cells slots (pc + 1) lv (.ref x :: st) ws) : VV p l e R s m args below meth c nL A D Q cells slots pc lv st ws := by
  intro H locs ls hP hD hS hl
  refine lv_aload_n X.1 X.2.1 hdg hij (hl.2.2 _ _ hv).1 ?_
  exact k H locs ls hP hD hS hl
theorem V_aload (X : Cx p R s m args meth c cc nL own Ts A D kI kC) {i : Nat} {x : Nat} (hdg : decode cc pc = .ok (.aload i, 2)) (hv : lv[i]? = some (some (.ref x))) (k : VV p l e R s m args below meth c nL A D Q cells slots (pc + 2) lv (.ref x :: st) ws) : VV p l e R s m args below meth c nL A D Q cells slots pc lv st ws := by
  intro H locs ls hP hD hS hl
  refine lv_aload X.1 X.2.1 hdg (hl.2.2 _ _ hv).1 ?_
  exact k H locs ls hP hD hS hl
theorem V_istore_n (X : Cx p R s m args meth c cc nL own Ts A D kI kC) {i : Fin 4} {x : Int32} (j : Nat) (hij : (i : Nat) = j) (hdg : decode cc pc = .ok (.istore_n i, 1)) (hi : j < nL) (k : VV p l e R s m args below meth c nL A D Q cells slots (pc + 1) (lv.set j (some (.int x))) st ws) : VV p l e R s m args below meth c nL A D Q cells slots pc lv (.int x :: st) ws := by
  intro H locs ls hP hD hS hl
  refine lv_istore_n X.1 X.2.1 hdg hij (Lh_has hl) hi rfl (fun ls1 h1 => ?_)
  exact k H locs ls1 hP hD hS (Lh_set hl h1 rfl)
theorem V_istore (X : Cx p R s m args meth c cc nL own Ts A D kI kC) {i : Nat} {x : Int32} (hdg : decode cc pc = .ok (.istore i, 2)) (hi : i < nL) (k : VV p l e R s m args below meth c nL A D Q cells slots (pc + 2) (lv.set i (some (.int x))) st ws) : VV p l e R s m args below meth c nL A D Q cells slots pc lv (.int x :: st) ws := by
  intro H locs ls hP hD hS hl
  refine lv_istore X.1 X.2.1 hdg (Lh_has hl) hi rfl (fun ls1 h1 => ?_)
  exact k H locs ls1 hP hD hS (Lh_set hl h1 rfl)
theorem V_astore_n (X : Cx p R s m args meth c cc nL own Ts A D kI kC) {i : Fin 4} {x : Nat} (j : Nat) (hij : (i : Nat) = j) (hdg : decode cc pc = .ok (.astore_n i, 1)) (hi : j < nL) (k : VV p l e R s m args below meth c nL A D Q cells slots (pc + 1) (lv.set j (some (.ref x))) st ws) : VV p l e R s m args below meth c nL A D Q cells slots pc lv (.ref x :: st) ws := by
  intro H locs ls hP hD hS hl
  refine lv_astore_n X.1 X.2.1 hdg hij (Lh_has hl) hi rfl (fun ls1 h1 => ?_)
  exact k H locs ls1 hP hD hS (Lh_set hl h1 rfl)
theorem V_astore (X : Cx p R s m args meth c cc nL own Ts A D kI kC) {i : Nat} {x : Nat} (hdg : decode cc pc = .ok (.astore i, 2)) (hi : i < nL) (k : VV p l e R s m args below meth c nL A D Q cells slots (pc + 2) (lv.set i (some (.ref x))) st ws) : VV p l e R s m args below meth c nL A D Q cells slots pc lv (.ref x :: st) ws := by
  intro H locs ls hP hD hS hl
  refine lv_astore X.1 X.2.1 hdg (Lh_has hl) hi rfl (fun ls1 h1 => ?_)
  exact k H locs ls1 hP hD hS (Lh_set hl h1 rfl)
theorem V_iinc (X : Cx p R s m args meth c cc nL own Ts A D kI kC) {i : Nat} {n : Int} {x : Int} (hdg : decode cc pc = .ok (.iinc i n, 3)) (hv : lv[i]? = some (some (.int (iI x)))) (hi : i < nL) (k : VV p l e R s m args below meth c nL A D Q cells slots (pc + 3) (lv.set i (some (.int (iI (x + n))))) st ws) : VV p l e R s m args below meth c nL A D Q cells slots pc lv st ws := by
  intro H locs ls hP hD hS hl
  obtain ⟨j, hj⟩ := Lh_idx hv
  refine lv_iinc (k := j) (v := iI (x + n)) X.1 X.2.1 hdg (Lh_has hl) hj (iI_add x n) hi rfl (fun ls1 h1 => ?_)
  exact k H locs ls1 hP hD hS (Lh_set hl h1 rfl)
theorem V_kill (i : Nat) (k : VV p l e R s m args below meth c nL A D Q cells slots pc (lv.set i none) st ws) : VV p l e R s m args below meth c nL A D Q cells slots pc lv st ws := by
  intro H locs ls hP hD hS hl
  exact k H locs ls hP hD hS (Lh_kill hl i)
theorem V_iadd (X : Cx p R s m args meth c cc nL own Ts A D kI kC) {x y : Int} (hdg : decode cc pc = .ok (.iadd, 1)) (k : VV p l e R s m args below meth c nL A D Q cells slots (pc + 1) lv (.int (iI (x + y)) :: st) ws) : VV p l e R s m args below meth c nL A D Q cells slots pc lv (.int (iI y) :: .int (iI x) :: st) ws := by
  intro H locs ls hP hD hS hl
  refine lv_iadd X.1 X.2.1 hdg ?_
  rw [iI_add]
  exact k H locs ls hP hD hS hl
theorem V_isub (X : Cx p R s m args meth c cc nL own Ts A D kI kC) {x y : Int} (hdg : decode cc pc = .ok (.isub, 1)) (k : VV p l e R s m args below meth c nL A D Q cells slots (pc + 1) lv (.int (iI (x - y)) :: st) ws) : VV p l e R s m args below meth c nL A D Q cells slots pc lv (.int (iI y) :: .int (iI x) :: st) ws := by
  intro H locs ls hP hD hS hl
  refine lv_isub X.1 X.2.1 hdg ?_
  rw [iI_sub]
  exact k H locs ls hP hD hS hl
theorem V_imul (X : Cx p R s m args meth c cc nL own Ts A D kI kC) {x y : Int} (hdg : decode cc pc = .ok (.imul, 1)) (k : VV p l e R s m args below meth c nL A D Q cells slots (pc + 1) lv (.int (iI (x * y)) :: st) ws) : VV p l e R s m args below meth c nL A D Q cells slots pc lv (.int (iI y) :: .int (iI x) :: st) ws := by
  intro H locs ls hP hD hS hl
  refine lv_imul X.1 X.2.1 hdg ?_
  rw [iI_mul]
  exact k H locs ls hP hD hS hl
theorem V_idiv (X : Cx p R s m args meth c cc nL own Ts A D kI kC) {x y : Int} (hdg : decode cc pc = .ok (.idiv, 1)) (hx : 0 ≤ x) (hx2 : x < 2147483648) (hy : 0 < y) (hy2 : y < 2147483648) (k : VV p l e R s m args below meth c nL A D Q cells slots (pc + 1) lv (.int (iI (x / y)) :: st) ws) : VV p l e R s m args below meth c nL A D Q cells slots pc lv (.int (iI y) :: .int (iI x) :: st) ws := by
  intro H locs ls hP hD hS hl
  refine lv_idiv X.1 X.2.1 hdg (iI_ne0 hy hy2) ?_
  rw [iI_div hx hx2 hy hy2]
  exact k H locs ls hP hD hS hl
theorem V_iandM (X : Cx p R s m args meth c cc nL own Ts A D kI kC) {x : Int} {j : Nat} {y : Int32} (hdg : decode cc pc = .ok (.iand, 1)) (hx : 0 ≤ x) (hx2 : x < 2147483648) (hm : y.toBitVec.toNat = 2 ^ j - 1) (k : VV p l e R s m args below meth c nL A D Q cells slots (pc + 1) lv (.int (iI (x % (2 : Int) ^ j)) :: st) ws) : VV p l e R s m args below meth c nL A D Q cells slots pc lv (.int y :: .int (iI x) :: st) ws := by
  intro H locs ls hP hD hS hl
  refine lv_iand X.1 X.2.1 hdg ?_
  rw [iI_mask j hx hx2 hm]
  exact k H locs ls hP hD hS hl
theorem V_ishr1 (X : Cx p R s m args meth c cc nL own Ts A D kI kC) {x : Int} (hdg : decode cc pc = .ok (.ishr, 1)) (hx : 0 ≤ x) (hx2 : x < 2147483648) (k : VV p l e R s m args below meth c nL A D Q cells slots (pc + 1) lv (.int (iI (x / 2)) :: st) ws) : VV p l e R s m args below meth c nL A D Q cells slots pc lv (.int (iI 1) :: .int (iI x) :: st) ws := by
  intro H locs ls hP hD hS hl
  refine lv_ishr X.1 X.2.1 hdg ?_
  rw [iI_shr1 hx hx2]
  exact k H locs ls hP hD hS hl
theorem V_dup (X : Cx p R s m args meth c cc nL own Ts A D kI kC) {va : Value} (hdg : decode cc pc = .ok (.dup, 1)) (hc : va.category = 1) (k : VV p l e R s m args below meth c nL A D Q cells slots (pc + 1) lv (va :: va :: st) ws) : VV p l e R s m args below meth c nL A D Q cells slots pc lv (va :: st) ws := by
  intro H locs ls hP hD hS hl
  refine lv_dup X.1 X.2.1 hdg hc ?_
  exact k H locs ls hP hD hS hl
theorem V_dup2 (X : Cx p R s m args meth c cc nL own Ts A D kI kC) {va vb : Value} (hdg : decode cc pc = .ok (.dup2, 1)) (hc : va.category = 1) (hc2 : vb.category = 1) (k : VV p l e R s m args below meth c nL A D Q cells slots (pc + 1) lv (va :: vb :: va :: vb :: st) ws) : VV p l e R s m args below meth c nL A D Q cells slots pc lv (va :: vb :: st) ws := by
  intro H locs ls hP hD hS hl
  refine lv_dup2_11 X.1 X.2.1 hdg hc hc2 ?_
  exact k H locs ls hP hD hS hl
theorem V_goto (X : Cx p R s m args meth c cc nL own Ts A D kI kC) {off : Int} (tgt : Nat) (hdg : decode cc pc = .ok (.goto off, 3)) (ht : (pc : Int) + off = (tgt : Int)) (k : VV p l e R s m args below meth c nL A D Q cells slots tgt lv st ws) : VV p l e R s m args below meth c nL A D Q cells slots pc lv st ws := by
  intro H locs ls hP hD hS hl
  refine lv_goto X.1 X.2.1 hdg ht ?_
  exact k H locs ls hP hD hS hl
theorem V_icmp_eq (X : Cx p R s m args meth c cc nL own Ts A D kI kC) {x y off : Int} (tgt : Nat) (hdg : decode cc pc = .ok (.if_icmp .eq off, 3)) (ht : (pc : Int) + off = (tgt : Int)) (hx : IR x) (hy : IR y) (kt : x = y → VV p l e R s m args below meth c nL A D Q cells slots tgt lv st ws) (kf : x ≠ y → VV p l e R s m args below meth c nL A D Q cells slots (pc + 3) lv st ws) : VV p l e R s m args below meth c nL A D Q cells slots pc lv (.int (iI y) :: .int (iI x) :: st) ws := by
  intro H locs ls hP hD hS hl
  refine lv_icmp_eq X.1 X.2.1 hdg ht (fun h => kt (by have q1 := iI_eq hx hy; have q2 := iI_lt hx hy; have q3 := iI_le hx hy; have q4 := iI_lt hy hx; have q5 := iI_le hy hx; simp only [q1, q2, q3, q4, q5] at h; omega) H locs ls hP hD hS hl) (fun h => kf (by have q1 := iI_eq hx hy; have q2 := iI_lt hx hy; have q3 := iI_le hx hy; have q4 := iI_lt hy hx; have q5 := iI_le hy hx; simp only [q1, q2, q3, q4, q5] at h; omega) H locs ls hP hD hS hl)
theorem V_if_eq (X : Cx p R s m args meth c cc nL own Ts A D kI kC) {x off : Int} (tgt : Nat) (hdg : decode cc pc = .ok (.ifCond .eq off, 3)) (ht : (pc : Int) + off = (tgt : Int)) (hx : IR x) (kt : x = 0 → VV p l e R s m args below meth c nL A D Q cells slots tgt lv st ws) (kf : x ≠ 0 → VV p l e R s m args below meth c nL A D Q cells slots (pc + 3) lv st ws) : VV p l e R s m args below meth c nL A D Q cells slots pc lv (.int (iI x) :: st) ws := by
  intro H locs ls hP hD hS hl
  have hy : IR 0 := ⟨by decide, by decide⟩
  have e0 : (0 : Int32) = iI 0 := rfl
  refine lv_if_eq X.1 X.2.1 hdg ht (fun h => kt (by rw [e0] at h; have q1 := iI_eq hx hy; have q2 := iI_lt hx hy; have q3 := iI_le hx hy; have q4 := iI_lt hy hx; have q5 := iI_le hy hx; simp only [q1, q2, q3, q4, q5] at h; omega) H locs ls hP hD hS hl) (fun h => kf (by rw [e0] at h; have q1 := iI_eq hx hy; have q2 := iI_lt hx hy; have q3 := iI_le hx hy; have q4 := iI_lt hy hx; have q5 := iI_le hy hx; simp only [q1, q2, q3, q4, q5] at h; omega) H locs ls hP hD hS hl)
theorem V_icmp_ne (X : Cx p R s m args meth c cc nL own Ts A D kI kC) {x y off : Int} (tgt : Nat) (hdg : decode cc pc = .ok (.if_icmp .ne off, 3)) (ht : (pc : Int) + off = (tgt : Int)) (hx : IR x) (hy : IR y) (kt : x ≠ y → VV p l e R s m args below meth c nL A D Q cells slots tgt lv st ws) (kf : x = y → VV p l e R s m args below meth c nL A D Q cells slots (pc + 3) lv st ws) : VV p l e R s m args below meth c nL A D Q cells slots pc lv (.int (iI y) :: .int (iI x) :: st) ws := by
  intro H locs ls hP hD hS hl
  refine lv_icmp_ne X.1 X.2.1 hdg ht (fun h => kt (by have q1 := iI_eq hx hy; have q2 := iI_lt hx hy; have q3 := iI_le hx hy; have q4 := iI_lt hy hx; have q5 := iI_le hy hx; simp only [q1, q2, q3, q4, q5] at h; omega) H locs ls hP hD hS hl) (fun h => kf (by have q1 := iI_eq hx hy; have q2 := iI_lt hx hy; have q3 := iI_le hx hy; have q4 := iI_lt hy hx; have q5 := iI_le hy hx; simp only [q1, q2, q3, q4, q5] at h; omega) H locs ls hP hD hS hl)
theorem V_if_ne (X : Cx p R s m args meth c cc nL own Ts A D kI kC) {x off : Int} (tgt : Nat) (hdg : decode cc pc = .ok (.ifCond .ne off, 3)) (ht : (pc : Int) + off = (tgt : Int)) (hx : IR x) (kt : x ≠ 0 → VV p l e R s m args below meth c nL A D Q cells slots tgt lv st ws) (kf : x = 0 → VV p l e R s m args below meth c nL A D Q cells slots (pc + 3) lv st ws) : VV p l e R s m args below meth c nL A D Q cells slots pc lv (.int (iI x) :: st) ws := by
  intro H locs ls hP hD hS hl
  have hy : IR 0 := ⟨by decide, by decide⟩
  have e0 : (0 : Int32) = iI 0 := rfl
  refine lv_if_ne X.1 X.2.1 hdg ht (fun h => kt (by rw [e0] at h; have q1 := iI_eq hx hy; have q2 := iI_lt hx hy; have q3 := iI_le hx hy; have q4 := iI_lt hy hx; have q5 := iI_le hy hx; simp only [q1, q2, q3, q4, q5] at h; omega) H locs ls hP hD hS hl) (fun h => kf (by rw [e0] at h; have q1 := iI_eq hx hy; have q2 := iI_lt hx hy; have q3 := iI_le hx hy; have q4 := iI_lt hy hx; have q5 := iI_le hy hx; simp only [q1, q2, q3, q4, q5] at h; omega) H locs ls hP hD hS hl)
theorem V_icmp_lt (X : Cx p R s m args meth c cc nL own Ts A D kI kC) {x y off : Int} (tgt : Nat) (hdg : decode cc pc = .ok (.if_icmp .lt off, 3)) (ht : (pc : Int) + off = (tgt : Int)) (hx : IR x) (hy : IR y) (kt : x < y → VV p l e R s m args below meth c nL A D Q cells slots tgt lv st ws) (kf : y ≤ x → VV p l e R s m args below meth c nL A D Q cells slots (pc + 3) lv st ws) : VV p l e R s m args below meth c nL A D Q cells slots pc lv (.int (iI y) :: .int (iI x) :: st) ws := by
  intro H locs ls hP hD hS hl
  refine lv_icmp_lt X.1 X.2.1 hdg ht (fun h => kt (by have q1 := iI_eq hx hy; have q2 := iI_lt hx hy; have q3 := iI_le hx hy; have q4 := iI_lt hy hx; have q5 := iI_le hy hx; simp only [q1, q2, q3, q4, q5] at h; omega) H locs ls hP hD hS hl) (fun h => kf (by have q1 := iI_eq hx hy; have q2 := iI_lt hx hy; have q3 := iI_le hx hy; have q4 := iI_lt hy hx; have q5 := iI_le hy hx; simp only [q1, q2, q3, q4, q5] at h; omega) H locs ls hP hD hS hl)
theorem V_if_lt (X : Cx p R s m args meth c cc nL own Ts A D kI kC) {x off : Int} (tgt : Nat) (hdg : decode cc pc = .ok (.ifCond .lt off, 3)) (ht : (pc : Int) + off = (tgt : Int)) (hx : IR x) (kt : x < 0 → VV p l e R s m args below meth c nL A D Q cells slots tgt lv st ws) (kf : 0 ≤ x → VV p l e R s m args below meth c nL A D Q cells slots (pc + 3) lv st ws) : VV p l e R s m args below meth c nL A D Q cells slots pc lv (.int (iI x) :: st) ws := by
  intro H locs ls hP hD hS hl
  have hy : IR 0 := ⟨by decide, by decide⟩
  have e0 : (0 : Int32) = iI 0 := rfl
  refine lv_if_lt X.1 X.2.1 hdg ht (fun h => kt (by rw [e0] at h; have q1 := iI_eq hx hy; have q2 := iI_lt hx hy; have q3 := iI_le hx hy; have q4 := iI_lt hy hx; have q5 := iI_le hy hx; simp only [q1, q2, q3, q4, q5] at h; omega) H locs ls hP hD hS hl) (fun h => kf (by rw [e0] at h; have q1 := iI_eq hx hy; have q2 := iI_lt hx hy; have q3 := iI_le hx hy; have q4 := iI_lt hy hx; have q5 := iI_le hy hx; simp only [q1, q2, q3, q4, q5] at h; omega) H locs ls hP hD hS hl)
theorem V_icmp_ge (X : Cx p R s m args meth c cc nL own Ts A D kI kC) {x y off : Int} (tgt : Nat) (hdg : decode cc pc = .ok (.if_icmp .ge off, 3)) (ht : (pc : Int) + off = (tgt : Int)) (hx : IR x) (hy : IR y) (kt : y ≤ x → VV p l e R s m args below meth c nL A D Q cells slots tgt lv st ws) (kf : x < y → VV p l e R s m args below meth c nL A D Q cells slots (pc + 3) lv st ws) : VV p l e R s m args below meth c nL A D Q cells slots pc lv (.int (iI y) :: .int (iI x) :: st) ws := by
  intro H locs ls hP hD hS hl
  refine lv_icmp_ge X.1 X.2.1 hdg ht (fun h => kt (by have q1 := iI_eq hx hy; have q2 := iI_lt hx hy; have q3 := iI_le hx hy; have q4 := iI_lt hy hx; have q5 := iI_le hy hx; simp only [q1, q2, q3, q4, q5] at h; omega) H locs ls hP hD hS hl) (fun h => kf (by have q1 := iI_eq hx hy; have q2 := iI_lt hx hy; have q3 := iI_le hx hy; have q4 := iI_lt hy hx; have q5 := iI_le hy hx; simp only [q1, q2, q3, q4, q5] at h; omega) H locs ls hP hD hS hl)
theorem V_if_ge (X : Cx p R s m args meth c cc nL own Ts A D kI kC) {x off : Int} (tgt : Nat) (hdg : decode cc pc = .ok (.ifCond .ge off, 3)) (ht : (pc : Int) + off = (tgt : Int)) (hx : IR x) (kt : 0 ≤ x → VV p l e R s m args below meth c nL A D Q cells slots tgt lv st ws) (kf : x < 0 → VV p l e R s m args below meth c nL A D Q cells slots (pc + 3) lv st ws) : VV p l e R s m args below meth c nL A D Q cells slots pc lv (.int (iI x) :: st) ws := by
  intro H locs ls hP hD hS hl
  have hy : IR 0 := ⟨by decide, by decide⟩
  have e0 : (0 : Int32) = iI 0 := rfl
  refine lv_if_ge X.1 X.2.1 hdg ht (fun h => kt (by rw [e0] at h; have q1 := iI_eq hx hy; have q2 := iI_lt hx hy; have q3 := iI_le hx hy; have q4 := iI_lt hy hx; have q5 := iI_le hy hx; simp only [q1, q2, q3, q4, q5] at h; omega) H locs ls hP hD hS hl) (fun h => kf (by rw [e0] at h; have q1 := iI_eq hx hy; have q2 := iI_lt hx hy; have q3 := iI_le hx hy; have q4 := iI_lt hy hx; have q5 := iI_le hy hx; simp only [q1, q2, q3, q4, q5] at h; omega) H locs ls hP hD hS hl)
theorem V_icmp_gt (X : Cx p R s m args meth c cc nL own Ts A D kI kC) {x y off : Int} (tgt : Nat) (hdg : decode cc pc = .ok (.if_icmp .gt off, 3)) (ht : (pc : Int) + off = (tgt : Int)) (hx : IR x) (hy : IR y) (kt : y < x → VV p l e R s m args below meth c nL A D Q cells slots tgt lv st ws) (kf : x ≤ y → VV p l e R s m args below meth c nL A D Q cells slots (pc + 3) lv st ws) : VV p l e R s m args below meth c nL A D Q cells slots pc lv (.int (iI y) :: .int (iI x) :: st) ws := by
  intro H locs ls hP hD hS hl
  refine lv_icmp_gt X.1 X.2.1 hdg ht (fun h => kt (by have q1 := iI_eq hx hy; have q2 := iI_lt hx hy; have q3 := iI_le hx hy; have q4 := iI_lt hy hx; have q5 := iI_le hy hx; simp only [q1, q2, q3, q4, q5] at h; omega) H locs ls hP hD hS hl) (fun h => kf (by have q1 := iI_eq hx hy; have q2 := iI_lt hx hy; have q3 := iI_le hx hy; have q4 := iI_lt hy hx; have q5 := iI_le hy hx; simp only [q1, q2, q3, q4, q5] at h; omega) H locs ls hP hD hS hl)
theorem V_if_gt (X : Cx p R s m args meth c cc nL own Ts A D kI kC) {x off : Int} (tgt : Nat) (hdg : decode cc pc = .ok (.ifCond .gt off, 3)) (ht : (pc : Int) + off = (tgt : Int)) (hx : IR x) (kt : 0 < x → VV p l e R s m args below meth c nL A D Q cells slots tgt lv st ws) (kf : x ≤ 0 → VV p l e R s m args below meth c nL A D Q cells slots (pc + 3) lv st ws) : VV p l e R s m args below meth c nL A D Q cells slots pc lv (.int (iI x) :: st) ws := by
  intro H locs ls hP hD hS hl
  have hy : IR 0 := ⟨by decide, by decide⟩
  have e0 : (0 : Int32) = iI 0 := rfl
  refine lv_if_gt X.1 X.2.1 hdg ht (fun h => kt (by rw [e0] at h; have q1 := iI_eq hx hy; have q2 := iI_lt hx hy; have q3 := iI_le hx hy; have q4 := iI_lt hy hx; have q5 := iI_le hy hx; simp only [q1, q2, q3, q4, q5] at h; omega) H locs ls hP hD hS hl) (fun h => kf (by rw [e0] at h; have q1 := iI_eq hx hy; have q2 := iI_lt hx hy; have q3 := iI_le hx hy; have q4 := iI_lt hy hx; have q5 := iI_le hy hx; simp only [q1, q2, q3, q4, q5] at h; omega) H locs ls hP hD hS hl)
theorem V_icmp_le (X : Cx p R s m args meth c cc nL own Ts A D kI kC) {x y off : Int} (tgt : Nat) (hdg : decode cc pc = .ok (.if_icmp .le off, 3)) (ht : (pc : Int) + off = (tgt : Int)) (hx : IR x) (hy : IR y) (kt : x ≤ y → VV p l e R s m args below meth c nL A D Q cells slots tgt lv st ws) (kf : y < x → VV p l e R s m args below meth c nL A D Q cells slots (pc + 3) lv st ws) : VV p l e R s m args below meth c nL A D Q cells slots pc lv (.int (iI y) :: .int (iI x) :: st) ws := by
  intro H locs ls hP hD hS hl
  refine lv_icmp_le X.1 X.2.1 hdg ht (fun h => kt (by have q1 := iI_eq hx hy; have q2 := iI_lt hx hy; have q3 := iI_le hx hy; have q4 := iI_lt hy hx; have q5 := iI_le hy hx; simp only [q1, q2, q3, q4, q5] at h; omega) H locs ls hP hD hS hl) (fun h => kf (by have q1 := iI_eq hx hy; have q2 := iI_lt hx hy; have q3 := iI_le hx hy; have q4 := iI_lt hy hx; have q5 := iI_le hy hx; simp only [q1, q2, q3, q4, q5] at h; omega) H locs ls hP hD hS hl)
theorem V_if_le (X : Cx p R s m args meth c cc nL own Ts A D kI kC) {x off : Int} (tgt : Nat) (hdg : decode cc pc = .ok (.ifCond .le off, 3)) (ht : (pc : Int) + off = (tgt : Int)) (hx : IR x) (kt : x ≤ 0 → VV p l e R s m args below meth c nL A D Q cells slots tgt lv st ws) (kf : 0 < x → VV p l e R s m args below meth c nL A D Q cells slots (pc + 3) lv st ws) : VV p l e R s m args below meth c nL A D Q cells slots pc lv (.int (iI x) :: st) ws := by
  intro H locs ls hP hD hS hl
  have hy : IR 0 := ⟨by decide, by decide⟩
  have e0 : (0 : Int32) = iI 0 := rfl
  refine lv_if_le X.1 X.2.1 hdg ht (fun h => kt (by rw [e0] at h; have q1 := iI_eq hx hy; have q2 := iI_lt hx hy; have q3 := iI_le hx hy; have q4 := iI_lt hy hx; have q5 := iI_le hy hx; simp only [q1, q2, q3, q4, q5] at h; omega) H locs ls hP hD hS hl) (fun h => kf (by rw [e0] at h; have q1 := iI_eq hx hy; have q2 := iI_lt hx hy; have q3 := iI_le hx hy; have q4 := iI_lt hy hx; have q5 := iI_le hy hx; simp only [q1, q2, q3, q4, q5] at h; omega) H locs ls hP hD hS hl)
theorem V_bif_eq (X : Cx p R s m args meth c cc nL own Ts A D kI kC) {b : Bool} {off : Int} (tgt : Nat) (hdg : decode cc pc = .ok (.ifCond .eq off, 3)) (ht : (pc : Int) + off = (tgt : Int)) (kt : b = false → VV p l e R s m args below meth c nL A D Q cells slots tgt lv st ws) (kf : b = true → VV p l e R s m args below meth c nL A D Q cells slots (pc + 3) lv st ws) : VV p l e R s m args below meth c nL A D Q cells slots pc lv (.int (iI (bI b)) :: st) ws := V_if_eq X tgt hdg ht (IR_bI b) (fun h => kt (bI_0 h)) (fun h => kf (bI_1 h))
theorem V_bif_ne (X : Cx p R s m args meth c cc nL own Ts A D kI kC) {b : Bool} {off : Int} (tgt : Nat) (hdg : decode cc pc = .ok (.ifCond .ne off, 3)) (ht : (pc : Int) + off = (tgt : Int)) (kt : b = true → VV p l e R s m args below meth c nL A D Q cells slots tgt lv st ws) (kf : b = false → VV p l e R s m args below meth c nL A D Q cells slots (pc + 3) lv st ws) : VV p l e R s m args below meth c nL A D Q cells slots pc lv (.int (iI (bI b)) :: st) ws := V_if_ne X tgt hdg ht (IR_bI b) (fun h => kt (bI_1 h)) (fun h => kf (bI_0 h))
theorem V_tabOut (X : Cx p R s m args meth c cc nL own Ts A D kI kC) {x dflt lo hi : Int} {offs : Array Int} {len : Nat} (tgt : Nat) (hx : IR x) (hdg : decode cc pc = .ok (.tableswitch dflt lo hi offs, len)) (h : x < lo ∨ hi < x) (ht : (pc : Int) + dflt = (tgt : Int)) (k : VV p l e R s m args below meth c nL A D Q cells slots tgt lv st ws) : VV p l e R s m args below meth c nL A D Q cells slots pc lv (.int (iI x) :: st) ws := by
  intro H locs ls hP hD hS hl
  refine lv_tableOut X.1 X.2.1 hdg (by rw [iI_T hx]; exact h) ht ?_
  exact k H locs ls hP hD hS hl
theorem V_tabIn (X : Cx p R s m args meth c cc nL own Ts A D kI kC) {x dflt lo hi off : Int} {offs : Array Int} {len : Nat} (tgt : Nat) (z : Int) (hxz : x = z) (hdg : decode cc pc = .ok (.tableswitch dflt lo hi offs, len)) (hz : IR z) (h1 : ¬ z < lo) (h2 : ¬ hi < z) (ho : offs[(z - lo).toNat]? = some off) (ht : (pc : Int) + off = (tgt : Int)) (k : VV p l e R s m args below meth c nL A D Q cells slots tgt lv st ws) : VV p l e R s m args below meth c nL A D Q cells slots pc lv (.int (iI x) :: st) ws := by
  intro H locs ls hP hD hS hl
  subst hxz
  refine lv_tableIn X.1 X.2.1 hdg (by rw [iI_T hz]; exact h1) (by rw [iI_T hz]; exact h2) (by rw [iI_T hz]; exact ho) ht ?_
  exact k H locs ls hP hD hS hl
theorem V_look (X : Cx p R s m args meth c cc nL own Ts A D kI kC) {x dflt off : Int} {ps : Array (Int × Int)} {len : Nat} (tgt : Nat) (hx : IR x) (hdg : decode cc pc = .ok (.lookupswitch dflt ps, len)) (hp : (ps.toList.zip (ps.toList.drop 1)).all (fun (a, next) => a.1 < next.1) = true) (ho : Op.lookupswitch.offset ps.toList dflt x = off) (ht : (pc : Int) + off = (tgt : Int)) (k : VV p l e R s m args below meth c nL A D Q cells slots tgt lv st ws) : VV p l e R s m args below meth c nL A D Q cells slots pc lv (.int (iI x) :: st) ws := by
  intro H locs ls hP hD hS hl
  refine lv_lookup X.1 X.2.1 hdg hp (by rw [iI_T hx]; exact ho) ht ?_
  exact k H locs ls hP hD hS hl
theorem V_get (X : Cx p R s m args meth c cc nL own Ts A D kI kC) {ci N index a : Nat} {C : String} {T : u_T} {fs : List Value} {v : Value} (j : Nat) (hf : FL Ts own index ci j C T N) (q0 : Nat) (he : ws[q0]? = some (a, .inr (ci, fs))) (hv : fs[j]? = some v) (hdg : decode cc pc = .ok (.getfield index, 3)) (k : VV p l e R s m args below meth c nL A D Q cells slots (pc + 3) lv (v :: st) ws) : VV p l e R s m args below meth c nL A D Q cells slots pc lv (.ref a :: st) ws := by
  intro H locs ls hP hD hS hl
  refine va_get (D := D) X.1 X.2.1 X.2.2.2.2.1 hf.1 X.2.2.2.1 X.2.2.2.2.2.1 hP q0 he hf.2.2.2 j hf.2.2.1 (X.2.2.2.2.1 _ hf.2.1) (fun _ h9 => h9) hv hdg ?_
  exact k H locs ls hP hD hS hl
theorem V_putI (X : Cx p R s m args meth c cc nL own Ts A D kI kC) {ci N index a : Nat} {C : String} {T : u_T} {fs : List Value} {x : Int32} {ty0 : Nat → FieldType} (j : Nat) (hf : FL Ts own index ci j C T N) (hp : FP N T ty0) (hd : parseFieldDescriptor (T j).2.2.1 = some .int) (hfin : (T j).2.2.2 = false) (q0 : Nat) (he : ws[q0]? = some (a, .inr (ci, fs))) (hj : j < fs.length) (hdg : decode cc pc = .ok (.putfield index, 3)) (k : VV p l e R s m args below meth c nL A D Q cells slots (pc + 3) lv st (ws.set q0 (a, .inr (ci, fs.set j (.int x))))) : VV p l e R s m args below meth c nL A D Q cells slots pc lv (.int x :: .ref a :: st) ws := by
  intro H locs ls hP hD hS hl
  refine va_put (D := D) (ty := .int) X.1 X.2.1 X.2.2.2.2.1 hf.1 ty0 hp.1 hp.2 X.2.2.2.1 X.2.2.2.2.2.1 hP hD hS q0 he hf.2.2.2 j hf.2.2.1 (X.2.2.2.2.1 _ hf.2.1) (fun _ h9 => h9) hfin hd rfl rfl hj hdg (fun H1 locs1 h1 h2 h3 => ?_)
  exact k H1 locs1 ls h1 h2 h3 hl
theorem V_putZ (X : Cx p R s m args meth c cc nL own Ts A D kI kC) {ci N index a : Nat} {C : String} {T : u_T} {fs : List Value} {b : Bool} {ty0 : Nat → FieldType} (j : Nat) (hf : FL Ts own index ci j C T N) (hp : FP N T ty0) (hd : parseFieldDescriptor (T j).2.2.1 = some .boolean) (hfin : (T j).2.2.2 = false) (q0 : Nat) (he : ws[q0]? = some (a, .inr (ci, fs))) (hj : j < fs.length) (hdg : decode cc pc = .ok (.putfield index, 3)) (k : VV p l e R s m args below meth c nL A D Q cells slots (pc + 3) lv st (ws.set q0 (a, .inr (ci, fs.set j (.int (iI (bI b))))))) : VV p l e R s m args below meth c nL A D Q cells slots pc lv (.int (iI (bI b)) :: .ref a :: st) ws := by
  intro H locs ls hP hD hS hl
  refine va_put (D := D) (ty := .boolean) X.1 X.2.1 X.2.2.2.2.1 hf.1 ty0 hp.1 hp.2 X.2.2.2.1 X.2.2.2.2.2.1 hP hD hS q0 he hf.2.2.2 j hf.2.2.1 (X.2.2.2.2.1 _ hf.2.1) (fun _ h9 => h9) hfin hd (by cases b <;> rfl) (by cases b <;> rfl) hj hdg (fun H1 locs1 h1 h2 h3 => ?_)
  exact k H1 locs1 ls h1 h2 h3 hl
theorem V_iald (X : Cx p R s m args meth c cc nL own Ts A D kI kC) {a n : Nat} {F : Nat → Int} {i : Int} (j : Nat) (q0 : Nat) (he : ws[q0]? = some (a, IA kI n F)) (hi : i = (j : Int)) (hj : j < n) (hn : n < 2147483648) (hdg : decode cc pc = .ok (.iaload, 1)) (k : VV p l e R s m args below meth c nL A D Q cells slots (pc + 1) lv (.int (iI (F j)) :: st) ws) : VV p l e R s m args below meth c nL A D Q cells slots pc lv (.int (iI i) :: .ref a :: st) ws := by
  intro H locs ls hP hD hS hl
  subst hi
  refine va_iald (D := D) X.1 X.2.1 X.2.2.2.2.2.1 hP q0 0 he rfl (iI_in hj hn) hdg ?_
  rw [iI_cl (by omega)]
  exact k H locs ls hP hD hS hl
theorem V_cald (X : Cx p R s m args meth c cc nL own Ts A D kI kC) {a n : Nat} {F : Nat → Int} {i : Int} (j : Nat) (q0 : Nat) (he : ws[q0]? = some (a, IA kC n F)) (hi : i = (j : Int)) (hj : j < n) (hn : n < 2147483648) (hdg : decode cc pc = .ok (.caload, 1)) (k : VV p l e R s m args below meth c nL A D Q cells slots (pc + 1) lv (.int (iI (F j)) :: st) ws) : VV p l e R s m args below meth c nL A D Q cells slots pc lv (.int (iI i) :: .ref a :: st) ws := by
  intro H locs ls hP hD hS hl
  subst hi
  refine va_cald (D := D) X.1 X.2.1 X.2.2.2.2.2.1 hP q0 1 he rfl (iI_in hj hn) hdg ?_
  rw [iI_cl (by omega)]
  exact k H locs ls hP hD hS hl
theorem V_iast (X : Cx p R s m args meth c cc nL own Ts A D kI kC) {a n : Nat} {F : Nat → Int} {i x : Int} (j : Nat) (q0 : Nat) (he : ws[q0]? = some (a, IA kI n F)) (hi : i = (j : Int)) (hj : j < n) (hn : n < 2147483648) (hdg : decode cc pc = .ok (.iastore, 1)) (k : VV p l e R s m args below meth c nL A D Q cells slots (pc + 1) lv st (ws.set q0 (a, IA kI n (upz F j x)))) : VV p l e R s m args below meth c nL A D Q cells slots pc lv (.int (iI x) :: .int (iI i) :: .ref a :: st) ws := by
  intro H locs ls hP hD hS hl
  subst hi
  refine va_iast (D := D) X.1 X.2.1 X.2.2.2.2.2.1 hP hD hS q0 0 he rfl (iI_in hj hn) hdg (fun H1 locs1 h1 h2 h3 => ?_)
  rw [iI_cl (by omega), upd_upz] at h1 h2
  exact k H1 locs1 ls h1 h2 h3 hl
theorem V_cast (X : Cx p R s m args meth c cc nL own Ts A D kI kC) {a n : Nat} {F : Nat → Int} {i x : Int} (j : Nat) (q0 : Nat) (he : ws[q0]? = some (a, IA kC n F)) (hi : i = (j : Int)) (hj : j < n) (hn : n < 2147483648) (hx : 0 ≤ x) (hx2 : x < 65536) (hdg : decode cc pc = .ok (.castore, 1)) (k : VV p l e R s m args below meth c nL A D Q cells slots (pc + 1) lv st (ws.set q0 (a, IA kC n (upz F j x)))) : VV p l e R s m args below meth c nL A D Q cells slots pc lv (.int (iI x) :: .int (iI i) :: .ref a :: st) ws := by
  intro H locs ls hP hD hS hl
  subst hi
  refine va_cast (D := D) X.1 X.2.1 X.2.2.2.2.2.1 hP hD hS q0 1 he rfl (iI_in hj hn) hdg (fun H1 locs1 h1 h2 h3 => ?_)
  rw [iI_cl (by omega), iI_char hx hx2, upd_upz] at h1 h2
  exact k H1 locs1 ls h1 h2 h3 hl
theorem V_copy (X : Cx p R s m args meth c cc nL own Ts A D kI kC) {index a0 a n0 n1 : Nat} {F G : Nat → Int} {isp idp inn : Int} (sp dp n : Nat) (hw : MC Ts own index) (q0 q1 : Nat) (he0 : ws[q0]? = some (a0, IA kI n0 F)) (he1 : ws[q1]? = some (a, IA kI n1 G)) (h1 : isp = (sp : Int)) (h2 : idp = (dp : Int)) (h3 : inn = (n : Int)) (h4 : sp + n ≤ n0) (h5 : dp + n ≤ n1) (h6 : n0 < 2147483648) (h7 : n1 < 2147483648) (hfr : 1 ≤ R.frames) (hlo : (st.map fun v => v.category).sum + (nativeFrameWords "java/lang/System" "arraycopy" 5 + 11) ≤ R.locals) (hdg : decode cc pc = .ok (.invokestatic index, 3)) (k : VV p l e R s m args below meth c nL A D Q cells slots (pc + 3) lv st (ws.set q1 (a, IA kI n1 (cpz F G sp dp n)))) : VV p l e R s m args below meth c nL A D Q cells slots pc lv (.int (iI inn) :: .int (iI idp) :: .ref a :: .int (iI isp) :: .ref a0 :: st) ws := by
  intro H locs ls hP hD hS hl
  subst h1 h2 h3
  have c1 := iI_cl (k := sp) (by omega)
  have c2 := iI_cl (k := dp) (by omega)
  have c3 := iI_cl (k := n) (by omega)
  refine va_copyi (D := D) (ty := .int) X.1 X.2.1 (X.2.2.1.trans hl.1.symm) X.2.2.2.1 (X.2.2.2.2.1 _ hw.1) (X.2.2.2.2.1 _ hw.2.1) (X.2.2.2.2.1 _ hw.2.2.1) (X.2.2.2.2.1 _ hw.2.2.2) X.2.2.2.2.2.1 hP hD hS q0 q1 0 0 he0 he1 rfl rfl rfl (iI_nn (by omega)) (iI_nn (by omega)) (iI_nn (by omega)) (by rw [c1, c3]; exact h4) (by rw [c2, c3]; exact h5) (fun _ _ => rfl) hfr hlo hdg (fun H1 locs1 g1 g2 g3 => ?_)
  rw [c1, c2, c3, cpy_cpz] at g1 g2
  exact k H1 locs1 ls g1 g2 g3 hl
theorem V_mmax (X : Cx p R s m args meth c cc nL own Ts A D kI kC) {index : Nat} {x y : Int} (hw : MM_max Ts own index) (hx : IR x) (hy : IR y) (hfr : 1 ≤ R.frames) (hlo : (st.map fun v => v.category).sum + 13 ≤ R.locals) (hcl : cells ≤ R.cells) (hsl : slots ≤ R.slots) (hdg : decode cc pc = .ok (.invokestatic index, 3)) (k : VV p l e R s m args below meth c nL A D Q cells slots (pc + 3) lv (.int (iI (max x y)) :: st) ws) : VV p l e R s m args below meth c nL A D Q cells slots pc lv (.int (iI y) :: .int (iI x) :: st) ws := by
  intro H locs ls hP hD hS hl
  refine va_mmax X.1 X.2.1 (X.2.2.1.trans hl.1.symm) X.2.2.2.1 (X.2.2.2.2.1 _ hw.1) (X.2.2.2.2.1 _ hw.2.1) (X.2.2.2.2.1 _ hw.2.2.1) (X.2.2.2.2.1 _ hw.2.2.2) hfr hlo hcl hsl hdg ?_
  rw [iI_max hx hy]
  exact k H locs ls hP hD hS hl
theorem V_mmin (X : Cx p R s m args meth c cc nL own Ts A D kI kC) {index : Nat} {x y : Int} (hw : MM_min Ts own index) (hx : IR x) (hy : IR y) (hfr : 1 ≤ R.frames) (hlo : (st.map fun v => v.category).sum + 13 ≤ R.locals) (hcl : cells ≤ R.cells) (hsl : slots ≤ R.slots) (hdg : decode cc pc = .ok (.invokestatic index, 3)) (k : VV p l e R s m args below meth c nL A D Q cells slots (pc + 3) lv (.int (iI (min x y)) :: st) ws) : VV p l e R s m args below meth c nL A D Q cells slots pc lv (.int (iI y) :: .int (iI x) :: st) ws := by
  intro H locs ls hP hD hS hl
  refine va_mmin X.1 X.2.1 (X.2.2.1.trans hl.1.symm) X.2.2.2.1 (X.2.2.2.2.1 _ hw.1) (X.2.2.2.2.1 _ hw.2.1) (X.2.2.2.2.1 _ hw.2.2.1) (X.2.2.2.2.1 _ hw.2.2.2) hfr hlo hcl hsl hdg ?_
  rw [iI_min hx hy]
  exact k H locs ls hP hD hS hl
/-- a method's contract: from the cells W0, with the arguments av, it ends with an answer v and the cells W1 u, where Qf v u -/
def conP (D : va_G) (kI kC : ClassId) (av : List Value) (W0 : va_W) (sz : Nat) : Array Value → State → Prop := va_Pc av (fun U => U.heap.size = sz ∧ va_P D vwCl W0 U.heap ∧ KK D kI kC U ∧ va_D (fun _ => True) W0)
def conQ (D : va_G) {σ : Type} (Qf : Option Value → σ → Prop) (W1 : σ → va_W) (A : Nat → Prop) : Array Value → State → Outcome → State → Prop := fun _ st oc t => (∃ (v : Option Value) (u : σ), oc = .returned v ∧ Qf v u ∧ va_P D vwCl (W1 u) t.heap ∧ va_D A (W1 u)) ∧ va_F A st t
def Con (l : Launch) (y : MethodName) (wsc : List Cond) (rm : Room) (D : va_G) (kI kC : ClassId) (av : List Value) (W0 : va_W) {σ : Type} (Qf : Option Value → σ → Prop) (W1 : σ → va_W) : Prop :=
  ∀ sz : Nat, Met l y wsc rm (conP D kI kC av W0 sz) (conQ D Qf W1 (va_A W0 sz)) rm.cells rm.slots (va_A W0 sz)
def qI {σ : Type} (f : Int → σ → Prop) : Option Value → σ → Prop := fun v u => ∃ r : Int, v = some (.int (iI r)) ∧ f r u
def qV {σ : Type} (f : σ → Prop) : Option Value → σ → Prop := fun v u => v = none ∧ f u
/-- of a method that changes nothing -/
def ConR (l : Launch) (y : MethodName) (wsc : List Cond) (rm : Room) (D : va_G) (kI kC : ClassId) (av : List Value) (W0 : va_W) (f : Int → Prop) : Prop :=
  Con l y wsc rm D kI kC av W0 (σ := Unit) (qI (fun r _ => f r)) (fun _ => W0)
theorem conP_blind (D : va_G) (kI kC : ClassId) (av : List Value) (W0 : va_W) (sz : Nat) : FrameBlind (conP D kI kC av W0 sz) := by
  intro a U g mk h
  obtain ⟨h1, h2, h3, h4, h5⟩ := h
  exact ⟨h1, h2, h3, h4.call g mk a, h5⟩
theorem lg_sl_one : ∀ (av : List Value), (∀ v ∈ av, v.category = 1) → (lg_sl av).length = av.length
  | [], _ => rfl
  | a :: av, h => by
    have ha := h a List.mem_cons_self
    have := lg_sl_one av (fun v hv => h v (List.mem_cons_of_mem _ hv))
    unfold lg_sl at this ⊢
    rw [List.flatMap_cons, if_neg (by rw [ha]; decide), List.length_append, this, List.length_cons]
    simp
    omega
/-- a contract out of a walk -/
theorem Con.of {y : MethodName} {wsc ws' : List Cond} {rm : Room} {maxL : Nat} {ret : Option FieldType} {av : List Value} {W0 : va_W} {σ : Type} {Qf : Option Value → σ → Prop} {W1 : σ → va_W}
    (hy : plainName y.cls = true) (hw : wsc = Cond.code y cc maxL ret :: ws') (hcat : ∀ v ∈ av, v.category = 1) (hle : av.length ≤ maxL)
    (body : ∀ (p : Program) (e : Env) (s : State) (m : MethodId) (below : List Frame) (meth : Method) (c : Code) (A : Nat → Prop), Cx p rm s m av.toArray meth c cc maxL y.cls wsc A D kI kC → meth.sig.returnType = ret →
      VV p l e rm s m av.toArray below meth c maxL A D (MQ below (conQ D Qf W1 A) av.toArray s rm.cells rm.slots A) 0 0 0 (av.map some ++ List.replicate (maxL - av.length) none) [] W0) : Con l y wsc rm D kI kC av W0 Qf W1 := by
  intro sz
  refine Met.ofW (cc := cc) (maxL := maxL) (ret := ret) hy hw ?_
  intro p e s m args below meth c s₁ B hml hv
  obtain ⟨rfl, hsz, hP, hK, hD0⟩ := hv
  subst hsz
  have hts := atoms_spec (ws := wsc) B.pre
  have hown : s.vm.findClass y.cls = some m.cls := findClass_of_methodNamed B.named
  have hl := lv_entry av (n := maxL) (by rw [lg_sl_one av hcat]; exact hle)
  rw [lg_entry_eq]
  exact body p e s m below meth c (va_A W0 s.heap.size) ⟨B.exec, B.bytes, hml, hown, hts, hK.1, hK.2, fun q h => Or.inr h, B.notSynchronized, rfl⟩ B.returns s.heap [] _ hP hD0.self va_S.rf (Lh_entry hcat hl _)
theorem V_iret (X : Cx p R s m args meth c cc nL own Ts A D kI kC) {σ : Type} {f : Int → σ → Prop} {W1 : σ → va_W} {r : Int} (u : σ) (hr : meth.sig.returnType = some .int) (hw : W1 u = ws) (hdg : decode cc pc = .ok (.ireturn, 1)) (hq : f r u) : VV p l e R s m args below meth c nL A D (MQ below (conQ D (qI f) W1 A) args s cells slots A) cells slots pc lv [.int (iI r)] ws := by
  intro H locs ls hP hD hS hl
  exact W.iret X.1 X.2.1 hr (fun t ht hW => ⟨⟨_, u, rfl, ⟨r, rfl, hq⟩, by rw [ht, hw]; exact hP, by rw [hw]; exact hD⟩, hS.F ht⟩) hS.2.2 hdg (hlocks := X.2.2.2.2.2.2.2.2.1)
theorem V_zret (X : Cx p R s m args meth c cc nL own Ts A D kI kC) {σ : Type} {f : Int → σ → Prop} {W1 : σ → va_W} {r : Bool} (u : σ) (hr : meth.sig.returnType = some .boolean) (hw : W1 u = ws) (hdg : decode cc pc = .ok (.ireturn, 1)) (hq : f (bI r) u) : VV p l e R s m args below meth c nL A D (MQ below (conQ D (qI f) W1 A) args s cells slots A) cells slots pc lv [.int (iI (bI r))] ws := by
  intro H locs ls hP hD hS hl
  exact W.zret X.1 X.2.1 hr (by cases r <;> rfl) (fun t ht hW => ⟨⟨_, u, rfl, ⟨bI r, rfl, hq⟩, by rw [ht, hw]; exact hP, by rw [hw]; exact hD⟩, hS.F ht⟩) hS.2.2 hdg (hlocks := X.2.2.2.2.2.2.2.2.1)
theorem V_vret (X : Cx p R s m args meth c cc nL own Ts A D kI kC) {σ : Type} {f : σ → Prop} {W1 : σ → va_W} (u : σ) (hr : meth.sig.returnType = none) (hw : W1 u = ws) (hdg : decode cc pc = .ok (.return_, 1)) (hq : f u) : VV p l e R s m args below meth c nL A D (MQ below (conQ D (qV f) W1 A) args s cells slots A) cells slots pc lv [] ws := by
  intro H locs ls hP hD hS hl
  exact W.vret X.1 X.2.1 hr (fun t ht hW => ⟨⟨_, u, rfl, ⟨rfl, hq⟩, by rw [ht, hw]; exact hP, by rw [hw]; exact hD⟩, hS.F ht⟩) hS.2.2 hdg (hlocks := X.2.2.2.2.2.2.2.2.1)
/-- any call, once it is known to run -/
theorem V_run (X : Cx p R s m args meth c cc nL own Ts A D kI kC) {W0 : va_W} {σ : Type} {Qf : Option Value → σ → Prop} {W1 : σ → va_W} {rm : Room} {a : Array Value} {rest : List Value}
    (is : List Nat) (hC : is.map (fun i => ws[i]?) = W0.map some) (hnd : va_nd is = true) (hlen : ∀ u, (W1 u).length = is.length)
    (hr : ∀ (H : Heap) (locs : List Loc) (ls : Array Slot), va_P D vwCl ws H → va_D A ws → ls.size = nL → va_Run p l e R s m args below meth c H locs cells slots rm.cells rm.slots (F0 m pc ls st) rest (conQ D Qf W1 (va_A W0 H.size) a) (va_A W0 H.size))
    (k : ∀ (v : Option Value) (u : σ), Qf v u → VV p l e R s m args below meth c nL A D Q (cells + rm.cells) (slots + rm.slots) (pc + 3) lv (v.toList ++ rest) (putW ws is (W1 u))) : VV p l e R s m args below meth c nL A D Q cells slots pc lv st ws := by
  intro H locs ls hP hD hS hl T hT XS
  have hF := va_free (wc := W0) hD hS X.2.2.2.2.2.2.2.1 is hC
  obtain ⟨v, st₀, t, T', L, h0, X', hL, e1, e2, ⟨⟨v2, u, hv, hp, hb, hd⟩, hz, hk⟩, hst⟩ := hr H locs ls hP hD hl.1 T hT XS
  cases hv
  rw [h0] at hz hk
  have hk2 : ∀ q : Nat, q < H.size → ¬ va_A W0 H.size q → T'.heap[q]? = H[q]? := fun q h1 h2 => by rw [e1]; exact hk q h1 h2
  obtain ⟨g1, g2⟩ := va_put1 hP hD is hC hnd (hlen u) hk2 hF (by rw [e1]; exact hb) hd
  obtain ⟨t2, a1, b1⟩ := k v u hp T'.heap (locs ++ L) ls g1 g2
    ⟨Nat.le_trans hS.1 (by rw [e1]; exact hz), fun q h1 h2 => by rw [e1, hk q (Nat.lt_of_lt_of_le h1 hS.1) (fun z => h2 (hF q z))]; exact hS.2.1 q h1 h2, fun q hq => by
      rcases List.mem_append.mp hq with h | h
      · exact hS.2.2 q h
      · exact hF _ (hL q h)⟩ hl T' rfl X'
  exact ⟨t2, hst t2 a1, b1⟩
theorem conP_of (X : Cx p R s m args meth c cc nL own Ts A D kI kC) {av : List Value} {W0 : va_W} {H : Heap} (is : List Nat) (hC : is.map (fun i => ws[i]?) = W0.map some) (hnd : va_nd is = true) (hP : va_P D vwCl ws H) (hD : va_D A ws) (U : State) (hU : U.heap = H) (hW : s.WarmedH U.vm) : conP D kI kC av W0 H.size av.toArray U := by
  refine ⟨rfl, by rw [hU], ?_, KK.warm hW ⟨X.2.2.2.2.2.1, X.2.2.2.2.2.2.1⟩, (hD.sub is hnd hC).weaken (fun _ _ _ _ => trivial)⟩
  rw [hU]
  refine hP.sub is ?_
  have h2 : (is.map (fun i => ws[i]?)).filterMap id = (W0.map some).filterMap id := by rw [hC]
  rw [List.filterMap_map, List.filterMap_map] at h2
  have h3 : W0.filterMap (id ∘ some) = W0 := by
    rw [show (id ∘ some : Nat × va_E → Option (Nat × va_E)) = some from rfl]
    exact List.filterMap_some
  rw [h3] at h2
  exact h2
def KM (y : MethodName) (C : String) (n : Nat) : Prop := y.cls = C ∧ y.cls ≠ "java/lang/invoke/MethodHandle" ∧ y.cls ≠ "java/lang/invoke/VarHandle" ∧ (parseMethodDescriptor y.desc).map (fun d => d.parameters.length) = some n
def RF (R rm : Room) (maxL cells slots : Nat) : Prop := (rm.frames + 1 ≤ R.frames ∧ 8 + (maxL + 11) + rm.locals ≤ R.locals) ∧ cells + rm.cells ≤ R.cells ∧ slots + rm.slots ≤ R.slots
theorem V_callV (X : Cx p R s m args meth c cc nL own Ts A D kI kC) {y : MethodName} {wsc wsc' : List Cond} {rm : Room} {bytes : ByteArray} {maxL n index ci q0 b : Nat} {ret : Option FieldType} {C : String} {T : u_T} {N : Nat} {As rest : List Value} {fs : List Value} {W0 : va_W} {σ : Type} {Qf : Option Value → σ → Prop} {W1 : σ → va_W}
    (hM : Con l y wsc rm D kI kC (.ref b :: As) W0 Qf W1) (hG : GoodIn Ts (wsV own index C y wsc)) (hw : wsc = Cond.code y bytes maxL ret :: wsc') (hd : KM y C n) (hR : RF R rm maxL cells slots) (hz : rm.cells = 0 ∧ rm.slots = 0) (hn : As.length = n) (hst : st = As.reverse ++ .ref b :: rest) (hcat : (rest.map fun v => v.category).sum ≤ 8)
    (is : List Nat) (hC : is.map (fun i => ws[i]?) = W0.map some) (hnd : va_nd is = true) (hlen : ∀ u, (W1 u).length = is.length) (he : ws[q0]? = some (b, .inr (ci, fs))) (hc : vwCl[ci]? = some (C, T, N)) (hdg : decode cc pc = .ok (.invokevirtual index, 3))
    (k : ∀ (v : Option Value) (u : σ), Qf v u → VV p l e R s m args below meth c nL A D Q cells slots (pc + 3) lv (v.toList ++ rest) (putW ws is (W1 u))) : VV p l e R s m args below meth c nL A D Q cells slots pc lv st ws := by
  refine V_run X (a := (Value.ref b :: As).toArray) is hC hnd hlen (fun H locs ls hP hD hsz => ?_) (fun v u h => by rw [hz.1, hz.2]; exact k v u h)
  exact va_runV ⟨X.1, X.2.1, X.2.2.1, X.2.2.2.1, X.2.2.2.2.1⟩ (hM H.size) (cwV n X.2.2.2.2.1 hG hw rfl rfl hd hR.1) ⟨conP_blind D kI kC _ _ _, va_recv X.2.2.2.2.2.1 hP hc he, fun U hU hW => conP_of X is hC hnd hP hD U hU hW⟩ rfl hn hsz hst (lv_room hcat) hdg hR.2
theorem V_callS (X : Cx p R s m args meth c cc nL own Ts A D kI kC) {y : MethodName} {wsc wsc' : List Cond} {rm : Room} {bytes : ByteArray} {maxL n index : Nat} {ret : Option FieldType} {C : String} {As rest : List Value} {W0 : va_W} {σ : Type} {Qf : Option Value → σ → Prop} {W1 : σ → va_W}
    (hM : Con l y wsc rm D kI kC As W0 Qf W1) (hG : GoodIn Ts (va_wsS own index y wsc)) (hw : wsc = Cond.code y bytes maxL ret :: wsc') (hd : KM y C n) (hR : RF R rm maxL cells slots) (hz : rm.cells = 0 ∧ rm.slots = 0) (hn : As.length = n) (hst : st = As.reverse ++ rest) (hcat : (rest.map fun v => v.category).sum ≤ 8)
    (is : List Nat) (hC : is.map (fun i => ws[i]?) = W0.map some) (hnd : va_nd is = true) (hlen : ∀ u, (W1 u).length = is.length) (hdg : decode cc pc = .ok (.invokestatic index, 3))
    (k : ∀ (v : Option Value) (u : σ), Qf v u → VV p l e R s m args below meth c nL A D Q cells slots (pc + 3) lv (v.toList ++ rest) (putW ws is (W1 u))) : VV p l e R s m args below meth c nL A D Q cells slots pc lv st ws := by
  refine V_run X (a := As.toArray) is hC hnd hlen (fun H locs ls hP hD hsz => ?_) (fun v u h => by rw [hz.1, hz.2]; exact k v u h)
  exact va_runS ⟨X.1, X.2.1, X.2.2.1, X.2.2.2.1, X.2.2.2.2.1⟩ (hM H.size) (va_cwS n X.2.2.2.2.1 hG hw rfl rfl hd.2 hR.1) ⟨conP_blind D kI kC _ _ _, fun U hU hW => conP_of X is hC hnd hP hD U hU hW⟩ rfl hn hsz hst (lv_room hcat) hdg hR.2
theorem V_callN (X : Cx p R s m args meth c cc nL own Ts A D kI kC) {y : MethodName} {wsc wsc' : List Cond} {rm : Room} {bytes : ByteArray} {maxL n index : Nat} {ret : Option FieldType} {C host : String} {As rest : List Value} {W0 : va_W} {σ : Type} {Qf : Option Value → σ → Prop} {W1 : σ → va_W}
    (hM : Con l y wsc rm D kI kC As W0 Qf W1) (hG : GoodIn Ts wsc) (hN : Cond.methodLinkNest own index y host ∈ nwAll) (hT : Cond.static y ∈ Ts ∧ Cond.initialized y.cls ∈ Ts) (hw : wsc = Cond.code y bytes maxL ret :: wsc') (hd : KM y C n) (hR : RF R rm maxL cells slots) (hz : rm.cells = 0 ∧ rm.slots = 0) (hn : As.length = n) (hst : st = As.reverse ++ rest) (hcat : (rest.map fun v => v.category).sum ≤ 8)
    (is : List Nat) (hC : is.map (fun i => ws[i]?) = W0.map some) (hnd : va_nd is = true) (hlen : ∀ u, (W1 u).length = is.length) (hdg : decode cc pc = .ok (.invokestatic index, 3))
    (k : ∀ (v : Option Value) (u : σ), Qf v u → VV p l e R s m args below meth c nL A D Q cells slots (pc + 3) lv (v.toList ++ rest) (putW ws is (W1 u))) : VV p l e R s m args below meth c nL A D Q cells slots pc lv st ws := by
  refine V_run X (a := As.toArray) is hC hnd hlen (fun H locs ls hP hD hsz => ?_) (fun v u h => by rw [hz.1, hz.2]; exact k v u h)
  exact va_runSN ⟨X.1, X.2.1, X.2.2.1, X.2.2.2.1, X.2.2.2.2.1⟩ (hM H.size) ⟨va_cnB n X.2.2.2.2.1 hG hw rfl rfl (X.2.2.2.2.2.2.1 _ hN) (X.2.2.2.2.1 _ hT.2) hd.2 hR.1, X.2.2.2.2.1 _ hT.1, trivial⟩ ⟨conP_blind D kI kC _ _ _, fun U hU hW => conP_of X is hC hnd hP hD U hU hW⟩ rfl hn hsz hst (lv_room hcat) hdg hR.2
/-- the answers split off -/
theorem kI_of {σ : Type} {f : Int → σ → Prop} {P : Option Value → σ → Prop} (k : ∀ (r : Int) (u : σ), f r u → P (some (.int (iI r))) u) : ∀ (v : Option Value) (u : σ), qI f v u → P v u := fun v u h => by
  obtain ⟨r, rfl, hf⟩ := h
  exact k r u hf
theorem kV_of {σ : Type} {f : σ → Prop} {P : Option Value → σ → Prop} (k : ∀ (u : σ), f u → P none u) : ∀ (v : Option Value) (u : σ), qV f v u → P v u := fun v u h => by
  obtain ⟨rfl, hf⟩ := h
  exact k u hf
theorem kR_of {f : Int → Prop} {is : List Nat} {W0 : va_W} {rest : List Value} (hC : is.map (fun i => ws[i]?) = W0.map some) (k : ∀ (r : Int), f r → VV p l e R s m args below meth c nL A D Q cells slots pc lv (.int (iI r) :: rest) ws) :
    ∀ (v : Option Value) (u : Unit), qI (fun r (_ : Unit) => f r) v u → VV p l e R s m args below meth c nL A D Q cells slots pc lv (v.toList ++ rest) (putW ws is ((fun _ : Unit => W0) u)) := fun v u h => by
  obtain ⟨r, rfl, hf⟩ := h
  show VV p l e R s m args below meth c nL A D Q cells slots pc lv (.int (iI r) :: rest) (putW ws is W0)
  rw [putW_same is ws W0 hC]
  exact k r hf
theorem V_widen (cells1 slots1 : Nat) (h1 : cells ≤ cells1) (h2 : slots ≤ slots1) (k : VV p l e R s m args below meth c nL A D Q cells1 slots1 pc lv st ws) : VV p l e R s m args below meth c nL A D Q cells slots pc lv st ws := by
  intro H locs ls hP hD hS hl
  exact W.widen h1 h2 (k H locs ls hP hD hS hl)
theorem V_loop {σ : Type} (μ : σ → Nat) (J : σ → Prop) (lvf : σ → List (Option Value)) (wsf : σ → va_W) (u0 : σ) (h0 : J u0) (elv : lvf u0 = lv) (ews : wsf u0 = ws)
    (body : ∀ u, J u → (∀ u', J u' → μ u' < μ u → VV p l e R s m args below meth c nL A D Q cells slots pc (lvf u') st (wsf u')) → VV p l e R s m args below meth c nL A D Q cells slots pc (lvf u) st (wsf u)) : VV p l e R s m args below meth c nL A D Q cells slots pc lv st ws := by
  subst elv ews
  have key : ∀ (k : Nat) (u : σ), μ u < k → J u → VV p l e R s m args below meth c nL A D Q cells slots pc (lvf u) st (wsf u) := by
    intro k
    induction k with
    | zero => intro u h; exact absurd h (Nat.not_lt_zero _)
    | succ k ih => exact fun u h hJ => body u hJ (fun u' hJ' hlt => ih u' (by omega) hJ')
  exact key (μ u0 + 1) u0 (Nat.lt_succ_self _) h0
theorem V_loopR {σ : Type} (μ : σ → Nat) (J : σ → Prop) (lvf : σ → List (Option Value)) (u0 : σ) (h0 : J u0) (elv : lvf u0 = lv)
    (body : ∀ u, J u → (∀ u', J u' → μ u' < μ u → VV p l e R s m args below meth c nL A D Q cells slots pc (lvf u') st ws) → VV p l e R s m args below meth c nL A D Q cells slots pc (lvf u) st ws) : VV p l e R s m args below meth c nL A D Q cells slots pc lv st ws :=
  V_loop μ J lvf (fun _ => ws) u0 h0 elv rfl body
theorem V_top {x y : Int} (h : x = y) (k : VV p l e R s m args below meth c nL A D Q cells slots pc lv (.int (iI y) :: st) ws) : VV p l e R s m args below meth c nL A D Q cells slots pc lv (.int (iI x) :: st) ws := by rw [h]; exact k
end VKIT
