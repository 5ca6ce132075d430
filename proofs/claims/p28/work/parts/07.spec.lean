/-! what a pad holds, as lists; plain facts -/
section SPEC
abbrev Pt : Type := Int × Int
abbrev Stk : Type := Int × List Pt
def itr {α : Type} (f : Nat → α → α) (a : α) : Nat → α
  | 0 => a
  | n + 1 => f n (itr f a n)
theorem itr_0 {α : Type} (f : Nat → α → α) (a : α) : itr f a 0 = a := rfl
theorem itr_s {α : Type} (f : Nat → α → α) (a : α) (n : Nat) : itr f a (n + 1) = f n (itr f a n) := rfl
theorem itr_congr {α : Type} {f g : Nat → α → α} {a : α} : ∀ {n : Nat}, (∀ i b, i < n → f i b = g i b) → itr f a n = itr g a n
  | 0, _ => rfl
  | n + 1, h => by
    rw [itr_s, itr_s, itr_congr (fun i b hi => h i b (Nat.lt_succ_of_lt hi))]
    exact h n _ (Nat.lt_succ_self n)
def ptsOf (n : Nat) (X Y : Nat → Int) : List Pt := (List.range n).map (fun i => (X i, Y i))
theorem ptsOf_0 (X Y : Nat → Int) : ptsOf 0 X Y = [] := rfl
theorem ptsOf_s (n : Nat) (X Y : Nat → Int) : ptsOf (n + 1) X Y = ptsOf n X Y ++ [(X n, Y n)] := by
  unfold ptsOf
  rw [List.range_succ, List.map_append]
  rfl
theorem ptsOf_len (n : Nat) (X Y : Nat → Int) : (ptsOf n X Y).length = n := by
  unfold ptsOf
  rw [List.length_map, List.length_range]
theorem ptsOf_congr {n : Nat} {X Y X2 Y2 : Nat → Int} (h : ∀ i, i < n → X i = X2 i ∧ Y i = Y2 i) : ptsOf n X Y = ptsOf n X2 Y2 := by
  unfold ptsOf
  refine List.map_congr_left (fun i hi => ?_)
  obtain ⟨h1, h2⟩ := h i (List.mem_range.mp hi)
  rw [h1, h2]
theorem ptsOf_at {n : Nat} {X Y : Nat → Int} {i : Nat} (h : i < n) : (ptsOf n X Y)[i]? = some (X i, Y i) := by
  unfold ptsOf
  rw [List.getElem?_map, List.getElem?_range h]
  rfl
theorem ptsOf_inj {n n2 : Nat} {X Y X2 Y2 : Nat → Int} (h : ptsOf n X Y = ptsOf n2 X2 Y2) : n = n2 ∧ ∀ i, i < n → X i = X2 i ∧ Y i = Y2 i := by
  have hl : n = n2 := by rw [← ptsOf_len n X Y, h, ptsOf_len]
  subst hl
  refine ⟨rfl, fun i hi => ?_⟩
  have h1 := ptsOf_at (X := X) (Y := Y) hi
  rw [h, ptsOf_at hi] at h1
  have h2 := Option.some.inj h1
  exact ⟨(congrArg Prod.fst h2).symm, (congrArg Prod.snd h2).symm⟩
theorem ptsOf_mem {n : Nat} {X Y : Nat → Int} {q : Pt} : q ∈ ptsOf n X Y ↔ ∃ i, i < n ∧ q = (X i, Y i) := by
  unfold ptsOf
  rw [List.mem_map]
  constructor
  · rintro ⟨i, hi, rfl⟩; exact ⟨i, List.mem_range.mp hi, rfl⟩
  · rintro ⟨i, hi, rfl⟩; exact ⟨i, List.mem_range.mpr hi, rfl⟩
/-- the last point -/
theorem ptsOf_last {n : Nat} {X Y : Nat → Int} (h : 0 < n) : (ptsOf n X Y).getLast? = some (X (n - 1), Y (n - 1)) := by
  obtain ⟨k, rfl⟩ : ∃ k, n = k + 1 := ⟨n - 1, by omega⟩
  rw [ptsOf_s, List.getLast?_append]
  rfl
/-- a point is added, if it is not the last one -/
def addP (ps : List Pt) (q : Pt) : List Pt := if ps.getLast? = some q then ps else ps ++ [q]
def isL (n : Nat) (X Y : Nat → Int) (x y : Int) : Bool := decide (0 < n ∧ X (n - 1) = x ∧ Y (n - 1) = y)
theorem isL_iff {n : Nat} {X Y : Nat → Int} {x y : Int} : isL n X Y x y = true ↔ (ptsOf n X Y).getLast? = some (x, y) := by
  unfold isL
  rw [decide_eq_true_iff]
  constructor
  · rintro ⟨h, h1, h2⟩
    rw [ptsOf_last h, h1, h2]
  · intro h
    by_cases h0 : 0 < n
    · rw [ptsOf_last h0] at h
      have h2 := Option.some.inj h
      exact ⟨h0, congrArg Prod.fst h2, congrArg Prod.snd h2⟩
    · rw [show n = 0 by omega, ptsOf_0] at h
      cases h
theorem addP_yes {n : Nat} {X Y : Nat → Int} {x y : Int} (h : isL n X Y x y = true) : addP (ptsOf n X Y) (x, y) = ptsOf n X Y := if_pos (isL_iff.mp h)
theorem addP_no {n : Nat} {X Y : Nat → Int} {x y : Int} (h : isL n X Y x y = false) : addP (ptsOf n X Y) (x, y) = ptsOf (n + 1) (upz X n x) (upz Y n y) := by
  rw [ptsOf_s, upz_s, upz_s]
  rw [show ptsOf n (upz X n x) (upz Y n y) = ptsOf n X Y from ptsOf_congr (fun i hi => ⟨upz_n (by omega), upz_n (by omega)⟩)]
  exact if_neg (fun z => by rw [isL_iff.mpr z] at h; cases h)
/-- no two points that follow each other are the same -/
def NR : List Pt → Prop
  | [] => True
  | [_] => True
  | a :: b :: r => a ≠ b ∧ NR (b :: r)
def dd (ps : List Pt) : List Pt := ps.foldl addP []
theorem dd_app (ps : List Pt) (q : Pt) : dd (ps ++ [q]) = addP (dd ps) q := by
  unfold dd
  rw [List.foldl_append]
  rfl
theorem NR_tail {a : Pt} {l : List Pt} (h : NR (a :: l)) : NR l := by
  cases l with
  | nil => trivial
  | cons b r => exact h.2
theorem NR_app : ∀ {l : List Pt} {q : Pt}, NR l → l.getLast? ≠ some q → NR (l ++ [q])
  | [], _, _, _ => trivial
  | [a], q, _, h => ⟨fun z => h (by rw [z]; rfl), trivial⟩
  | a :: b :: r, q, h, h2 => ⟨h.1, NR_app (l := b :: r) h.2 (by rwa [List.getLast?_cons_cons] at h2)⟩
theorem NR_init : ∀ {l : List Pt} {q : Pt}, NR (l ++ [q]) → NR l ∧ l.getLast? ≠ some q
  | [], _, _ => ⟨trivial, fun h => by cases h⟩
  | [a], q, h => ⟨trivial, fun z => h.1 (Option.some.inj z)⟩
  | a :: b :: r, q, h => by
    have h2 := NR_init (l := b :: r) (q := q) h.2
    exact ⟨⟨h.1, h2.1⟩, by rw [List.getLast?_cons_cons]; exact h2.2⟩
theorem NR_addP {l : List Pt} {q : Pt} (h : NR l) : NR (addP l q) := by
  unfold addP
  by_cases h2 : l.getLast? = some q
  · rw [if_pos h2]; exact h
  · rw [if_neg h2]; exact NR_app h h2
theorem addP_len {l : List Pt} {q : Pt} : (addP l q).length ≤ l.length + 1 := by
  unfold addP
  split
  · omega
  · rw [List.length_append]; exact Nat.le_refl _
theorem addP_len2 {l : List Pt} {q : Pt} : l.length ≤ (addP l q).length := by
  unfold addP
  split
  · omega
  · rw [List.length_append]; omega
theorem addP_pos {l : List Pt} {q : Pt} : 0 < (addP l q).length := by
  unfold addP
  split
  · rename_i h
    cases l with
    | nil => cases h
    | cons a r => exact Nat.succ_pos _
  · rw [List.length_append]; exact Nat.succ_pos _
theorem addP_all {P : Pt → Prop} {l : List Pt} {q : Pt} (h : ∀ x ∈ l, P x) (hq : P q) : ∀ x ∈ addP l q, P x := by
  intro x hx
  unfold addP at hx
  split at hx
  · exact h x hx
  · rcases List.mem_append.mp hx with z | z
    · exact h x z
    · rw [List.mem_singleton.mp z]; exact hq
theorem addP_last {l : List Pt} {q : Pt} : (addP l q).getLast? = some q := by
  unfold addP
  split
  · assumption
  · rw [List.getLast?_append]; rfl
/-- a list without repeats stays as it is -/
theorem dd_NR (l : List Pt) : ∀ (k : Nat), k ≤ l.length → NR (l.take k) → dd (l.take k) = l.take k := by
  intro k
  induction k with
  | zero => intro _ _; simp [dd]
  | succ k ih =>
    intro hk h
    have e : l.take (k + 1) = l.take k ++ [l[k]] := by rw [List.take_succ_eq_append_getElem (by omega)]
    rw [e] at h ⊢
    obtain ⟨h1, h2⟩ := NR_init h
    rw [dd_app, ih (by omega) h1]
    exact if_neg h2
theorem dd_id {l : List Pt} (h : NR l) : dd l = l := by
  have := dd_NR l l.length (Nat.le_refl _) (by rw [List.take_length]; exact h)
  rwa [List.take_length] at this
theorem NR_foldl : ∀ (l acc : List Pt), NR acc → NR (l.foldl addP acc)
  | [], _, h => h
  | a :: l, acc, h => NR_foldl l (addP acc a) (NR_addP h)
theorem NR_dd (l : List Pt) : NR (dd l) := NR_foldl l [] trivial
theorem len_foldl : ∀ (l acc : List Pt), (l.foldl addP acc).length ≤ acc.length + l.length
  | [], acc => Nat.le_refl _
  | a :: l, acc => by
    have h1 := len_foldl l (addP acc a)
    have h2 := addP_len (l := acc) (q := a)
    rw [List.foldl_cons, List.length_cons]
    omega
theorem len_dd (l : List Pt) : (dd l).length ≤ l.length := by
  have := len_foldl l []
  unfold dd
  simpa using this
theorem all_foldl {P : Pt → Prop} : ∀ (l acc : List Pt), (∀ x ∈ acc, P x) → (∀ x ∈ l, P x) → ∀ x ∈ l.foldl addP acc, P x
  | [], _, h, _ => h
  | a :: l, acc, h, h2 => all_foldl l (addP acc a) (addP_all h (h2 a List.mem_cons_self)) (fun x hx => h2 x (List.mem_cons_of_mem _ hx))
theorem all_dd {P : Pt → Prop} {l : List Pt} (h : ∀ x ∈ l, P x) : ∀ x ∈ dd l, P x := all_foldl l [] (fun _ z => absurd z List.not_mem_nil) h
theorem pos_dd {l : List Pt} (h : 0 < l.length) : 0 < (dd l).length := by
  obtain ⟨q, r, rfl⟩ : ∃ q r, l = r ++ [q] := ⟨l.getLast (by intro z; rw [z] at h; simp at h), l.dropLast, by rw [List.dropLast_concat_getLast]⟩
  rw [dd_app]
  exact addP_pos
/-- a stroke, a pad's strokes -/
def inC (q : Pt) : Prop := 0 ≤ q.1 ∧ q.1 ≤ 1000 ∧ 0 ≤ q.2 ∧ q.2 ≤ 1000
def OkP (ps : List Pt) : Prop := 1 ≤ ps.length ∧ ps.length ≤ 24 ∧ (∀ q ∈ ps, inC q) ∧ NR ps
def OkK (t : Stk) : Prop := 0 ≤ t.1 ∧ t.1 ≤ 3 ∧ OkP t.2
def OkS (S : List Stk) : Prop := S.length ≤ 16 ∧ ∀ t ∈ S, OkK t
def gk (S : List Stk) (k : Nat) : Stk := S.getD k (0, [])
def szk (t : Stk) : Nat := t.2.length
def px (t : Stk) (i : Nat) : Int := (t.2.getD i (0, 0)).1
def py (t : Stk) (i : Nat) : Int := (t.2.getD i (0, 0)).2
theorem gk_at {S : List Stk} {k : Nat} (h : k < S.length) : S[k]? = some (gk S k) := by
  unfold gk
  rw [List.getD_eq_getElem?_getD, List.getElem?_eq_getElem h]
  rfl
theorem gk_mem {S : List Stk} {k : Nat} (h : k < S.length) : gk S k ∈ S := List.mem_of_getElem? (gk_at h)
theorem OkS_at {S : List Stk} (h : OkS S) {k : Nat} (hk : k < S.length) : OkK (gk S k) := h.2 _ (gk_mem hk)
theorem pxy_at {t : Stk} {i : Nat} (h : i < szk t) : t.2[i]? = some (px t i, py t i) := by
  unfold szk at h
  unfold px py
  rw [List.getD_eq_getElem?_getD, List.getElem?_eq_getElem h]
  rfl
theorem pxy_pts (t : Stk) : ptsOf (szk t) (px t) (py t) = t.2 := by
  apply List.ext_getElem?
  intro i
  by_cases h : i < szk t
  · rw [ptsOf_at h, pxy_at h]
  · rw [List.getElem?_eq_none (by rw [ptsOf_len]; omega), List.getElem?_eq_none (Nat.le_of_not_lt h)]
theorem pxy_of {n : Nat} {X Y : Nat → Int} {c : Int} {i : Nat} (h : i < n) : px (c, ptsOf n X Y) i = X i ∧ py (c, ptsOf n X Y) i = Y i := by
  unfold px py
  rw [List.getD_eq_getElem?_getD, ptsOf_at h]
  exact ⟨rfl, rfl⟩
theorem OkK_sz {t : Stk} (h : OkK t) : 1 ≤ szk t ∧ szk t ≤ 24 := ⟨h.2.2.1, h.2.2.2.1⟩
theorem OkK_col {t : Stk} (h : OkK t) : 0 ≤ t.1 ∧ t.1 ≤ 3 := ⟨h.1, h.2.1⟩
theorem OkK_xy {t : Stk} (h : OkK t) {i : Nat} (hi : i < szk t) : 0 ≤ px t i ∧ px t i ≤ 1000 ∧ 0 ≤ py t i ∧ py t i ≤ 1000 := h.2.2.2.2.1 _ (List.mem_of_getElem? (pxy_at hi))
theorem inC_at {t : Stk} (h : OkP t.2) {i : Nat} (hi : i < szk t) : inC (px t i, py t i) := h.2.2.1 _ (List.mem_of_getElem? (pxy_at hi))
/-- the strokes in the rows of the class -/
def skC (F : Nat → Int) (k : Nat) : Stk := (F (50 * k), ptsOf (F (50 * k + 1)).toNat (fun i => F (50 * k + 2 + i)) (fun i => F (50 * k + 26 + i)))
def shC (n : Nat) (F : Nat → Int) : List Stk := (List.range n).map (skC F)
theorem shC_len (n : Nat) (F : Nat → Int) : (shC n F).length = n := by unfold shC; rw [List.length_map, List.length_range]
theorem shC_s (n : Nat) (F : Nat → Int) : shC (n + 1) F = shC n F ++ [skC F n] := by
  unfold shC
  rw [List.range_succ, List.map_append]
  rfl
theorem shC_at {n : Nat} {F : Nat → Int} {k : Nat} (h : k < n) : gk (shC n F) k = skC F k := by
  unfold gk shC
  rw [List.getD_eq_getElem?_getD, List.getElem?_map, List.getElem?_range h]
  rfl
theorem shC_congr {n : Nat} {F G : Nat → Int} (h : ∀ k, k < n → skC F k = skC G k) : shC n F = shC n G := by
  unfold shC
  exact List.map_congr_left (fun i hi => h i (List.mem_range.mp hi))
theorem skC_congr {F G : Nat → Int} {k j : Nat} (h : ∀ i, i < 50 → F (50 * k + i) = G (50 * j + i)) (h24 : (F (50 * k + 1)).toNat ≤ 24) : skC F k = skC G j := by
  have h0 := h 0 (by omega)
  have h1 := h 1 (by omega)
  rw [Nat.add_zero, Nat.add_zero] at h0
  unfold skC
  rw [h0, h1]
  refine congrArg (fun z => (G (50 * j), z)) (ptsOf_congr (fun i hi => ?_))
  rw [← h1] at hi
  have h2 := h (2 + i) (by omega)
  have h3 := h (26 + i) (by omega)
  rw [← Nat.add_assoc, ← Nat.add_assoc] at h2 h3
  exact ⟨h2, h3⟩
/-- what holds of a stroke's row -/
theorem skC_ok {F : Nat → Int} {k : Nat} (h : OkK (skC F k)) : 0 ≤ F (50 * k) ∧ F (50 * k) ≤ 3 ∧ 1 ≤ F (50 * k + 1) ∧ F (50 * k + 1) ≤ 24 ∧ ∀ i : Nat, (i : Int) < F (50 * k + 1) → 0 ≤ F (50 * k + 2 + i) ∧ F (50 * k + 2 + i) ≤ 1000 ∧ 0 ≤ F (50 * k + 26 + i) ∧ F (50 * k + 26 + i) ≤ 1000 := by
  obtain ⟨h1, h2, h3, h4, h5, -⟩ := h
  have hl : (skC F k).2.length = (F (50 * k + 1)).toNat := ptsOf_len _ _ _
  rw [hl] at h3 h4
  refine ⟨h1, h2, by omega, by omega, fun i hi => ?_⟩
  exact h5 _ (ptsOf_mem.mpr ⟨i, by omega, rfl⟩)
theorem skC_sz {F : Nat → Int} {k : Nat} (h : OkK (skC F k)) : F (50 * k + 1) = (szk (skC F k) : Int) := by
  have hl : (skC F k).2.length = (F (50 * k + 1)).toNat := ptsOf_len _ _ _
  have := skC_ok h
  show _ = ((skC F k).2.length : Int)
  rw [hl]
  omega
theorem skC_xy {F : Nat → Int} {k i : Nat} (hi : i < szk (skC F k)) : F (50 * k + 2 + i) = px (skC F k) i ∧ F (50 * k + 26 + i) = py (skC F k) i := by
  have hl : szk (skC F k) = (F (50 * k + 1)).toNat := ptsOf_len _ _ _
  rw [hl] at hi
  have := pxy_of (X := fun i => F (50 * k + 2 + i)) (Y := fun i => F (50 * k + 26 + i)) (c := F (50 * k)) hi
  exact ⟨this.1.symm, this.2.symm⟩
/-- the strokes in the row of the reference: how many, then sizes, colors, x and y -/
def skR (G : Nat → Int) (k : Nat) : Stk := (G (17 + k), ptsOf (G (1 + k)).toNat (fun i => G (33 + 24 * k + i)) (fun i => G (417 + 24 * k + i)))
def shR (n : Nat) (G : Nat → Int) : List Stk := (List.range n).map (skR G)
theorem shR_len (n : Nat) (G : Nat → Int) : (shR n G).length = n := by unfold shR; rw [List.length_map, List.length_range]
theorem shR_s (n : Nat) (G : Nat → Int) : shR (n + 1) G = shR n G ++ [skR G n] := by
  unfold shR
  rw [List.range_succ, List.map_append]
  rfl
theorem shR_at {n : Nat} {G : Nat → Int} {k : Nat} (h : k < n) : gk (shR n G) k = skR G k := by
  unfold gk shR
  rw [List.getD_eq_getElem?_getD, List.getElem?_map, List.getElem?_range h]
  rfl
theorem shR_congr {n : Nat} {F G : Nat → Int} (h : ∀ k, k < n → skR F k = skR G k) : shR n F = shR n G := by
  unfold shR
  exact List.map_congr_left (fun i hi => h i (List.mem_range.mp hi))
theorem skR_ok {F : Nat → Int} {k : Nat} (h : OkK (skR F k)) : 0 ≤ F (17 + k) ∧ F (17 + k) ≤ 3 ∧ 1 ≤ F (1 + k) ∧ F (1 + k) ≤ 24 ∧ ∀ i : Nat, (i : Int) < F (1 + k) → 0 ≤ F (33 + 24 * k + i) ∧ F (33 + 24 * k + i) ≤ 1000 ∧ 0 ≤ F (417 + 24 * k + i) ∧ F (417 + 24 * k + i) ≤ 1000 := by
  obtain ⟨h1, h2, h3, h4, h5, -⟩ := h
  have hl : (skR F k).2.length = (F (1 + k)).toNat := ptsOf_len _ _ _
  rw [hl] at h3 h4
  refine ⟨h1, h2, by omega, by omega, fun i hi => ?_⟩
  exact h5 _ (ptsOf_mem.mpr ⟨i, by omega, rfl⟩)
theorem skR_sz {F : Nat → Int} {k : Nat} (h : OkK (skR F k)) : F (1 + k) = (szk (skR F k) : Int) := by
  have hl : (skR F k).2.length = (F (1 + k)).toNat := ptsOf_len _ _ _
  have := skR_ok h
  show _ = ((skR F k).2.length : Int)
  rw [hl]
  omega
theorem skR_xy {F : Nat → Int} {k i : Nat} (hi : i < szk (skR F k)) : F (33 + 24 * k + i) = px (skR F k) i ∧ F (417 + 24 * k + i) = py (skR F k) i := by
  have hl : szk (skR F k) = (F (1 + k)).toNat := ptsOf_len _ _ _
  rw [hl] at hi
  have := pxy_of (X := fun i => F (33 + 24 * k + i)) (Y := fun i => F (417 + 24 * k + i)) (c := F (17 + k)) hi
  exact ⟨this.1.symm, this.2.symm⟩
end SPEC
