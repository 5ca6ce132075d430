/-! plain facts for smoothing, thinning, shifting, joining, rubbing -/
section SPEC4
theorem NR_iff {X Y : Nat → Int} : ∀ {n : Nat}, NR (ptsOf n X Y) ↔ ∀ i, i + 1 < n → ¬ (X i = X (i + 1) ∧ Y i = Y (i + 1))
  | 0 => ⟨fun _ i hi => absurd hi (by omega), fun _ => trivial⟩
  | n + 1 => by
    have ih := NR_iff (X := X) (Y := Y) (n := n)
    rw [ptsOf_s]
    constructor
    · intro h i hi
      obtain ⟨h1, h2⟩ := NR_init h
      by_cases q : i + 1 < n
      · exact ih.mp h1 i q
      · obtain rfl : n = i + 1 := by omega
        rw [ptsOf_last (Nat.succ_pos i)] at h2
        rintro ⟨e1, e2⟩
        exact h2 (by show some (X i, Y i) = _; rw [e1, e2])
    · intro h
      refine NR_app (ih.mpr (fun i hi => h i (by omega))) ?_
      by_cases q : 0 < n
      · rw [ptsOf_last q]
        intro e
        have e2 := Option.some.inj e
        refine h (n - 1) (by omega) ?_
        rw [show n - 1 + 1 = n by omega]
        exact ⟨congrArg Prod.fst e2, congrArg Prod.snd e2⟩
      · rw [show n = 0 by omega]
        intro e
        cases e
theorem NR_shift {X Y : Nat → Int} {n : Nat} {dx dy : Int} (h : NR (ptsOf n X Y)) : NR (ptsOf n (fun i => X i + dx) (fun i => Y i + dy)) := by
  rw [NR_iff] at h ⊢
  intro i hi hh
  refine h i hi ⟨?_, ?_⟩
  · have := hh.1; (try dsimp only at this); omega
  · have := hh.2; (try dsimp only at this); omega
theorem addP_run {X Y : Nat → Int} {n i : Nat} (h : NR (ptsOf n X Y)) (hi : i < n) : addP (ptsOf i X Y) (X i, Y i) = ptsOf (i + 1) X Y := by
  rw [ptsOf_s]
  refine if_neg ?_
  have h2 : NR (ptsOf (i + 1) X Y) := NR_iff.mpr (fun j hj => NR_iff.mp h j (by omega))
  rw [ptsOf_s] at h2
  exact (NR_init h2).2
theorem pts_skC {F : Nat → Int} {k : Nat} : (skC F k).2 = ptsOf (szk (skC F k)) (px (skC F k)) (py (skC F k)) := (pxy_pts _).symm
theorem NR_xy {t : Stk} (h : OkK t) : NR (ptsOf (szk t) (px t) (py t)) := by rw [pxy_pts]; exact h.2.2.2.2.2
theorem smN_s (n : Nat) (X : Nat → Int) (j : Nat) : smN n X (j + 1) = smF n (smN n X j) := rfl
theorem NR_thK {d2 : Int} {F G : Nat → Int} : ∀ m, NR (thK d2 F G m)
  | 0 => trivial
  | m + 1 => by
    show NR (thS d2 (thK d2 F G m) _)
    unfold thS
    split
    · exact NR_addP (NR_thK m)
    · exact NR_thK m
theorem NR_thin {n : Nat} {F G : Nat → Int} {d2 : Int} : NR (thinC n F G d2) := by
  unfold thinC
  split
  · rename_i h
    exact NR_iff.mpr (fun i hi => absurd hi (by omega))
  · exact NR_addP (NR_thK _)
theorem addP_pre {l : List Pt} {i : Nat} (h : NR l) (hi : i < l.length) {q : Pt} (hq : l[i]? = some q) : addP (l.take i) q = l.take (i + 1) := by
  rw [List.getElem?_eq_getElem hi] at hq
  have e : l.take (i + 1) = l.take i ++ [q] := by rw [List.take_succ_eq_append_getElem hi, Option.some.inj hq]
  rw [e]
  refine if_neg ?_
  have h2 : NR (l.take (i + 1)) := by
    have key : ∀ (l : List Pt) (j : Nat), NR l → NR (l.take j) := by
      intro l
      induction l with
      | nil => intro j _; simp [NR]
      | cons a r ih =>
        intro j h
        cases j with
        | zero => trivial
        | succ j =>
          cases r with
          | nil => cases j <;> trivial
          | cons b r =>
            cases j with
            | zero => trivial
            | succ j => exact ⟨h.1, ih (j + 1) h.2⟩
    exact key l (i + 1) h
  rw [e] at h2
  exact (NR_init h2).2
theorem NR_cat {a b : List Pt} (ha : NR a) (hb : NR b) (hj : ∀ q, b[0]? = some q → a.getLast? ≠ some q) : NR (a ++ b) := by
  have key : ∀ j, j ≤ b.length → NR (a ++ b.take j) := by
    intro j
    induction j with
    | zero => intro _; simpa using ha
    | succ j ih =>
      intro hl
      have h1 := ih (by omega)
      have hlt : j < b.length := by omega
      rw [List.take_succ_eq_append_getElem hlt, ← List.append_assoc]
      refine NR_app h1 ?_
      by_cases q : 0 < j
      · rw [List.getLast?_append, take_getLast q (by omega)]
        have h3 := NR_at (l := b) (i := j - 1) hb (by omega)
        rw [show j - 1 + 1 = j by omega, List.getElem?_eq_getElem hlt] at h3
        rw [List.getElem?_eq_getElem (show j - 1 < b.length by omega)] at h3 ⊢
        simpa using h3
      · obtain rfl : j = 0 := by omega
        rw [List.take_zero, List.append_nil]
        exact hj _ (List.getElem?_eq_getElem hlt)
  have := key b.length (Nat.le_refl _)
  rwa [List.take_length] at this
/-- rubbing: the parts so far, and the part under way -/
def rubC (gone : Pt → Bool) (col : Int) (st : List Stk × List Pt) (q : Pt) : List Stk × List Pt :=
  if gone q = true then (if st.2 = [] then st.1 else st.1 ++ [(col, st.2)], []) else (st.1, st.2 ++ [q])
def endC (col : Int) (st : List Stk × List Pt) : List Stk := if st.2 = [] then st.1 else st.1 ++ [(col, st.2)]
def rubK (gone : Pt → Bool) (Dl : List Stk) (t : Stk) : List Stk := endC t.1 (t.2.foldl (rubC gone t.1) (Dl, []))
def rubL (gone : Pt → Bool) (S : List Stk) : List Stk := S.foldl (rubK gone) []
def goneN (gone : Pt → Bool) (S : List Stk) : Nat := S.foldl (fun a t => a + t.2.countP gone) 0
def goneB (x y rad : Int) (q : Pt) : Bool := decide ((q.1 - x) * (q.1 - x) + (q.2 - y) * (q.2 - y) ≤ rad * rad)
def rubS (S : List Stk) (x y rad : Int) : Int × Option (List Stk) :=
  if inR x 0 1000 = false ∨ inR y 0 1000 = false ∨ inR rad 0 500 = false then (-2, none)
  else if 16 < (rubL (goneB x y rad) S).length then (-3, none)
  else if goneN (goneB x y rad) S = 0 then (-5, none) else ((goneN (goneB x y rad) S : Int), some (rubL (goneB x y rad) S))
/-- what the draft is while the parts come -/
def DrR (Dl : List Stk) (dn : Nat) (DF : Nat → Int) (fits : Bool) : Prop := (Dl.length ≤ 16 → dn = Dl.length ∧ shC dn DF = Dl ∧ OkS Dl ∧ fits = true) ∧ (16 < Dl.length → dn = 16 ∧ fits = false)
theorem DrR_le {Dl : List Stk} {dn : Nat} {DF : Nat → Int} {fits : Bool} (h : DrR Dl dn DF fits) : dn ≤ 16 := by
  rcases Nat.lt_or_ge 16 Dl.length with q | q
  · have := (h.2 q).1; omega
  · have := (h.1 q).1; omega
/-- what endPart makes -/
def EpR (m dn : Nat) (DF WX WY : Nat → Int) (c : Int) (r : Bool) (dn2 : Nat) (DF2 : Nat → Int) : Prop :=
  (m = 0 ∧ r = true ∧ dn2 = dn ∧ DF2 = DF) ∨ (0 < m ∧ dn < 16 ∧ r = true ∧ dn2 = dn + 1 ∧ DF2 = setF DF dn c m WX WY) ∨ (0 < m ∧ 16 ≤ dn ∧ r = false ∧ dn2 = dn ∧ DF2 = DF)
theorem DrR_end {Dl : List Stk} {dn dn2 m : Nat} {DF DF2 WX WY : Nat → Int} {fits r : Bool} {c : Int} (h : DrR Dl dn DF fits) (hc : 0 ≤ c ∧ c ≤ 3) (hP : 0 < m → OkP (ptsOf m WX WY)) (he : EpR m dn DF WX WY c r dn2 DF2) : DrR (endC c (Dl, ptsOf m WX WY)) dn2 DF2 (r && fits) := by
  unfold endC
  dsimp only
  rcases he with ⟨h0, hr, e1, e2⟩ | ⟨h0, hd, hr, e1, e2⟩ | ⟨h0, hd, hr, e1, e2⟩
  · subst h0 hr e1 e2
    rw [if_pos (by rfl), Bool.true_and]
    exact h
  · have hne : ptsOf m WX WY ≠ [] := fun z => by have := ptsOf_len m WX WY; rw [z] at this; simp at this; omega
    rw [if_neg hne]
    subst hr e1 e2
    rw [Bool.true_and]
    have hP2 := hP h0
    have h24 : m ≤ 24 := by have := hP2.2.1; rwa [ptsOf_len] at this
    refine ⟨fun hl => ?_, fun hl => ?_⟩
    · rw [List.length_append, List.length_singleton] at hl ⊢
      obtain ⟨a1, a2, a3, a4⟩ := h.1 (by omega)
      subst a2
      rw [shC_len] at hl ⊢
      exact ⟨rfl, shC_push a3 h24, OkS_push a3 (by rw [shC_len]; omega) ⟨hc.1, hc.2, hP2⟩, a4⟩
    · rw [List.length_append, List.length_singleton] at hl
      rcases Nat.lt_or_ge 16 Dl.length with q | q
      · have := h.2 q; omega
      · have := h.1 q; omega
  · have hne : ptsOf m WX WY ≠ [] := fun z => by have := ptsOf_len m WX WY; rw [z] at this; simp at this; omega
    rw [if_neg hne]
    subst hr e1 e2
    rw [Bool.false_and]
    refine ⟨fun hl => ?_, fun hl => ?_⟩
    · rw [List.length_append, List.length_singleton] at hl
      have := h.1 (by omega); omega
    · have := DrR_le h
      exact ⟨by omega, rfl⟩
theorem take_s {α : Type} {l : List α} {i : Nat} {q : α} (h : l[i]? = some q) : l.take (i + 1) = l.take i ++ [q] := by
  have hi := (List.getElem?_eq_some_iff.mp h).1
  rw [List.getElem?_eq_getElem hi] at h
  rw [List.take_succ_eq_append_getElem hi, Option.some.inj h]
theorem rubL_s {gone : Pt → Bool} {S : List Stk} {k : Nat} {t : Stk} (h : S[k]? = some t) : rubL gone (S.take (k + 1)) = rubK gone (rubL gone (S.take k)) t := by
  unfold rubL
  rw [take_s h, List.foldl_append]
  rfl
theorem goneN_s {gone : Pt → Bool} {S : List Stk} {k : Nat} {t : Stk} (h : S[k]? = some t) : goneN gone (S.take (k + 1)) = goneN gone (S.take k) + t.2.countP gone := by
  unfold goneN
  rw [take_s h, List.foldl_append]
  rfl
/-- the part under way is without repeats, and never longer than what is read -/
theorem rub_cur {gone : Pt → Bool} {col : Int} {Dl : List Stk} {l : List Pt} (h : NR l) : ∀ i, i ≤ l.length → NR ((l.take i).foldl (rubC gone col) (Dl, [])).2 ∧ ((l.take i).foldl (rubC gone col) (Dl, [])).2.length ≤ i ∧ (((l.take i).foldl (rubC gone col) (Dl, [])).2 = [] ∨ (0 < i ∧ ((l.take i).foldl (rubC gone col) (Dl, [])).2.getLast? = l[i - 1]?)) := by
  intro i
  induction i with
  | zero => intro _; exact ⟨by simp [NR], by simp, Or.inl (by simp)⟩
  | succ i ih =>
    intro hi
    obtain ⟨h1, h2, h3⟩ := ih (by omega)
    have hq : l[i]? = some l[i] := List.getElem?_eq_getElem (by omega)
    rw [take_s hq, List.foldl_append]
    generalize hst : (l.take i).foldl (rubC gone col) (Dl, []) = st at h1 h2 h3 ⊢
    show NR (rubC gone col st l[i]).2 ∧ (rubC gone col st l[i]).2.length ≤ i + 1 ∧ ((rubC gone col st l[i]).2 = [] ∨ (0 < i + 1 ∧ (rubC gone col st l[i]).2.getLast? = l[i + 1 - 1]?))
    unfold rubC
    by_cases g : gone l[i] = true
    · rw [if_pos g]
      exact ⟨trivial, Nat.zero_le _, Or.inl rfl⟩
    · rw [if_neg g]
      refine ⟨NR_app h1 ?_, by dsimp only; rw [List.length_append, List.length_singleton]; omega, Or.inr ⟨Nat.succ_pos i, ?_⟩⟩
      · rcases h3 with z | ⟨h0, z⟩
        · rw [z]; intro e; cases e
        · rw [z]
          have := NR_at (l := l) (i := i - 1) h (by omega)
          rw [show i - 1 + 1 = i by omega, hq] at this
          exact this
      · dsimp only
        rw [List.getLast?_append, Nat.add_sub_cancel, hq]
        rfl
end SPEC4
