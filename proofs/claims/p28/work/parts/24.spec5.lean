/-! what the questions answer -/
section SPEC5
def wd0 : WdT := (0, -5, fun _ => 0, fun _ => 0, fun _ => 0, fun _ => 0, fun _ => 0, fun _ => 0, fun _ => 0, fun _ => 0)
def WD (S : List Stk) (gap : Int) : WdT := wdA S gap wd0 S.length
/-- two runs over the words agree wherever a run has written -/
def WdE (S : List Stk) (p : Nat) (s t : WdT) : Prop :=
  s.1 = t.1 ∧ s.2.1 = t.2.1 ∧ (∀ q, q < p → s.2.2.1 (odS S q) = t.2.2.1 (odS S q)) ∧
  (∀ x, x < s.1 → s.2.2.2.1 x = t.2.2.2.1 x ∧ s.2.2.2.2.1 x = t.2.2.2.2.1 x ∧ s.2.2.2.2.2.1 x = t.2.2.2.2.2.1 x ∧ s.2.2.2.2.2.2.1 x = t.2.2.2.2.2.2.1 x ∧ s.2.2.2.2.2.2.2.1 x = t.2.2.2.2.2.2.2.1 x) ∧
  (∀ q, q < p → s.2.2.2.2.2.2.2.2.1 (lnS S (odS S q)) = t.2.2.2.2.2.2.2.2.1 (lnS S (odS S q)) ∧ s.2.2.2.2.2.2.2.2.2 (lnS S (odS S q)) = t.2.2.2.2.2.2.2.2.2 (lnS S (odS S q))) ∧
  (s.2.1 = -5 ∨ (s.1 ≠ 0 ∧ ∃ q, q < p ∧ s.2.1 = (lnS S (odS S q) : Int)))
theorem wdE_step {S : List Stk} {gap : Int} {p : Nat} {s t : WdT} (h : WdE S p s t) : WdE S (p + 1) (wdStep S gap p s) (wdStep S gap p t) := by
  obtain ⟨w, lb, wo, li, si, le, ri, fi, wi, fn⟩ := s
  obtain ⟨w2, lb2, wo2, li2, si2, le2, ri2, fi2, wi2, fn2⟩ := t
  obtain ⟨h1, h2, h3, h4, h5, h6⟩ := h
  dsimp only at h1 h2 h3 h4 h5 h6
  subst h1 h2
  unfold wdStep
  generalize hk : odS S p = k
  generalize hL : lnS S k = L
  generalize lfS S k = lf
  generalize rtS S k = rt
  have hnew : ∀ q, q < p + 1 → lnS S (odS S q) ≠ L → q < p := fun q hq hn => by
    rcases Nat.lt_or_ge q p with z | z
    · exact z
    · rw [show q = p by omega, hk, hL] at hn
      exact absurd rfl hn
  by_cases hl : (L : Int) = lb
  · have e1 : wd1 L (w, lb, wo, li, si, le, ri, fi, wi, fn) = (w, lb, wo, li, si, le, ri, fi, wi, fn) := if_pos hl
    have e2 : wd1 L (w, lb, wo2, li2, si2, le2, ri2, fi2, wi2, fn2) = (w, lb, wo2, li2, si2, le2, ri2, fi2, wi2, fn2) := if_pos hl
    rw [e1, e2]
    obtain ⟨hw, q0, hq0, hlq⟩ := h6.resolve_left (by omega)
    have hL0 : lnS S (odS S q0) = L := by omega
    have h50 := h5 q0 hq0
    rw [hL0] at h50
    have h4w := h4 (w - 1) (by omega)
    have hB : wdB lf gap L (w, lb, wo, li, si, le, ri, fi, wi, fn) = wdB lf gap L (w, lb, wo2, li2, si2, le2, ri2, fi2, wi2, fn2) := by
      unfold wdB
      exact decide_eq_decide.mpr (by dsimp only; rw [h4w.2.2.2.1])
    cases hb : wdB lf gap L (w, lb, wo, li, si, le, ri, fi, wi, fn) with
    | false =>
      have f1 : wd2 p lf rt gap L (w, lb, wo, li, si, le, ri, fi, wi, fn) = (w, lb, wo, li, si, le, ri, fi, wi, fn) := if_neg (by rw [hb]; decide)
      have f2 : wd2 p lf rt gap L (w, lb, wo2, li2, si2, le2, ri2, fi2, wi2, fn2) = (w, lb, wo2, li2, si2, le2, ri2, fi2, wi2, fn2) := if_neg (by rw [← hB, hb]; decide)
      rw [f1, f2]
      unfold wd3
      refine ⟨rfl, rfl, fun q hq => ?_, fun x hx => ?_, fun q hq => ?_, Or.inr ⟨hw, p, Nat.lt_succ_self p, by rw [hk, hL]⟩⟩
      · dsimp only
        by_cases z : odS S q = k
        · rw [z, upz_s, upz_s]
        · rw [upz_n z, upz_n z]
          refine h3 q ?_
          rcases Nat.lt_or_ge q p with y | y
          · exact y
          · rw [show q = p by omega] at z; exact absurd hk z
      · dsimp only at hx ⊢
        have := h4 x hx
        by_cases z : x = w - 1
        · subst z; rw [upz_s, upz_s, upz_s, upz_s, this.2.1, this.2.2.2.1]; exact ⟨this.1, rfl, this.2.2.1, rfl, this.2.2.2.2⟩
        · rw [upz_n z, upz_n z, upz_n z, upz_n z]; exact this
      · dsimp only
        by_cases z : lnS S (odS S q) = L
        · rw [z]; exact h50
        · exact h5 q (hnew q hq z)
    | true =>
      have f1 : wd2 p lf rt gap L (w, lb, wo, li, si, le, ri, fi, wi, fn) = (w + 1, lb, wo, upz li w (L : Int), upz si w 0, upz le w lf, upz ri w rt, upz fi w (p : Int), upz wi L (wi L + 1), fn) := if_pos hb
      have f2 : wd2 p lf rt gap L (w, lb, wo2, li2, si2, le2, ri2, fi2, wi2, fn2) = (w + 1, lb, wo2, upz li2 w (L : Int), upz si2 w 0, upz le2 w lf, upz ri2 w rt, upz fi2 w (p : Int), upz wi2 L (wi2 L + 1), fn2) := if_pos (by rw [← hB]; exact hb)
      rw [f1, f2]
      unfold wd3
      refine ⟨rfl, rfl, fun q hq => ?_, fun x hx => ?_, fun q hq => ?_, Or.inr ⟨Nat.succ_ne_zero w, p, Nat.lt_succ_self p, by rw [hk, hL]⟩⟩
      · dsimp only
        by_cases z : odS S q = k
        · rw [z, upz_s, upz_s]
        · rw [upz_n z, upz_n z]
          refine h3 q ?_
          rcases Nat.lt_or_ge q p with y | y
          · exact y
          · rw [show q = p by omega] at z; exact absurd hk z
      · dsimp only at hx ⊢
        rw [Nat.add_sub_cancel]
        by_cases z : x = w
        · subst z; simp only [upz_s, and_self]
        · have := h4 x (by omega)
          simp only [upz_n z]
          exact this
      · dsimp only
        by_cases z : lnS S (odS S q) = L
        · rw [z, upz_s, upz_s, h50.1]; exact ⟨rfl, h50.2⟩
        · rw [upz_n z, upz_n z]; exact h5 q (hnew q hq z)
  · have e1 : wd1 L (w, lb, wo, li, si, le, ri, fi, wi, fn) = (w, lb, wo, li, si, le, ri, fi, upz wi L 0, upz fn L (w : Int)) := if_neg hl
    have e2 : wd1 L (w, lb, wo2, li2, si2, le2, ri2, fi2, wi2, fn2) = (w, lb, wo2, li2, si2, le2, ri2, fi2, upz wi2 L 0, upz fn2 L (w : Int)) := if_neg hl
    rw [e1, e2]
    have f1 : wd2 p lf rt gap L (w, lb, wo, li, si, le, ri, fi, upz wi L 0, upz fn L (w : Int)) = (w + 1, lb, wo, upz li w (L : Int), upz si w 0, upz le w lf, upz ri w rt, upz fi w (p : Int), upz (upz wi L 0) L (upz wi L 0 L + 1), upz fn L (w : Int)) := if_pos (by unfold wdB; exact decide_eq_true (Or.inl hl))
    have f2 : wd2 p lf rt gap L (w, lb, wo2, li2, si2, le2, ri2, fi2, upz wi2 L 0, upz fn2 L (w : Int)) = (w + 1, lb, wo2, upz li2 w (L : Int), upz si2 w 0, upz le2 w lf, upz ri2 w rt, upz fi2 w (p : Int), upz (upz wi2 L 0) L (upz wi2 L 0 L + 1), upz fn2 L (w : Int)) := if_pos (by unfold wdB; exact decide_eq_true (Or.inl hl))
    rw [f1, f2]
    unfold wd3
    refine ⟨rfl, rfl, fun q hq => ?_, fun x hx => ?_, fun q hq => ?_, Or.inr ⟨Nat.succ_ne_zero w, p, Nat.lt_succ_self p, by rw [hk, hL]⟩⟩
    · dsimp only
      by_cases z : odS S q = k
      · rw [z, upz_s, upz_s]
      · rw [upz_n z, upz_n z]
        refine h3 q ?_
        rcases Nat.lt_or_ge q p with y | y
        · exact y
        · rw [show q = p by omega] at z; exact absurd hk z
    · dsimp only at hx ⊢
      rw [Nat.add_sub_cancel]
      by_cases z : x = w
      · subst z; simp only [upz_s, and_self]
      · have := h4 x (by omega)
        simp only [upz_n z]
        exact this
    · dsimp only
      by_cases z : lnS S (odS S q) = L
      · rw [z]; simp only [upz_s, and_self]
      · simp only [upz_n z]; exact h5 q (hnew q hq z)
theorem wdE_run {S : List Stk} {gap : Int} {a1 a2 a3 a4 a5 a6 a7 a8 : Nat → Int} : ∀ p, WdE S p (wdA S gap (0, -5, a1, a2, a3, a4, a5, a6, a7, a8) p) (wdA S gap wd0 p)
  | 0 => ⟨rfl, rfl, fun q hq => absurd hq (Nat.not_lt_zero q), fun x hx => absurd hx (Nat.not_lt_zero x), fun q hq => absurd hq (Nat.not_lt_zero q), Or.inl rfl⟩
  | p + 1 => by
    rw [wdA_s, wdA_s]
    exact wdE_step (wdE_run p)
/-- what the rows of a layout are -/
def strokeS (S : List Stk) (gap z what : Int) : Int :=
  if hasS S z = false then -1
  else if what = 0 then (gk S z.toNat).1 else if what = 1 then (szk (gk S z.toNat) : Int)
  else if what = 2 then lfS S z.toNat else if what = 3 then rtS S z.toNat else if what = 4 then tpS S z.toNat else if what = 5 then boS S z.toNat
  else if what = 6 then lenK (gk S z.toNat) else if what = 7 then (lnS S z.toNat : Int) else if what = 8 then (WD S gap).2.2.1 z.toNat else if what = 9 then (plS S z.toNat : Int) else -2
def pointS (S : List Stk) (z i what : Int) : Int :=
  if hasS S z = false ∨ inR i 0 ((szk (gk S z.toNat) : Int) - 1) = false then -1
  else if what = 0 then px (gk S z.toNat) i.toNat else if what = 1 then py (gk S z.toNat) i.toNat else -2
def readS (S : List Stk) (p : Int) : Int := if p < 0 then -2 else if (S.length : Int) ≤ p then -5 else (odS S p.toNat : Int)
def lineS (S : List Stk) (gap L what : Int) : Int :=
  if inR L 0 ((mS S : Int) - 1) = false then -1
  else if what = 0 then (GS S).2.1 (fnd (rkS S) L.toNat (mS S)) else if what = 1 then (GS S).2.2.1 (fnd (rkS S) L.toNat (mS S))
  else if what = 2 then (fb_ct (fun j => lnS S j == L.toNat) S.length : Int)
  else if what = 3 then (WD S gap).2.2.2.2.2.2.2.2.1 L.toNat else if what = 4 then (WD S gap).2.2.2.2.2.2.2.2.2 L.toNat else -2
def wordS (S : List Stk) (gap x what : Int) : Int :=
  if inR x 0 (((WD S gap).1 : Int) - 1) = false then -1
  else if what = 0 then (WD S gap).2.2.2.1 x.toNat else if what = 1 then (WD S gap).2.2.2.2.1 x.toNat else if what = 2 then (WD S gap).2.2.2.2.2.1 x.toNat
  else if what = 3 then (WD S gap).2.2.2.2.2.2.1 x.toNat else if what = 4 then (WD S gap).2.2.2.2.2.2.2.1 x.toNat else -2
def nrT (x y : Int) (t : Stk) (k : Nat) (i : Nat) (s : Int × Int) : Int × Int :=
  if s.1 < 0 ∨ (px t i - x) * (px t i - x) + (py t i - y) * (py t i - y) < s.2 then ((k : Int), (px t i - x) * (px t i - x) + (py t i - y) * (py t i - y)) else s
def nrK (S : List Stk) (x y : Int) (k : Nat) (s : Int × Int) : Int × Int := itr (nrT x y (gk S k) k) s (szk (gk S k))
def nearS (S : List Stk) (x y : Int) : Int := if inR x 0 1000 = false ∨ inR y 0 1000 = false then -2 else (itr (nrK S x y) (-5, 0) S.length).1
def ccK (t : Stk) (c : Nat) (a : Nat) (n : Nat) : Nat := itr (fun i a => if cellN (px t i) (py t i) = c then a + 1 else a) a n
def cellS (S : List Stk) (x y : Int) : Int := if inR x 0 1000 = false ∨ inR y 0 1000 = false then -2 else (itr (fun k a => ccK (gk S k) (cellN x y) a (szk (gk S k))) 0 S.length : Nat)
def inkN (S : List Stk) (c : Int) : Int := (fb_ct (fun x => decide (0 < cnS S c S.length x)) 10201 : Nat)
def mostR (S : List Stk) (m : Int) : Prop := 0 ≤ m ∧ (∀ c, (cnS S (-1) S.length c : Int) ≤ m) ∧ (m = 0 ∨ ∃ c, c ≤ 10200 ∧ (cnS S (-1) S.length c : Int) = m)
theorem mostR_one {S : List Stk} {m m2 : Int} (h : mostR S m) (h2 : mostR S m2) : m = m2 := by
  obtain ⟨a1, a2, a3⟩ := h
  obtain ⟨b1, b2, b3⟩ := h2
  rcases a3 with a3 | ⟨c, -, a3⟩ <;> rcases b3 with b3 | ⟨d, -, b3⟩
  · omega
  · have := a2 d; omega
  · have := b2 c; omega
  · have := a2 d; have := b2 c; omega
def colorS (S : List Stk) (c what : Int) : Int :=
  if inR c 0 3 = false then -2 else if what = 0 then sumK S (fun t => bI (ofC t c)) else if what = 1 then sumK S (fun t => if ofC t c = true then (szk t : Int) else 0)
  else if what = 2 then sumK S (fun t => if ofC t c = true then lenK t else 0) else if what = 3 then inkN S c else -2
def countR (S : List Stk) (gap nb p f what r : Int) : Prop :=
  if what = 0 then r = S.length else if what = 1 then r = sumK S (fun t => if ofC t (-1) = true then (szk t : Int) else 0)
  else if what = 2 then r = sumK S (fun t => if ofC t (-1) = true then lenK t else 0) else if what = 3 then r = mS S else if what = 4 then r = (WD S gap).1
  else if what = 5 then r = inkN S (-1) else if what = 6 then mostR S r else if what = 7 then r = nb else if what = 8 then r = p else if what = 9 then r = f else if what = 10 then r = gap else r = -2
end SPEC5
