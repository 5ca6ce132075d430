/-! the answers to questions about what is there -/
section FACTS
theorem has_k {S : List Stk} {k : Nat} (h : k < S.length) : ¬ hasS S (k : Int) = false := by
  unfold hasS
  rw [decide_eq_false_iff_not]
  omega
theorem has_n {S : List Stk} : hasS S (S.length : Int) = false := by
  unfold hasS
  rw [decide_eq_false_iff_not]
  omega
theorem st_in {S : List Stk} {g w : Int} {k : Nat} (h : k < S.length) : strokeS S g (k : Int) w = (if w = 0 then (gk S k).1 else if w = 1 then (szk (gk S k) : Int)
  else if w = 2 then lfS S k else if w = 3 then rtS S k else if w = 4 then tpS S k else if w = 5 then boS S k
  else if w = 6 then lenK (gk S k) else if w = 7 then (lnS S k : Int) else if w = 8 then (WD S g).2.2.1 k else if w = 9 then (plS S k : Int) else -2) := by
  unfold strokeS
  rw [if_neg (has_k h), Int.toNat_natCast]
theorem st_0 {S : List Stk} {g : Int} {k : Nat} (h : k < S.length) : strokeS S g (k : Int) 0 = (gk S k).1 := by rw [st_in h]; rfl
theorem st_1 {S : List Stk} {g : Int} {k : Nat} (h : k < S.length) : strokeS S g (k : Int) 1 = (szk (gk S k) : Int) := by rw [st_in h]; rfl
theorem st_2 {S : List Stk} {g : Int} {k : Nat} (h : k < S.length) : strokeS S g (k : Int) 2 = lfS S k := by rw [st_in h]; rfl
theorem st_3 {S : List Stk} {g : Int} {k : Nat} (h : k < S.length) : strokeS S g (k : Int) 3 = rtS S k := by rw [st_in h]; rfl
theorem st_4 {S : List Stk} {g : Int} {k : Nat} (h : k < S.length) : strokeS S g (k : Int) 4 = tpS S k := by rw [st_in h]; rfl
theorem st_5 {S : List Stk} {g : Int} {k : Nat} (h : k < S.length) : strokeS S g (k : Int) 5 = boS S k := by rw [st_in h]; rfl
theorem st_6 {S : List Stk} {g : Int} {k : Nat} (h : k < S.length) : strokeS S g (k : Int) 6 = lenK (gk S k) := by rw [st_in h]; rfl
theorem st_7 {S : List Stk} {g : Int} {k : Nat} (h : k < S.length) : strokeS S g (k : Int) 7 = (lnS S k : Int) := by rw [st_in h]; rfl
theorem st_8 {S : List Stk} {g : Int} {k : Nat} (h : k < S.length) : strokeS S g (k : Int) 8 = (WD S g).2.2.1 k := by rw [st_in h]; rfl
theorem st_9 {S : List Stk} {g : Int} {k : Nat} (h : k < S.length) : strokeS S g (k : Int) 9 = (plS S k : Int) := by rw [st_in h]; rfl
theorem st_10 {S : List Stk} {g : Int} {k : Nat} (h : k < S.length) : strokeS S g (k : Int) 10 = -2 := by rw [st_in h]; rfl
theorem st_n {S : List Stk} {g w : Int} : strokeS S g (S.length : Int) w = -1 := by unfold strokeS; rw [if_pos has_n]
theorem pt_in {S : List Stk} {w : Int} {k i : Nat} (h : k < S.length) (hi : i < szk (gk S k)) : pointS S (k : Int) (i : Int) w = (if w = 0 then px (gk S k) i else if w = 1 then py (gk S k) i else -2) := by
  unfold pointS
  rw [if_neg (by
    rintro (z | z)
    · exact has_k h z
    · unfold inR at z
      rw [decide_eq_false_iff_not, Int.toNat_natCast] at z
      omega), Int.toNat_natCast, Int.toNat_natCast]
theorem pt_0 {S : List Stk} {k i : Nat} (h : k < S.length) (hi : i < szk (gk S k)) : pointS S (k : Int) (i : Int) 0 = px (gk S k) i := by rw [pt_in h hi]; rfl
theorem pt_1 {S : List Stk} {k i : Nat} (h : k < S.length) (hi : i < szk (gk S k)) : pointS S (k : Int) (i : Int) 1 = py (gk S k) i := by rw [pt_in h hi]; rfl
theorem pt_2 {S : List Stk} {k : Nat} (h : k < S.length) (hi : 0 < szk (gk S k)) : pointS S (k : Int) 0 2 = -2 := by
  have := pt_in (w := 2) h hi
  rw [show ((0 : Nat) : Int) = 0 from rfl] at this
  rw [this]
  rfl
theorem pt_n {S : List Stk} {w : Int} {k : Nat} : pointS S (k : Int) (szk (gk S k) : Int) w = -1 := by
  unfold pointS
  rw [if_pos]
  right
  unfold inR
  rw [decide_eq_false_iff_not, Int.toNat_natCast]
  omega
section CN
variable {S : List Stk} {g nb p f r : Int}
theorem cn_0 (h : countR S g nb p f 0 r) : r = S.length := h
theorem cn_1 (h : countR S g nb p f 1 r) : r = sumK S (fun t => if ofC t (-1) = true then (szk t : Int) else 0) := h
theorem cn_2 (h : countR S g nb p f 2 r) : r = sumK S (fun t => if ofC t (-1) = true then lenK t else 0) := h
theorem cn_3 (h : countR S g nb p f 3 r) : r = mS S := h
theorem cn_4 (h : countR S g nb p f 4 r) : r = (WD S g).1 := h
theorem cn_5 (h : countR S g nb p f 5 r) : r = inkN S (-1) := h
theorem cn_6 (h : countR S g nb p f 6 r) : mostR S r := h
theorem cn_7 (h : countR S g nb p f 7 r) : r = nb := h
theorem cn_8 (h : countR S g nb p f 8 r) : r = p := h
theorem cn_9 (h : countR S g nb p f 9 r) : r = f := h
theorem cn_10 (h : countR S g nb p f 10 r) : r = g := h
theorem cn_11 (h : countR S g nb p f 11 r) : r = -2 := h
end CN
theorem sumK_all {S : List Stk} {f : Stk → Int} : sumK S (fun t => if ofC t (-1) = true then f t else 0) = itr (fun k a => a + f (gk S k)) 0 S.length := by
  unfold sumK
  refine itr_congr (fun i b _ => ?_)
  have e : ofC (gk S i) (-1) = true := by unfold ofC; simp
  show b + (if ofC (gk S i) (-1) = true then f (gk S i) else 0) = _
  rw [if_pos e]
theorem ok_S {σ : PS} (h : OkPS σ) : OkS σ.1.1 := h.2.2.1.1
theorem ok_16 {σ : PS} (h : OkPS σ) : σ.1.1.length ≤ 16 := h.2.2.1.1.1
theorem ok_sz {S : List Stk} (h : OkS S) {k : Nat} (hk : k < S.length) : 1 ≤ szk (gk S k) ∧ szk (gk S k) ≤ 24 := OkK_sz (OkS_at h hk)
theorem ok_xy {S : List Stk} (h : OkS S) {k i : Nat} (hk : k < S.length) (hi : i < szk (gk S k)) : 0 ≤ px (gk S k) i ∧ px (gk S k) i ≤ 1000 ∧ 0 ≤ py (gk S k) i ∧ py (gk S k) i ≤ 1000 := OkK_xy (OkS_at h hk) hi
/-- a number for the whole state -/
def hsP (t : Stk) (i : Nat) (h : Int64) : Int64 := 1009 * (1009 * h + (iI (px t i)).toInt64) + (iI (py t i)).toInt64
def hsK (t : Stk) (h : Int64) : Int64 := itr (hsP t) (31 * (31 * h + (iI t.1).toInt64) + (iI (szk t : Int)).toInt64) (szk t)
def hsS (S : List Stk) : Int64 := itr (fun k h => hsK (gk S k) h) (iI (S.length : Int)).toInt64 S.length
/-- the least and greatest so far, as the law finds them -/
def rnMn (X : Nat → Int) (n : Nat) : Int := itr (fun i a => min a (X i)) 2000 n
def rnMx (X : Nat → Int) (n : Nat) : Int := itr (fun i a => max a (X i)) (-1) n
theorem rnMn_eq {X : Nat → Int} : ∀ {n : Nat}, (∀ i, i ≤ n → 0 ≤ X i ∧ X i ≤ 1000) → rnMn X (n + 1) = mnF X n
  | 0, h => by
    have := h 0 (Nat.le_refl 0)
    show min 2000 (X 0) = X 0
    omega
  | n + 1, h => by
    have ih := rnMn_eq (n := n) (fun i hi => h i (by omega))
    show min (rnMn X (n + 1)) (X (n + 1)) = min (mnF X n) (X (n + 1))
    rw [ih]
theorem rnMx_eq {X : Nat → Int} : ∀ {n : Nat}, (∀ i, i ≤ n → 0 ≤ X i ∧ X i ≤ 1000) → rnMx X (n + 1) = mxF X n
  | 0, h => by
    have := h 0 (Nat.le_refl 0)
    show max (-1) (X 0) = X 0
    omega
  | n + 1, h => by
    have ih := rnMx_eq (n := n) (fun i hi => h i (by omega))
    show max (rnMx X (n + 1)) (X (n + 1)) = max (mxF X n) (X (n + 1))
    rw [ih]
theorem rn_rng {X : Nat → Int} : ∀ {n : Nat}, (∀ i, i < n → 0 ≤ X i ∧ X i ≤ 1000) → 0 ≤ rnMn X n ∧ rnMn X n ≤ 2000 ∧ -1 ≤ rnMx X n ∧ rnMx X n ≤ 1000
  | 0, _ => by
    show (0 : Int) ≤ 2000 ∧ (2000 : Int) ≤ 2000 ∧ (-1 : Int) ≤ -1 ∧ (-1 : Int) ≤ 1000
    omega
  | n + 1, h => by
    have ih := rn_rng (n := n) (fun i hi => h i (by omega))
    have := h n (by omega)
    show 0 ≤ min (rnMn X n) (X n) ∧ min (rnMn X n) (X n) ≤ 2000 ∧ -1 ≤ max (rnMx X n) (X n) ∧ max (rnMx X n) (X n) ≤ 1000
    omega
theorem bd_eq {S : List Stk} (h : OkS S) {k : Nat} (hk : k < S.length) : lfS S k = rnMn (px (gk S k)) (szk (gk S k)) ∧ rtS S k = rnMx (px (gk S k)) (szk (gk S k)) ∧ tpS S k = rnMn (py (gk S k)) (szk (gk S k)) ∧ boS S k = rnMx (py (gk S k)) (szk (gk S k)) := by
  have hz := ok_sz h hk
  obtain ⟨n, hn⟩ : ∃ n, szk (gk S k) = n + 1 := ⟨szk (gk S k) - 1, by omega⟩
  have hx : ∀ i, i ≤ n → 0 ≤ px (gk S k) i ∧ px (gk S k) i ≤ 1000 := fun i hi => by have := ok_xy h hk (i := i) (by omega); omega
  have hy : ∀ i, i ≤ n → 0 ≤ py (gk S k) i ∧ py (gk S k) i ≤ 1000 := fun i hi => by have := ok_xy h hk (i := i) (by omega); omega
  unfold lfS rtS tpS boS lfK rtK tpK boK
  rw [hn, Nat.add_sub_cancel, rnMn_eq hx, rnMx_eq hx, rnMn_eq hy, rnMx_eq hy]
  exact ⟨rfl, rfl, rfl, rfl⟩
/-- the square of the way between two points, times 100 -/
def sqF (X Y : Nat → Int) (i : Nat) : Int := 100 * ((X i - X (i - 1)) * (X i - X (i - 1)) + (Y i - Y (i - 1)) * (Y i - Y (i - 1)))
theorem lenF_0 (X Y : Nat → Int) : lenF X Y 0 = 0 := rfl
theorem lenF_1 (X Y : Nat → Int) : lenF X Y 1 = 0 := rfl
theorem lenF_s (X Y : Nat → Int) {m : Nat} (h : 0 < m) : lenF X Y (m + 1) = lenF X Y m + rootZ (sqF X Y m) := by
  obtain ⟨k, rfl⟩ : ∃ k, m = k + 1 := ⟨m - 1, by omega⟩
  rfl
theorem sqF_rng {X Y : Nat → Int} {i : Nat} (hi : 0 < i) (h : ∀ j, j ≤ i → 0 ≤ X j ∧ X j ≤ 1000 ∧ 0 ≤ Y j ∧ Y j ≤ 1000) : 0 ≤ sqF X Y i ∧ sqF X Y i ≤ 200000000 := by
  have h1 := h i (Nat.le_refl i)
  have h2 := h (i - 1) (by omega)
  have a1 := sqb (x := X i - X (i - 1)) (B := 1000) (by omega) (by omega)
  have a2 := sqb (x := Y i - Y (i - 1)) (B := 1000) (by omega) (by omega)
  unfold sqF
  omega
theorem sqF_pos {t : Stk} (h : OkK t) {i : Nat} (hi : 0 < i) (hi2 : i < szk t) : sqF (px t) (py t) i ≠ 0 := by
  intro z
  have h0 := NR_iff.mp (NR_xy h) (i - 1) (by omega)
  rw [show i - 1 + 1 = i by omega] at h0
  have hA : ∀ x : Int, 0 ≤ x * x := fun x => by
    rcases Int.le_total 0 x with q | q
    · exact Int.mul_nonneg q q
    · have := Int.mul_nonneg (show (0 : Int) ≤ -x by omega) (show (0 : Int) ≤ -x by omega)
      rwa [Int.neg_mul_neg] at this
  have a1 := hA (px t i - px t (i - 1))
  have a2 := hA (py t i - py t (i - 1))
  unfold sqF at z
  have e1 : (px t i - px t (i - 1)) * (px t i - px t (i - 1)) = 0 := by omega
  have e2 : (py t i - py t (i - 1)) * (py t i - py t (i - 1)) = 0 := by omega
  have f1 := Int.mul_eq_zero.mp e1
  have f2 := Int.mul_eq_zero.mp e2
  exact h0 ⟨by omega, by omega⟩
/-- the root, a bit more than it needs -/
theorem root_15 {z : Int} (h : z < 268435456) : rootF z 15 0 = rootZ z := by
  show rootF z 14 (if ((0 : Int) + pbit 15) * (0 + pbit 15) ≤ z then 0 + pbit 15 else 0) = rootF z 14 0
  rw [if_neg (by show ¬ ((0 : Int) + 16384) * (0 + 16384) ≤ z; omega)]
theorem rootF_rng {z : Int} : ∀ (j : Nat) (f : Int), 0 ≤ f → f ≤ rootF z j f ∧ rootF z j f < f + 2 * pbit j + 1
  | 0, f, h => by
    show f ≤ f ∧ f < f + 2 * 0 + 1
    omega
  | j + 1, f, h => by
    have hp := pbit_pos j
    have e : pbit (j + 1) = 2 * pbit j ∨ (j = 0 ∧ pbit (j + 1) = 1 ∧ pbit j = 0) := by
      cases j with
      | zero => exact Or.inr ⟨rfl, rfl, rfl⟩
      | succ i => exact Or.inl rfl
    show f ≤ rootF z j (if (f + pbit (j + 1)) * (f + pbit (j + 1)) ≤ z then f + pbit (j + 1) else f) ∧ _ < _
    split
    · have := rootF_rng (z := z) j (f + pbit (j + 1)) (by omega)
      show _ ∧ rootF z j (if (f + pbit (j + 1)) * (f + pbit (j + 1)) ≤ z then f + pbit (j + 1) else f) < f + 2 * pbit (j + 1) + 1
      rw [if_pos (by assumption)]
      omega
    · have := rootF_rng (z := z) j f h
      show _ ∧ rootF z j (if (f + pbit (j + 1)) * (f + pbit (j + 1)) ≤ z then f + pbit (j + 1) else f) < f + 2 * pbit (j + 1) + 1
      rw [if_neg (by assumption)]
      omega
theorem rootZ_rng (z : Int) : 0 ≤ rootZ z ∧ rootZ z ≤ 16384 := by
  have := rootF_rng (z := z) 14 0 (Int.le_refl 0)
  have e : pbit 14 = 8192 := rfl
  unfold rootZ
  omega
theorem lenF_rng (X Y : Nat → Int) : ∀ m : Nat, 0 ≤ lenF X Y m ∧ lenF X Y m ≤ 16384 * (m : Int)
  | 0 => by rw [lenF_0]; omega
  | 1 => by rw [lenF_1]; omega
  | m + 2 => by
    have ih := lenF_rng X Y (m + 1)
    rw [lenF_s X Y (by omega)]
    have := rootZ_rng (sqF X Y (m + 1))
    omega
end FACTS
