/-! colors, cells, the nearest stroke: facts -/
section FACTC
theorem itr_sum4 {n : Nat} {f0 f1 f2 f3 w : Nat → Int} : (∀ k, k < n → f0 k + f1 k + f2 k + f3 k = w k) → itr (fun k a => a + f0 k) 0 n + itr (fun k a => a + f1 k) 0 n + itr (fun k a => a + f2 k) 0 n + itr (fun k a => a + f3 k) 0 n = itr (fun k a => a + w k) 0 n := by
  induction n with
  | zero => intro _; rfl
  | succ n ih =>
    intro h
    have h1 := ih (fun k hk => h k (by omega))
    have h2 := h n (by omega)
    simp only [itr_s]
    omega
theorem ofC_4 {t : Stk} (h : OkK t) (w : Int) : (if ofC t 0 = true then w else 0) + (if ofC t 1 = true then w else 0) + (if ofC t 2 = true then w else 0) + (if ofC t 3 = true then w else 0) = w := by
  have hc := OkK_col h
  unfold ofC
  simp only [decide_eq_true_eq]
  rcases (show t.1 = 0 ∨ t.1 = 1 ∨ t.1 = 2 ∨ t.1 = 3 by omega) with e | e | e | e <;> rw [e] <;> simp
theorem col_in {S : List Stk} {c w : Int} (h : 0 ≤ c ∧ c ≤ 3) : colorS S c w = (if w = 0 then sumK S (fun t => bI (ofC t c)) else if w = 1 then sumK S (fun t => if ofC t c = true then (szk t : Int) else 0)
  else if w = 2 then sumK S (fun t => if ofC t c = true then lenK t else 0) else if w = 3 then inkN S c else -2) := by
  unfold colorS
  rw [if_neg (by unfold inR; rw [decide_eq_false_iff_not]; omega)]
theorem col_0 {S : List Stk} {c : Int} (h : 0 ≤ c ∧ c ≤ 3) : colorS S c 0 = sumK S (fun t => bI (ofC t c)) := by rw [col_in h]; rfl
theorem col_1 {S : List Stk} {c : Int} (h : 0 ≤ c ∧ c ≤ 3) : colorS S c 1 = sumK S (fun t => if ofC t c = true then (szk t : Int) else 0) := by rw [col_in h]; rfl
theorem col_2 {S : List Stk} {c : Int} (h : 0 ≤ c ∧ c ≤ 3) : colorS S c 2 = sumK S (fun t => if ofC t c = true then lenK t else 0) := by rw [col_in h]; rfl
theorem col_3 {S : List Stk} {c : Int} (h : 0 ≤ c ∧ c ≤ 3) : colorS S c 3 = inkN S c := by rw [col_in h]; rfl
theorem col_4 {S : List Stk} {c : Int} (h : 0 ≤ c ∧ c ≤ 3) : colorS S c 4 = -2 := by rw [col_in h]; rfl
theorem col_no {S : List Stk} {w : Int} : colorS S 4 w = -2 := rfl
theorem bI_if (b : Bool) : bI b = (if b = true then 1 else 0) := by cases b <;> rfl
theorem sum_0 {S : List Stk} (h : OkS S) : sumK S (fun t => bI (ofC t 0)) + sumK S (fun t => bI (ofC t 1)) + sumK S (fun t => bI (ofC t 2)) + sumK S (fun t => bI (ofC t 3)) = (S.length : Int) := by
  unfold sumK
  rw [itr_sum4 (w := fun _ => 1) (fun k hk => by simp only [bI_if]; exact ofC_4 (OkS_at h hk) 1)]
  have e : ∀ n : Nat, itr (fun (_ : Nat) (a : Int) => a + 1) 0 n = (n : Int) := by
    intro n
    induction n with
    | zero => rfl
    | succ n ih => rw [itr_s, ih]; omega
  exact e _
theorem sum_w {S : List Stk} (h : OkS S) (f : Stk → Int) : sumK S (fun t => if ofC t 0 = true then f t else 0) + sumK S (fun t => if ofC t 1 = true then f t else 0) + sumK S (fun t => if ofC t 2 = true then f t else 0) + sumK S (fun t => if ofC t 3 = true then f t else 0) = sumK S (fun t => if ofC t (-1) = true then f t else 0) := by
  rw [sumK_all]
  unfold sumK
  exact itr_sum4 (fun k hk => ofC_4 (OkS_at h hk) (f (gk S k)))
theorem sumK_rng {S : List Stk} {f : Stk → Int} {B : Int} (h : ∀ k, k < S.length → 0 ≤ f (gk S k) ∧ f (gk S k) ≤ B) : 0 ≤ sumK S f ∧ sumK S f ≤ B * (S.length : Int) := itr_rng (f := fun k => f (gk S k)) h
/-- points of a stroke in a cell -/
theorem cc_add (t : Stk) (c : Nat) (a : Nat) : ∀ n, ccK t c a n = a + ccK t c 0 n
  | 0 => rfl
  | n + 1 => by
    show (if cellN (px t n) (py t n) = c then ccK t c a n + 1 else ccK t c a n) = a + (if cellN (px t n) (py t n) = c then ccK t c 0 n + 1 else ccK t c 0 n)
    rw [cc_add t c a n]
    split <;> omega
theorem cc_s (t : Stk) (c a i : Nat) : ((ccK t c a (i + 1) : Nat) : Int) = ((ccK t c a i : Nat) : Int) + (if cellN (px t i) (py t i) = c then 1 else 0) := by
  show (((if cellN (px t i) (py t i) = c then ccK t c a i + 1 else ccK t c a i) : Nat) : Int) = _
  split <;> omega
theorem cc_le (t : Stk) (c : Nat) : ∀ n, ccK t c 0 n ≤ n
  | 0 => Nat.le_refl 0
  | n + 1 => by
    have := cc_le t c n
    show (if cellN (px t n) (py t n) = c then ccK t c 0 n + 1 else ccK t c 0 n) ≤ n + 1
    split <;> omega
theorem cc_pos {t : Stk} {c : Nat} : ∀ {n i : Nat}, i < n → cellN (px t i) (py t i) = c → 0 < ccK t c 0 n
  | n + 1, i, hi, h => by
    show 0 < (if cellN (px t n) (py t n) = c then ccK t c 0 n + 1 else ccK t c 0 n)
    by_cases e : i = n
    · subst e
      rw [if_pos h]
      omega
    · have := cc_pos (n := n) (i := i) (by omega) h
      split <;> omega
theorem cnK_at (t : Stk) (f : Nat → Nat) (c : Nat) : ∀ n, cnK t n f c = f c + ccK t c 0 n
  | 0 => rfl
  | n + 1 => by
    have ih := cnK_at t f c n
    show bump (cnK t n f) (cellN (px t n) (py t n)) c = f c + (if cellN (px t n) (py t n) = c then ccK t c 0 n + 1 else ccK t c 0 n)
    by_cases e : cellN (px t n) (py t n) = c
    · rw [if_pos e, e, bump_s, ih]
      omega
    · rw [if_neg e, bump_n (fun z => e z.symm), ih]
/-- of a color -/
def cnA (S : List Stk) (c : Int) (x : Nat) (n : Nat) : Nat := itr (fun k a => a + (if ofC (gk S k) c = true then ccK (gk S k) x 0 (szk (gk S k)) else 0)) 0 n
theorem cnS_at (S : List Stk) (c : Int) (x : Nat) : ∀ n, cnS S c n x = cnA S c x n
  | 0 => rfl
  | n + 1 => by
    have ih := cnS_at S c x n
    show (if ofC (gk S n) c = true then cnK (gk S n) (szk (gk S n)) (cnS S c n) else cnS S c n) x = cnA S c x n + (if ofC (gk S n) c = true then ccK (gk S n) x 0 (szk (gk S n)) else 0)
    by_cases e : ofC (gk S n) c = true
    · rw [if_pos e, if_pos e, cnK_at, ih]
    · rw [if_neg e, if_neg e, ih]
      omega
theorem ofC_all (t : Stk) : ofC t (-1) = true := by unfold ofC; simp
theorem cnA_pos {S : List Stk} {c : Int} {x : Nat} : ∀ {n : Nat}, 0 < cnA S c x n ↔ ∃ k, k < n ∧ ofC (gk S k) c = true ∧ 0 < ccK (gk S k) x 0 (szk (gk S k))
  | 0 => ⟨fun h => absurd h (Nat.lt_irrefl 0), fun ⟨k, h, _⟩ => absurd h (Nat.not_lt_zero k)⟩
  | n + 1 => by
    have ih := cnA_pos (S := S) (c := c) (x := x) (n := n)
    show 0 < cnA S c x n + (if ofC (gk S n) c = true then ccK (gk S n) x 0 (szk (gk S n)) else 0) ↔ _
    constructor
    · intro h
      by_cases q : 0 < cnA S c x n
      · obtain ⟨k, h1, h2⟩ := ih.mp q
        exact ⟨k, by omega, h2⟩
      · by_cases e : ofC (gk S n) c = true
        · rw [if_pos e] at h
          exact ⟨n, by omega, e, by omega⟩
        · rw [if_neg e] at h
          omega
    · rintro ⟨k, h1, h2, h3⟩
      by_cases q : k = n
      · subst q
        rw [if_pos h2]
        omega
      · have := ih.mpr ⟨k, by omega, h2, h3⟩
        omega
theorem cnA_le {S : List Stk} {x : Nat} : ∀ n : Nat, (cnA S (-1) x n : Int) ≤ itr (fun k a => a + (szk (gk S k) : Int)) 0 n
  | 0 => Int.le_refl 0
  | n + 1 => by
    have ih := cnA_le (S := S) (x := x) n
    have h := cc_le (gk S n) x (szk (gk S n))
    rw [itr_s]
    show ((cnA S (-1) x n + (if ofC (gk S n) (-1) = true then ccK (gk S n) x 0 (szk (gk S n)) else 0) : Nat) : Int) ≤ _
    rw [if_pos (ofC_all _)]
    omega
theorem ink_le {S : List Stk} {c : Int} : inkN S c ≤ inkN S (-1) := by
  unfold inkN
  have := fb_ct_sub (p := fun x => decide (0 < cnS S c S.length x)) (q := fun x => decide (0 < cnS S (-1) S.length x)) (n := 10201) (fun x _ h => by
    simp only [decide_eq_true_eq] at h ⊢
    rw [cnS_at] at h ⊢
    obtain ⟨k, h1, _, h3⟩ := cnA_pos.mp h
    exact cnA_pos.mpr ⟨k, h1, ofC_all _, h3⟩)
  omega
theorem ct_or_le {p q : Nat → Bool} : ∀ n, fb_ct (fun k => p k || q k) n ≤ fb_ct p n + fb_ct q n
  | 0 => Nat.le_refl 0
  | n + 1 => by
    have := ct_or_le (p := p) (q := q) n
    rw [fb_ct_succ, fb_ct_succ, fb_ct_succ]
    cases p n <;> cases q n <;> simp <;> omega
theorem ink_sum {S : List Stk} (hS : OkS S) : inkN S (-1) ≤ inkN S 0 + inkN S 1 + inkN S 2 + inkN S 3 := by
  unfold inkN
  have h1 := fb_ct_sub (p := fun x => decide (0 < cnS S (-1) S.length x)) (q := fun x => (decide (0 < cnS S 0 S.length x) || decide (0 < cnS S 1 S.length x)) || (decide (0 < cnS S 2 S.length x) || decide (0 < cnS S 3 S.length x))) (n := 10201) (fun x _ h => by
    simp only [Bool.or_eq_true, decide_eq_true_eq] at h ⊢
    simp only [cnS_at] at h ⊢
    obtain ⟨k, h1, _, h3⟩ := cnA_pos.mp h
    have hc := OkK_col (OkS_at hS h1)
    have key : ∀ c : Int, (gk S k).1 = c → 0 < cnA S c x S.length := fun c e => cnA_pos.mpr ⟨k, h1, by unfold ofC; simp [e], h3⟩
    rcases (show (gk S k).1 = 0 ∨ (gk S k).1 = 1 ∨ (gk S k).1 = 2 ∨ (gk S k).1 = 3 by omega) with e | e | e | e
    · exact Or.inl (Or.inl (key 0 e))
    · exact Or.inl (Or.inr (key 1 e))
    · exact Or.inr (Or.inl (key 2 e))
    · exact Or.inr (Or.inr (key 3 e)))
  have h2 := ct_or_le (p := fun x => decide (0 < cnS S 0 S.length x) || decide (0 < cnS S 1 S.length x)) (q := fun x => decide (0 < cnS S 2 S.length x) || decide (0 < cnS S 3 S.length x)) 10201
  have h3 := ct_or_le (p := fun x => decide (0 < cnS S 0 S.length x)) (q := fun x => decide (0 < cnS S 1 S.length x)) 10201
  have h4 := ct_or_le (p := fun x => decide (0 < cnS S 2 S.length x)) (q := fun x => decide (0 < cnS S 3 S.length x)) 10201
  omega
theorem ink_rng {S : List Stk} {c : Int} : 0 ≤ inkN S c ∧ inkN S c ≤ 10201 := by
  unfold inkN
  have := fb_ct_le (fun x => decide (0 < cnS S c S.length x)) 10201
  omega
/-- the points in the cell of a place -/
theorem cel_in {S : List Stk} {x y : Int} (hx : 0 ≤ x ∧ x ≤ 1000) (hy : 0 ≤ y ∧ y ≤ 1000) : cellS S x y = (cnA S (-1) (cellN x y) S.length : Nat) := by
  unfold cellS
  rw [if_neg (by unfold inR; simp only [decide_eq_false_iff_not]; omega)]
  have key : ∀ n, itr (fun k a => ccK (gk S k) (cellN x y) a (szk (gk S k))) 0 n = cnA S (-1) (cellN x y) n := by
    intro n
    induction n with
    | zero => rfl
    | succ n ih =>
      rw [itr_s, ih, cc_add]
      show _ = cnA S (-1) (cellN x y) n + (if ofC (gk S n) (-1) = true then ccK (gk S n) (cellN x y) 0 (szk (gk S n)) else 0)
      rw [if_pos (ofC_all _)]
  rw [key]
theorem cel_most {S : List Stk} {x y m : Int} (hx : 0 ≤ x ∧ x ≤ 1000) (hy : 0 ≤ y ∧ y ≤ 1000) (h : mostR S m) : cellS S x y ≤ m := by
  rw [cel_in hx hy]
  have := h.2.1 (cellN x y)
  rwa [cnS_at] at this
theorem cel_pos {S : List Stk} {k i : Nat} (hS : OkS S) (hk : k < S.length) (hi : i < szk (gk S k)) : 1 ≤ cellS S (px (gk S k) i) (py (gk S k) i) := by
  have h := ok_xy hS hk hi
  rw [cel_in ⟨h.1, h.2.1⟩ h.2.2]
  have : 0 < cnA S (-1) (cellN (px (gk S k) i) (py (gk S k) i)) S.length := cnA_pos.mpr ⟨k, hk, ofC_all _, cc_pos hi rfl⟩
  omega
theorem mos_le {S : List Stk} {m : Int} (h : mostR S m) : 0 ≤ m ∧ m ≤ itr (fun k a => a + (szk (gk S k) : Int)) 0 S.length := by
  refine ⟨h.1, ?_⟩
  rcases h.2.2 with e | ⟨c, _, e⟩
  · have := cnA_le (S := S) (x := 0) S.length
    omega
  · rw [cnS_at] at e
    have := cnA_le (S := S) (x := c) S.length
    omega
theorem cel_eq {x y u v : Int} (hx : 0 ≤ x ∧ x ≤ 1000) (hy : 0 ≤ y ∧ y ≤ 1000) (hu : 0 ≤ u ∧ u ≤ 1000) (hv : 0 ≤ v ∧ v ≤ 1000) : cellN u v = cellN x y ↔ u / 10 = x / 10 ∧ v / 10 = y / 10 := by
  unfold cellN
  omega
/-- the nearest stroke -/
def dsF (S : List Stk) (x y : Int) (k i : Nat) : Int := (px (gk S k) i - x) * (px (gk S k) i - x) + (py (gk S k) i - y) * (py (gk S k) i - y)
def NRI (S : List Stk) (x y : Int) (k i : Nat) (s : Int × Int) : Prop :=
  (s.1 = -5 ∧ k = 0 ∧ i = 0) ∨ ∃ t j : Nat, s.1 = (t : Int) ∧ (t < k ∨ t = k ∧ j < i) ∧ j < szk (gk S t) ∧ s.2 = dsF S x y t j ∧ ∀ k2 i2, (k2 < k ∧ i2 < szk (gk S k2) ∨ k2 = k ∧ i2 < i) → s.2 ≤ dsF S x y k2 i2 ∧ (dsF S x y k2 i2 = s.2 → t ≤ k2)
theorem NRI_step {S : List Stk} {x y : Int} {k i : Nat} {s : Int × Int} (hi : i < szk (gk S k)) (h : NRI S x y k i s) : NRI S x y k (i + 1) (nrT x y (gk S k) k i s) := by
  right
  have hD : dsF S x y k i = (px (gk S k) i - x) * (px (gk S k) i - x) + (py (gk S k) i - y) * (py (gk S k) i - y) := rfl
  unfold nrT
  rw [← hD]
  rcases h with ⟨h1, h2, h3⟩ | ⟨t, j, h1, h2, h3, h4, h5⟩
  · rw [if_pos (Or.inl (by omega))]
    refine ⟨k, i, rfl, Or.inr ⟨rfl, by omega⟩, hi, rfl, fun k2 i2 h => ?_⟩
    obtain ⟨rfl, rfl⟩ : k2 = k ∧ i2 = i := by omega
    exact ⟨Int.le_refl _, fun _ => Nat.le_refl _⟩
  · by_cases q : dsF S x y k i < s.2
    · rw [if_pos (Or.inr q)]
      refine ⟨k, i, rfl, Or.inr ⟨rfl, by omega⟩, hi, rfl, fun k2 i2 h => ?_⟩
      dsimp only
      by_cases z : k2 = k ∧ i2 = i
      · obtain ⟨rfl, rfl⟩ := z
        exact ⟨Int.le_refl _, fun _ => Nat.le_refl _⟩
      · have := h5 k2 i2 (by omega)
        omega
    · rw [if_neg (by rw [h1]; omega)]
      refine ⟨t, j, h1, by omega, h3, h4, fun k2 i2 h => ?_⟩
      by_cases z : k2 = k ∧ i2 = i
      · obtain ⟨rfl, rfl⟩ := z
        exact ⟨by omega, fun _ => by omega⟩
      · exact h5 k2 i2 (by omega)
theorem NRI_stroke {S : List Stk} {x y : Int} {k : Nat} {s : Int × Int} (hz : 1 ≤ szk (gk S k)) (h : NRI S x y k 0 s) : NRI S x y (k + 1) 0 (nrK S x y k s) := by
  have key : ∀ i, i ≤ szk (gk S k) → NRI S x y k i (itr (nrT x y (gk S k) k) s i) := by
    intro i
    induction i with
    | zero => intro _; exact h
    | succ i ih => intro hi; exact NRI_step (by omega) (ih (by omega))
  have h2 := key _ (Nat.le_refl _)
  unfold nrK
  rcases h2 with ⟨-, -, h3⟩ | ⟨t, j, h1, h3, h4, h5, h6⟩
  · omega
  · right
    refine ⟨t, j, h1, by omega, h4, h5, fun k2 i2 hh => h6 k2 i2 ?_⟩
    rcases hh with ⟨a, b⟩ | ⟨a, b⟩
    · by_cases z : k2 = k
      · right; subst z; exact ⟨rfl, b⟩
      · left; exact ⟨by omega, b⟩
    · omega
theorem near_in {S : List Stk} (hS : OkS S) {x y : Int} (hx : 0 ≤ x ∧ x ≤ 1000) (hy : 0 ≤ y ∧ y ≤ 1000) :
    (S.length = 0 ∧ nearS S x y = -5) ∨ (∃ t j : Nat, t < S.length ∧ nearS S x y = (t : Int) ∧ j < szk (gk S t) ∧ ∀ k i, k < S.length → i < szk (gk S k) → dsF S x y t j ≤ dsF S x y k i ∧ (dsF S x y k i = dsF S x y t j → t ≤ k)) := by
  have key : ∀ n, n ≤ S.length → NRI S x y n 0 (itr (nrK S x y) (-5, 0) n) := by
    intro n
    induction n with
    | zero => intro _; exact Or.inl ⟨rfl, rfl, rfl⟩
    | succ n ih => intro hn; exact NRI_stroke (ok_sz hS (by omega)).1 (ih (by omega))
  have h := key S.length (Nat.le_refl _)
  have e : nearS S x y = (itr (nrK S x y) (-5, 0) S.length).1 := by
    unfold nearS
    rw [if_neg (by unfold inR; simp only [decide_eq_false_iff_not]; omega)]
  rw [e]
  rcases h with ⟨h1, h2, -⟩ | ⟨t, j, h1, h2, h3, h4, h5⟩
  · exact Or.inl ⟨h2, h1⟩
  · refine Or.inr ⟨t, j, by omega, h1, h3, fun k i hk hi => ?_⟩
    have := h5 k i (Or.inl ⟨hk, hi⟩)
    rw [h4] at this
    exact this
theorem ds_rng {S : List Stk} (hS : OkS S) {x y : Int} (hx : 0 ≤ x ∧ x ≤ 1000) (hy : 0 ≤ y ∧ y ≤ 1000) {k i : Nat} (hk : k < S.length) (hi : i < szk (gk S k)) : 0 ≤ dsF S x y k i ∧ dsF S x y k i ≤ 2000000 := by
  have h := ok_xy hS hk hi
  have a1 := sqb (x := px (gk S k) i - x) (B := 1000) (by omega) (by omega)
  have a2 := sqb (x := py (gk S k) i - y) (B := 1000) (by omega) (by omega)
  unfold dsF
  omega
def rnL (X : Nat → Int) (n : Nat) : Int := itr (fun i a => min a (X i)) 3000000 n
theorem rnL_le {X : Nat → Int} : ∀ {n : Nat}, (∀ i, i < n → rnL X n ≤ X i) ∧ (rnL X n = 3000000 ∨ ∃ i, i < n ∧ rnL X n = X i)
  | 0 => ⟨fun i h => absurd h (Nat.not_lt_zero i), Or.inl rfl⟩
  | n + 1 => by
    have ih := rnL_le (X := X) (n := n)
    have e : rnL X (n + 1) = min (rnL X n) (X n) := rfl
    rw [e]
    refine ⟨fun i hi => ?_, ?_⟩
    · by_cases z : i = n
      · subst z; omega
      · have := ih.1 i (by omega); omega
    · by_cases z : X n ≤ rnL X n
      · exact Or.inr ⟨n, by omega, by omega⟩
      · rcases ih.2 with q | ⟨i, q1, q2⟩
        · exact Or.inl (by omega)
        · exact Or.inr ⟨i, by omega, by omega⟩
theorem rnL_rng {X : Nat → Int} {n : Nat} (h : ∀ i, i < n → 0 ≤ X i ∧ X i ≤ 2000000) : 0 ≤ rnL X n ∧ rnL X n ≤ 3000000 := by
  have h1 := rnL_le (X := X) (n := n)
  rcases h1.2 with q | ⟨i, q1, q2⟩
  · omega
  · have := h i q1; omega
theorem rnL_eq {S : List Stk} (hS : OkS S) {x y : Int} (hx : 0 ≤ x ∧ x ≤ 1000) (hy : 0 ≤ y ∧ y ≤ 1000) {t j : Nat} (ht : t < S.length) (hj : j < szk (gk S t)) (h : ∀ k i, k < S.length → i < szk (gk S k) → dsF S x y t j ≤ dsF S x y k i ∧ (dsF S x y k i = dsF S x y t j → t ≤ k)) : rnL (dsF S x y t) (szk (gk S t)) = dsF S x y t j := by
  have h1 := rnL_le (X := dsF S x y t) (n := szk (gk S t))
  have h2 := h1.1 j hj
  have h3 := ds_rng hS hx hy ht hj
  rcases h1.2 with q | ⟨i, q1, q2⟩
  · omega
  · have := (h t i ht q1).1
    omega
theorem mx_rng {f : Nat → Int} {B : Int} : ∀ {n : Nat}, (∀ c, c < n → 0 ≤ f c ∧ f c ≤ B) → 0 ≤ itr (fun c a => max a (f c)) 0 n ∧ (itr (fun c a => max a (f c)) 0 n ≤ B ∨ itr (fun c a => max a (f c)) 0 n = 0)
  | 0, _ => ⟨Int.le_refl 0, Or.inr rfl⟩
  | n + 1, h => by
    have ih := mx_rng (n := n) (fun c hc => h c (by omega))
    have h1 := h n (by omega)
    show 0 ≤ max (itr (fun c a => max a (f c)) 0 n) (f n) ∧ (max (itr (fun c a => max a (f c)) 0 n) (f n) ≤ B ∨ max (itr (fun c a => max a (f c)) 0 n) (f n) = 0)
    omega
end FACTC
