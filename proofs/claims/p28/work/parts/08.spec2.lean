/-! plain facts: roots, least and greatest, lengths, rows of strokes written -/
section SPEC2
theorem sqb {x B : Int} (h1 : -B ≤ x) (h2 : x ≤ B) : 0 ≤ x * x ∧ x * x ≤ B * B := by
  have hB : 0 ≤ B := by omega
  have e1 : 0 ≤ (B - x) * (B + x) := Int.mul_nonneg (by omega) (by omega)
  have e2 : (B - x) * (B + x) = B * B - x * x := by rw [Int.sub_mul, Int.mul_add, Int.mul_add, Int.mul_comm x B]; omega
  refine ⟨?_, by omega⟩
  rcases Int.le_total 0 x with h | h
  · exact Int.mul_nonneg h h
  · have := Int.mul_nonneg (show 0 ≤ -x by omega) (show 0 ≤ -x by omega)
    rwa [Int.neg_mul_neg] at this
def pbit : Nat → Int
  | 0 => 0
  | 1 => 1
  | j + 2 => 2 * pbit (j + 1)
theorem pbit_half : ∀ j, pbit (j + 1) / 2 = pbit j
  | 0 => rfl
  | j + 1 => by
    show (2 * pbit (j + 1)) / 2 = pbit (j + 1)
    omega
theorem pbit_pos : ∀ j, 0 < pbit (j + 1)
  | 0 => by decide
  | j + 1 => by
    have := pbit_pos j
    show 0 < 2 * pbit (j + 1)
    omega
def rootF (z : Int) : Nat → Int → Int
  | 0, f => f
  | j + 1, f => rootF z j (if (f + pbit (j + 1)) * (f + pbit (j + 1)) ≤ z then f + pbit (j + 1) else f)
def rootZ (z : Int) : Int := rootF z 14 0
/-- the least of X 0 .. X n, the greatest -/
def mnF (X : Nat → Int) : Nat → Int
  | 0 => X 0
  | n + 1 => min (mnF X n) (X (n + 1))
def mxF (X : Nat → Int) : Nat → Int
  | 0 => X 0
  | n + 1 => max (mxF X n) (X (n + 1))
theorem mnF_congr {X Y : Nat → Int} : ∀ {n : Nat}, (∀ i, i ≤ n → X i = Y i) → mnF X n = mnF Y n
  | 0, h => h 0 (Nat.le_refl 0)
  | n + 1, h => by
    unfold mnF
    rw [mnF_congr (fun i hi => h i (Nat.le_succ_of_le hi)), h (n + 1) (Nat.le_refl _)]
theorem mxF_congr {X Y : Nat → Int} : ∀ {n : Nat}, (∀ i, i ≤ n → X i = Y i) → mxF X n = mxF Y n
  | 0, h => h 0 (Nat.le_refl 0)
  | n + 1, h => by
    unfold mxF
    rw [mxF_congr (fun i hi => h i (Nat.le_succ_of_le hi)), h (n + 1) (Nat.le_refl _)]
theorem mnF_rng {X : Nat → Int} {a b : Int} : ∀ {n : Nat}, (∀ i, i ≤ n → a ≤ X i ∧ X i ≤ b) → a ≤ mnF X n ∧ mnF X n ≤ b
  | 0, h => h 0 (Nat.le_refl 0)
  | n + 1, h => by
    have h1 := mnF_rng (n := n) (fun i hi => h i (Nat.le_succ_of_le hi))
    have h2 := h (n + 1) (Nat.le_refl _)
    unfold mnF
    omega
theorem mxF_rng {X : Nat → Int} {a b : Int} : ∀ {n : Nat}, (∀ i, i ≤ n → a ≤ X i ∧ X i ≤ b) → a ≤ mxF X n ∧ mxF X n ≤ b
  | 0, h => h 0 (Nat.le_refl 0)
  | n + 1, h => by
    have h1 := mxF_rng (n := n) (fun i hi => h i (Nat.le_succ_of_le hi))
    have h2 := h (n + 1) (Nat.le_refl _)
    unfold mxF
    omega
theorem mnF_le {X : Nat → Int} : ∀ {n : Nat} (i : Nat), i ≤ n → mnF X n ≤ X i
  | 0, i, h => by rw [show i = 0 by omega]; exact Int.le_refl _
  | n + 1, i, h => by
    unfold mnF
    rcases Nat.lt_or_ge i (n + 1) with q | q
    · have := mnF_le (X := X) (n := n) i (by omega)
      omega
    · rw [show i = n + 1 by omega]
      omega
theorem le_mxF {X : Nat → Int} : ∀ {n : Nat} (i : Nat), i ≤ n → X i ≤ mxF X n
  | 0, i, h => by rw [show i = 0 by omega]; exact Int.le_refl _
  | n + 1, i, h => by
    unfold mxF
    rcases Nat.lt_or_ge i (n + 1) with q | q
    · have := le_mxF (X := X) (n := n) i (by omega)
      omega
    · rw [show i = n + 1 by omega]
      omega
theorem mnF_in {X : Nat → Int} : ∀ {n : Nat}, ∃ i, i ≤ n ∧ mnF X n = X i
  | 0 => ⟨0, Nat.le_refl 0, rfl⟩
  | n + 1 => by
    obtain ⟨i, h1, h2⟩ := mnF_in (X := X) (n := n)
    unfold mnF
    rcases Int.le_total (mnF X n) (X (n + 1)) with q | q
    · exact ⟨i, by omega, by omega⟩
    · exact ⟨n + 1, by omega, by omega⟩
theorem mxF_in {X : Nat → Int} : ∀ {n : Nat}, ∃ i, i ≤ n ∧ mxF X n = X i
  | 0 => ⟨0, Nat.le_refl 0, rfl⟩
  | n + 1 => by
    obtain ⟨i, h1, h2⟩ := mxF_in (X := X) (n := n)
    unfold mxF
    rcases Int.le_total (mxF X n) (X (n + 1)) with q | q
    · exact ⟨n + 1, by omega, by omega⟩
    · exact ⟨i, by omega, by omega⟩
def lenF (X Y : Nat → Int) (m : Nat) : Int := itr (fun i a => a + rootZ (100 * ((X (i + 1) - X i) * (X (i + 1) - X i) + (Y (i + 1) - Y i) * (Y (i + 1) - Y i)))) 0 (m - 1)
theorem lenF_congr {X Y X2 Y2 : Nat → Int} {m : Nat} (h : ∀ i, i < m → X i = X2 i ∧ Y i = Y2 i) : lenF X Y m = lenF X2 Y2 m := by
  unfold lenF
  refine itr_congr (fun i b hi => ?_)
  obtain ⟨h1, h2⟩ := h i (by omega)
  obtain ⟨h3, h4⟩ := h (i + 1) (by omega)
  rw [h1, h2, h3, h4]
/-- a stroke written into the class's rows -/
def setF (F : Nat → Int) (k : Nat) (c : Int) (n : Nat) (X Y : Nat → Int) : Nat → Int := cpz Y (cpz X (upz (upz F (50 * k) c) (50 * k + 1) (n : Int)) 0 (50 * k + 2) 24) 0 (50 * k + 26) 24
theorem setF_out {F X Y : Nat → Int} {k n i : Nat} {c : Int} (h : i < 50 * k ∨ 50 * k + 50 ≤ i) : setF F k c n X Y i = F i := by
  unfold setF cpz
  rw [if_neg (by omega), if_neg (by omega), upz_n (by omega), upz_n (by omega)]
theorem setF_0 {F X Y : Nat → Int} {k n : Nat} {c : Int} : setF F k c n X Y (50 * k) = c := by
  unfold setF cpz
  rw [if_neg (by omega), if_neg (by omega), upz_n (by omega), upz_s]
theorem setF_1 {F X Y : Nat → Int} {k n : Nat} {c : Int} : setF F k c n X Y (50 * k + 1) = n := by
  unfold setF cpz
  rw [if_neg (by omega), if_neg (by omega), upz_s]
theorem setF_x {F X Y : Nat → Int} {k n i : Nat} {c : Int} (h : i < 24) : setF F k c n X Y (50 * k + 2 + i) = X i := by
  unfold setF cpz
  rw [if_neg (by omega), if_pos (by omega)]
  congr 1
  omega
theorem setF_y {F X Y : Nat → Int} {k n i : Nat} {c : Int} (h : i < 24) : setF F k c n X Y (50 * k + 26 + i) = Y i := by
  unfold setF cpz
  rw [if_pos (by omega)]
  congr 1
  omega
theorem setF_sk {F X Y : Nat → Int} {k n : Nat} {c : Int} (h : n ≤ 24) : skC (setF F k c n X Y) k = (c, ptsOf n X Y) := by
  unfold skC
  rw [setF_0, setF_1, Int.toNat_natCast]
  refine congrArg (fun z => (c, z)) (ptsOf_congr (fun i hi => ⟨setF_x (by omega), setF_y (by omega)⟩))
theorem skC_24 {F : Nat → Int} {k : Nat} (h : OkK (skC F k)) : (F (50 * k + 1)).toNat ≤ 24 := by
  have := skC_ok h
  omega
theorem setF_sk2 {F X Y : Nat → Int} {k j n : Nat} {c : Int} (hj : j ≠ k) (h : OkK (skC F j)) : skC (setF F k c n X Y) j = skC F j :=
  (skC_congr (F := F) (G := setF F k c n X Y) (fun i hi => (setF_out (by omega)).symm) (skC_24 h)).symm
theorem shC_in {n : Nat} {F : Nat → Int} (h : OkS (shC n F)) {k : Nat} (hk : k < n) : OkK (skC F k) := by
  have := OkS_at h (k := k) (by rw [shC_len]; exact hk)
  rwa [shC_at hk] at this
theorem shC_push {n m : Nat} {F X Y : Nat → Int} {c : Int} (h : OkS (shC n F)) (hm : m ≤ 24) : shC (n + 1) (setF F n c m X Y) = shC n F ++ [(c, ptsOf m X Y)] := by
  rw [shC_s, setF_sk hm]
  rw [shC_congr (fun k hk => setF_sk2 (by omega) (shC_in h hk))]
theorem shC_ext {n : Nat} {F : Nat → Int} {S : List Stk} (hl : S.length = n) (h : ∀ k, k < n → S[k]? = some (skC F k)) : shC n F = S := by
  apply List.ext_getElem?
  intro k
  by_cases hk : k < n
  · rw [h k hk]
    unfold shC
    rw [List.getElem?_map, List.getElem?_range hk]
    rfl
  · rw [List.getElem?_eq_none (by rw [shC_len]; omega), List.getElem?_eq_none (by omega)]
theorem shC_get {n : Nat} {F : Nat → Int} {k : Nat} (hk : k < n) : (shC n F)[k]? = some (skC F k) := by
  unfold shC
  rw [List.getElem?_map, List.getElem?_range hk]
  rfl
theorem shC_put {n m k : Nat} {F X Y : Nat → Int} {c : Int} (h : OkS (shC n F)) (hk : k < n) (hm : m ≤ 24) : shC n (setF F k c m X Y) = (shC n F).set k (c, ptsOf m X Y) := by
  refine shC_ext (by rw [List.length_set, shC_len]) (fun j hj => ?_)
  by_cases e : k = j
  · subst e
    rw [List.getElem?_set_self (by rw [shC_len]; exact hk), setF_sk hm]
  · rw [List.getElem?_set_ne e, shC_get hj, setF_sk2 (fun z => e z.symm) (shC_in h hj)]
theorem shC_color {n k : Nat} {F : Nat → Int} {c : Int} (h : OkS (shC n F)) (hk : k < n) : shC n (upz F (50 * k) c) = (shC n F).set k (c, (skC F k).2) := by
  refine shC_ext (by rw [List.length_set, shC_len]) (fun j hj => ?_)
  by_cases e : k = j
  · subst e
    rw [List.getElem?_set_self (by rw [shC_len]; exact hk)]
    unfold skC
    rw [upz_s, upz_n (by omega)]
    refine congrArg (fun z => some (c, z)) (ptsOf_congr (fun i hi => ⟨(upz_n (by omega)).symm, (upz_n (by omega)).symm⟩))
  · rw [List.getElem?_set_ne e, shC_get hj]
    exact congrArg some (skC_congr (fun i hi => (upz_n (by omega)).symm) (skC_24 (shC_in h hj)))
def dropF (F : Nat → Int) (k n : Nat) : Nat → Int := cpz F F (50 * (k + 1)) (50 * k) (50 * (n - k - 1))
theorem shC_drop {n k : Nat} {F : Nat → Int} (h : OkS (shC n F)) (hk : k < n) : shC (n - 1) (dropF F k n) = (shC n F).eraseIdx k := by
  refine shC_ext (by rw [List.length_eraseIdx, if_pos (by rw [shC_len]; exact hk), shC_len]) (fun j hj => ?_)
  rw [List.getElem?_eraseIdx]
  by_cases e : j < k
  · rw [if_pos e, shC_get (by omega)]
    refine congrArg some (skC_congr (fun i hi => ?_) (skC_24 (shC_in h (by omega))))
    unfold dropF cpz
    rw [if_neg (by omega)]
  · rw [if_neg e, shC_get (by omega)]
    refine congrArg some (skC_congr (fun i hi => ?_) (skC_24 (shC_in h (by omega))))
    unfold dropF cpz
    rw [if_pos (by omega)]
    congr 1
    omega
end SPEC2
