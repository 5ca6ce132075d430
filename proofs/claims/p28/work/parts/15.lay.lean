/-! lines: the grouping by heights, the order by two numbers and the index -/
section LAY
def lx (a b : Nat → Int) (o i : Nat) : Bool := decide (a o < a i ∨ (a o = a i ∧ (b o < b i ∨ (b o = b i ∧ o < i))))
theorem lx_irr {a b : Nat → Int} {i : Nat} : lx a b i i = false := decide_eq_false (by omega)
theorem lx_iff {a b : Nat → Int} {o i : Nat} : lx a b o i = true ↔ (a o < a i ∨ (a o = a i ∧ (b o < b i ∨ (b o = b i ∧ o < i)))) := decide_eq_true_iff
theorem lx_tr {a b : Nat → Int} {i j k : Nat} (h : lx a b i j = true) (h2 : lx a b j k = true) : lx a b i k = true := by
  rw [lx_iff] at *
  omega
theorem lx_tot {a b : Nat → Int} {i j : Nat} (h : i ≠ j) : lx a b i j = true ∨ lx a b j i = true := by
  rw [lx_iff, lx_iff]
  omega
theorem lx_congr {a b c d : Nat → Int} {o i : Nat} (h1 : a o = c o) (h2 : a i = c i) (h3 : b o = d o) (h4 : b i = d i) : lx a b o i = lx c d o i := by
  unfold lx
  rw [h1, h2, h3, h4]
/-- the place in the order: how many are before -/
def rk (a b : Nat → Int) (m i : Nat) : Nat := fb_ct (fun o => lx a b o i) m
theorem ct_lt {p : Nat → Bool} : ∀ {n i : Nat}, i < n → p i = false → fb_ct p n < n
  | n + 1, i, hi, hp => by
    rw [fb_ct_succ]
    have h1 := fb_ct_le p n
    by_cases q : i = n
    · subst q
      rw [hp]
      show fb_ct p i + 0 < i + 1
      omega
    · have := ct_lt (n := n) (i := i) (by omega) hp
      split <;> omega
theorem ct_lt2 {p q : Nat → Bool} : ∀ {n i : Nat}, i < n → p i = false → q i = true → (∀ o, o < n → p o = true → q o = true) → fb_ct p n < fb_ct q n
  | n + 1, i, hi, hp, hq, h => by
    rw [fb_ct_succ, fb_ct_succ]
    by_cases e : i = n
    · subst e
      have := fb_ct_sub (n := i) (fun o ho => h o (by omega))
      rw [hp, hq]
      show fb_ct p i + 0 < fb_ct q i + 1
      omega
    · have := ct_lt2 (n := n) (i := i) (by omega) hp hq (fun o ho => h o (by omega))
      have e1 : (if p n = true then 1 else 0 : Nat) ≤ (if q n = true then 1 else 0) := by
        cases h1 : p n with
        | false => simp
        | true => simp [h n (by omega) h1]
      omega
theorem rk_lt {a b : Nat → Int} {m i : Nat} (hi : i < m) : rk a b m i < m := ct_lt hi lx_irr
theorem rk_mono {a b : Nat → Int} {m i j : Nat} (hi : i < m) (h : lx a b i j = true) : rk a b m i < rk a b m j := ct_lt2 hi lx_irr h (fun _ _ ho => lx_tr ho h)
theorem rk_inj {a b : Nat → Int} {m i j : Nat} (hi : i < m) (hj : j < m) (h : rk a b m i = rk a b m j) : i = j := by
  refine Classical.byContradiction fun hn => ?_
  rcases lx_tot (a := a) (b := b) hn with q | q
  · have := rk_mono (m := m) hi q
    omega
  · have := rk_mono (m := m) hj q
    omega
theorem rk_onto {a b : Nat → Int} {m L : Nat} (hL : L < m) : ∃ i, i < m ∧ rk a b m i = L :=
  fb_onto (fun _ hi => rk_lt hi) (fun i j hij hj e => by
    have := rk_inj (a := a) (b := b) (m := m) (by omega) hj e
    omega) hL
theorem rk_le {a b : Nat → Int} {m i j : Nat} (hi : i < m) (hj : j < m) (h : rk a b m i < rk a b m j) : lx a b i j = true := by
  rcases Nat.decEq i j with q | q
  · rcases lx_tot (a := a) (b := b) q with z | z
    · exact z
    · have := rk_mono (m := m) hj z
      omega
  · subst q
    omega
theorem rk_congr {a b c d : Nat → Int} {m i : Nat} (hi : i < m) (h : ∀ j, j < m → a j = c j ∧ b j = d j) : rk a b m i = rk c d m i := by
  unfold rk
  exact fb_ct_cong (fun o ho => lx_congr (h o ho).1 (h i hi).1 (h o ho).2 (h i hi).2)
/-- the line that a stroke from t to b joins: of those seen, the one with which it shares most -/
def bfS (bt bb : Nat → Int) (t b : Int) (i : Nat) (s : Int × Int) : Int × Int :=
  if s.2 < min b (bb i) - max t (bt i) + 1 ∧ min (b - t + 1) (bb i - bt i + 1) ≤ 2 * (min b (bb i) - max t (bt i) + 1) then ((i : Int), min b (bb i) - max t (bt i) + 1) else s
def bf (bt bb : Nat → Int) (t b : Int) (m : Nat) : Int × Int := itr (bfS bt bb t b) (-5, 0) m
theorem bf_s (bt bb : Nat → Int) (t b : Int) (m : Nat) : bf bt bb t b (m + 1) = bfS bt bb t b m (bf bt bb t b m) := rfl
theorem bf_congr {bt bb ct cb : Nat → Int} {t b : Int} {m : Nat} (h : ∀ i, i < m → bt i = ct i ∧ bb i = cb i) : bf bt bb t b m = bf ct cb t b m := by
  unfold bf
  refine itr_congr (fun i s hi => ?_)
  unfold bfS
  rw [(h i hi).1, (h i hi).2]
theorem bf_rng {bt bb : Nat → Int} {t b : Int} : ∀ {m : Nat}, (bf bt bb t b m).1 = -5 ∨ (0 ≤ (bf bt bb t b m).1 ∧ (bf bt bb t b m).1 < m)
  | 0 => Or.inl rfl
  | m + 1 => by
    rw [bf_s]
    have := bf_rng (bt := bt) (bb := bb) (t := t) (b := b) (m := m)
    unfold bfS
    split
    · right; dsimp only; omega
    · omega
abbrev LyT : Type := Nat × (Nat → Int) × (Nat → Int) × (Nat → Int)
def grLT (tp bo : Nat → Int) (k : Nat) (s : LyT) : LyT :=
  if (bf s.2.1 s.2.2.1 (tp k) (bo k) s.1).1 = -5 then (s.1 + 1, upz s.2.1 s.1 (tp k), upz s.2.2.1 s.1 (bo k), upz s.2.2.2 k (s.1 : Int))
  else (s.1, upz s.2.1 (bf s.2.1 s.2.2.1 (tp k) (bo k) s.1).1.toNat (min (tp k) (s.2.1 (bf s.2.1 s.2.2.1 (tp k) (bo k) s.1).1.toNat)), upz s.2.2.1 (bf s.2.1 s.2.2.1 (tp k) (bo k) s.1).1.toNat (max (bo k) (s.2.2.1 (bf s.2.1 s.2.2.1 (tp k) (bo k) s.1).1.toNat)), upz s.2.2.2 k (bf s.2.1 s.2.2.1 (tp k) (bo k) s.1).1)
def grL (tp bo : Nat → Int) (n : Nat) : LyT := itr (grLT tp bo) (0, fun _ => 0, fun _ => 0, fun _ => 0) n
theorem grL_s (tp bo : Nat → Int) (n : Nat) : grL tp bo (n + 1) = grLT tp bo n (grL tp bo n) := rfl
/-- what holds of the grouping: each stroke has a line, each line a stroke, the bands are coordinates -/
theorem grL_ok {tp bo : Nat → Int} {N : Nat} (hc : ∀ k, k < N → 0 ≤ tp k ∧ tp k ≤ 1000 ∧ 0 ≤ bo k ∧ bo k ≤ 1000) : ∀ {n : Nat}, n ≤ N → (grL tp bo n).1 ≤ n ∧ (∀ j, j < n → 0 ≤ (grL tp bo n).2.2.2 j ∧ (grL tp bo n).2.2.2 j < (grL tp bo n).1) ∧ (∀ i, i < (grL tp bo n).1 → 0 ≤ (grL tp bo n).2.1 i ∧ (grL tp bo n).2.1 i ≤ 1000 ∧ 0 ≤ (grL tp bo n).2.2.1 i ∧ (grL tp bo n).2.2.1 i ≤ 1000) ∧ (∀ i : Nat, i < (grL tp bo n).1 → ∃ j, j < n ∧ (grL tp bo n).2.2.2 j = (i : Int))
  | 0, _ => ⟨Nat.le_refl 0, fun j h => absurd h (Nat.not_lt_zero j), fun j h => absurd h (Nat.not_lt_zero j), fun j h => absurd h (Nat.not_lt_zero j)⟩
  | n + 1, hn => by
    obtain ⟨h1, h2, h3, h4⟩ := grL_ok (n := n) hc (by omega)
    have hk := hc n (by omega)
    rw [grL_s]
    generalize grL tp bo n = s at h1 h2 h3 h4 ⊢
    obtain ⟨m, bt, bb, lo⟩ := s
    dsimp only at h1 h2 h3 h4
    unfold grLT
    dsimp only
    have hr := bf_rng (bt := bt) (bb := bb) (t := tp n) (b := bo n) (m := m)
    generalize bf bt bb (tp n) (bo n) m = r at hr ⊢
    obtain ⟨r, q⟩ := r
    dsimp only at hr ⊢
    by_cases e : r = -5
    · rw [if_pos e]
      dsimp only
      refine ⟨by omega, fun j hj => ?_, fun i hi => ?_, fun i hi => ?_⟩
      · by_cases z : j = n
        · subst z; rw [upz_s]; omega
        · rw [upz_n z]; have := h2 j (by omega); omega
      · by_cases z : i = m
        · subst z; rw [upz_s, upz_s]; exact hk
        · rw [upz_n z, upz_n z]; exact h3 i (by omega)
      · by_cases z : i = m
        · subst z; exact ⟨n, by omega, upz_s⟩
        · obtain ⟨j, hj, hj2⟩ := h4 i (by omega)
          exact ⟨j, by omega, by rw [upz_n (by omega)]; exact hj2⟩
    · rw [if_neg e]
      have hr := hr.resolve_left e
      dsimp only
      refine ⟨by omega, fun j hj => ?_, fun i hi => ?_, fun i hi => ?_⟩
      · by_cases z : j = n
        · subst z; rw [upz_s]; omega
        · rw [upz_n z]; have := h2 j (by omega); omega
      · have hq := h3 r.toNat (by omega)
        by_cases z : i = r.toNat
        · subst z; rw [upz_s, upz_s]; omega
        · rw [upz_n z, upz_n z]; exact h3 i (by omega)
      · obtain ⟨j, hj, hj2⟩ := h4 i (by omega)
        exact ⟨j, by omega, by rw [upz_n (by omega)]; exact hj2⟩
/-- the bounds of a stroke -/
def tpK (t : Stk) : Int := mnF (py t) (szk t - 1)
def boK (t : Stk) : Int := mxF (py t) (szk t - 1)
def lfK (t : Stk) : Int := mnF (px t) (szk t - 1)
def rtK (t : Stk) : Int := mxF (px t) (szk t - 1)
theorem bdK {t : Stk} (h : OkK t) : (0 ≤ tpK t ∧ tpK t ≤ 1000 ∧ 0 ≤ boK t ∧ boK t ≤ 1000) ∧ (0 ≤ lfK t ∧ lfK t ≤ 1000 ∧ 0 ≤ rtK t ∧ rtK t ≤ 1000) := by
  have hz := OkK_sz h
  have h1 : ∀ i, i ≤ szk t - 1 → 0 ≤ px t i ∧ px t i ≤ 1000 ∧ 0 ≤ py t i ∧ py t i ≤ 1000 := fun i hi => OkK_xy h (by omega)
  have e1 := mnF_rng (X := py t) (n := szk t - 1) (fun i hi => ⟨(h1 i hi).2.2.1, (h1 i hi).2.2.2⟩)
  have e2 := mxF_rng (X := py t) (n := szk t - 1) (fun i hi => ⟨(h1 i hi).2.2.1, (h1 i hi).2.2.2⟩)
  have e3 := mnF_rng (X := px t) (n := szk t - 1) (fun i hi => ⟨(h1 i hi).1, (h1 i hi).2.1⟩)
  have e4 := mxF_rng (X := px t) (n := szk t - 1) (fun i hi => ⟨(h1 i hi).1, (h1 i hi).2.1⟩)
  unfold tpK boK lfK rtK
  exact ⟨⟨e1.1, e1.2, e2.1, e2.2⟩, e3.1, e3.2, e4.1, e4.2⟩
def tpS (S : List Stk) (k : Nat) : Int := tpK (gk S k)
def boS (S : List Stk) (k : Nat) : Int := boK (gk S k)
def lfS (S : List Stk) (k : Nat) : Int := lfK (gk S k)
def rtS (S : List Stk) (k : Nat) : Int := rtK (gk S k)
theorem bdS {S : List Stk} (h : OkS S) {k : Nat} (hk : k < S.length) : (0 ≤ tpS S k ∧ tpS S k ≤ 1000 ∧ 0 ≤ boS S k ∧ boS S k ≤ 1000) ∧ (0 ≤ lfS S k ∧ lfS S k ≤ 1000 ∧ 0 ≤ rtS S k ∧ rtS S k ≤ 1000) := bdK (OkS_at h hk)
/-- the lines of a pad: how many, their bands as they were begun, the number of each, the line of each stroke -/
def GS (S : List Stk) : LyT := grL (tpS S) (boS S) S.length
def mS (S : List Stk) : Nat := (GS S).1
def rkS (S : List Stk) (i : Nat) : Nat := rk (GS S).2.1 (GS S).2.2.1 (mS S) i
def lnS (S : List Stk) (k : Nat) : Nat := rkS S ((GS S).2.2.2 k).toNat
theorem GS_ok {S : List Stk} (h : OkS S) : mS S ≤ S.length ∧ (∀ j, j < S.length → 0 ≤ (GS S).2.2.2 j ∧ (GS S).2.2.2 j < mS S) ∧ (∀ i, i < mS S → 0 ≤ (GS S).2.1 i ∧ (GS S).2.1 i ≤ 1000 ∧ 0 ≤ (GS S).2.2.1 i ∧ (GS S).2.2.1 i ≤ 1000) ∧ (∀ i : Nat, i < mS S → ∃ j, j < S.length ∧ (GS S).2.2.2 j = (i : Int)) :=
  grL_ok (fun k hk => (bdS h hk).1) (Nat.le_refl _)
theorem lnS_lt {S : List Stk} (h : OkS S) {k : Nat} (hk : k < S.length) : lnS S k < mS S := by
  have := (GS_ok h).2.1 k hk
  exact rk_lt (by omega)
theorem lnS_onto {S : List Stk} (h : OkS S) {L : Nat} (hL : L < mS S) : ∃ k, k < S.length ∧ lnS S k = L := by
  obtain ⟨i, hi, e⟩ := rk_onto (a := (GS S).2.1) (b := (GS S).2.2.1) hL
  obtain ⟨j, hj, e2⟩ := (GS_ok h).2.2.2 i hi
  refine ⟨j, hj, ?_⟩
  unfold lnS rkS
  rw [e2, Int.toNat_natCast]
  exact e
end LAY
