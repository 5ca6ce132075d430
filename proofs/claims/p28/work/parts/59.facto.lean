/-! lines, words, the reading order: facts -/
section FACTO
theorem rd_k {S : List Stk} {k : Nat} (h : k < S.length) : readS S (k : Int) = (odS S k : Int) := by
  unfold readS
  rw [if_neg (by omega), if_neg (by omega), Int.toNat_natCast]
theorem rd_n {S : List Stk} : readS S (S.length : Int) = -5 := by
  unfold readS
  rw [if_neg (by omega), if_pos (Int.le_refl _)]
theorem rd_m {S : List Stk} : readS S (-1) = -2 := rfl
theorem ln_in {S : List Stk} {g w : Int} {L : Nat} (h : L < mS S) : lineS S g (L : Int) w = (if w = 0 then (GS S).2.1 (fnd (rkS S) L (mS S)) else if w = 1 then (GS S).2.2.1 (fnd (rkS S) L (mS S))
  else if w = 2 then (fb_ct (fun j => lnS S j == L) S.length : Int)
  else if w = 3 then (WD S g).2.2.2.2.2.2.2.2.1 L else if w = 4 then (WD S g).2.2.2.2.2.2.2.2.2 L else -2) := by
  unfold lineS
  rw [if_neg (by unfold inR; rw [decide_eq_false_iff_not]; omega), Int.toNat_natCast]
theorem ln_0 {S : List Stk} {g : Int} {L : Nat} (h : L < mS S) : lineS S g (L : Int) 0 = (GS S).2.1 (fnd (rkS S) L (mS S)) := by rw [ln_in h]; rfl
theorem ln_1 {S : List Stk} {g : Int} {L : Nat} (h : L < mS S) : lineS S g (L : Int) 1 = (GS S).2.2.1 (fnd (rkS S) L (mS S)) := by rw [ln_in h]; rfl
theorem ln_2 {S : List Stk} {g : Int} {L : Nat} (h : L < mS S) : lineS S g (L : Int) 2 = (fb_ct (fun j => lnS S j == L) S.length : Int) := by rw [ln_in h]; rfl
theorem ln_3 {S : List Stk} {g : Int} {L : Nat} (h : L < mS S) : lineS S g (L : Int) 3 = (WD S g).2.2.2.2.2.2.2.2.1 L := by rw [ln_in h]; rfl
theorem ln_4 {S : List Stk} {g : Int} {L : Nat} (h : L < mS S) : lineS S g (L : Int) 4 = (WD S g).2.2.2.2.2.2.2.2.2 L := by rw [ln_in h]; rfl
theorem ln_5 {S : List Stk} {g : Int} {L : Nat} (h : L < mS S) : lineS S g (L : Int) 5 = -2 := by rw [ln_in h]; rfl
theorem ln_n {S : List Stk} {g w : Int} : lineS S g (mS S : Int) w = -1 := by
  unfold lineS
  rw [if_pos (by unfold inR; rw [decide_eq_false_iff_not]; omega)]
theorem wd_in {S : List Stk} {g w : Int} {x : Nat} (h : x < (WD S g).1) : wordS S g (x : Int) w = (if w = 0 then (WD S g).2.2.2.1 x else if w = 1 then (WD S g).2.2.2.2.1 x else if w = 2 then (WD S g).2.2.2.2.2.1 x
  else if w = 3 then (WD S g).2.2.2.2.2.2.1 x else if w = 4 then (WD S g).2.2.2.2.2.2.2.1 x else -2) := by
  unfold wordS
  rw [if_neg (by unfold inR; rw [decide_eq_false_iff_not]; omega), Int.toNat_natCast]
theorem wr_0 {S : List Stk} {g : Int} {x : Nat} (h : x < (WD S g).1) : wordS S g (x : Int) 0 = (WD S g).2.2.2.1 x := by rw [wd_in h]; rfl
theorem wr_1 {S : List Stk} {g : Int} {x : Nat} (h : x < (WD S g).1) : wordS S g (x : Int) 1 = (WD S g).2.2.2.2.1 x := by rw [wd_in h]; rfl
theorem wr_2 {S : List Stk} {g : Int} {x : Nat} (h : x < (WD S g).1) : wordS S g (x : Int) 2 = (WD S g).2.2.2.2.2.1 x := by rw [wd_in h]; rfl
theorem wr_3 {S : List Stk} {g : Int} {x : Nat} (h : x < (WD S g).1) : wordS S g (x : Int) 3 = (WD S g).2.2.2.2.2.2.1 x := by rw [wd_in h]; rfl
theorem wr_4 {S : List Stk} {g : Int} {x : Nat} (h : x < (WD S g).1) : wordS S g (x : Int) 4 = (WD S g).2.2.2.2.2.2.2.1 x := by rw [wd_in h]; rfl
theorem wr_5 {S : List Stk} {g : Int} {x : Nat} (h : x < (WD S g).1) : wordS S g (x : Int) 5 = -2 := by rw [wd_in h]; rfl
theorem wr_n {S : List Stk} {g w : Int} : wordS S g ((WD S g).1 : Int) w = -1 := by
  unfold wordS
  rw [if_pos (by unfold inR; rw [decide_eq_false_iff_not]; omega)]
theorem od_lt {S : List Stk} {k : Nat} (h : k < S.length) : odS S k < S.length := (plS_od h).1
theorem od_step {S : List Stk} (hS : OkS S) {k : Nat} (h : k + 1 < S.length) : lnS S (odS S (k + 1)) ≤ lnS S (odS S k) + 1 := by
  refine Classical.byContradiction fun hn => ?_
  have h1 := lnS_lt hS (od_lt h)
  obtain ⟨j, hj, e⟩ := lnS_onto hS (L := lnS S (odS S k) + 1) (by omega)
  have hp := plS_lt hj
  have ho := odS_pl hj
  rcases Nat.lt_trichotomy (plS S j) (k + 1) with z | z | z
  · rcases Nat.lt_or_ge (plS S j) k with y | y
    · have := odS_le (S := S) y (by omega)
      rw [ho] at this
      omega
    · have y2 : plS S j = k := by omega
      rw [y2] at ho
      rw [ho] at e
      omega
  · rw [z] at ho
    rw [ho] at hn
    omega
  · have := odS_le (S := S) z hp
    rw [ho] at this
    omega
theorem od_ord {S : List Stk} {p q : Nat} (h : p < q) (hq : q < S.length) (e : lnS S (odS S p) = lnS S (odS S q)) (e2 : lfS S (odS S p) = lfS S (odS S q)) : odS S p < odS S q := by
  obtain ⟨h1, h2⟩ := plS_od (S := S) (p := p) (by omega)
  obtain ⟨h3, h4⟩ := plS_od (S := S) hq
  have h5 := rk_le (a := fun k => (lnS S k : Int)) (b := lfS S) h1 h3 (by
    show plS S _ < plS S _
    omega)
  rw [lx_iff] at h5
  omega
/-- the bands hold their strokes -/
theorem grL_band {tp bo : Nat → Int} {N : Nat} (hc : ∀ k, k < N → 0 ≤ tp k ∧ tp k ≤ 1000 ∧ 0 ≤ bo k ∧ bo k ≤ 1000) : ∀ {n : Nat}, n ≤ N → ∀ j, j < n → (grL tp bo n).2.1 ((grL tp bo n).2.2.2 j).toNat ≤ tp j ∧ bo j ≤ (grL tp bo n).2.2.1 ((grL tp bo n).2.2.2 j).toNat
  | 0, _ => fun j h => absurd h (Nat.not_lt_zero j)
  | n + 1, hn => by
    have ih := grL_band hc (n := n) (by omega)
    obtain ⟨h1, h2, -, -⟩ := grL_ok hc (n := n) (by omega)
    rw [grL_s]
    generalize grL tp bo n = s at h1 h2 ih ⊢
    obtain ⟨m, bt, bb, lo⟩ := s
    dsimp only at h1 h2 ih
    unfold grLT
    dsimp only
    have hr := bf_rng (bt := bt) (bb := bb) (t := tp n) (b := bo n) (m := m)
    generalize bf bt bb (tp n) (bo n) m = r at hr ⊢
    obtain ⟨r, q⟩ := r
    dsimp only at hr ⊢
    by_cases e : r = -5
    · rw [if_pos e]
      dsimp only
      intro j hj
      by_cases z : j = n
      · subst z
        rw [upz_s, Int.toNat_natCast, upz_s, upz_s]
        exact ⟨Int.le_refl _, Int.le_refl _⟩
      · have a := h2 j (by omega)
        have b := ih j (by omega)
        rw [upz_n z, upz_n (by omega), upz_n (by omega)]
        exact b
    · rw [if_neg e]
      have hr := hr.resolve_left e
      dsimp only
      intro j hj
      by_cases z : j = n
      · subst z
        rw [upz_s, upz_s, upz_s]
        omega
      · have a := h2 j (by omega)
        have b := ih j (by omega)
        rw [upz_n z]
        by_cases y : (lo j).toNat = r.toNat
        · rw [y] at b ⊢
          rw [upz_s, upz_s]
          omega
        · rw [upz_n y, upz_n y]
          exact b
theorem fnd_rk {S : List Stk} (hS : OkS S) {k : Nat} (h : k < S.length) : fnd (rkS S) (lnS S k) (mS S) = ((GS S).2.2.2 k).toNat := by
  have h1 := (GS_ok hS).2.1 k h
  exact fnd_of (by omega) rfl (fun j hj e => rk_inj hj (by omega) e)
theorem ln_band {S : List Stk} {g : Int} (hS : OkS S) {k : Nat} (h : k < S.length) : lineS S g (lnS S k : Int) 0 ≤ tpS S k ∧ boS S k ≤ lineS S g (lnS S k : Int) 1 := by
  rw [ln_0 (lnS_lt hS h), ln_1 (lnS_lt hS h), fnd_rk hS h]
  exact grL_band (fun k hk => (bdS hS hk).1) (Nat.le_refl _) k h
theorem fnd_ok {S : List Stk} {L : Nat} (h : L < mS S) : fnd (rkS S) L (mS S) < mS S ∧ rkS S (fnd (rkS S) L (mS S)) = L := by
  obtain ⟨i, hi, e⟩ := rk_onto (a := (GS S).2.1) (b := (GS S).2.2.1) h
  have e2 : fnd (rkS S) L (mS S) = i := fnd_of hi e (fun j hj e3 => rk_inj hj hi (e3.trans e.symm))
  rw [e2]
  exact ⟨hi, e⟩
theorem ln_sorted {S : List Stk} {g : Int} {L : Nat} (h : L + 1 < mS S) : lineS S g (L : Int) 0 < lineS S g ((L + 1 : Nat) : Int) 0 ∨ (lineS S g (L : Int) 0 = lineS S g ((L + 1 : Nat) : Int) 0 ∧ lineS S g (L : Int) 1 ≤ lineS S g ((L + 1 : Nat) : Int) 1) := by
  rw [ln_0 (by omega), ln_0 h, ln_1 (by omega), ln_1 h]
  obtain ⟨h1, h2⟩ := fnd_ok (S := S) (L := L) (by omega)
  obtain ⟨h3, h4⟩ := fnd_ok h
  have h5 := rk_le (a := (GS S).2.1) (b := (GS S).2.2.1) h1 h3 (by
    show rkS S _ < rkS S _
    omega)
  rw [lx_iff] at h5
  omega
theorem ln_rng {S : List Stk} {g : Int} (hS : OkS S) {L : Nat} (h : L < mS S) : 0 ≤ lineS S g (L : Int) 0 ∧ lineS S g (L : Int) 0 ≤ 1000 ∧ 0 ≤ lineS S g (L : Int) 1 ∧ lineS S g (L : Int) 1 ≤ 1000 := by
  rw [ln_0 h, ln_1 h]
  exact (GS_ok hS).2.2.1 _ (fnd_ok h).1
/-- sums over classes -/
theorem sum_add {f h : Nat → Int} : ∀ n : Nat, itr (fun k a => a + (f k + h k)) 0 n = itr (fun k a => a + f k) 0 n + itr (fun k a => a + h k) 0 n
  | 0 => rfl
  | n + 1 => by
    rw [itr_s, itr_s, itr_s, sum_add n]
    omega
theorem sum_zero : ∀ n : Nat, itr (fun (_ : Nat) (a : Int) => a + 0) 0 n = 0
  | 0 => rfl
  | n + 1 => by rw [itr_s, sum_zero n]; rfl
theorem sum_one {i : Nat} : ∀ {n : Nat}, itr (fun k (a : Int) => a + (if i = k then 1 else 0)) 0 n = (if i < n then 1 else 0)
  | 0 => rfl
  | n + 1 => by
    rw [itr_s, sum_one (n := n)]
    by_cases z : i = n
    · subst z
      rw [if_neg (Nat.lt_irrefl _), if_pos rfl, if_pos (Nat.lt_succ_self _)]
      rfl
    · rw [if_neg z]
      by_cases y : i < n
      · rw [if_pos y, if_pos (by omega)]; rfl
      · rw [if_neg y, if_neg (by omega)]; rfl
theorem sum_ct {f : Nat → Nat} {w : Nat} : ∀ {p : Nat}, (∀ q, q < p → f q < w) → itr (fun x (a : Int) => a + ((fb_ct (fun q => decide (f q = x)) p : Nat) : Int)) 0 w = (p : Int)
  | 0, _ => by
    have : (fun (x : Nat) (a : Int) => a + ((fb_ct (fun q => decide (f q = x)) 0 : Nat) : Int)) = fun _ a => a + 0 := rfl
    rw [this, sum_zero]
    rfl
  | p + 1, h => by
    have ih := sum_ct (f := f) (w := w) (p := p) (fun q hq => h q (by omega))
    have e : (fun (x : Nat) (a : Int) => a + ((fb_ct (fun q => decide (f q = x)) (p + 1) : Nat) : Int)) = fun x a => a + (((fb_ct (fun q => decide (f q = x)) p : Nat) : Int) + (if f p = x then 1 else 0)) := by
      funext x a
      rw [fb_ct_succ]
      by_cases z : f p = x
      · rw [if_pos z, if_pos (by simp [z])]; omega
      · rw [if_neg z, if_neg (by simp [z])]; omega
    rw [e, sum_add, ih, sum_one, if_pos (h p (by omega))]
    omega
theorem sum_upz {F : Nat → Int} {i : Nat} {v : Int} : ∀ {n : Nat}, itr (fun x a => a + upz F i v x) 0 n = itr (fun x a => a + F x) 0 n + (if i < n then v - F i else 0)
  | 0 => by rw [if_neg (Nat.not_lt_zero _)]; rfl
  | n + 1 => by
    rw [itr_s, itr_s, sum_upz (n := n)]
    by_cases z : i = n
    · subst z
      rw [upz_s, if_neg (Nat.lt_irrefl _), if_pos (Nat.lt_succ_self _)]
      omega
    · rw [upz_n (fun y => z y.symm)]
      by_cases y : i < n
      · rw [if_pos y, if_pos (by omega)]; omega
      · rw [if_neg y, if_neg (by omega)]; omega
theorem sum_lines {S : List Stk} {g : Int} (hS : OkS S) : ∀ {m : Nat}, m = mS S → itr (fun L a => a + lineS S g (L : Int) 2) 0 m = (S.length : Int) := by
  intro m hm
  subst hm
  rw [itr_congr (g := fun L a => a + ((fb_ct (fun q => decide (lnS S q = L)) S.length : Nat) : Int)) (fun L b hL => by
    rw [ln_2 hL]
    rfl)]
  exact sum_ct (fun q hq => lnS_lt hS hq)
/-- the words' number before a place -/
def wn (S : List Stk) (g : Int) (k : Nat) : Nat := (wdA S g wd0 k).1
theorem wn_step {S : List Stk} {g : Int} {k : Nat} (hk : k < S.length) : (bgF S g k → wn S g (k + 1) = wn S g k + 1 ∧ RtF S g (k + 1) = rtS S (odS S k)) ∧ (¬ bgF S g k → wn S g (k + 1) = wn S g k ∧ RtF S g (k + 1) = max (rtS S (odS S k)) (RtF S g k)) := by
  obtain ⟨-, h1, h2⟩ := WI_step (gap := g) hk (WI_run k (by omega))
  exact ⟨fun z => ⟨(h1 z).1, (h1 z).2.1⟩, fun z => ⟨(h2 z).1, (h2 z).2.1⟩⟩
theorem wn_mono {S : List Stk} {g : Int} : ∀ {a d : Nat}, a + d ≤ S.length → wn S g a ≤ wn S g (a + d)
  | a, 0, _ => Nat.le_refl _
  | a, d + 1, h => by
    have ih := wn_mono (S := S) (g := g) (a := a) (d := d) (by omega)
    have hs := wn_step (S := S) (g := g) (k := a + d) (by omega)
    rw [show a + (d + 1) = a + d + 1 by omega]
    by_cases q : bgF S g (a + d)
    · have := (hs.1 q).1; omega
    · have := (hs.2 q).1; omega
theorem wn_pos {S : List Stk} {g : Int} {k : Nat} (hk : k < S.length) : 1 ≤ wn S g (k + 1) := by
  have h := (WI_run (S := S) (gap := g) (k + 1) (by omega)).1
  exact (h.2.1 (by omega)).1
theorem wo_keep {S : List Stk} {g : Int} : ∀ {p : Nat}, p ≤ S.length → ∀ q, q < p → (wdA S g wd0 p).2.2.1 (odS S q) = ((wn S g (q + 1) - 1 : Nat) : Int)
  | 0, _ => fun q h => absurd h (Nat.not_lt_zero q)
  | p + 1, hp => by
    intro q hq
    obtain ⟨-, h1, h2⟩ := WI_step (S := S) (gap := g) (p := p) (by omega) (WI_run p (by omega))
    have ih := wo_keep (S := S) (g := g) (p := p) (by omega)
    by_cases z : q = p
    · subst z
      by_cases y : bgF S g q
      · obtain ⟨a, -, c⟩ := h1 y
        rw [c, upz_s]
        show _ = (((wdA S g wd0 (q + 1)).1 - 1 : Nat) : Int)
        rw [a]
        rfl
      · obtain ⟨a, -, c⟩ := h2 y
        rw [c, upz_s]
        show _ = (((wdA S g wd0 (q + 1)).1 - 1 : Nat) : Int)
        rw [a]
    · have hne : odS S q ≠ odS S p := fun e => z (odS_inj (by omega) (by omega) e)
      by_cases y : bgF S g p
      · rw [(h1 y).2.2, upz_n hne]; exact ih q (by omega)
      · rw [(h2 y).2.2, upz_n hne]; exact ih q (by omega)
theorem wo_at {S : List Stk} {g : Int} {k : Nat} (hk : k < S.length) : (WD S g).2.2.1 (odS S k) = ((wn S g (k + 1) - 1 : Nat) : Int) := wo_keep (Nat.le_refl _) k hk
theorem wn_lt {S : List Stk} {g : Int} {k : Nat} (hk : k < S.length) : wn S g (k + 1) - 1 < (WD S g).1 := by
  have h1 := wn_pos (g := g) hk
  have h2 := wn_mono (g := g) (a := k + 1) (d := S.length - (k + 1)) (S := S) (by omega)
  rw [show k + 1 + (S.length - (k + 1)) = S.length by omega] at h2
  have h3 : wn S g S.length = (WD S g).1 := rfl
  omega
theorem wr_line {S : List Stk} {g : Int} {k : Nat} (hk : k < S.length) : wordS S g ((wn S g (k + 1) - 1 : Nat) : Int) 0 = (lnS S (odS S k) : Int) := by
  rw [wr_0 (wn_lt hk)]
  obtain ⟨h1, -⟩ := WI_run (S := S) (gap := g) S.length (Nat.le_refl _)
  have h5 := h1.2.2.2.2.1 k hk
  have e := wo_at (g := g) hk
  have e' : (wdA S g wd0 S.length).2.2.1 (odS S k) = ((wn S g (k + 1) - 1 : Nat) : Int) := e
  rw [e', Int.toNat_natCast] at h5
  exact h5
theorem wr_first {S : List Stk} {g : Int} {k : Nat} (hk : k < S.length) (hb : bgF S g k) : wordS S g ((wn S g (k + 1) - 1 : Nat) : Int) 4 = (k : Int) := by
  rw [wr_4 (wn_lt hk)]
  obtain ⟨h1, -⟩ := WI_run (S := S) (gap := g) S.length (Nat.le_refl _)
  obtain ⟨q, a1, a2, a3, -, a5⟩ := h1.2.2.2.2.2.2.1 _ (wn_lt (g := g) hk)
  have e3 : (WD S g).2.2.2.2.2.2.2.1 (wn S g (k + 1) - 1) = (q : Int) := a3
  rw [e3]
  have e2 := wo_keep (g := g) (Nat.le_refl S.length) q a1
  rw [a2] at e2
  have hs := (wn_step (g := g) hk).1 hb
  rcases Nat.lt_trichotomy q k with z | z | z
  · have h2 := wn_mono (g := g) (a := q + 1) (d := k - (q + 1)) (S := S) (by omega)
    rw [show q + 1 + (k - (q + 1)) = k by omega] at h2
    have h3 := wn_pos (g := g) a1
    omega
  · rw [z]
  · exact absurd (wo_keep (g := g) (Nat.le_refl S.length) k hk) (a5 k z)
theorem ln_first {S : List Stk} {g : Int} (hS : OkS S) {k : Nat} (hk : k < S.length) (hn : k = 0 ∨ lnS S (odS S k) ≠ lnS S (odS S (k - 1))) : lineS S g (lnS S (odS S k) : Int) 4 = ((wn S g (k + 1) - 1 : Nat) : Int) := by
  rw [ln_4 (lnS_lt hS (od_lt hk))]
  obtain ⟨-, h2⟩ := WI_run (S := S) (gap := g) S.length (Nat.le_refl _)
  obtain ⟨q0, q1, a1, a2, a3, a4, a5, a6, a7, a8⟩ := h2 (lnS S (odS S k)) ⟨k, hk, rfl⟩
  have e7 : (WD S g).2.2.2.2.2.2.2.2.2 (lnS S (odS S k)) = (WD S g).2.2.1 (odS S q0) := a7
  rw [e7]
  have hz : q0 = k := by
    rcases Nat.lt_trichotomy q0 k with z | z | z
    · exact absurd a3 (ln_new hk hn q0 z)
    · exact z
    · exact absurd rfl (a5 k z)
  rw [hz, wo_at hk]
theorem wr_rng {S : List Stk} {g : Int} (hS : OkS S) {x : Nat} (hx : x < (WD S g).1) : 0 ≤ wordS S g (x : Int) 2 ∧ wordS S g (x : Int) 2 ≤ wordS S g (x : Int) 3 ∧ wordS S g (x : Int) 3 ≤ 1000 := by
  rw [wr_2 hx, wr_3 hx]
  obtain ⟨h1, -⟩ := WI_run (S := S) (gap := g) S.length (Nat.le_refl _)
  obtain ⟨q, a1, a2, -, a4, -⟩ := h1.2.2.2.2.2.2.1 x hx
  obtain ⟨b1, q2, b2, -, b4⟩ := h1.2.2.2.2.2.2.2 x hx
  have c1 := b1 q a1 a2
  have d1 := (bdS hS (od_lt a1)).2
  have d2 := (bdS hS (od_lt b2)).2
  have d3 : lfS S (odS S q) ≤ rtS S (odS S q) := by
    have z := ok_sz hS (od_lt a1)
    have m1 := mnF_le (X := px (gk S (odS S q))) (n := szk (gk S (odS S q)) - 1) 0 (Nat.zero_le _)
    have m2 := le_mxF (X := px (gk S (odS S q))) (n := szk (gk S (odS S q)) - 1) 0 (Nat.zero_le _)
    unfold lfS rtS lfK rtK
    omega
  have e4 : (WD S g).2.2.2.2.2.1 x = lfS S (odS S q) := a4
  have e5 : (WD S g).2.2.2.2.2.2.1 x = rtS S (odS S q2) := b4
  have e6 : rtS S (odS S q) ≤ (WD S g).2.2.2.2.2.2.1 x := c1
  omega
theorem sum_words {S : List Stk} {g : Int} : ∀ {m : Nat}, m = (WD S g).1 → itr (fun x a => a + wordS S g (x : Int) 1) 0 m = (S.length : Int) := by
  intro m hm
  subst hm
  obtain ⟨h1, -⟩ := WI_run (S := S) (gap := g) S.length (Nat.le_refl _)
  rw [itr_congr (g := fun x a => a + ((fb_ct (fun q => decide (wn S g (q + 1) - 1 = x)) S.length : Nat) : Int)) (fun x b hx => by
    rw [wr_1 hx]
    have h6 : (WD S g).2.2.2.2.1 x = _ := h1.2.2.2.2.2.1 x hx
    rw [h6, fb_ct_cong (q := fun q => decide (wn S g (q + 1) - 1 = x)) (fun q hq => by
      rw [wo_keep (g := g) (Nat.le_refl S.length) q hq]
      exact decide_eq_decide.mpr (by omega))])]
  exact sum_ct (fun q hq => wn_lt hq)
/-- the lines' words together -/
def WSm (S : List Stk) (p : Nat) (s : WdT) : Prop := itr (fun L a => a + s.2.2.2.2.2.2.2.2.1 L) 0 (mS S) = (s.1 : Int) ∧ ∀ L, (∀ q, q < p → lnS S (odS S q) ≠ L) → s.2.2.2.2.2.2.2.2.1 L = 0
theorem WSm_step {S : List Stk} {g : Int} (hS : OkS S) {p : Nat} (hp : p < S.length) (h : WSm S p (wdA S g wd0 p)) : WSm S (p + 1) (wdA S g wd0 (p + 1)) := by
  have hW := (WI_run (S := S) (gap := g) p (by omega)).1
  rw [wdA_s]
  have hm := lnS_lt hS (od_lt hp)
  generalize wdA S g wd0 p = s at h hW ⊢
  obtain ⟨w, lb, wo, li, si, le, ri, fi, wi, fn⟩ := s
  obtain ⟨h1, h2⟩ := h
  obtain ⟨-, a2, a3, -⟩ := hW
  dsimp only at h1 h2 a2 a3
  by_cases hl : (lnS S (odS S p) : Int) = lb
  · by_cases hr : ri (w - 1) + g < lfS S (odS S p)
    · rw [wd_B hl hr]
      refine ⟨?_, fun L hL => ?_⟩
      · dsimp only
        rw [sum_upz, h1, if_pos hm]
        omega
      · dsimp only
        rw [upz_n (fun z => hL p (by omega) z.symm)]
        exact h2 L (fun q hq => hL q (by omega))
    · rw [wd_C hl hr]
      exact ⟨h1, fun L hL => h2 L (fun q hq => hL q (by omega))⟩
  · rw [wd_A hl]
    have hnew : p = 0 ∨ lnS S (odS S p) ≠ lnS S (odS S (p - 1)) := by
      rcases Nat.eq_zero_or_pos p with z | z
      · exact Or.inl z
      · have := (a2 z).2.1
        exact Or.inr (fun y => hl (by rw [this, y]))
    have h0 := h2 (lnS S (odS S p)) (ln_new hp hnew)
    refine ⟨?_, fun L hL => ?_⟩
    · dsimp only
      rw [sum_upz, h1, if_pos hm, h0]
      omega
    · dsimp only
      rw [upz_n (fun z => hL p (by omega) z.symm)]
      exact h2 L (fun q hq => hL q (by omega))
theorem WSm_run {S : List Stk} {g : Int} (hS : OkS S) : ∀ p, p ≤ S.length → WSm S p (wdA S g wd0 p)
  | 0, _ => ⟨sum_zero _, fun _ _ => rfl⟩
  | p + 1, hp => WSm_step hS (by omega) (WSm_run hS p (by omega))
theorem sum_lw {S : List Stk} {g : Int} (hS : OkS S) : ∀ {m : Nat}, m = mS S → itr (fun L a => a + lineS S g (L : Int) 3) 0 m = ((WD S g).1 : Int) := by
  intro m hm
  subst hm
  rw [itr_congr (g := fun L a => a + (WD S g).2.2.2.2.2.2.2.2.1 L) (fun L b hL => by rw [ln_3 hL])]
  exact (WSm_run hS S.length (Nat.le_refl _)).1
theorem wi_nn {S : List Stk} {g : Int} (hS : OkS S) {L : Nat} (h : L < mS S) : 0 ≤ lineS S g (L : Int) 3 := by
  rw [ln_3 h]
  obtain ⟨h1, h2⟩ := WI_run (S := S) (gap := g) S.length (Nat.le_refl _)
  obtain ⟨j, hj, e⟩ := lnS_onto hS h
  obtain ⟨q0, q1, a1, a2, a3, a4, a5, a6, a7, a8⟩ := h2 L ⟨plS S j, plS_lt hj, by rw [odS_pl hj]; exact e⟩
  have e8 : (WD S g).2.2.2.2.2.2.2.2.1 L = (WD S g).2.2.1 (odS S q1) - (WD S g).2.2.1 (odS S q0) + 1 := a8
  rw [e8, wo_at a1, wo_at a2]
  have hq : q0 ≤ q1 := Nat.le_of_not_lt (fun z => a6 q0 z a1 a3)
  have := wn_mono (g := g) (a := q0 + 1) (d := q1 - q0) (S := S) (by omega)
  rw [show q0 + 1 + (q1 - q0) = q1 + 1 by omega] at this
  have := wn_pos (g := g) a1
  omega
theorem sum_le {f : Nat → Int} {B : Int} {m : Nat} (hB : itr (fun k a => a + f k) 0 m ≤ B) (h : ∀ k, k < m → 0 ≤ f k) : ∀ {n : Nat}, n ≤ m → 0 ≤ itr (fun k a => a + f k) 0 n ∧ itr (fun k a => a + f k) 0 n ≤ B := by
  have mono : ∀ d n : Nat, n + d = m → 0 ≤ itr (fun k a => a + f k) 0 n ∧ itr (fun k a => a + f k) 0 n ≤ B := by
    have nn : ∀ n : Nat, n ≤ m → 0 ≤ itr (fun k a => a + f k) 0 n := by
      intro n
      induction n with
      | zero => intro _; exact Int.le_refl 0
      | succ n ih => intro hn; rw [itr_s]; have := ih (by omega); have := h n (by omega); omega
    intro d
    induction d with
    | zero => intro n hn; rw [show n = m by omega]; exact ⟨nn m (Nat.le_refl _), hB⟩
    | succ d ih =>
      intro n hn
      have := ih (n + 1) (by omega)
      rw [itr_s] at this
      have := h n (by omega)
      exact ⟨nn n (by omega), by omega⟩
  intro n hn
  exact mono (m - n) n (by omega)
/-- a set of small numbers as bits -/
def bitK (f : Nat → Nat) : Nat → Nat
  | 0 => 0
  | k + 1 => bitK f k ||| 2 ^ f k
theorem bitK_test {f : Nat → Nat} {i : Nat} : ∀ {k : Nat}, (bitK f k).testBit i = true ↔ ∃ q, q < k ∧ f q = i
  | 0 => by
    unfold bitK
    rw [Nat.zero_testBit]
    exact ⟨fun h => (by cases h), fun ⟨q, h, _⟩ => absurd h (Nat.not_lt_zero q)⟩
  | k + 1 => by
    unfold bitK
    rw [Nat.testBit_or, Bool.or_eq_true, bitK_test (k := k), Nat.testBit_two_pow, decide_eq_true_eq]
    constructor
    · rintro (⟨q, h1, h2⟩ | h)
      · exact ⟨q, by omega, h2⟩
      · exact ⟨k, by omega, h⟩
    · rintro ⟨q, h1, h2⟩
      by_cases z : q = k
      · subst z; exact Or.inr h2
      · exact Or.inl ⟨q, by omega, h2⟩
theorem bitK_lt {f : Nat → Nat} : ∀ {k : Nat}, (∀ q, q < k → f q < 16) → bitK f k < 65536
  | 0, _ => by
    show 0 < 65536
    decide
  | k + 1, h => by
    unfold bitK
    have h1 := bitK_lt (f := f) (k := k) (fun q hq => h q (by omega))
    have h2 : 2 ^ f k < 2 ^ 16 := Nat.pow_lt_pow_right (by decide) (h k (by omega))
    exact Nat.or_lt_two_pow (n := 16) h1 h2
theorem n31 {s : Nat} (h : s < 31) : ((iI (s : Int) &&& 31).toBitVec.smod 32).toNat = s := by
  rw [iI_mask 5 (by omega) (by omega) rfl]
  rw [show ((s : Int) % 2 ^ 5) = (s : Int) by omega]
  have hs : (iI (s : Int)).toBitVec = BitVec.ofNat 32 s := by
    apply BitVec.eq_of_toNat_eq
    rw [iI_bv (by omega), BitVec.toNat_ofNat, Nat.mod_eq_of_lt (by omega)]
  rw [hs]
  have key : ∀ s : Fin 31, ((BitVec.ofNat 32 s.val).smod 32).toNat = s.val := by decide
  exact key ⟨s, h⟩
theorem bit_get {k s : Nat} (hk : k < 65536) (hs : s < 16) : (iI (k : Int) >>> (iI (s : Int) &&& 31)) &&& iI 1 = iI (bI (k.testBit s)) := by
  have e2 : k / 2 ^ s < 2147483648 := Nat.lt_of_le_of_lt (Nat.div_le_self _ _) (by omega)
  rw [iI_N (by omega), pk_shrN (show k < 2 ^ 31 by omega) _ s (n31 (by omega)), ← iI_N e2]
  generalize hq : k / 2 ^ s = v at e2
  rw [iI_mask 1 (by omega) (by omega) rfl]
  congr 1
  rw [Nat.testBit_eq_decide_div_mod_eq]
  rw [hq]
  by_cases z : v % 2 = 1
  · rw [decide_eq_true z]; show _ = (1 : Int); omega
  · rw [decide_eq_false z]; show _ = (0 : Int); omega
theorem bit_put {k s : Nat} (hk : k < 65536) (hs : s < 16) : iI (k : Int) ||| (iI 1 <<< (iI (s : Int) &&& 31)) = iI ((k ||| 2 ^ s : Nat) : Int) := by
  have h2 : 2 ^ s < 2 ^ 16 := Nat.pow_lt_pow_right (by decide) hs
  have h3 : k ||| 2 ^ s < 2 ^ 16 := Nat.or_lt_two_pow hk h2
  have e1 : iI 1 <<< (iI (s : Int) &&& 31) = iI ((2 ^ s : Nat) : Int) := by
    have := pk_shlN (n := 1) (iI (s : Int) &&& 31) s (n31 (by omega)) (by omega)
    rw [Nat.one_mul] at this
    rw [iI_N (by omega)]
    exact this
  rw [e1]
  apply Int32.toBitVec_inj.mp
  apply BitVec.eq_of_toNat_eq
  rw [Int32.toBitVec_or, BitVec.toNat_or, iI_bv (by omega), iI_bv (by omega), iI_bv (by omega)]
end FACTO
