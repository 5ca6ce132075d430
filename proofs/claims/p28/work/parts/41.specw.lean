/-! what holds of the words, place by place -/
section SPECW
theorem upz_uu {F : Nat → Int} {i : Nat} {a b : Int} : upz (upz F i a) i b = upz F i b := by
  funext k
  unfold upz
  by_cases e : k = i
  · rw [if_pos e, if_pos e]
  · rw [if_neg e, if_neg e, if_neg e]
theorem fb_ct_perm {P : Nat → Bool} : ∀ {n : Nat} {f : Nat → Nat}, (∀ i, i < n → f i < n) → (∀ i j, i < n → j < n → f i = f j → i = j) → fb_ct (fun q => P (f q)) n = fb_ct P n
  | 0, _, _, _ => rfl
  | n + 1, f, hf, hi => by
    obtain ⟨i0, h0, e0⟩ := fb_onto (n := n + 1) (f := f) hf (fun i j hij hj e => by have := hi i j (by omega) hj e; omega) (y := n) (Nat.lt_succ_self n)
    by_cases q : i0 = n
    · subst q
      rw [fb_ct_succ, fb_ct_succ, e0]
      rw [fb_ct_perm (n := i0) (f := f) (fun i hi2 => by
        have h1 := hf i (by omega)
        have h2 : f i ≠ f i0 := fun e => by have := hi i i0 (by omega) (by omega) e; omega
        omega) (fun i j hi2 hj2 e => hi i j (by omega) (by omega) e)]
    · have hlt : i0 < n := by omega
      have hn := hf n (Nat.lt_succ_self n)
      have hne : f n ≠ n := fun e => by have := hi n i0 (by omega) (by omega) (by rw [e, e0]); omega
      have ih := fb_ct_perm (P := P) (n := n) (f := fun k => if k = i0 then f n else f k) (fun i hi2 => by
        try dsimp only
        by_cases e : i = i0
        · rw [if_pos e]; omega
        · rw [if_neg e]
          have h1 := hf i (by omega)
          have h2 : f i ≠ f i0 := fun z => e (hi i i0 (by omega) (by omega) z)
          omega) (fun i j hi2 hj2 e => by
        try dsimp only at e
        by_cases e1 : i = i0
        · by_cases e2 : j = i0
          · rw [e1, e2]
          · rw [if_pos e1, if_neg e2] at e
            have := hi n j (by omega) (by omega) e
            omega
        · by_cases e2 : j = i0
          · rw [if_neg e1, if_pos e2] at e
            have := hi i n (by omega) (by omega) e
            omega
          · rw [if_neg e1, if_neg e2] at e
            exact hi i j (by omega) (by omega) e)
      have hu := fb_ct_upd (fun k => P (f k)) (P (f n)) (i := i0) (n := n) hlt
      rw [fb_ct_succ, fb_ct_succ]
      have hc : fb_ct (fun k => if k = i0 then P (f n) else P (f k)) n = fb_ct P n := by
        rw [← ih]
        refine fb_ct_cong (fun k _ => ?_)
        try dsimp only
        by_cases e : k = i0
        · rw [if_pos e, if_pos e]
        · rw [if_neg e, if_neg e]
      rw [hc, e0] at hu
      omega
theorem odS_inj {S : List Stk} {p q : Nat} (hp : p < S.length) (hq : q < S.length) (e : odS S p = odS S q) : p = q := by
  have h1 := (plS_od (S := S) hp).2
  have h2 := (plS_od (S := S) hq).2
  rw [e] at h1
  omega
theorem ct_od {S : List Stk} {P : Nat → Bool} : fb_ct (fun q => P (odS S q)) S.length = fb_ct P S.length :=
  fb_ct_perm (fun _ h => (plS_od h).1) (fun _ _ hi hj e => odS_inj hi hj e)
theorem wd_A {S : List Stk} {gap : Int} {p w : Nat} {lb : Int} {wo li si le ri fi wi fn : Nat → Int} (h : ¬ (lnS S (odS S p) : Int) = lb) : wdStep S gap p (w, lb, wo, li, si, le, ri, fi, wi, fn) = (w + 1, (lnS S (odS S p) : Int), upz wo (odS S p) (w : Int), upz li w (lnS S (odS S p) : Int), upz si w 1, upz le w (lfS S (odS S p)), upz ri w (rtS S (odS S p)), upz fi w (p : Int), upz wi (lnS S (odS S p)) 1, upz fn (lnS S (odS S p)) (w : Int)) := by
  have e1 : wd1 (lnS S (odS S p)) (w, lb, wo, li, si, le, ri, fi, wi, fn) = (w, lb, wo, li, si, le, ri, fi, upz wi (lnS S (odS S p)) 0, upz fn (lnS S (odS S p)) (w : Int)) := if_neg h
  unfold wdStep
  rw [e1]
  unfold wd2
  rw [if_pos (by unfold wdB; exact decide_eq_true (Or.inl h))]
  unfold wd3
  try dsimp only
  rw [Nat.add_sub_cancel, upz_uu, upz_uu, upz_uu, upz_s, upz_s, upz_s]
  rw [show max (rtS S (odS S p)) (rtS S (odS S p)) = rtS S (odS S p) by omega]
  rfl
theorem wd_B {S : List Stk} {gap : Int} {p w : Nat} {lb : Int} {wo li si le ri fi wi fn : Nat → Int} (h : (lnS S (odS S p) : Int) = lb) (h2 : ri (w - 1) + gap < lfS S (odS S p)) : wdStep S gap p (w, lb, wo, li, si, le, ri, fi, wi, fn) = (w + 1, (lnS S (odS S p) : Int), upz wo (odS S p) (w : Int), upz li w (lnS S (odS S p) : Int), upz si w 1, upz le w (lfS S (odS S p)), upz ri w (rtS S (odS S p)), upz fi w (p : Int), upz wi (lnS S (odS S p)) (wi (lnS S (odS S p)) + 1), fn) := by
  have e1 : wd1 (lnS S (odS S p)) (w, lb, wo, li, si, le, ri, fi, wi, fn) = (w, lb, wo, li, si, le, ri, fi, wi, fn) := if_pos h
  unfold wdStep
  rw [e1]
  unfold wd2
  rw [if_pos (by unfold wdB; exact decide_eq_true (Or.inr h2))]
  unfold wd3
  try dsimp only
  rw [Nat.add_sub_cancel, upz_uu, upz_uu, upz_s, upz_s]
  rw [show max (rtS S (odS S p)) (rtS S (odS S p)) = rtS S (odS S p) by omega]
  rfl
theorem wd_C {S : List Stk} {gap : Int} {p w : Nat} {lb : Int} {wo li si le ri fi wi fn : Nat → Int} (h : (lnS S (odS S p) : Int) = lb) (h2 : ¬ ri (w - 1) + gap < lfS S (odS S p)) : wdStep S gap p (w, lb, wo, li, si, le, ri, fi, wi, fn) = (w, (lnS S (odS S p) : Int), upz wo (odS S p) ((w - 1 : Nat) : Int), li, upz si (w - 1) (si (w - 1) + 1), le, upz ri (w - 1) (max (rtS S (odS S p)) (ri (w - 1))), fi, wi, fn) := by
  have e1 : wd1 (lnS S (odS S p)) (w, lb, wo, li, si, le, ri, fi, wi, fn) = (w, lb, wo, li, si, le, ri, fi, wi, fn) := if_pos h
  unfold wdStep
  rw [e1]
  unfold wd2
  rw [if_neg (by unfold wdB; simp only [decide_eq_true_eq]; exact fun z => z.elim (fun y => y h) h2)]
  rfl
/-- the words so far: wo, li, si, ri, fi, le at the places before p -/
def WI1 (S : List Stk) (p : Nat) (w : Nat) (lb : Int) (wo li si le ri fi : Nat → Int) : Prop :=
  w ≤ p ∧ (0 < p → 1 ≤ w ∧ lb = (lnS S (odS S (p - 1)) : Int) ∧ wo (odS S (p - 1)) = ((w - 1 : Nat) : Int)) ∧ (p = 0 → lb = -5) ∧
  (∀ q, q < p → 0 ≤ wo (odS S q) ∧ wo (odS S q) < (w : Int)) ∧
  (∀ q, q < p → li (wo (odS S q)).toNat = (lnS S (odS S q) : Int)) ∧
  (∀ x, x < w → si x = (fb_ct (fun q => decide (wo (odS S q) = (x : Int))) p : Nat)) ∧
  (∀ x : Nat, x < w → ∃ q, q < p ∧ wo (odS S q) = (x : Int) ∧ fi x = (q : Int) ∧ le x = lfS S (odS S q) ∧ ∀ q2, q2 < q → wo (odS S q2) ≠ (x : Int)) ∧
  (∀ x : Nat, x < w → (∀ q, q < p → wo (odS S q) = (x : Int) → rtS S (odS S q) ≤ ri x) ∧ ∃ q, q < p ∧ wo (odS S q) = (x : Int) ∧ ri x = rtS S (odS S q))
/-- the lines so far: their first words, and how many -/
def WI2 (S : List Stk) (p : Nat) (wo wi fn : Nat → Int) : Prop :=
  ∀ L, (∃ q, q < p ∧ lnS S (odS S q) = L) → ∃ q0 q1, q0 < p ∧ q1 < p ∧ lnS S (odS S q0) = L ∧ lnS S (odS S q1) = L ∧ (∀ q, q < q0 → lnS S (odS S q) ≠ L) ∧ (∀ q, q1 < q → q < p → lnS S (odS S q) ≠ L) ∧ fn L = wo (odS S q0) ∧ wi L = wo (odS S q1) - wo (odS S q0) + 1
theorem WI1_new {S : List Stk} {p w : Nat} {lb : Int} {wo li si le ri fi : Nat → Int} (hp : p < S.length) (h : WI1 S p w lb wo li si le ri fi) : WI1 S (p + 1) (w + 1) (lnS S (odS S p) : Int) (upz wo (odS S p) (w : Int)) (upz li w (lnS S (odS S p) : Int)) (upz si w 1) (upz le w (lfS S (odS S p))) (upz ri w (rtS S (odS S p))) (upz fi w (p : Int)) := by
  obtain ⟨a1, a2, a3, a4, a5, a6, a7, a8⟩ := h
  have hne : ∀ q, q < p → odS S q ≠ odS S p := fun q hq e => by have := odS_inj (by omega) hp e; omega
  have hwo : ∀ q, q < p → upz wo (odS S p) (w : Int) (odS S q) = wo (odS S q) := fun q hq => upz_n (hne q hq)
  have hwp : upz wo (odS S p) (w : Int) (odS S p) = (w : Int) := upz_s
  generalize upz wo (odS S p) (w : Int) = wo2 at hwo hwp
  refine ⟨by omega, fun _ => ⟨by omega, by rw [Nat.add_sub_cancel], by rw [Nat.add_sub_cancel, Nat.add_sub_cancel]; exact hwp⟩, fun z => absurd z (by omega), fun q hq => ?_, fun q hq => ?_, fun x hx => ?_, fun x hx => ?_, fun x hx => ?_⟩
  · rcases Nat.lt_or_ge q p with z | z
    · rw [hwo q z]; have := a4 q z; omega
    · obtain rfl : q = p := by omega
      rw [hwp]; omega
  · rcases Nat.lt_or_ge q p with z | z
    · rw [hwo q z]
      have h4 := a4 q z
      rw [upz_n (by omega)]
      exact a5 q z
    · obtain rfl : q = p := by omega
      rw [hwp, Int.toNat_natCast, upz_s]
  · rw [fb_ct_succ, hwp]
    rw [fb_ct_cong (q := fun q => decide (wo (odS S q) = (x : Int))) (fun q hq => by (try dsimp only); rw [hwo q hq])]
    by_cases z : x = w
    · subst z
      rw [upz_s, if_pos (by simp), fb_ct_zero.mpr (fun q hq => by have := a4 q hq; exact decide_eq_false (by omega))]
      rfl
    · rw [upz_n z, if_neg (by simp; omega), a6 x (by omega)]
      rfl
  · by_cases z : x = w
    · subst z
      exact ⟨p, by omega, hwp, upz_s, upz_s, fun q2 h2 => by rw [hwo q2 h2]; have := a4 q2 h2; omega⟩
    · obtain ⟨q, b1, b2, b3, b4, b5⟩ := a7 x (by omega)
      exact ⟨q, by omega, by rw [hwo q b1]; exact b2, by rw [upz_n z]; exact b3, by rw [upz_n z]; exact b4, fun q2 h2 => by rw [hwo q2 (by omega)]; exact b5 q2 h2⟩
  · by_cases z : x = w
    · subst z
      refine ⟨fun q hq e => ?_, p, by omega, hwp, upz_s⟩
      rcases Nat.lt_or_ge q p with y | y
      · rw [hwo q y] at e; have := a4 q y; omega
      · obtain rfl : q = p := by omega
        rw [upz_s]; exact Int.le_refl _
    · obtain ⟨b1, q, b2, b3, b4⟩ := a8 x (by omega)
      refine ⟨fun q hq e => ?_, q, by omega, by rw [hwo q b2]; exact b3, by rw [upz_n z]; exact b4⟩
      rcases Nat.lt_or_ge q p with y | y
      · rw [hwo q y] at e; rw [upz_n z]; exact b1 q y e
      · obtain rfl : q = p := by omega
        rw [hwp] at e; omega
theorem WI1_old {S : List Stk} {p w : Nat} {lb : Int} {wo li si le ri fi : Nat → Int} (hp : p < S.length) (h : WI1 S p w lb wo li si le ri fi) (hl : (lnS S (odS S p) : Int) = lb) : WI1 S (p + 1) w (lnS S (odS S p) : Int) (upz wo (odS S p) ((w - 1 : Nat) : Int)) li (upz si (w - 1) (si (w - 1) + 1)) le (upz ri (w - 1) (max (rtS S (odS S p)) (ri (w - 1)))) fi := by
  obtain ⟨a1, a2, a3, a4, a5, a6, a7, a8⟩ := h
  have hp0 : 0 < p := by
    rcases Nat.eq_zero_or_pos p with z | z
    · have := a3 z; omega
    · exact z
  obtain ⟨c1, c2, c3⟩ := a2 hp0
  have hne : ∀ q, q < p → odS S q ≠ odS S p := fun q hq e => by have := odS_inj (by omega) hp e; omega
  have hwo : ∀ q, q < p → upz wo (odS S p) ((w - 1 : Nat) : Int) (odS S q) = wo (odS S q) := fun q hq => upz_n (hne q hq)
  have hwp : upz wo (odS S p) ((w - 1 : Nat) : Int) (odS S p) = ((w - 1 : Nat) : Int) := upz_s
  generalize upz wo (odS S p) ((w - 1 : Nat) : Int) = wo2 at hwo hwp
  refine ⟨by omega, fun _ => ⟨by omega, by rw [Nat.add_sub_cancel], by rw [Nat.add_sub_cancel]; exact hwp⟩, fun z => absurd z (by omega), fun q hq => ?_, fun q hq => ?_, fun x hx => ?_, fun x hx => ?_, fun x hx => ?_⟩
  · rcases Nat.lt_or_ge q p with z | z
    · rw [hwo q z]; exact a4 q z
    · obtain rfl : q = p := by omega
      rw [hwp]; omega
  · rcases Nat.lt_or_ge q p with z | z
    · rw [hwo q z]; exact a5 q z
    · obtain rfl : q = p := by omega
      rw [hwp, Int.toNat_natCast]
      have h9 := a5 (q - 1) (by omega)
      rw [c3, Int.toNat_natCast] at h9
      rw [h9, ← c2, hl]
  · rw [fb_ct_succ, hwp]
    rw [fb_ct_cong (q := fun q => decide (wo (odS S q) = (x : Int))) (fun q hq => by (try dsimp only); rw [hwo q hq])]
    by_cases z : x = w - 1
    · subst z
      rw [upz_s, if_pos (by simp), a6 (w - 1) (by omega)]
      rfl
    · rw [upz_n z, if_neg (by simp; omega), a6 x (by omega)]
      rfl
  · obtain ⟨q, b1, b2, b3, b4, b5⟩ := a7 x (by omega)
    exact ⟨q, by omega, by rw [hwo q b1]; exact b2, b3, b4, fun q2 h2 => by rw [hwo q2 (by omega)]; exact b5 q2 h2⟩
  · obtain ⟨b1, q, b2, b3, b4⟩ := a8 x (by omega)
    by_cases z : x = w - 1
    · subst z
      rw [upz_s]
      refine ⟨fun q hq e => ?_, ?_⟩
      · rcases Nat.lt_or_ge q p with y | y
        · rw [hwo q y] at e; have := b1 q y e; omega
        · obtain rfl : q = p := by omega
          omega
      · rcases Int.le_total (rtS S (odS S p)) (ri (w - 1)) with y | y
        · exact ⟨q, by omega, by rw [hwo q b2]; exact b3, by omega⟩
        · exact ⟨p, by omega, hwp, by omega⟩
    · rw [upz_n z]
      refine ⟨fun q hq e => ?_, q, by omega, by rw [hwo q b2]; exact b3, b4⟩
      rcases Nat.lt_or_ge q p with y | y
      · rw [hwo q y] at e; exact b1 q y e
      · obtain rfl : q = p := by omega
        rw [hwp] at e; omega
/-- a line that is new: no place before is in it -/
theorem ln_new {S : List Stk} {p : Nat} (hp : p < S.length) (h : p = 0 ∨ lnS S (odS S p) ≠ lnS S (odS S (p - 1))) : ∀ q, q < p → lnS S (odS S q) ≠ lnS S (odS S p) := by
  intro q hq e
  have h1 : lnS S (odS S (p - 1)) ≤ lnS S (odS S p) := by
    have := odS_le (S := S) (p := p - 1) (q := p) (by omega) hp
    omega
  have h2 : lnS S (odS S q) ≤ lnS S (odS S (p - 1)) := by
    rcases Nat.lt_or_ge q (p - 1) with z | z
    · have := odS_le (S := S) (p := q) (q := p - 1) z (by omega)
      omega
    · rw [show q = p - 1 by omega]; exact Nat.le_refl _
  omega
theorem WI2_new {S : List Stk} {p w : Nat} {wo wi fn : Nat → Int} (hp : p < S.length) (h : WI2 S p wo wi fn) (hn : ∀ q, q < p → lnS S (odS S q) ≠ lnS S (odS S p)) : WI2 S (p + 1) (upz wo (odS S p) (w : Int)) (upz wi (lnS S (odS S p)) 1) (upz fn (lnS S (odS S p)) (w : Int)) := by
  have hne : ∀ q, q < p → odS S q ≠ odS S p := fun q hq e => by have := odS_inj (by omega) hp e; omega
  have hwo : ∀ q, q < p → upz wo (odS S p) (w : Int) (odS S q) = wo (odS S q) := fun q hq => upz_n (hne q hq)
  have hwp : upz wo (odS S p) (w : Int) (odS S p) = (w : Int) := upz_s
  generalize upz wo (odS S p) (w : Int) = wo2 at hwo hwp
  rintro L ⟨q, hq, e⟩
  by_cases z : L = lnS S (odS S p)
  · subst z
    refine ⟨p, p, by omega, by omega, rfl, rfl, hn, fun q2 h2 h3 => absurd h2 (by omega), by rw [upz_s, hwp], by rw [upz_s, hwp]; omega⟩
  · have hqp : q < p := by
      rcases Nat.lt_or_ge q p with y | y
      · exact y
      · exact absurd (by rw [← e, show q = p by omega]) z
    obtain ⟨q0, q1, b1, b2, b3, b4, b5, b6, b7, b8⟩ := h L ⟨q, hqp, e⟩
    refine ⟨q0, q1, by omega, by omega, b3, b4, b5, fun q2 h2 h3 => ?_, by rw [upz_n z, hwo q0 b1]; exact b7, by rw [upz_n z, hwo q0 b1, hwo q1 b2]; exact b8⟩
    rcases Nat.lt_or_ge q2 p with y | y
    · exact b6 q2 h2 y
    · rw [show q2 = p by omega]; exact fun x => z x.symm
theorem WI2_old {S : List Stk} {p : Nat} {wo wi wi2 fn : Nat → Int} {v : Int} (hp : p < S.length) (h : WI2 S p wo wi fn) (h0 : 0 < p) (hl : lnS S (odS S p) = lnS S (odS S (p - 1))) (hwi : wi2 = upz wi (lnS S (odS S p)) (wi (lnS S (odS S p)) + (v - wo (odS S (p - 1))))) : WI2 S (p + 1) (upz wo (odS S p) v) wi2 fn := by
  subst hwi
  have hne : ∀ q, q < p → odS S q ≠ odS S p := fun q hq e => by have := odS_inj (by omega) hp e; omega
  have hwo : ∀ q, q < p → upz wo (odS S p) v (odS S q) = wo (odS S q) := fun q hq => upz_n (hne q hq)
  have hwp : upz wo (odS S p) v (odS S p) = v := upz_s
  generalize upz wo (odS S p) v = wo2 at hwo hwp
  rintro L ⟨q, hq, e⟩
  by_cases z : L = lnS S (odS S p)
  · subst z
    obtain ⟨q0, q1, b1, b2, b3, b4, b5, b6, b7, b8⟩ := h _ ⟨p - 1, by omega, hl.symm⟩
    have hq1 : q1 = p - 1 := by
      rcases Nat.lt_or_ge q1 (p - 1) with y | y
      · exact absurd hl.symm (b6 (p - 1) y (by omega))
      · omega
    subst hq1
    refine ⟨q0, p, by omega, by omega, b3, rfl, b5, fun q2 h2 h3 => absurd h2 (by omega), by rw [hwo q0 b1]; exact b7, by rw [upz_s, hwp, hwo q0 b1, b8]; omega⟩
  · have hqp : q < p := by
      rcases Nat.lt_or_ge q p with y | y
      · exact y
      · exact absurd (by rw [← e, show q = p by omega]) z
    obtain ⟨q0, q1, b1, b2, b3, b4, b5, b6, b7, b8⟩ := h L ⟨q, hqp, e⟩
    refine ⟨q0, q1, by omega, by omega, b3, b4, b5, fun q2 h2 h3 => ?_, by rw [hwo q0 b1]; exact b7, by rw [upz_n z, hwo q0 b1, hwo q1 b2]; exact b8⟩
    rcases Nat.lt_or_ge q2 p with y | y
    · exact b6 q2 h2 y
    · rw [show q2 = p by omega]; exact fun x => z x.symm
/-- the right edge that counts for the next stroke -/
def RtF (S : List Stk) (gap : Int) (k : Nat) : Int := if k = 0 then 0 else (wdA S gap wd0 k).2.2.2.2.2.2.1 ((wdA S gap wd0 k).1 - 1)
def bgF (S : List Stk) (gap : Int) (k : Nat) : Prop := k = 0 ∨ lnS S (odS S k) ≠ lnS S (odS S (k - 1)) ∨ RtF S gap k + gap < lfS S (odS S k)
def WI (S : List Stk) (p : Nat) (s : WdT) : Prop := WI1 S p s.1 s.2.1 s.2.2.1 s.2.2.2.1 s.2.2.2.2.1 s.2.2.2.2.2.1 s.2.2.2.2.2.2.1 s.2.2.2.2.2.2.2.1 ∧ WI2 S p s.2.2.1 s.2.2.2.2.2.2.2.2.1 s.2.2.2.2.2.2.2.2.2
theorem WI_step {S : List Stk} {gap : Int} {p : Nat} (hp : p < S.length) (h : WI S p (wdA S gap wd0 p)) : WI S (p + 1) (wdA S gap wd0 (p + 1)) ∧
    (bgF S gap p → (wdA S gap wd0 (p + 1)).1 = (wdA S gap wd0 p).1 + 1 ∧ RtF S gap (p + 1) = rtS S (odS S p) ∧ (wdA S gap wd0 (p + 1)).2.2.1 = upz (wdA S gap wd0 p).2.2.1 (odS S p) ((wdA S gap wd0 p).1 : Int)) ∧
    (¬ bgF S gap p → (wdA S gap wd0 (p + 1)).1 = (wdA S gap wd0 p).1 ∧ RtF S gap (p + 1) = max (rtS S (odS S p)) (RtF S gap p) ∧ (wdA S gap wd0 (p + 1)).2.2.1 = upz (wdA S gap wd0 p).2.2.1 (odS S p) (((wdA S gap wd0 p).1 - 1 : Nat) : Int)) := by
  have hR1 : RtF S gap (p + 1) = (wdA S gap wd0 (p + 1)).2.2.2.2.2.2.1 ((wdA S gap wd0 (p + 1)).1 - 1) := if_neg (Nat.succ_ne_zero p)
  have hR0 : 0 < p → RtF S gap p = (wdA S gap wd0 p).2.2.2.2.2.2.1 ((wdA S gap wd0 p).1 - 1) := fun z => if_neg (by omega)
  unfold bgF
  rw [hR1, wdA_s]
  clear hR1
  generalize wdA S gap wd0 p = s at h hR0 ⊢
  obtain ⟨w, lb, wo, li, si, le, ri, fi, wi, fn⟩ := s
  obtain ⟨h1, h2⟩ := h
  try dsimp only at h1 h2 hR0
  have a2 := h1.2.1
  have a3 := h1.2.2.1
  by_cases hl : (lnS S (odS S p) : Int) = lb
  · have hp0 : 0 < p := by
      rcases Nat.eq_zero_or_pos p with z | z
      · have := a3 z; omega
      · exact z
    obtain ⟨c1, c2, c3⟩ := a2 hp0
    have hR := hR0 hp0
    have hll : lnS S (odS S p) = lnS S (odS S (p - 1)) := by omega
    by_cases hb : ri (w - 1) + gap < lfS S (odS S p)
    · rw [wd_B hl hb]
      refine ⟨⟨WI1_new hp h1, WI2_old hp h2 hp0 hll (by (try dsimp only); rw [c3]; congr 1; omega)⟩, fun _ => ⟨rfl, ?_, rfl⟩, fun z => absurd (Or.inr (Or.inr (by rw [hR]; exact hb))) z⟩
      try dsimp only
      rw [Nat.add_sub_cancel, upz_s]
    · rw [wd_C hl hb]
      refine ⟨⟨WI1_old hp h1 hl, WI2_old hp h2 hp0 hll ?_⟩, fun z => ?_, fun _ => ⟨rfl, ?_, rfl⟩⟩
      · (try dsimp only)
        rw [c3]
        funext x
        unfold upz
        (try dsimp only)
        split
        · rename_i e; subst e; omega
        · rfl
      · rcases z with z | z | z
        · omega
        · exact absurd hll z
        · rw [hR] at z; exact absurd z hb
      · try dsimp only
        rw [upz_s, hR]
  · have hnew : p = 0 ∨ lnS S (odS S p) ≠ lnS S (odS S (p - 1)) := by
      rcases Nat.eq_zero_or_pos p with z | z
      · exact Or.inl z
      · have := (a2 z).2.1
        exact Or.inr (by omega)
    rw [wd_A hl]
    refine ⟨⟨WI1_new hp h1, WI2_new hp h2 (ln_new hp hnew)⟩, fun _ => ⟨rfl, ?_, rfl⟩, fun z => absurd (hnew.elim Or.inl (fun y => Or.inr (Or.inl y))) z⟩
    try dsimp only
    rw [Nat.add_sub_cancel, upz_s]
theorem WI_run {S : List Stk} {gap : Int} : ∀ p, p ≤ S.length → WI S p (wdA S gap wd0 p)
  | 0, _ => ⟨⟨Nat.le_refl 0, fun z => absurd z (Nat.lt_irrefl 0), fun _ => rfl, fun q hq => absurd hq (Nat.not_lt_zero q), fun q hq => absurd hq (Nat.not_lt_zero q), fun x hx => absurd hx (Nat.not_lt_zero x), fun x hx => absurd hx (Nat.not_lt_zero x), fun x hx => absurd hx (Nat.not_lt_zero x)⟩, fun L hL => by obtain ⟨q, hq, -⟩ := hL; exact absurd hq (Nat.not_lt_zero q)⟩
  | p + 1, hp => (WI_step (by omega) (WI_run p (by omega))).1
theorem RtF_rng {S : List Stk} {gap : Int} (hS : OkS S) {p : Nat} (hp : p ≤ S.length) : 0 ≤ RtF S gap p ∧ RtF S gap p ≤ 1000 := by
  unfold RtF
  split
  · omega
  · obtain ⟨h1, -⟩ := WI_run (S := S) (gap := gap) p hp
    obtain ⟨a1, a2, a3, a4, a5, a6, a7, a8⟩ := h1
    have c := (a2 (by omega)).1
    obtain ⟨-, q, hq, -, e⟩ := a8 _ (show (wdA S gap wd0 p).1 - 1 < (wdA S gap wd0 p).1 by omega)
    rw [e]
    have := (bdS hS (k := odS S q) (plS_od (by omega)).1).2
    omega
/-- the least left edge of a word is its first stroke's -/
theorem WI_left {S : List Stk} {gap : Int} {x : Nat} (hx : x < (WD S gap).1) {q : Nat} (hq : q < S.length) (e : (WD S gap).2.2.1 (odS S q) = (x : Int)) : (WD S gap).2.2.2.2.2.1 x ≤ lfS S (odS S q) := by
  obtain ⟨h1, -⟩ := WI_run (S := S) (gap := gap) S.length (Nat.le_refl _)
  obtain ⟨a1, a2, a3, a4, a5, a6, a7, a8⟩ := h1
  obtain ⟨q0, b1, b2, b3, b4, b5⟩ := a7 x hx
  have b4' : (WD S gap).2.2.2.2.2.1 x = lfS S (odS S q0) := b4
  rw [b4']
  rcases Nat.lt_trichotomy q q0 with z | z | z
  · exact absurd e (b5 q z)
  · rw [z]; exact Int.le_refl _
  · have h5 := a5 q0 b1
    have h6 := a5 q hq
    have e' : (wdA S gap wd0 S.length).2.2.1 (odS S q) = (x : Int) := e
    rw [b2] at h5
    rw [e', h5] at h6
    have := odS_le (S := S) z hq
    omega
end SPECW
