/-! shapes and texts: facts -/
section FACTX
def qx (K : List Pt) (i : Nat) : Int := (K.getD i (0, 0)).1
def qy (K : List Pt) (i : Nat) : Int := (K.getD i (0, 0)).2
theorem q_pts (K : List Pt) : ptsOf K.length (qx K) (qy K) = K := pxy_pts (0, K)
theorem q_old {K : List Pt} {q : Pt} {i : Nat} (h : i < K.length) : qx (K ++ [q]) i = qx K i ∧ qy (K ++ [q]) i = qy K i := by
  unfold qx qy
  rw [List.getD_eq_getElem?_getD, List.getD_eq_getElem?_getD, List.getElem?_append_left h]
  exact ⟨rfl, rfl⟩
theorem q_new {K : List Pt} {q : Pt} : qx (K ++ [q]) K.length = q.1 ∧ qy (K ++ [q]) K.length = q.2 := by
  unfold qx qy
  rw [List.getD_eq_getElem?_getD, List.getElem?_append_right (Nat.le_refl _), Nat.sub_self]
  exact ⟨rfl, rfl⟩
theorem q_of {n : Nat} {X Y : Nat → Int} {i : Nat} (h : i < n) : qx (ptsOf n X Y) i = X i ∧ qy (ptsOf n X Y) i = Y i := by
  unfold qx qy
  rw [List.getD_eq_getElem?_getD, ptsOf_at h]
  exact ⟨rfl, rfl⟩
theorem q_last {K : List Pt} {q : Pt} (h : K.getLast? = some q) : 1 ≤ K.length ∧ qx K (K.length - 1) = q.1 ∧ qy K (K.length - 1) = q.2 := by
  have hl : 0 < K.length := by
    cases K with
    | nil => cases h
    | cons a r => exact Nat.succ_pos _
  have h2 := ptsOf_last (X := qx K) (Y := qy K) hl
  rw [q_pts, h] at h2
  have h3 := Option.some.inj h2
  rw [h3]
  exact ⟨hl, rfl, rfl⟩
def dq (K : List Pt) (p : Nat) : Int := (qx K p - qx K (p - 1)) * (qx K p - qx K (p - 1)) + (qy K p - qy K (p - 1)) * (qy K p - qy K (p - 1))
theorem thK_inv {d2 : Int} {F G : Nat → Int} : ∀ m : Nat, 1 ≤ (thK d2 F G m).length ∧ (thK d2 F G m).length ≤ m + 1 ∧ (∀ p, 1 ≤ p → p < (thK d2 F G m).length → d2 ≤ dq (thK d2 F G m) p) ∧ qx (thK d2 F G m) 0 = F 0 ∧ qy (thK d2 F G m) 0 = G 0 ∧ ((thK d2 F G m).length = m + 1 → thK d2 F G m = ptsOf (m + 1) F G)
  | 0 => ⟨Nat.le_refl 1, Nat.le_refl 1, fun p h1 h2 => by
      have h2 : p < 1 := h2
      omega, rfl, rfl, fun _ => rfl⟩
  | m + 1 => by
    obtain ⟨h1, h2, h3, h4, h5, h6⟩ := thK_inv (d2 := d2) (F := F) (G := G) m
    have e : thK d2 F G (m + 1) = thS d2 (thK d2 F G m) (F (m + 1), G (m + 1)) := rfl
    rw [e]
    generalize hK : thK d2 F G m = K at h1 h2 h3 h4 h5 h6 ⊢
    unfold thS
    by_cases q : farP d2 K (F (m + 1), G (m + 1)) = true
    · rw [if_pos q]
      unfold addP
      by_cases z : K.getLast? = some (F (m + 1), G (m + 1))
      · rw [if_pos z]
        exact ⟨h1, by omega, h3, h4, h5, fun y => absurd y (by omega)⟩
      · rw [if_neg z]
        have hq : d2 ≤ (F (m + 1) - qx K (K.length - 1)) * (F (m + 1) - qx K (K.length - 1)) + (G (m + 1) - qy K (K.length - 1)) * (G (m + 1) - qy K (K.length - 1)) := by
          have := farP_of (d2 := d2) (k := K.length) (X := qx K) (Y := qy K) (q := (F (m + 1), G (m + 1))) (by omega)
          rw [q_pts, q] at this
          exact of_decide_eq_true this.symm
        refine ⟨by rw [List.length_append]; omega, by rw [List.length_append, List.length_singleton]; omega, fun p p1 p2 => ?_, by rw [(q_old (by omega)).1]; exact h4, by rw [(q_old (by omega)).2]; exact h5, fun y => ?_⟩
        · rw [List.length_append, List.length_singleton] at p2
          unfold dq
          by_cases w : p = K.length
          · subst w
            rw [q_new.1, q_new.2, (q_old (show K.length - 1 < K.length by omega)).1, (q_old (show K.length - 1 < K.length by omega)).2]
            exact hq
          · rw [(q_old (show p < K.length by omega)).1, (q_old (show p < K.length by omega)).2, (q_old (show p - 1 < K.length by omega)).1, (q_old (show p - 1 < K.length by omega)).2]
            exact h3 p p1 (by omega)
        · rw [List.length_append, List.length_singleton] at y
          rw [ptsOf_s, h6 (by omega)]
    · rw [if_neg q]
      exact ⟨h1, by omega, h3, h4, h5, fun y => absurd y (by omega)⟩
theorem thin_id {ps : List Pt} {d2 : Int} (h1 : 1 ≤ ps.length) (hn : NR ps) (hd : ∀ p, 1 ≤ p → p + 1 < ps.length → d2 ≤ dq ps p) : thinC ps.length (qx ps) (qy ps) d2 = ps := by
  unfold thinC
  by_cases q : ps.length ≤ 1
  · rw [if_pos q, q_pts]
  · rw [if_neg q]
    have hNR : NR (ptsOf ps.length (qx ps) (qy ps)) := by rw [q_pts]; exact hn
    have key : ∀ j, j ≤ ps.length - 2 → thK d2 (qx ps) (qy ps) j = ptsOf (j + 1) (qx ps) (qy ps) := by
      intro j
      induction j with
      | zero => intro _; rfl
      | succ j ih =>
        intro hj
        show thS d2 (thK d2 (qx ps) (qy ps) j) (qx ps (j + 1), qy ps (j + 1)) = _
        rw [ih (by omega)]
        unfold thS
        have hfar : farP d2 (ptsOf (j + 1) (qx ps) (qy ps)) (qx ps (j + 1), qy ps (j + 1)) = true := by
          rw [farP_of (by omega)]
          exact decide_eq_true (hd (j + 1) (by omega) (by omega))
        rw [if_pos hfar]
        exact addP_run hNR (by omega)
    rw [key _ (Nat.le_refl _), show ps.length - 2 + 1 = ps.length - 1 by omega, addP_run hNR (by omega), show ps.length - 1 + 1 = ps.length by omega, q_pts]
def SHF (t : Stk) (ps : List Pt) : Prop := 1 ≤ ps.length ∧ ps.length ≤ szk t ∧ qx ps 0 = px t 0 ∧ qy ps 0 = py t 0 ∧ qx ps (ps.length - 1) = px t (szk t - 1) ∧ qy ps (ps.length - 1) = py t (szk t - 1)
def THF (t : Stk) (d : Int) (ps : List Pt) : Prop := (∀ p, 1 ≤ p → p + 1 < ps.length → d * d ≤ dq ps p) ∧ ps.length < szk t ∧ thinC ps.length (qx ps) (qy ps) (d * d) = ps
theorem thin_ok {t : Stk} {d : Int} (hz : 1 ≤ szk t) (hne : t.2 ≠ thinC (szk t) (px t) (py t) (d * d)) : SHF t (thinC (szk t) (px t) (py t) (d * d)) ∧ THF t d (thinC (szk t) (px t) (py t) (d * d)) := by
  have hNR : NR (thinC (szk t) (px t) (py t) (d * d)) := NR_thin
  by_cases q : szk t ≤ 1
  · refine absurd ?_ hne
    unfold thinC
    rw [if_pos q, pxy_pts]
  · have e : thinC (szk t) (px t) (py t) (d * d) = addP (thK (d * d) (px t) (py t) (szk t - 2)) (px t (szk t - 1), py t (szk t - 1)) := by
      unfold thinC
      rw [if_neg q]
    rw [e] at hne hNR ⊢
    obtain ⟨h1, h2, h3, h4, h5, h6⟩ := thK_inv (d2 := d * d) (F := px t) (G := py t) (szk t - 2)
    generalize thK (d * d) (px t) (py t) (szk t - 2) = K at *
    have hl := q_last (addP_last (l := K) (q := (px t (szk t - 1), py t (szk t - 1))))
    have hlen := addP_len (l := K) (q := (px t (szk t - 1), py t (szk t - 1)))
    have hlen2 := addP_len2 (l := K) (q := (px t (szk t - 1), py t (szk t - 1)))
    have hold : ∀ i, i < K.length → qx (addP K (px t (szk t - 1), py t (szk t - 1))) i = qx K i ∧ qy (addP K (px t (szk t - 1), py t (szk t - 1))) i = qy K i := by
      intro i hi
      unfold addP
      split
      · exact ⟨rfl, rfl⟩
      · exact q_old hi
    have hd : ∀ p, 1 ≤ p → p + 1 < (addP K (px t (szk t - 1), py t (szk t - 1))).length → d * d ≤ dq (addP K (px t (szk t - 1), py t (szk t - 1))) p := by
      intro p p1 p2
      have a := hold p (by omega)
      have b := hold (p - 1) (by omega)
      unfold dq
      rw [a.1, a.2, b.1, b.2]
      exact h3 p p1 (by omega)
    refine ⟨⟨hl.1, by omega, by rw [(hold 0 (by omega)).1]; exact h4, by rw [(hold 0 (by omega)).2]; exact h5, hl.2.1, hl.2.2⟩, hd, ?_, thin_id hl.1 hNR hd⟩
    refine Classical.byContradiction fun hn => hne ?_
    have hk : K.length = szk t - 2 + 1 := by omega
    have hkk := h6 hk
    have hln : (addP K (px t (szk t - 1), py t (szk t - 1))).length = szk t := by omega
    have hap : addP K (px t (szk t - 1), py t (szk t - 1)) = K ++ [(px t (szk t - 1), py t (szk t - 1))] := by
      unfold addP at hln ⊢
      split
      · rename_i y
        rw [if_pos y] at hln
        omega
      · rfl
    rw [hap, hkk, show szk t - 2 + 1 = szk t - 1 by omega, ← ptsOf_s, show szk t - 1 + 1 = szk t by omega, pxy_pts]
theorem smF_end {n : Nat} {X : Nat → Int} : smF n X 0 = X 0 ∧ smF n X (n - 1) = X (n - 1) := by
  unfold smF
  try dsimp only
  exact ⟨if_neg (by omega), if_neg (by omega)⟩
theorem smN_end {n : Nat} {X : Nat → Int} : ∀ j : Nat, smN n X j 0 = X 0 ∧ smN n X j (n - 1) = X (n - 1)
  | 0 => ⟨rfl, rfl⟩
  | j + 1 => by
    have ih := smN_end (n := n) (X := X) j
    rw [smN_s, smF_end.1, smF_end.2]
    exact ih
theorem dd_head : ∀ (l acc : List Pt), acc ≠ [] → (l.foldl addP acc)[0]? = acc[0]?
  | [], _, _ => rfl
  | q :: l, acc, h => by
    rw [List.foldl_cons]
    have hp : addP acc q ≠ [] := fun z => by have := addP_pos (l := acc) (q := q); rw [z] at this; exact absurd this (Nat.lt_irrefl 0)
    rw [dd_head l (addP acc q) hp]
    unfold addP
    split
    · rfl
    · rw [List.getElem?_append_left]
      cases acc with
      | nil => exact absurd rfl h
      | cons a r => exact Nat.succ_pos _
theorem smooth_ok {t : Stk} {r : Nat} (hz : 1 ≤ szk t) : SHF t (dd (ptsOf (szk t) (smN (szk t) (px t) r) (smN (szk t) (py t) r))) := by
  have hl := len_dd (ptsOf (szk t) (smN (szk t) (px t) r) (smN (szk t) (py t) r))
  rw [ptsOf_len] at hl
  have hx := smN_end (n := szk t) (X := px t) r
  have hy := smN_end (n := szk t) (X := py t) r
  obtain ⟨n, hn⟩ : ∃ n, szk t = n + 1 := ⟨szk t - 1, by omega⟩
  rw [hn] at hl hx hy ⊢
  generalize hX : smN (n + 1) (px t) r = X at *
  generalize hY : smN (n + 1) (py t) r = Y at *
  rw [Nat.add_sub_cancel] at hx hy
  have hlast : (dd (ptsOf (n + 1) X Y)).getLast? = some (X n, Y n) := by rw [ptsOf_s, dd_app, addP_last]
  have hq := q_last hlast
  have hfirst : (dd (ptsOf (n + 1) X Y))[0]? = some (X 0, Y 0) := by
    have e : ptsOf (n + 1) X Y = (X 0, Y 0) :: (ptsOf (n + 1) X Y).tail := by
      have h0 := ptsOf_at (X := X) (Y := Y) (show 0 < n + 1 by omega)
      cases hh : ptsOf (n + 1) X Y with
      | nil => rw [hh] at h0; cases h0
      | cons a b => rw [hh] at h0; rw [Option.some.inj h0]; rfl
    rw [e]
    unfold dd
    rw [List.foldl_cons]
    have e2 : addP [] (X 0, Y 0) = [(X 0, Y 0)] := rfl
    rw [e2, dd_head _ _ (fun z => by cases z)]
    rfl
  have hf : qx (dd (ptsOf (n + 1) X Y)) 0 = X 0 ∧ qy (dd (ptsOf (n + 1) X Y)) 0 = Y 0 := by
    unfold qx qy
    rw [List.getD_eq_getElem?_getD, hfirst]
    exact ⟨rfl, rfl⟩
  refine ⟨hq.1, by rw [hn]; exact hl, by rw [hf.1, hx.1], by rw [hf.2, hy.1], ?_, ?_⟩
  · rw [hq.2.1, hn, Nat.add_sub_cancel]; exact hx.2
  · rw [hq.2.2, hn, Nat.add_sub_cancel]; exact hy.2
/-- what smoothing or thinning brings -/
def JSh (σ : PS) (k : Nat) (b d z : Int) (τ : PS) : Prop := (∃ o, τ = (actS σ.1 o, σ.2.1, σ.2.2.1, σ.2.2.2)) ∧ ((z = -5 ∧ τ.1.1 = σ.1.1) ∨ ∃ ps : List Pt, τ.1.1 = σ.1.1.set k ((gk σ.1.1 k).1, ps) ∧ z = (ps.length : Int) ∧ SHF (gk σ.1.1 k) ps ∧ (b = 0 → THF (gk σ.1.1 k) d ps))
theorem thin_JS {σ : PS} (hS : OkS σ.1.1) {k : Nat} {b d : Int} (hk : k < σ.1.1.length) (hd : 1 ≤ d ∧ d ≤ 500) : JSh σ k b d (thinS σ.1.1 (k : Int) d).1 (actS σ.1 (thinS σ.1.1 (k : Int) d).2, σ.2.1, σ.2.2.1, σ.2.2.2) := by
  refine ⟨⟨_, rfl⟩, ?_⟩
  have hz := ok_sz hS hk
  have e : thinS σ.1.1 (k : Int) d = repS σ.1.1 k (thinC (szk (gk σ.1.1 k)) (px (gk σ.1.1 k)) (py (gk σ.1.1 k)) (d * d)) := by
    unfold thinS
    rw [if_neg (has_k hk), if_neg (by unfold inR; simp only [decide_eq_false_iff_not]; omega), Int.toNat_natCast]
  rw [e]
  unfold repS
  by_cases q : (gk σ.1.1 k).2 = thinC (szk (gk σ.1.1 k)) (px (gk σ.1.1 k)) (py (gk σ.1.1 k)) (d * d)
  · rw [if_pos q]
    exact Or.inl ⟨rfl, rfl⟩
  · rw [if_neg q]
    have h := thin_ok hz.1 q
    exact Or.inr ⟨_, rfl, rfl, h.1, fun _ => h.2⟩
theorem smooth_JS {σ : PS} (hS : OkS σ.1.1) {k : Nat} {b d r : Int} (hk : k < σ.1.1.length) (hr : 1 ≤ r ∧ r ≤ 8) (hb : b ≠ 0) : JSh σ k b d (smoothS σ.1.1 (k : Int) r).1 (actS σ.1 (smoothS σ.1.1 (k : Int) r).2, σ.2.1, σ.2.2.1, σ.2.2.2) := by
  refine ⟨⟨_, rfl⟩, ?_⟩
  have hz := ok_sz hS hk
  have e : smoothS σ.1.1 (k : Int) r = repS σ.1.1 k (dd (ptsOf (szk (gk σ.1.1 k)) (smN (szk (gk σ.1.1 k)) (px (gk σ.1.1 k)) r.toNat) (smN (szk (gk σ.1.1 k)) (py (gk σ.1.1 k)) r.toNat))) := by
    unfold smoothS
    rw [if_neg (has_k hk), if_neg (by unfold inR; simp only [decide_eq_false_iff_not]; omega), Int.toNat_natCast]
  rw [e]
  unfold repS
  by_cases q : (gk σ.1.1 k).2 = dd (ptsOf (szk (gk σ.1.1 k)) (smN (szk (gk σ.1.1 k)) (px (gk σ.1.1 k)) r.toNat) (smN (szk (gk σ.1.1 k)) (py (gk σ.1.1 k)) r.toNat))
  · rw [if_pos q]
    exact Or.inl ⟨rfl, rfl⟩
  · rw [if_neg q]
    exact Or.inr ⟨_, rfl, rfl, smooth_ok hz.1, fun z => absurd z hb⟩
theorem thin_again {τ : PS} {k : Nat} {d c : Int} {ps : List Pt} (hk : k < τ.1.1.length) (hg : gk τ.1.1 k = (c, ps)) (hd : 1 ≤ d ∧ d ≤ 500) (h : thinC ps.length (qx ps) (qy ps) (d * d) = ps) : thinS τ.1.1 (k : Int) d = (-5, none) := by
  unfold thinS
  rw [if_neg (has_k hk), if_neg (by unfold inR; simp only [decide_eq_false_iff_not]; omega), Int.toNat_natCast, hg]
  unfold repS
  rw [hg]
  exact if_pos h.symm
theorem smooth_bad {S : List Stk} {k : Nat} (hk : k < S.length) : smoothS S (k : Int) 9 = (-2, none) := by
  unfold smoothS
  rw [if_neg (has_k hk)]
  rfl
theorem thin_bad {S : List Stk} {k : Nat} (hk : k < S.length) : thinS S (k : Int) 0 = (-2, none) := by
  unfold thinS
  rw [if_neg (has_k hk)]
  rfl
/-- texts: the reading of a row of signs, point by point -/
def tf (X : List Int) : Nat → Int := fun i => X.getD i 0
def prX (X : List Int) : Int × List Pt := prs (tf X) X.length 0 [] 0 0 false 0 0
theorem tf_at {A B : List Int} {c : Int} : tf (A ++ c :: B) A.length = c := by
  unfold tf
  try dsimp only
  rw [List.getD_eq_getElem?_getD, List.getElem?_append_right (Nat.le_refl _), Nat.sub_self]
  rfl
def PG (X : List Int) (K : List Pt) (cnt : Nat) : Prop := ∀ Y : List Int, ∃ x : Int, prX (X ++ Y) = prs (tf (X ++ Y)) Y.length X.length K cnt x false 0 0
def PE (X : List Int) (K : List Pt) (cnt : Nat) (x num : Int) : Prop := ∀ Y : List Int, prX (X ++ Y) = prs (tf (X ++ Y)) Y.length X.length K cnt x true num 1
theorem PG_0 : PG [] [] 0 := fun Y => ⟨0, rfl⟩
theorem app1 (X Y : List Int) (c : Int) : X ++ c :: Y = (X ++ [c]) ++ Y := by rw [List.append_assoc]; rfl
theorem PG_E {X : List Int} {K : List Pt} {cnt : Nat} {a d : Int} (h : PG X K cnt) (ha : 48 ≤ a ∧ a ≤ 57) (hd : 48 ≤ d ∧ d ≤ 57) : PE (((X ++ [a]) ++ [44]) ++ [d]) K cnt (a - 48) (d - 48) := by
  intro Y
  obtain ⟨x, hx⟩ := h (a :: 44 :: d :: Y)
  have e1 : X ++ a :: 44 :: d :: Y = (((X ++ [a]) ++ [44]) ++ [d]) ++ Y := by simp
  have t0 : tf (X ++ a :: 44 :: d :: Y) X.length = a := tf_at
  have t1 : tf (X ++ a :: 44 :: d :: Y) (X.length + 1) = 44 := by
    have := tf_at (A := X ++ [a]) (B := d :: Y) (c := 44)
    rw [List.length_append, List.length_singleton, ← app1] at this
    exact this
  have t2 : tf (X ++ a :: 44 :: d :: Y) (X.length + 1 + 1) = d := by
    have := tf_at (A := (X ++ [a]) ++ [44]) (B := Y) (c := d)
    rw [List.length_append, List.length_append, List.length_singleton, List.length_singleton, ← app1, ← app1] at this
    exact this
  rw [← e1, hx]
  rw [show (a :: 44 :: d :: Y).length = Y.length + 1 + 1 + 1 from rfl]
  rw [prs_s, t0, if_pos ha, if_neg (by omega)]
  rw [prs_s, t1, if_neg (by omega), if_neg (by omega), if_neg (by decide), if_pos ⟨by omega, rfl⟩]
  rw [prs_s, t2, if_pos hd, if_neg (by omega)]
  have l1 : ((((X ++ [a]) ++ [44]) ++ [d])).length = X.length + 1 + 1 + 1 := by simp
  rw [l1]
  rw [show (0 : Int) * 10 + (a - 48) = a - 48 by omega, show (0 : Int) * 10 + (d - 48) = d - 48 by omega]
theorem PE_G {X : List Int} {K : List Pt} {cnt : Nat} {x num : Int} (h : PE X K cnt x num) (hc : cnt < 23) (hn : num ≤ 1000) : PG (X ++ [32]) (addP K (x, num)) (cnt + 1) := by
  intro Y
  refine ⟨x, ?_⟩
  have h2 := h (32 :: Y)
  have t0 : tf (X ++ 32 :: Y) X.length = 32 := tf_at
  rw [← app1, h2]
  rw [show ((32 : Int) :: Y).length = Y.length + 1 from rfl]
  rw [prs_s, t0, if_neg (by omega), if_neg (by omega), if_pos rfl, if_pos ⟨by omega, rfl, hc⟩, List.length_append, List.length_singleton]
theorem PE_end {X : List Int} {K : List Pt} {cnt : Nat} {x num : Int} (h : PE X K cnt x num) (hn : num ≤ 1000) : prX X = (-1, addP K (x, num)) := by
  have h2 := h []
  rw [List.append_nil] at h2
  rw [h2]
  show (if 1000 < num then _ else if (1 : Nat) = 0 ∨ true = false then _ else (-1, addP K (x, num))) = _
  rw [if_neg (by omega), if_neg (by simp)]
theorem PG_end {X : List Int} {K : List Pt} {cnt : Nat} (h : PG X K cnt) : (prX X).1 = (X.length : Int) := by
  obtain ⟨x, h2⟩ := h []
  rw [List.append_nil] at h2
  rw [h2]
  show (if (1000 : Int) < 0 then _ else if (0 : Nat) = 0 ∨ false = false then ((X.length : Int), K) else _).1 = _
  rw [if_neg (by decide), if_pos (Or.inl rfl)]
theorem PE_comma {X : List Int} {K : List Pt} {cnt : Nat} {x num : Int} (h : PE X K cnt x num) (hn : num ≤ 1000) : (prX (X ++ [44])).1 = (X.length : Int) := by
  rw [h [44]]
  have t0 : tf (X ++ [44]) X.length = 44 := tf_at
  rw [show ([44] : List Int).length = 0 + 1 from rfl]
  rw [prs_s, t0, if_neg (by omega), if_neg (by omega), if_pos rfl, if_neg (fun z => absurd z.2.1 (by decide))]
theorem prX_1 : prX [49, 48, 48, 49] = (0, []) := by decide +kernel
theorem prX_2 : prX [49, 48, 48, 49, 48] = (4, []) := by decide +kernel
/-- the text when u points stand in it -/
def TXI (u : Nat) (X : List Int) : Prop := (u = 0 ∧ X = []) ∨ (1 ≤ u ∧ X.length = 4 * u - 1 ∧ ∃ (K : List Pt) (num : Int), PE X K (u - 1) (u : Int) num ∧ K.length = u - 1 ∧ (∀ q, K.getLast? = some q → q.1 = (u : Int) - 1) ∧ num ≤ 1000)
theorem add_ne {K : List Pt} {u : Nat} {num : Int} (h : ∀ q, K.getLast? = some q → q.1 = (u : Int) - 1) : addP K ((u : Int), num) = K ++ [((u : Int), num)] := by
  unfold addP
  rw [if_neg]
  intro z
  have := h _ z
  dsimp only at this
  omega
theorem TXI_blank {u : Nat} {X : List Int} (hu : 0 < u) (hu2 : u < 20) (h : TXI u X) : (X.length = 4 * u - 1 ∧ (prX (X ++ [32])).1 = ((X ++ [32]).length : Int)) ∧ ∀ a d : Int, a = 49 + (u : Int) → u ≤ 8 → 48 ≤ d ∧ d ≤ 57 → TXI (u + 1) ((((X ++ [32]) ++ [a]) ++ [44]) ++ [d]) := by
  rcases h with ⟨h0, -⟩ | ⟨h1, h2, K, num, h3, h4, h5, h6⟩
  · omega
  · have hG := PE_G h3 (by omega) h6
    refine ⟨⟨h2, PG_end hG⟩, fun a d ha hu8 hd => Or.inr ⟨by omega, ?_, ?_⟩⟩
    · simp only [List.length_append, List.length_singleton]
      omega
    · have hE := PG_E hG (a := a) (d := d) (by omega) hd
      rw [add_ne h5] at hE
      refine ⟨K ++ [((u : Int), num)], d - 48, ?_, ?_, fun q hq => ?_, by omega⟩
      · rw [show u + 1 - 1 = u - 1 + 1 by omega]
        rw [show ((u + 1 : Nat) : Int) = a - 48 by omega]
        exact hE
      · rw [List.length_append, List.length_singleton]; omega
      · rw [List.getLast?_append] at hq
        have e : q = ((u : Int), num) := (Option.some.inj hq).symm
        rw [e]
        dsimp only
        omega
theorem TXI_first {d : Int} (hd : 48 ≤ d ∧ d ≤ 57) : TXI 1 ((([] ++ [49]) ++ [44]) ++ [d]) := by
  refine Or.inr ⟨Nat.le_refl 1, rfl, [], d - 48, ?_, rfl, fun q hq => (by cases hq), by omega⟩
  exact PG_E PG_0 (by omega) hd
theorem TXI_end {u : Nat} {X : List Int} (hu : 0 < u) (h : TXI u X) : X.length = 4 * u - 1 ∧ (∃ K : List Pt, prX X = (-1, K) ∧ K.length = u) ∧ (prX (X ++ [44])).1 = (X.length : Int) := by
  rcases h with ⟨h0, -⟩ | ⟨h1, h2, K, num, h3, h4, h5, h6⟩
  · omega
  · refine ⟨h2, ⟨_, PE_end h3 h6, ?_⟩, PE_comma h3 h6⟩
    rw [add_ne h5, List.length_append, List.length_singleton]
    omega
end FACTX
