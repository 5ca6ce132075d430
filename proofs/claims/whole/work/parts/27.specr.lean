/-! the reference's rows -/
section SPECR
theorem skR_congr {F G : Nat → Int} {k j : Nat} (h1 : F (1 + k) = G (1 + j)) (h2 : F (17 + k) = G (17 + j)) (h3 : ∀ i, i < 24 → F (33 + 24 * k + i) = G (33 + 24 * j + i) ∧ F (417 + 24 * k + i) = G (417 + 24 * j + i)) (h24 : (F (1 + k)).toNat ≤ 24) : skR F k = skR G j := by
  unfold skR
  rw [h2, ← h1]
  refine congrArg (fun z => (G (17 + j), z)) (ptsOf_congr (fun i hi => h3 i (by omega)))
theorem skR_24 {F : Nat → Int} {k : Nat} (h : (skR F k).2.length ≤ 24) : (F (1 + k)).toNat ≤ 24 := by
  have hl : (skR F k).2.length = (F (1 + k)).toNat := ptsOf_len _ _ _
  omega
theorem shR_in {n : Nat} {F : Nat → Int} (h : OkS (shR n F)) {k : Nat} (hk : k < n) : OkK (skR F k) := by
  have := OkS_at h (k := k) (by rw [shR_len]; exact hk)
  rwa [shR_at hk] at this
theorem shR_get {n : Nat} {F : Nat → Int} {k : Nat} (hk : k < n) : (shR n F)[k]? = some (skR F k) := by
  unfold shR
  rw [List.getElem?_map, List.getElem?_range hk]
  rfl
theorem OkK_24 {t : Stk} (h : OkK t) : t.2.length ≤ 24 := h.2.2.2.1
/-- what the reference has now -/
def NowR (G : Nat → Int) (S : List Stk) : Prop := G 0 = (S.length : Int) ∧ shR S.length G = S
def slotR (H : Nat → Int) (s : Nat) (S : List Stk) : Prop := H (801 * s) = (S.length : Int) ∧ shR S.length (fun i => H (801 * s + i)) = S
theorem row_congr {F G : Nat → Int} {S : List Stk} (hS : OkS S) (h : shR S.length F = S) (e : ∀ i, i < 801 → G i = F i) : shR S.length G = S := by
  have h16 := hS.1
  have hS2 : OkS (shR S.length F) := by rw [h]; exact hS
  refine Eq.trans (shR_congr (fun k hk => (skR_congr (F := F) (e _ (by omega)).symm (e _ (by omega)).symm (fun i hi => ⟨(e _ (by omega)).symm, (e _ (by omega)).symm⟩) (skR_24 (OkK_24 (shR_in hS2 hk)))).symm)) h
def RH (s : St3) (ke un : Nat) (H A : Nat → Int) : Prop :=
  ke = s.2.1.length ∧ un = s.2.2.length ∧ (∀ j S, s.2.1[j]? = some S → slotR H (ke - 1 - j) S) ∧ ∀ j S, s.2.2[j]? = some S → slotR A (un - 1 - j) S
def shl (H : Nat → Int) (k : Nat) : Nat → Int := fun i => if i < k then H (i + 801) else H i
def pushH (G H : Nat → Int) (ke : Nat) : Nat → Int := cpz G (if ke = 6 then shl H 4005 else H) 0 (801 * (min ke 5)) 801
theorem slotR_congr {H H2 : Nat → Int} {s s2 : Nat} {S : List Stk} (hS : OkS S) (h : slotR H s S) (e : ∀ i, i < 801 → H2 (801 * s2 + i) = H (801 * s + i)) : slotR H2 s2 S := by
  refine ⟨?_, row_congr (F := fun i => H (801 * s + i)) hS h.2 e⟩
  have := e 0 (by omega)
  rw [Nat.add_zero, Nat.add_zero] at this
  rw [this]
  exact h.1
theorem RH_push {s : St3} {ke un : Nat} {G H A : Nat → Int} (h3 : Ok3 s) (h : RH s ke un H A) (hN : NowR G s.1) : (∀ j S, ((s.1 :: s.2.1).take 6)[j]? = some S → slotR (pushH G H ke) (min (ke + 1) 6 - 1 - j) S) := by
  obtain ⟨h1, h2, h5, h6⟩ := h
  intro j S hj
  have hk6 : ke ≤ 6 := by rw [h1]; exact h3.2.1.1
  rw [List.getElem?_take] at hj
  split at hj
  · rename_i hlt
    cases j with
    | zero =>
      rw [List.getElem?_cons_zero] at hj
      cases hj
      refine ⟨?_, row_congr h3.1 hN.2 (fun i hi => ?_)⟩
      · unfold pushH cpz
        rw [if_pos (by omega)]
        rw [show 0 + (801 * (min (ke + 1) 6 - 1 - 0) - 801 * min ke 5) = 0 by omega]
        exact hN.1
      · unfold pushH cpz
        rw [if_pos (by omega)]
        congr 1
        omega
    | succ j =>
      rw [List.getElem?_cons_succ] at hj
      have hm := List.mem_of_getElem? hj
      have hjl := (List.getElem?_eq_some_iff.mp hj).1
      refine slotR_congr (h3.2.2.1 S hm) (h5 j S hj) (fun i hi => ?_)
      unfold pushH cpz
      rw [if_neg (by omega)]
      by_cases q : ke = 6
      · rw [if_pos q]
        unfold shl
        rw [if_pos (by omega)]
        congr 1
        omega
      · rw [if_neg q]
        congr 1
        omega
  · cases hj
theorem RH_record {s : St3} {ke un : Nat} {G H A : Nat → Int} {S2 : List Stk} (h3 : Ok3 s) (h : RH s ke un H A) (hN : NowR G s.1) : RH (actS s (some S2)) (min (ke + 1) 6) 0 (pushH G H ke) A := by
  refine ⟨?_, rfl, RH_push h3 h hN, fun j S hj => by simp [actS] at hj⟩
  show _ = ((s.1 :: s.2.1).take 6).length
  rw [List.length_take, List.length_cons, h.1]
  omega
theorem act_endR {S : List Stk} {past fut : List (List Stk)} {ke un : Nat} {G G2 H A : Nat → Int} {S2 : List Stk} (h3 : Ok3 (S, past, fut)) (hH : RH (S, past, fut) ke un H A) (hN : NowR G S) (h2 : OkS S2) (hN2 : NowR G2 S2) : NowR G2 (actS (S, past, fut) (some S2)).1 ∧ RH (actS (S, past, fut) (some S2)) (min (ke + 1) 6) 0 (pushH G H ke) A ∧ Ok3 (actS (S, past, fut) (some S2)) :=
  ⟨hN2, RH_record h3 hH hN, Ok3_act h3 h2⟩
/-- the state that is built: all strokes so far (they are held while they are not more than 16) -/
def NxR (X : Nat → Int) (Dl : List Stk) : Prop := X 0 = (Dl.length : Int) ∧ (Dl.length ≤ 16 → shR Dl.length X = Dl ∧ ∀ k, k < Dl.length → 0 ≤ X (1 + k)) ∧ ∀ t ∈ Dl, t.2.length ≤ 24
def asF (X : Nat → Int) (c : Nat) (col : Int) : Nat → Int := upz (if c < 16 then upz (upz X (1 + c) 0) (17 + c) col else X) 0 ((c : Int) + 1)
theorem shR_keep {X Y : Nat → Int} {Dl : List Stk} {n : Nat} (h24 : ∀ t ∈ Dl, t.2.length ≤ 24) (hl : Dl.length = n) (h : shR n X = Dl) (e : ∀ k, k < n → Y (1 + k) = X (1 + k) ∧ Y (17 + k) = X (17 + k) ∧ ∀ i, i < 24 → Y (33 + 24 * k + i) = X (33 + 24 * k + i) ∧ Y (417 + 24 * k + i) = X (417 + 24 * k + i)) : shR n Y = Dl := by
  refine Eq.trans (shR_congr (fun k hk => (skR_congr (F := X) (e k hk).1.symm (e k hk).2.1.symm (fun i hi => ⟨((e k hk).2.2 i hi).1.symm, ((e k hk).2.2 i hi).2.symm⟩) (skR_24 ?_)).symm)) h
  refine h24 _ ?_
  rw [← h]
  exact List.mem_of_getElem? (shR_get hk)
theorem NxR_stroke {X : Nat → Int} {Dl : List Stk} {col : Int} (h : NxR X Dl) : NxR (asF X Dl.length col) (Dl ++ [(col, [])]) := by
  obtain ⟨h1, h2, h3⟩ := h
  refine ⟨by unfold asF; rw [upz_s, List.length_append, List.length_singleton]; rfl, fun hl => ?_, fun t ht => ?_⟩
  · rw [List.length_append, List.length_singleton] at hl ⊢
    have hlt : Dl.length < 16 := by omega
    have e : asF X Dl.length col = upz (upz (upz X (1 + Dl.length) 0) (17 + Dl.length) col) 0 ((Dl.length : Int) + 1) := by unfold asF; rw [if_pos hlt]
    rw [e]
    refine ⟨?_, fun k hk => ?_⟩
    rotate_left
    · by_cases z : k = Dl.length
      · subst z; rw [upz_n (by omega), upz_n (by omega), upz_s]; exact Int.le_refl 0
      · rw [upz_n (by omega), upz_n (by omega), upz_n (by omega)]; exact (h2 (by omega)).2 k (by omega)
    rw [shR_s]
    congr 1
    · refine shR_keep h3 rfl (h2 (by omega)).1 (fun k hk => ⟨?_, ?_, fun i hi => ⟨?_, ?_⟩⟩)
      · rw [upz_n (by omega), upz_n (by omega), upz_n (by omega)]
      · rw [upz_n (by omega), upz_n (by omega), upz_n (by omega)]
      · rw [upz_n (by omega), upz_n (by omega), upz_n (by omega)]
      · rw [upz_n (by omega), upz_n (by omega), upz_n (by omega)]
    · unfold skR
      rw [upz_n (by omega), upz_s, upz_n (by omega), upz_n (by omega), upz_s]
      rfl
  · rcases List.mem_append.mp ht with z | z
    · exact h3 t z
    · rw [List.mem_singleton.mp z]; exact Nat.zero_le _
def apF (X : Nat → Int) (s m : Nat) (x y : Int) : Nat → Int := upz (upz (upz X (33 + 24 * s + m) x) (417 + 24 * s + m) y) (1 + s) ((m : Int) + 1)
theorem NxR_point {X : Nat → Int} {Dl : List Stk} {col x y : Int} {ps : List Pt} (h : NxR X (Dl ++ [(col, ps)])) (hp : ps.length < 24) : NxR (if Dl.length < 16 then apF X Dl.length ps.length x y else X) (Dl ++ [(col, ps ++ [(x, y)])]) := by
  obtain ⟨h1, h2, h3⟩ := h
  rw [List.length_append, List.length_singleton] at h1 h2
  have h24 : ∀ t ∈ Dl ++ [(col, ps ++ [(x, y)])], t.2.length ≤ 24 := fun t ht => by
    rcases List.mem_append.mp ht with z | z
    · exact h3 t (List.mem_append_left _ z)
    · rw [List.mem_singleton.mp z]
      show (ps ++ [(x, y)]).length ≤ 24
      rw [List.length_append, List.length_singleton]
      omega
  by_cases q : Dl.length < 16
  · rw [if_pos q]
    have hs := (h2 (by omega)).1
    have hs2 := (h2 (by omega)).2
    rw [shR_s] at hs
    obtain ⟨e1, e2⟩ := List.append_inj' hs rfl
    have e3 : skR X Dl.length = (col, ps) := by simpa using e2
    have hm : ps.length = (X (1 + Dl.length)).toNat := by
      have : (skR X Dl.length).2.length = (X (1 + Dl.length)).toNat := ptsOf_len _ _ _
      rw [e3] at this
      exact this
    refine ⟨?_, fun _ => ?_, h24⟩
    · unfold apF
      rw [upz_n (by omega), upz_n (by omega), upz_n (by omega), List.length_append, List.length_singleton]
      exact h1
    · rw [List.length_append, List.length_singleton]
      refine ⟨?_, fun k hk => ?_⟩
      rotate_left
      · unfold apF
        by_cases z : k = Dl.length
        · subst z; rw [upz_s]; omega
        · rw [upz_n (by omega), upz_n (by omega), upz_n (by omega)]; exact hs2 k (by omega)
      rw [shR_s]
      congr 1
      · refine shR_keep (fun t ht => h3 t (List.mem_append_left _ ht)) rfl e1 (fun k hk => ⟨?_, ?_, fun i hi => ⟨?_, ?_⟩⟩)
        · unfold apF; rw [upz_n (by omega), upz_n (by omega), upz_n (by omega)]
        · unfold apF; rw [upz_n (by omega), upz_n (by omega), upz_n (by omega)]
        · unfold apF; rw [upz_n (by omega), upz_n (by omega), upz_n (by omega)]
        · unfold apF; rw [upz_n (by omega), upz_n (by omega), upz_n (by omega)]
      · have e4 : ptsOf ps.length (fun i => X (33 + 24 * Dl.length + i)) (fun i => X (417 + 24 * Dl.length + i)) = ps := by
          rw [hm]
          exact congrArg Prod.snd e3
        have e5 : X (17 + Dl.length) = col := congrArg Prod.fst e3
        have a1 : apF X Dl.length ps.length x y (17 + Dl.length) = col := by unfold apF; rw [upz_n (by omega), upz_n (by omega), upz_n (by omega)]; exact e5
        have a2 : apF X Dl.length ps.length x y (1 + Dl.length) = (ps.length : Int) + 1 := by unfold apF; rw [upz_s]
        unfold skR
        rw [a1, a2, show ((ps.length : Int) + 1).toNat = ps.length + 1 by omega, ptsOf_s]
        have a3 : apF X Dl.length ps.length x y (33 + 24 * Dl.length + ps.length) = x := by unfold apF; rw [upz_n (by omega), upz_n (by omega), upz_s]
        have a4 : apF X Dl.length ps.length x y (417 + 24 * Dl.length + ps.length) = y := by unfold apF; rw [upz_n (by omega), upz_s]
        rw [a3, a4, ptsOf_congr (X2 := fun i => X (33 + 24 * Dl.length + i)) (Y2 := fun i => X (417 + 24 * Dl.length + i)) (fun i hi => by unfold apF; exact ⟨by rw [upz_n (by omega), upz_n (by omega), upz_n (by omega)], by rw [upz_n (by omega), upz_n (by omega), upz_n (by omega)]⟩), e4]
  · rw [if_neg q]
    refine ⟨?_, fun hl => ?_, h24⟩
    · rw [List.length_append, List.length_singleton]; exact h1
    · rw [List.length_append, List.length_singleton] at hl; omega
/-- the last stroke's size, while it is held -/
theorem NxR_size {X : Nat → Int} {Dl : List Stk} {col : Int} {ps : List Pt} (h : NxR X (Dl ++ [(col, ps)])) (q : Dl.length < 16) : X (1 + Dl.length) = (ps.length : Int) := by
  obtain ⟨h1, h2, h3⟩ := h
  rw [List.length_append, List.length_singleton] at h1 h2
  have hs := (h2 (by omega)).1
  have hs2 := (h2 (by omega)).2 Dl.length (by omega)
  rw [shR_s] at hs
  obtain ⟨e1, e2⟩ := List.append_inj' hs rfl
  have e3 : skR X Dl.length = (col, ps) := by simpa using e2
  have : (skR X Dl.length).2.length = (X (1 + Dl.length)).toNat := ptsOf_len _ _ _
  rw [e3] at this
  have h9 : ps.length = (X (1 + Dl.length)).toNat := this
  omega
theorem NxR_0 {X : Nat → Int} : NxR (upz X 0 0) [] := ⟨upz_s, fun _ => ⟨rfl, fun k hk => absurd hk (Nat.not_lt_zero k)⟩, fun t ht => absurd ht List.not_mem_nil⟩
theorem NowR_at {G : Nat → Int} {S : List Stk} (h : NowR G S) {k : Nat} (hk : k < S.length) : gk S k = skR G k := by
  have := shR_at (G := G) hk
  rw [h.2] at this
  exact this
theorem NowR_ok {G : Nat → Int} {S : List Stk} (h : NowR G S) (hS : OkS S) {k : Nat} (hk : k < S.length) : OkK (skR G k) := by
  rw [← NowR_at h hk]
  exact OkS_at hS hk
theorem NowR_become {X G : Nat → Int} {Dl : List Stk} (hX : NxR X Dl) (h2 : OkS Dl) : NowR (cpz X G 0 0 801) Dl := by
  refine ⟨?_, row_congr h2 (hX.2.1 h2.1).1 (fun i hi => ?_)⟩
  · unfold cpz
    rw [if_pos (by omega)]
    exact hX.1
  · unfold cpz
    rw [if_pos (by omega)]
    congr 1
    omega
theorem NowR_color {G : Nat → Int} {S : List Stk} {k : Nat} {c : Int} (h : NowR G S) (hS : OkS S) (hk : k < S.length) : NowR (upz G (17 + k) c) (S.set k (c, (gk S k).2)) := by
  have h16 := hS.1
  refine ⟨by rw [upz_n (by omega), List.length_set]; exact h.1, ?_⟩
  rw [List.length_set]
  apply List.ext_getElem?
  intro j
  by_cases hj : j < S.length
  · rw [shR_get hj]
    by_cases e : k = j
    · subst e
      rw [List.getElem?_set_self hj, NowR_at h hk]
      unfold skR
      rw [upz_s, upz_n (by omega)]
      exact congrArg (fun z => some (c, z)) (ptsOf_congr (fun i hi => ⟨upz_n (by omega), upz_n (by omega)⟩))
    · rw [List.getElem?_set_ne e, gk_at hj, NowR_at h hj]
      exact congrArg some (skR_congr (F := G) (upz_n (by omega)).symm (upz_n (by omega)).symm (fun i hi => ⟨(upz_n (by omega)).symm, (upz_n (by omega)).symm⟩) (skR_24 (OkK_24 (NowR_ok h hS hj)))).symm
  · rw [List.getElem?_eq_none (by rw [shR_len]; omega), List.getElem?_eq_none (by rw [List.length_set]; omega)]
theorem er_same {α : Type} {S : List α} {z : Nat} (hz : z < S.length) : (S.take (z + 1)).eraseIdx z = (S.take z).eraseIdx z := by
  rw [take_s (List.getElem?_eq_getElem hz), List.eraseIdx_append_of_length_le (by rw [List.length_take]; omega), List.eraseIdx_of_length_le (l := S.take z) (by rw [List.length_take]; omega)]
  rw [show z - (S.take z).length = 0 by rw [List.length_take]; omega]
  simp
theorem er_s {α : Type} {S : List α} {z j : Nat} {t : α} (h : S[j]? = some t) (hz : z ≠ j) : (S.take (j + 1)).eraseIdx z = (S.take j).eraseIdx z ++ [t] := by
  have hj := (List.getElem?_eq_some_iff.mp h).1
  rw [take_s h]
  rcases Nat.lt_or_ge z j with q | q
  · rw [List.eraseIdx_append_of_lt_length (by rw [List.length_take]; omega)]
  · rw [List.eraseIdx_append_of_length_le (by rw [List.length_take]; omega), List.eraseIdx_of_length_le (l := S.take j) (by rw [List.length_take]; omega)]
    congr 1
    rw [List.eraseIdx_of_length_le (by rw [List.length_take, List.length_singleton]; omega)]
theorem hasS_R {n : Nat} {F : Nat → Int} {z : Int} : hasS (shR n F) z = decide (0 ≤ z ∧ z < (n : Int)) := by unfold hasS; rw [shR_len]
end SPECR
