/-! what each call answers and makes of the lists -/
section SPEC3
def OkB (B : List Pt) : Prop := B.length ≤ 24 ∧ (∀ q ∈ B, inC q) ∧ NR B
theorem OkB_at {n : Nat} {X Y : Nat → Int} (h : OkB (ptsOf n X Y)) : n ≤ 24 ∧ ∀ i, i < n → 0 ≤ X i ∧ X i ≤ 1000 ∧ 0 ≤ Y i ∧ Y i ≤ 1000 := by
  obtain ⟨h1, h2, -⟩ := h
  rw [ptsOf_len] at h1
  exact ⟨h1, fun i hi => h2 _ (ptsOf_mem.mpr ⟨i, hi, rfl⟩)⟩
theorem OkB_addP {B : List Pt} {q : Pt} (h : OkB B) (hq : inC q) (hl : B.length < 24) : OkB (addP B q) := ⟨by have := addP_len (l := B) (q := q); omega, addP_all h.2.1 hq, NR_addP h.2.2⟩
theorem OkB_nil : OkB [] := ⟨by decide, fun _ h => absurd h List.not_mem_nil, trivial⟩
/-- the state after an act, or as it was -/
abbrev St3 : Type := List Stk × List (List Stk) × List (List Stk)
def actS (s : St3) : Option (List Stk) → St3
  | none => s
  | some S2 => (S2, (s.1 :: s.2.1).take 6, [])
def Ok3 (s : St3) : Prop := OkS s.1 ∧ (s.2.1.length ≤ 6 ∧ s.2.1.length + s.2.2.length ≤ 6) ∧ (∀ S ∈ s.2.1, OkS S) ∧ ∀ S ∈ s.2.2, OkS S
theorem Ok3_act {s : St3} {S2 : List Stk} (h : Ok3 s) (h2 : OkS S2) : Ok3 (actS s (some S2)) := by
  obtain ⟨h1, h3, h4, h5⟩ := h
  refine ⟨h2, ⟨by show ((s.1 :: s.2.1).take 6).length ≤ 6; rw [List.length_take]; omega, by show ((s.1 :: s.2.1).take 6).length + 0 ≤ 6; rw [List.length_take]; omega⟩, fun S hS => ?_, fun S hS => absurd hS List.not_mem_nil⟩
  rcases List.mem_cons.mp (List.mem_of_mem_take hS) with z | z
  · rw [z]; exact h1
  · exact h4 S z
/-- the class's ring holds the states -/
def slotC (N HS : Nat → Int) (s : Nat) (S : List Stk) : Prop := N s = (S.length : Int) ∧ shC S.length (fun i => HS (800 * s + i)) = S
def HR (s : St3) (p f a : Nat) (N HS : Nat → Int) : Prop :=
  p = s.2.1.length ∧ f = s.2.2.length ∧ a < 7 ∧ slotC N HS a s.1 ∧ (∀ j S, s.2.1[j]? = some S → slotC N HS ((a + 6 - j) % 7) S) ∧ ∀ j S, s.2.2[j]? = some S → slotC N HS ((a + 1 + j) % 7) S
theorem shC_cpz {n : Nat} {F HS : Nat → Int} {s : Nat} (hn : n ≤ 16) (h : OkS (shC n F)) : shC n (fun i => cpz F HS 0 (800 * s) 800 (800 * s + i)) = shC n F := by
  refine shC_congr (fun k hk => (skC_congr (F := F) (fun i hi => ?_) (skC_24 (shC_in h hk))).symm)
  unfold cpz
  try dsimp only
  rw [if_pos (by omega)]
  congr 1 <;> omega
theorem shC_shift {n s : Nat} {HS F : Nat → Int} {S : List Stk} (hn : n ≤ 16) (hS : OkS S) (h : shC n (fun i => HS (800 * s + i)) = S) : shC n (cpz HS F (800 * s) 0 800) = S := by
  rw [← h] at hS ⊢
  refine shC_congr (fun k hk => (skC_congr (F := fun i => HS (800 * s + i)) (fun i hi => ?_) (skC_24 (shC_in hS hk))).symm)
  unfold cpz
  try dsimp only
  rw [if_pos (by omega)]
  congr 1 <;> omega
theorem slotC_out {N HS F : Nat → Int} {s s2 : Nat} {n : Int} {S : List Stk} (hS : OkS S) (h : slotC N HS s S) (hne : s ≠ s2) : slotC (upz N s2 n) (cpz F HS 0 (800 * s2) 800) s S := by
  obtain ⟨h1, h2⟩ := h
  refine ⟨by rw [upz_n hne]; exact h1, ?_⟩
  have hS2 : OkS (shC S.length (fun i => HS (800 * s + i))) := by rw [h2]; exact hS
  refine Eq.trans (shC_congr (fun k hk => (skC_congr (F := fun i => HS (800 * s + i)) (fun i hi => ?_) (skC_24 (shC_in hS2 hk))).symm)) h2
  unfold cpz
  try dsimp only
  have := hS.1
  rw [if_neg (by omega)]
theorem HR_record {s : St3} {p f a n : Nat} {N HS F : Nat → Int} (h3 : Ok3 s) (h : HR s p f a N HS) (hn : n ≤ 16) (hS : OkS (shC n F)) : HR (actS s (some (shC n F))) (min (p + 1) 6) 0 (nx a) (upz N (nx a) (n : Int)) (cpz F HS 0 (800 * nx a) 800) := by
  obtain ⟨h1, h2, ha, h4, h5, h6⟩ := h
  have hnx : nx a < 7 ∧ (nx a = a + 1 ∨ (a = 6 ∧ nx a = 0)) := by unfold nx; split <;> omega
  refine ⟨?_, rfl, hnx.1, ⟨by rw [upz_s]; show _ = ((shC n F).length : Int); rw [shC_len], ?_⟩, fun j S hj => ?_, fun j S hj => by simp [actS] at hj⟩
  · show _ = ((s.1 :: s.2.1).take 6).length
    rw [List.length_take, List.length_cons]
    omega
  · show shC (shC n F).length _ = shC n F
    rw [shC_len]
    exact shC_cpz hn hS
  · have hj2 : ((s.1 :: s.2.1).take 6)[j]? = some S := hj
    rw [List.getElem?_take] at hj2
    split at hj2
    · rename_i hlt
      cases j with
      | zero =>
        rw [List.getElem?_cons_zero] at hj2
        cases hj2
        have := slotC_out (F := F) (s2 := nx a) (n := (n : Int)) h3.1 h4 (by omega)
        rwa [show (nx a + 6 - 0) % 7 = a by omega]
      | succ j =>
        rw [List.getElem?_cons_succ] at hj2
        have hm := List.mem_of_getElem? hj2
        have := slotC_out (F := F) (s2 := nx a) (n := (n : Int)) (h3.2.2.1 S hm) (h5 j S hj2) (by omega)
        rwa [show (nx a + 6 - (j + 1)) % 7 = (a + 6 - j) % 7 by omega]
    · cases hj2
def undoS (s : St3) : Int × St3 := match s.2.1 with
  | [] => (-5, s)
  | X :: r => ((r.length : Int), (X, r, s.1 :: s.2.2))
def redoS (s : St3) : Int × St3 := match s.2.2 with
  | [] => (-5, s)
  | X :: r => ((r.length : Int), (X, s.1 :: s.2.1, r))
theorem HR_back {s : St3} {p f a : Nat} {N HS : Nat → Int} {X : List Stk} {r : List (List Stk)} (h3 : s.2.1.length ≤ 6) (h : HR s p f a N HS) (e : s.2.1 = X :: r) : HR (X, r, s.1 :: s.2.2) (p - 1) (f + 1) (pv a) N HS ∧ slotC N HS (pv a) X := by
  obtain ⟨h1, h2, ha, h4, h5, h6⟩ := h
  rw [e] at h1 h5
  rw [List.length_cons] at h1
  have hpv : pv a < 7 ∧ (pv a + 1 = a ∨ (a = 0 ∧ pv a = 6)) := by unfold pv; split <;> omega
  have hX : slotC N HS (pv a) X := by
    have := h5 0 X rfl
    rwa [show (a + 6 - 0) % 7 = pv a by omega] at this
  refine ⟨⟨by show _ = r.length; omega, by show _ = (s.1 :: s.2.2).length; rw [List.length_cons]; omega, hpv.1, hX, fun j S hj => ?_, fun j S hj => ?_⟩, hX⟩
  · have := h5 (j + 1) S (by simpa using hj)
    have hlt : j < r.length := (List.getElem?_eq_some_iff.mp hj).1
    have hl : s.2.1.length = r.length + 1 := by rw [e]; rfl
    rwa [show (a + 6 - (j + 1)) % 7 = (pv a + 6 - j) % 7 by omega] at this
  · cases j with
    | zero =>
      have hj2 : some s.1 = some S := hj
      cases hj2
      rwa [show (pv a + 1 + 0) % 7 = a by omega]
    | succ j =>
      have := h6 j S (by simpa using hj)
      rwa [show (pv a + 1 + (j + 1)) % 7 = (a + 1 + j) % 7 by omega]
theorem HR_on {s : St3} {p f a : Nat} {N HS : Nat → Int} {X : List Stk} {r : List (List Stk)} (h3 : s.2.1.length ≤ 6) (h : HR s p f a N HS) (e : s.2.2 = X :: r) : HR (X, s.1 :: s.2.1, r) (p + 1) (f - 1) (nx a) N HS ∧ slotC N HS (nx a) X := by
  obtain ⟨h1, h2, ha, h4, h5, h6⟩ := h
  rw [e] at h2 h6
  rw [List.length_cons] at h2
  have hnx : nx a < 7 ∧ (nx a = a + 1 ∨ (a = 6 ∧ nx a = 0)) := by unfold nx; split <;> omega
  have hX : slotC N HS (nx a) X := by
    have := h6 0 X rfl
    rwa [show (a + 1 + 0) % 7 = nx a by omega] at this
  refine ⟨⟨by show _ = (s.1 :: s.2.1).length; rw [List.length_cons]; omega, by show _ = r.length; omega, hnx.1, hX, fun j S hj => ?_, fun j S hj => ?_⟩, hX⟩
  · cases j with
    | zero =>
      have hj2 : some s.1 = some S := hj
      cases hj2
      rwa [show (nx a + 6 - 0) % 7 = a by omega]
    | succ j =>
      have hj3 : s.2.1[j]? = some S := by simpa using hj
      have hlt : j < s.2.1.length := (List.getElem?_eq_some_iff.mp hj3).1
      have := h5 j S hj3
      rwa [show (nx a + 6 - (j + 1)) % 7 = (a + 6 - j) % 7 by omega]
  · have := h6 (j + 1) S (by simpa using hj)
    rwa [show (nx a + 1 + j) % 7 = (a + 1 + (j + 1)) % 7 by omega]
/-- answers and what becomes of it -/
def inR (v a b : Int) : Bool := decide (a ≤ v ∧ v ≤ b)
def putS (B : List Pt) (x y : Int) : Int × List Pt :=
  if inR x 0 1000 = false ∨ inR y 0 1000 = false then (-2, B) else if 24 ≤ B.length then (-3, B) else (((addP B (x, y)).length : Int), addP B (x, y))
def drawS (S : List Stk) (B : List Pt) (c : Int) : Int × Option (List Stk) :=
  if inR c 0 3 = false then (-2, none) else if B.length = 0 then (-4, none) else if 16 ≤ S.length then (-3, none) else ((S.length : Int), some (S ++ [(c, B)]))
def hasS (S : List Stk) (z : Int) : Bool := decide (0 ≤ z ∧ z < (S.length : Int))
def repS (S : List Stk) (k : Nat) (ps : List Pt) : Int × Option (List Stk) :=
  if (gk S k).2 = ps then (-5, none) else ((ps.length : Int), some (S.set k ((gk S k).1, ps)))
def smN (n : Nat) (X : Nat → Int) (j : Nat) : Nat → Int := itr (fun _ X => smF n X) X j
def smoothS (S : List Stk) (z r : Int) : Int × Option (List Stk) :=
  if hasS S z = false then (-1, none) else if inR r 1 8 = false then (-2, none)
  else repS S z.toNat (dd (ptsOf (szk (gk S z.toNat)) (smN (szk (gk S z.toNat)) (px (gk S z.toNat)) r.toNat) (smN (szk (gk S z.toNat)) (py (gk S z.toNat)) r.toNat)))
def thinS (S : List Stk) (z d : Int) : Int × Option (List Stk) :=
  if hasS S z = false then (-1, none) else if inR d 1 500 = false then (-2, none)
  else repS S z.toNat (thinC (szk (gk S z.toNat)) (px (gk S z.toNat)) (py (gk S z.toNat)) (d * d))
def joinF (t o : Stk) : Nat := if px t (szk t - 1) = px o 0 ∧ py t (szk t - 1) = py o 0 then 1 else 0
def joinS (S : List Stk) (z o : Int) : Int × Option (List Stk) :=
  if hasS S z = false ∨ hasS S o = false then (-1, none) else if z = o then (-2, none)
  else if 24 < szk (gk S z.toNat) + szk (gk S o.toNat) - joinF (gk S z.toNat) (gk S o.toNat) then (-3, none)
  else (if o < z then z - 1 else z, some ((S.set z.toNat ((gk S z.toNat).1, (gk S z.toNat).2 ++ (gk S o.toNat).2.drop (joinF (gk S z.toNat) (gk S o.toNat)))).eraseIdx o.toNat))
def shiftS (S : List Stk) (z dx dy : Int) : Int × Option (List Stk) :=
  if hasS S z = false then (-1, none) else if inR dx (-1000) 1000 = false ∨ inR dy (-1000) 1000 = false then (-2, none)
  else if inR (lfS S z.toNat + dx) 0 1000 = false ∨ inR (rtS S z.toNat + dx) 0 1000 = false ∨ inR (tpS S z.toNat + dy) 0 1000 = false ∨ inR (boS S z.toNat + dy) 0 1000 = false then (-4, none)
  else repS S z.toNat (ptsOf (szk (gk S z.toNat)) (fun i => px (gk S z.toNat) i + dx) (fun i => py (gk S z.toNat) i + dy))
def paintS (S : List Stk) (z c : Int) : Int × Option (List Stk) :=
  if hasS S z = false then (-1, none) else if inR c 0 3 = false then (-2, none)
  else if (gk S z.toNat).1 = c then (-5, none) else ((gk S z.toNat).1, some (S.set z.toNat (c, (gk S z.toNat).2)))
def removeS (S : List Stk) (z : Int) : Int × Option (List Stk) :=
  if hasS S z = false then (-1, none) else ((S.length : Int) - 1, some (S.eraseIdx z.toNat))
theorem OkS_set {S : List Stk} {k : Nat} {t : Stk} (h : OkS S) (ht : OkK t) : OkS (S.set k t) := by
  refine ⟨by rw [List.length_set]; exact h.1, fun x hx => ?_⟩
  rcases List.mem_or_eq_of_mem_set hx with z | z
  · exact h.2 x z
  · rw [z]; exact ht
theorem OkS_erase {S : List Stk} {k : Nat} (h : OkS S) : OkS (S.eraseIdx k) := by
  refine ⟨Nat.le_trans (List.length_eraseIdx_le S k) h.1, fun x hx => h.2 x (List.mem_of_mem_eraseIdx hx)⟩
theorem OkS_push {S : List Stk} {t : Stk} (h : OkS S) (hl : S.length < 16) (ht : OkK t) : OkS (S ++ [t]) := by
  refine ⟨by rw [List.length_append, List.length_singleton]; omega, fun x hx => ?_⟩
  rcases List.mem_append.mp hx with z | z
  · exact h.2 x z
  · rw [List.mem_singleton.mp z]; exact ht
end SPEC3
