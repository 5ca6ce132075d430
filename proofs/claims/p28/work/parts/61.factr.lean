/-! rubbing, joining: facts -/
section FACTR
def flat (S : List Stk) : List Pt := S.flatMap (fun t => t.2)
theorem flat_app (S T : List Stk) : flat (S ++ T) = flat S ++ flat T := by unfold flat; rw [List.flatMap_append]
theorem flat_one (t : Stk) : flat [t] = t.2 := by unfold flat; simp
theorem flat_s {S : List Stk} {k : Nat} (h : k < S.length) : flat (S.take (k + 1)) = flat (S.take k) ++ (gk S k).2 := by
  rw [take_s (gk_at h), flat_app, flat_one]
theorem pts_s {t : Stk} {i : Nat} (h : i < szk t) : t.2.take (i + 1) = t.2.take i ++ [(px t i, py t i)] := take_s (pxy_at h)
theorem pts_all (t : Stk) : t.2.take (szk t) = t.2 := List.take_length
/-- the number of a row of points -/
def hFs (h : Int64) (q : Pt) : Int64 := 1009 * (1009 * h + (iI q.1).toInt64) + (iI q.2).toInt64
def hFl (l : List Pt) : Int64 := l.foldl hFs 7
theorem hFl_s (l : List Pt) (q : Pt) : hFl (l ++ [q]) = hFs (hFl l) q := by unfold hFl; rw [List.foldl_append]; rfl
/-- how many parts a row of points leaves -/
def cnS1 (gone : Pt → Bool) (s : Nat × Bool) (q : Pt) : Nat × Bool := (if gone q = false ∧ s.2 = false then s.1 + 1 else s.1, !gone q)
def cntF (gone : Pt → Bool) (l : List Pt) : Nat × Bool := l.foldl (cnS1 gone) (0, false)
theorem cntF_s (gone : Pt → Bool) (l : List Pt) (q : Pt) : cntF gone (l ++ [q]) = cnS1 gone (cntF gone l) q := by unfold cntF; rw [List.foldl_append]; rfl
def keep (gone : Pt → Bool) (l : List Pt) : List Pt := l.filter (fun q => !gone q)
theorem keep_app (gone : Pt → Bool) (a b : List Pt) : keep gone (a ++ b) = keep gone a ++ keep gone b := by unfold keep; rw [List.filter_append]
theorem rub_inv (gone : Pt → Bool) (col : Int) (Dl : List Stk) : ∀ (l l0 : List Pt) (D : List Stk) (cur : List Pt), D.length + (if cur = [] then 0 else 1) = Dl.length + (cntF gone l0).1 → (cntF gone l0).2 = !decide (cur = []) → flat D ++ cur = flat Dl ++ keep gone l0 →
    ∀ D2 cur2, l.foldl (rubC gone col) (D, cur) = (D2, cur2) → D2.length + (if cur2 = [] then 0 else 1) = Dl.length + (cntF gone (l0 ++ l)).1 ∧ (cntF gone (l0 ++ l)).2 = !decide (cur2 = []) ∧ flat D2 ++ cur2 = flat Dl ++ keep gone (l0 ++ l)
  | [], l0, D, cur, h1, h2, h3, D2, cur2, e => by
    cases e
    rw [List.append_nil]
    exact ⟨h1, h2, h3⟩
  | q :: l, l0, D, cur, h1, h2, h3, D2, cur2, e => by
    rw [List.foldl_cons] at e
    have e0 : l0 ++ q :: l = (l0 ++ [q]) ++ l := by rw [List.append_assoc]; rfl
    rw [e0]
    have hc := cntF_s gone l0 q
    unfold cnS1 at hc
    unfold rubC at e
    cases hg : gone q with
    | true =>
      rw [hg] at e hc
      rw [if_pos rfl] at e
      rw [if_neg (by simp)] at hc
      dsimp only at e
      refine rub_inv gone col Dl l (l0 ++ [q]) _ [] ?_ ?_ ?_ D2 cur2 e
      · rw [hc, if_pos rfl]
        dsimp only
        by_cases z : cur = []
        · rw [if_pos z] at h1 ⊢; exact h1
        · rw [if_neg z] at h1 ⊢
          rw [List.length_append, List.length_singleton]
          exact h1
      · rw [hc]; simp
      · have k1 : keep gone [q] = [] := by unfold keep; simp [hg]
        rw [keep_app, k1, List.append_nil, List.append_nil, ← h3]
        by_cases z : cur = []
        · rw [if_pos z, z, List.append_nil]
        · rw [if_neg z, flat_app, flat_one]
    | false =>
      rw [hg] at e hc
      rw [if_neg (by simp)] at e
      dsimp only at e
      refine rub_inv gone col Dl l (l0 ++ [q]) D (cur ++ [q]) ?_ ?_ ?_ D2 cur2 e
      · rw [hc, if_neg (by simp)]
        dsimp only
        by_cases z : cur = []
        · rw [if_pos z] at h1
          rw [h2]
          simp [z]
          omega
        · rw [if_neg z] at h1
          rw [h2]
          simp [z]
          exact h1
      · rw [hc]; simp
      · have k1 : keep gone [q] = [q] := by unfold keep; simp [hg]
        rw [keep_app, k1, ← List.append_assoc, h3, List.append_assoc]
theorem rubK_len (gone : Pt → Bool) (Dl : List Stk) (t : Stk) : (rubK gone Dl t).length = Dl.length + (cntF gone t.2).1 ∧ flat (rubK gone Dl t) = flat Dl ++ keep gone t.2 := by
  unfold rubK
  cases e : t.2.foldl (rubC gone t.1) (Dl, []) with
  | mk D2 cur2 =>
  obtain ⟨h1, -, h3⟩ := rub_inv gone t.1 Dl t.2 [] Dl [] (by rw [if_pos rfl]; rfl) rfl (by unfold keep; rfl) D2 cur2 e
  rw [List.nil_append] at h1 h3
  unfold endC
  dsimp only
  by_cases z : cur2 = []
  · rw [if_pos z] at h1 ⊢
    rw [z, List.append_nil] at h3
    exact ⟨h1, h3⟩
  · rw [if_neg z] at h1 ⊢
    rw [List.length_append, List.length_singleton, flat_app, flat_one]
    exact ⟨h1, h3⟩
theorem rubL_flat (gone : Pt → Bool) {S : List Stk} : ∀ {k : Nat}, k ≤ S.length → flat (rubL gone (S.take k)) = keep gone (flat (S.take k))
  | 0, _ => rfl
  | k + 1, h => by
    have ih := rubL_flat gone (S := S) (k := k) (by omega)
    rw [rubL_s (gk_at (show k < S.length by omega)), (rubK_len gone _ _).2, ih, flat_s (by omega), keep_app]
theorem rubL_all (gone : Pt → Bool) (S : List Stk) : flat (rubL gone S) = keep gone (flat S) := by
  have := rubL_flat gone (S := S) (Nat.le_refl _)
  rwa [List.take_length] at this
theorem goneB_iff {x y r u v : Int} : goneB x y r (u, v) = true ↔ (u - x) * (u - x) + (v - y) * (v - y) ≤ r * r := by unfold goneB; exact decide_eq_true_iff
theorem countP_s (gone : Pt → Bool) (l : List Pt) (q : Pt) : (l ++ [q]).countP gone = l.countP gone + (if gone q = true then 1 else 0) := by
  rw [List.countP_append, List.countP_singleton]
theorem countP_le (gone : Pt → Bool) (l : List Pt) : l.countP gone ≤ l.length := List.countP_le_length
theorem goneN_le (gone : Pt → Bool) {S : List Stk} (hS : OkS S) : ∀ {k : Nat}, k ≤ S.length → goneN gone (S.take k) ≤ 24 * k
  | 0, _ => Nat.le_refl 0
  | k + 1, h => by
    have ih := goneN_le gone hS (k := k) (by omega)
    have hz := ok_sz hS (k := k) (by omega)
    have := countP_le gone (gk S k).2
    rw [goneN_s (gk_at (show k < S.length by omega))]
    unfold szk at hz
    omega
theorem cntF_le (gone : Pt → Bool) : ∀ (l : List Pt), (cntF gone l).1 ≤ l.length := by
  have key : ∀ (l : List Pt) (s : Nat × Bool), (l.foldl (cnS1 gone) s).1 ≤ s.1 + l.length := by
    intro l
    induction l with
    | nil => intro s; exact Nat.le_refl _
    | cons q l ih =>
      intro s
      have := ih (cnS1 gone s q)
      rw [List.foldl_cons, List.length_cons]
      have h2 : (cnS1 gone s q).1 ≤ s.1 + 1 := by
        unfold cnS1
        dsimp only
        split <;> omega
      omega
  intro l
  have := key l (0, false)
  unfold cntF
  omega
theorem rubL_le (gone : Pt → Bool) {S : List Stk} (hS : OkS S) : ∀ {k : Nat}, k ≤ S.length → (rubL gone (S.take k)).length ≤ 24 * k
  | 0, _ => Nat.le_refl 0
  | k + 1, h => by
    have ih := rubL_le gone hS (k := k) (by omega)
    have hz := ok_sz hS (k := k) (by omega)
    have := cntF_le gone (gk S k).2
    rw [rubL_s (gk_at (show k < S.length by omega)), (rubK_len gone _ _).1]
    unfold szk at hz
    omega
theorem rub_val {S : List Stk} {x y r : Int} (hx : 0 ≤ x ∧ x ≤ 1000) (hy : 0 ≤ y ∧ y ≤ 1000) (hr : 0 ≤ r ∧ r ≤ 500) : rubS S x y r = (if 16 < (rubL (goneB x y r) S).length then (-3, none) else if goneN (goneB x y r) S = 0 then (-5, none) else ((goneN (goneB x y r) S : Int), some (rubL (goneB x y r) S))) := by
  unfold rubS
  rw [if_neg (by unfold inR; simp only [decide_eq_false_iff_not]; omega)]
theorem take_len {α : Type} (S : List α) : S.take S.length = S := List.take_length
/-- joining -/
theorem gk_set {S : List Stk} {k : Nat} {t : Stk} (h : k < S.length) : gk (S.set k t) k = t := by
  unfold gk
  rw [List.getD_eq_getElem?_getD, List.getElem?_set_self h]
  rfl
theorem gk_erase {S : List Stk} {o k : Nat} (hk : k < S.length) (ho : o < S.length) (hne : k ≠ o) : gk (S.eraseIdx o) (k - (if o < k then 1 else 0)) = gk S k := by
  unfold gk
  rw [List.getD_eq_getElem?_getD, List.getD_eq_getElem?_getD, List.getElem?_eraseIdx]
  by_cases q : o < k
  · rw [if_pos q, if_neg (by omega), show k - 1 + 1 = k by omega]
  · rw [if_neg q, if_pos (by omega), Nat.sub_zero]
theorem join_val {S : List Stk} {k o : Nat} (hk : k < S.length) (ho : o < S.length) (hne : k ≠ o) : joinS S (k : Int) (o : Int) = (if 24 < szk (gk S k) + szk (gk S o) - joinF (gk S k) (gk S o) then (-3, none) else (((k - (if o < k then 1 else 0) : Nat) : Int), some ((S.set k ((gk S k).1, (gk S k).2 ++ (gk S o).2.drop (joinF (gk S k) (gk S o)))).eraseIdx o))) := by
  unfold joinS
  rw [if_neg (fun z => z.elim (has_k hk) (has_k ho)), if_neg (by omega)]
  rw [Int.toNat_natCast, Int.toNat_natCast]
  split
  · rfl
  · congr 1
    split <;> split <;> omega
theorem joinF_le (t u : Stk) : joinF t u ≤ 1 := by unfold joinF; split <;> omega
theorem join_res {S : List Stk} (hS : OkS S) {k o : Nat} (hk : k < S.length) (ho : o < S.length) (hne : k ≠ o) :
    ((S.set k ((gk S k).1, (gk S k).2 ++ (gk S o).2.drop (joinF (gk S k) (gk S o)))).eraseIdx o).length = S.length - 1 ∧
    gk ((S.set k ((gk S k).1, (gk S k).2 ++ (gk S o).2.drop (joinF (gk S k) (gk S o)))).eraseIdx o) (k - (if o < k then 1 else 0)) = ((gk S k).1, (gk S k).2 ++ (gk S o).2.drop (joinF (gk S k) (gk S o))) := by
  constructor
  · rw [List.length_eraseIdx, List.length_set, if_pos ho]
  · rw [gk_erase (by rw [List.length_set]; exact hk) (by rw [List.length_set]; exact ho) hne, gk_set hk]
theorem join_pts {t u : Stk} (ht : 1 ≤ szk t) (hu : 1 ≤ szk u) : szk (t.1, t.2 ++ u.2.drop (joinF t u)) = szk t + szk u - joinF t u ∧ px (t.1, t.2 ++ u.2.drop (joinF t u)) (szk t + szk u - joinF t u - 1) = px u (szk u - 1) := by
  have hj := joinF_le t u
  constructor
  · show (t.2 ++ u.2.drop (joinF t u)).length = _
    rw [List.length_append, List.length_drop]
    show szk t + (szk u - joinF t u) = _
    omega
  · show ((t.2 ++ u.2.drop (joinF t u)).getD _ (0, 0)).1 = _
    rw [List.getD_eq_getElem?_getD]
    by_cases q : szk u - joinF t u = 0
    · have h1 : joinF t u = 1 := by omega
      have h2 : szk u = 1 := by omega
      have h3 : px t (szk t - 1) = px u 0 := by
        unfold joinF at h1
        split at h1
        · next h => exact h.1
        · omega
      rw [List.getElem?_append_left (show _ < szk t by omega), show szk t + szk u - joinF t u - 1 = szk t - 1 by omega, h2]
      rw [show (1 : Nat) - 1 = 0 from rfl, ← h3]
      unfold px
      rw [List.getD_eq_getElem?_getD]
    · rw [List.getElem?_append_right (show szk t ≤ _ by omega), List.getElem?_drop]
      show (Option.getD u.2[joinF t u + (szk t + szk u - joinF t u - 1 - szk t)]? (0, 0)).1 = _
      rw [show joinF t u + (szk t + szk u - joinF t u - 1 - szk t) = szk u - 1 by omega]
      unfold px
      rw [List.getD_eq_getElem?_getD]
theorem act_none (s : St3) : actS s none = s := rfl
theorem P_ok2 {σ : PS} (h : OkPS σ) : σ.1.1.length ≤ 16 := h.2.2.1.1.1
end FACTR
