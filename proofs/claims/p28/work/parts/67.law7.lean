/-! the law's start; the claim out of the walk (the skeleton's words as they are given) -/
section LAW7

theorem VV_of_VL {p : Program} {l : Launch} {e : Env} {R : Room} {s : State} {m : MethodId} {args : Array Value} {below : List Frame} {meth : Method} {c : Code} {nL : Nat} {A : Nat → Prop} {D : va_G} {Q : State → Prop} {cells slots pc : Nat} {lv : List (Option Value)} {st : List Value} {ws : va_W} (h : VL p l e R s m args below meth c nL A D Q cells slots pc lv st ws) : VV p l e R s m args below meth c nL A D Q cells slots pc lv st ws := fun H locs ls hP hD hS hl => h H locs ls hP hD hS ⟨hl.1, hl.2.1, fun i v hv => (hl.2.2 i v hv).1⟩

set_option maxRecDepth 100000 in
set_option maxHeartbeats 4000000 in
theorem whole_start {p : Program} {e : Env} {s : State} {m : MethodId} {below : List Frame} {meth : Method} {c : Code} (l : Launch) (hflags : l.flags = flags0) {b L : Nat} {xs : Nat → Int32} (hL : L ≤ 260) (C0 : lw_At p s m meth c b L xs) : W p l e room_1 s m #[Value.ref b] below meth c s.heap [] 0 0 (lw_Z below #[Value.ref b] s) (entryFrame m ([Value.ref b] : List Value).toArray 18) := by
  obtain ⟨hx, hb, hr, hml, hown, hts0, hX, hbl, hlocks, hgv⟩ := id C0
  have hts : ∀ w ∈ wsL_law, w.before #[Value.ref b] s = true := fun w h => hts0 w (wsL_law_in w h)
  obtain ⟨c0, iS0, hKn0⟩ := u_known (C := RX0) (T := TX0) (N := 5) (n := 5) hts inlX0 (hts (.instantiable RX0 5) (by decide +kernel))
  obtain ⟨c1, iS1, hKn1⟩ := u_known (C := RX1) (T := TX1) (N := 8) (n := 8) hts inlX1 (hts (.instantiable RX1 8) (by decide +kernel))
  obtain ⟨c2, iS2, hKn2⟩ := u_known (C := RX2) (T := TX2) (N := 2) (n := 2) hts inlX2 (hts (.instantiable RX2 2) (by decide +kernel))
  obtain ⟨c3, iS3, hKn3⟩ := u_known (C := RX3) (T := TX3) (N := 4) (n := 4) hts inlX3 (hts (.instantiable RX3 4) (by decide +kernel))
  obtain ⟨c4, iS4, hKn4⟩ := u_known (C := RX4) (T := TX4) (N := 2) (n := 2) hts inlX4 (hts (.instantiable RX4 2) (by decide +kernel))
  obtain ⟨c5, iS5, hKn5⟩ := u_known (C := RX5) (T := TX5) (N := 3) (n := 3) hts inlX5 (hts (.instantiable RX5 3) (by decide +kernel))
  obtain ⟨c6, iS6, hKn6⟩ := u_known (C := RX6) (T := TX6) (N := 12) (n := 12) hts inlX6 (hts (.instantiable RX6 12) (by decide +kernel))
  obtain ⟨c7, iS7, hKn7⟩ := u_known (C := RX7) (T := TX7) (N := 10) (n := 10) hts inlX7 (hts (.instantiable RX7 10) (by decide +kernel))
  obtain ⟨D, hKc⟩ : ∃ D : va_G, ∀ (k : Nat) (q : vw_C), vwCl[k]? = some q → u_Kn s q.1 q.2.1 q.2.2 (D.1 k) (D.2 k) := by
    refine ⟨(fun k => if k = 0 then c0 else if k = 1 then c1 else if k = 2 then c2 else if k = 3 then c3 else if k = 4 then c4 else if k = 5 then c5 else if k = 6 then c6 else c7, fun k => if k = 0 then iS0 else if k = 1 then iS1 else if k = 2 then iS2 else if k = 3 then iS3 else if k = 4 then iS4 else if k = 5 then iS5 else if k = 6 then iS6 else iS7), ?_⟩
    intro k q hq
    match k, hq with
    | 0, hq => cases hq; exact hKn0
    | 1, hq => cases hq; exact hKn1
    | 2, hq => cases hq; exact hKn2
    | 3, hq => cases hq; exact hKn3
    | 4, hq => cases hq; exact hKn4
    | 5, hq => cases hq; exact hKn5
    | 6, hq => cases hq; exact hKn6
    | 7, hq => cases hq; exact hKn7
    | k + 8, hq => simp [vwCl] at hq
  obtain ⟨kI, kAI, compI, hfI, hkI, hkdI⟩ := Cond.arrayClass_spec (hts (.arrayClass .int) (by decide +kernel))
  obtain ⟨kC, kAC, compC, hfC, hkC, hkdC⟩ := Cond.arrayClass_spec (hts (.arrayClass .char) (by decide +kernel))
  have hK : va_K D vwCl [(kI, .int), (kC, .char)] s := by
    refine ⟨hKc, fun k q hq => ?_⟩
    match k, hq with
    | 0, hq => cases hq; exact ⟨fun n z => ⟨fun k h => (by cases h), kAI, hkI, compI, hkdI⟩, hfI⟩
    | 1, hq => cases hq; exact ⟨fun n z => ⟨fun k h => (by cases h), kAC, hkC, compC, hkdC⟩, hfC⟩
    | k + 2, hq => simp at hq
  have hNw : ∀ w ∈ nwAll, va_Nw w s := by
    intro w hw
    obtain ⟨a1, a2, a3, a4, rfl⟩ := nwAll_form w hw
    exact va_Nw.of rfl (hts0 _ (nw_in _ hw))
  have XC : Cx p room_1 s m #[.ref b] meth c cL_law 18 RL wsL_law (fun q => s.heap.size ≤ q) D kI kC := ⟨hx, hb, hml, hown, hts, hK, hNw, fun _ h => h, hlocks, rfl⟩
  have hbA : ¬ (fun q : Nat => s.heap.size ≤ q) b := Nat.not_le.mpr hbl
  have hl := lv_entry ([.ref b]) (n := 18) (Nat.le_of_ble_eq_true rfl)
  rw [lg_entry_eq]
  have hV : VV p l e room_1 s m #[.ref b] below meth c 18 (fun q => s.heap.size ≤ q) D (lw_Z below #[Value.ref b] s) 0 0 0 [some (.ref b), none, none, none, none, none, none, none, none, none, none, none, none, none, none, none, none, none] [] [] := by
    refine V_new (ci := 7) (fs := [.null, .null, .null, .null, .null, .null, .null, .null, .null, .int (iI 0)]) (C := RX7) (T := TX7) (N := 10) XC inlX7 fpX7 (by decide +kernel) rfl (fun j hj => by rcases (show j = 0 ∨ j = 1 ∨ j = 2 ∨ j = 3 ∨ j = 4 ∨ j = 5 ∨ j = 6 ∨ j = 7 ∨ j = 8 ∨ j = 9 by omega) with rfl | rfl | rfl | rfl | rfl | rfl | rfl | rfl | rfl | rfl <;> rfl) (Nat.le_of_ble_eq_true rfl) (Nat.le_of_ble_eq_true rfl) dL_law_0 (fun q0 => ?_)
    refine V_dup XC dL_law_3 rfl ?_
    refine V_make (w0 := []) XC (c_X7_init l D kI kC _) gL_law_X7_init (by decide +kernel) rfl rfl kmX7_init ⟨⟨(Nat.le_of_ble_eq_true rfl), (Nat.le_of_ble_eq_true rfl)⟩, (Nat.le_of_ble_eq_true rfl), (Nat.le_of_ble_eq_true rfl)⟩ (Nat.le_of_ble_eq_true rfl) rfl dL_law_4 (fun u hu => ?_)
    obtain ⟨a, g, w⟩ := u
    dsimp only at hu
    subst hu
    refine V_astore_n XC 1 rfl dL_law_7 (by decide) ?_
    dsimp only [List.set]
    refine V_bipush XC dL_law_8 (by decide) ?_
    refine V_istore_n XC 2 rfl dL_law_10 (by decide) ?_
    dsimp only [List.set]
    refine V_iconst XC dL_law_11 ?_
    refine V_istore_n XC 3 rfl dL_law_12 (by decide) ?_
    dsimp only [List.set]
    have hθ : thI (20, 0, (fun _ => 0), (fun _ => 0), 0, (fun _ => 0), 0, (fun _ => 0), 0, (fun _ => 0), 0, (fun _ => 0), (fun _ => 0), 0, 0, 0, (fun _ => 0), (fun _ => 0), 0, (fun _ => 0), (fun _ => 0), (fun _ => 0), (fun _ => 0), (fun _ => 0), (fun _ => 0), (fun _ => 0), 0, (fun _ => 0), (fun _ => 0), (fun _ => 0), (fun _ => 0), (fun _ => 0), (fun _ => 0), (fun _ => 0), (fun _ => 0), (fun _ => 0), (fun _ => 0), (fun _ => 0), 0, 0, (fun _ => 0), (fun _ => 0)) ((([], [], []), [], [], 20) : PS) := by
      refine ⟨rfl, OkB_nil, ⟨rfl, by decide, fun i hi => absurd hi (Nat.not_lt_zero i)⟩, rfl, ⟨⟨by decide, fun t ht => absurd ht List.not_mem_nil⟩, ⟨by decide, by decide⟩, fun S hS => absurd hS List.not_mem_nil, fun S hS => absurd hS List.not_mem_nil⟩, ⟨rfl, rfl, by decide, ⟨rfl, rfl⟩, fun j S hj => ?_, fun j S hj => ?_⟩, rfl, by decide, by decide⟩
      all_goals simp at hj
    have hM := law_main l (bV := below) (eV := e) (pa := a) (pg := g) (pw := w) XC hX hbl hbA hr (fun _ h => h) hL ((([], [], []), [], [], 20) : PS) rfl _ hθ
    exact VV_of_VL hM
  exact hV s.heap [] _ (fun k q h => by simp at h) ⟨fun i j p q h => by simp at h, fun k q h => by simp at h⟩ va_S.rf (Lh_entry (List.forall_mem_cons.mpr ⟨rfl, fun _ h => absurd h List.not_mem_nil⟩) hl 17)

end LAW7
