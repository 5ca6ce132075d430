/-! undoing, errors, rubbing, joining -/
section LAW4

set_option maxRecDepth 100000 in
set_option maxHeartbeats 4000000 in
theorem c_L_history (l : Launch) (D : va_G) (kI kC : ClassId) (pa pg pw : Nat → Nat) (σ : PS) (S P0 : List Stk) (rest : List (List Stk)) (B : List Pt) (X : List Int) (g : Int) (hσ : σ = ((S, P0 :: rest, []), B, X, g)) (b : Int64) (hb : b = hsS P0) : PCon l yL_history wsL_history { frames := 8, cells := 0, slots := 0, locals := 186 } D kI kC pa pg pw [.ref (pa 0), .long b] σ (qS σ (fun r => r = 1)) := by
  refine PCon.of (cc := cL_history) (maxL := 6) (ret := (some .boolean)) (by decide +kernel) rfl (Nat.le_of_ble_eq_true rfl) ?_
  intro pV eV sV mV bV tV cV AV Qf XC hrV hQ
  have XC : Cx pV _ sV mV _ tV cV cL_history 6 RL wsL_history AV D kI kC := XC
  change PP _ _ _ _ _ _ _ _ _ _ _ _ _ _ _ _ _ _ _ _ _ _ [some (.ref (pa 0)), some (.long b), none, none, none, none] _ _
  subst hσ
  refine P_ok (fun hok => ?_)
  have h16 := ok_16 hok
  have hpl : rest.length + 1 ≤ 6 := hok.2.2.1.2.1.1
  refine P_aload_n XC 0 rfl dL_history_0 rfl ?_
  refine P_call (rest := _) XC (c_L_whole l D kI kC pa pg pw ((S, P0 :: rest, []), B, X, g)) gL_history_L_whole rfl kmL_whole ⟨⟨(Nat.le_of_ble_eq_true rfl), (Nat.le_of_ble_eq_true rfl)⟩, (Nat.le_of_ble_eq_true rfl), (Nat.le_of_ble_eq_true rfl)⟩ ⟨rfl, rfl⟩ rfl rfl (Nat.le_of_ble_eq_true rfl) dL_history_1 (kL_of ?_)
  dsimp only [Option.toList, List.cons_append, List.nil_append]
  refine P_lstore_n XC 3 rfl dL_history_4 rfl (by decide) ?_
  dsimp only [List.set]
  refine P_aload_n XC 0 rfl dL_history_5 rfl ?_
  refine P_bipush XC dL_history_6 (by decide) ?_
  refine P_X7_count XC (by first | (with_reducible assumption) | (unfold IR; omega) | (unfold IR at *; omega)) gL_history_X7_count ⟨⟨(Nat.le_of_ble_eq_true rfl), (Nat.le_of_ble_eq_true rfl)⟩, (Nat.le_of_ble_eq_true rfl), (Nat.le_of_ble_eq_true rfl)⟩ (Nat.le_of_ble_eq_true rfl) dL_history_8 (fun r8 hr8 => ?_)
  have hc8 : r8 = (rest.length : Int) + 1 := by
    have := cn_8 hr8
    rw [this]
    show ((rest.length + 1 : Nat) : Int) = _
    omega
  subst hc8
  refine P_istore XC dL_history_11 rfl (by decide) ?_
  dsimp only [List.set]
  refine P_aload_n XC 0 rfl dL_history_13 rfl ?_
  refine P_bipush XC dL_history_14 (by decide) ?_
  refine P_X7_count XC (by first | (with_reducible assumption) | (unfold IR; omega) | (unfold IR at *; omega)) gL_history_X7_count ⟨⟨(Nat.le_of_ble_eq_true rfl), (Nat.le_of_ble_eq_true rfl)⟩, (Nat.le_of_ble_eq_true rfl), (Nat.le_of_ble_eq_true rfl)⟩ (Nat.le_of_ble_eq_true rfl) dL_history_16 (fun r16 hr16 => ?_)
  have hc9 : r16 = 0 := cn_9 hr16
  subst hc9
  refine P_if_ne XC 52 dL_history_19 (by decide) (by first | (with_reducible assumption) | (unfold IR; omega) | (unfold IR at *; omega)) (fun h19 => ?_) (fun h19 => ?_)
  · exfalso
    omega
  refine P_aload_n XC 0 rfl dL_history_22 rfl ?_
  refine P_X7_undo XC  gL_history_X7_undo ⟨⟨(Nat.le_of_ble_eq_true rfl), (Nat.le_of_ble_eq_true rfl)⟩, (Nat.le_of_ble_eq_true rfl), (Nat.le_of_ble_eq_true rfl)⟩ (Nat.le_of_ble_eq_true rfl) dL_history_23 ?_
  refine P_top (y := (rest.length : Int)) rfl ?_
  change PP _ _ _ _ _ _ _ _ _ _ _ _ _ _ _ _ _ _ _ _ _ _ _ _ ((P0, rest, [S]), B, X, g)
  refine P_iload XC dL_history_26 rfl ?_
  refine P_iconst XC dL_history_28 ?_
  refine P_isub XC dL_history_29 ?_
  refine P_icmp_ne XC 52 dL_history_30 (by decide) (by first | (with_reducible assumption) | (unfold IR; omega) | (unfold IR at *; omega)) (by first | (with_reducible assumption) | (unfold IR; omega) | (unfold IR at *; omega)) (fun h30 => ?_) (fun h30 => ?_)
  · exfalso
    omega
  refine P_aload_n XC 0 rfl dL_history_33 rfl ?_
  refine P_call (rest := _) XC (c_L_whole l D kI kC pa pg pw ((P0, rest, [S]), B, X, g)) gL_history_L_whole rfl kmL_whole ⟨⟨(Nat.le_of_ble_eq_true rfl), (Nat.le_of_ble_eq_true rfl)⟩, (Nat.le_of_ble_eq_true rfl), (Nat.le_of_ble_eq_true rfl)⟩ ⟨rfl, rfl⟩ rfl rfl (Nat.le_of_ble_eq_true rfl) dL_history_34 (kL_of ?_)
  dsimp only [Option.toList, List.cons_append, List.nil_append]
  refine P_lload_n XC 1 rfl dL_history_37 rfl ?_
  refine P_lcmp XC dL_history_38 ?_
  refine P_lc_ne XC 52 dL_history_39 (by decide) (fun h39 => ?_) (fun h39 => ?_)
  · exfalso
    exact h39 (by rw [hb])
  refine P_aload_n XC 0 rfl dL_history_42 rfl ?_
  refine P_bipush XC dL_history_43 (by decide) ?_
  refine P_X7_count XC (by first | (with_reducible assumption) | (unfold IR; omega) | (unfold IR at *; omega)) gL_history_X7_count ⟨⟨(Nat.le_of_ble_eq_true rfl), (Nat.le_of_ble_eq_true rfl)⟩, (Nat.le_of_ble_eq_true rfl), (Nat.le_of_ble_eq_true rfl)⟩ (Nat.le_of_ble_eq_true rfl) dL_history_45 (fun r45 hr45 => ?_)
  have hc9 : r45 = 1 := cn_9 hr45
  subst hc9
  refine P_iconst XC dL_history_48 ?_
  refine P_icmp_eq XC 54 dL_history_49 (by decide) (by first | (with_reducible assumption) | (unfold IR; omega) | (unfold IR at *; omega)) (by first | (with_reducible assumption) | (unfold IR; omega) | (unfold IR at *; omega)) (fun h49 => ?_) (fun h49 => ?_)
  rotate_left
  · exfalso
    omega
  refine P_aload_n XC 0 rfl dL_history_54 rfl ?_
  refine P_X7_redo XC  gL_history_X7_redo ⟨⟨(Nat.le_of_ble_eq_true rfl), (Nat.le_of_ble_eq_true rfl)⟩, (Nat.le_of_ble_eq_true rfl), (Nat.le_of_ble_eq_true rfl)⟩ (Nat.le_of_ble_eq_true rfl) dL_history_55 ?_
  refine P_top (y := 0) rfl ?_
  change PP _ _ _ _ _ _ _ _ _ _ _ _ _ _ _ _ _ _ _ _ _ _ _ _ ((S, P0 :: rest, []), B, X, g)
  refine P_if_ne XC 94 dL_history_58 (by decide) (by first | (with_reducible assumption) | (unfold IR; omega) | (unfold IR at *; omega)) (fun h58 => ?_) (fun h58 => ?_)
  · exfalso
    omega
  refine P_aload_n XC 0 rfl dL_history_61 rfl ?_
  refine P_call (rest := _) XC (c_L_whole l D kI kC pa pg pw ((S, P0 :: rest, []), B, X, g)) gL_history_L_whole rfl kmL_whole ⟨⟨(Nat.le_of_ble_eq_true rfl), (Nat.le_of_ble_eq_true rfl)⟩, (Nat.le_of_ble_eq_true rfl), (Nat.le_of_ble_eq_true rfl)⟩ ⟨rfl, rfl⟩ rfl rfl (Nat.le_of_ble_eq_true rfl) dL_history_62 (kL_of ?_)
  dsimp only [Option.toList, List.cons_append, List.nil_append]
  refine P_lload_n XC 3 rfl dL_history_65 rfl ?_
  refine P_lcmp XC dL_history_66 ?_
  refine P_lc_ne XC 94 dL_history_67 (by decide) (fun h67 => ?_) (fun h67 => ?_)
  · exfalso
    exact h67 rfl
  refine P_aload_n XC 0 rfl dL_history_70 rfl ?_
  refine P_bipush XC dL_history_71 (by decide) ?_
  refine P_X7_count XC (by first | (with_reducible assumption) | (unfold IR; omega) | (unfold IR at *; omega)) gL_history_X7_count ⟨⟨(Nat.le_of_ble_eq_true rfl), (Nat.le_of_ble_eq_true rfl)⟩, (Nat.le_of_ble_eq_true rfl), (Nat.le_of_ble_eq_true rfl)⟩ (Nat.le_of_ble_eq_true rfl) dL_history_73 (fun r73 hr73 => ?_)
  have hc8 : r73 = (rest.length : Int) + 1 := by
    have := cn_8 hr73
    rw [this]
    show ((rest.length + 1 : Nat) : Int) = _
    omega
  subst hc8
  refine P_iload XC dL_history_76 rfl ?_
  refine P_icmp_ne XC 94 dL_history_78 (by decide) (by first | (with_reducible assumption) | (unfold IR; omega) | (unfold IR at *; omega)) (by first | (with_reducible assumption) | (unfold IR; omega) | (unfold IR at *; omega)) (fun h78 => ?_) (fun h78 => ?_)
  · exfalso
    omega
  refine P_aload_n XC 0 rfl dL_history_81 rfl ?_
  refine P_X7_redo XC  gL_history_X7_redo ⟨⟨(Nat.le_of_ble_eq_true rfl), (Nat.le_of_ble_eq_true rfl)⟩, (Nat.le_of_ble_eq_true rfl), (Nat.le_of_ble_eq_true rfl)⟩ (Nat.le_of_ble_eq_true rfl) dL_history_82 ?_
  refine P_top (y := -5) rfl ?_
  change PP _ _ _ _ _ _ _ _ _ _ _ _ _ _ _ _ _ _ _ _ _ _ _ _ ((S, P0 :: rest, []), B, X, g)
  refine P_bipush XC dL_history_85 (by decide) ?_
  refine P_icmp_ne XC 94 dL_history_87 (by decide) (by first | (with_reducible assumption) | (unfold IR; omega) | (unfold IR at *; omega)) (by first | (with_reducible assumption) | (unfold IR; omega) | (unfold IR at *; omega)) (fun h87 => ?_) (fun h87 => ?_)
  · exfalso
    omega
  refine P_iconst XC dL_history_90 ?_
  refine P_goto XC 95 dL_history_91 (by decide) ?_
  exact P_zret (r := true) XC hrV dL_history_95 (fun u hu => hQ _ _ u ⟨1, rfl, rfl, rfl⟩ hu)

set_option maxRecDepth 100000 in
set_option maxHeartbeats 4000000 in
theorem c_L_errors (l : Launch) (D : va_G) (kI kC : ClassId) (pa pg pw : Nat → Nat) (σ : PS) (hB : σ.2.1 = []) : PCon l yL_errors wsL_errors { frames := 7, cells := 0, slots := 0, locals := 161 } D kI kC pa pg pw [.ref (pa 0)] σ (qS σ (fun r => r = 1)) := by
  refine PCon.of (cc := cL_errors) (maxL := 3) (ret := (some .boolean)) (by decide +kernel) rfl (Nat.le_of_ble_eq_true rfl) ?_
  intro pV eV sV mV bV tV cV AV Qf XC hrV hQ
  have XC : Cx pV _ sV mV _ tV cV cL_errors 3 RL wsL_errors AV D kI kC := XC
  change PP _ _ _ _ _ _ _ _ _ _ _ _ _ _ _ _ _ _ _ _ _ _ [some (.ref (pa 0)), none, none] _ _
  refine P_ok (fun hok => ?_)
  have hS := ok_S hok
  have h16 := ok_16 hok
  refine P_aload_n XC 0 rfl dL_errors_0 rfl ?_
  refine P_iconst XC dL_errors_1 ?_
  refine P_X7_count XC (by first | (with_reducible assumption) | (unfold IR; omega) | (unfold IR at *; omega)) gL_errors_X7_count ⟨⟨(Nat.le_of_ble_eq_true rfl), (Nat.le_of_ble_eq_true rfl)⟩, (Nat.le_of_ble_eq_true rfl), (Nat.le_of_ble_eq_true rfl)⟩ (Nat.le_of_ble_eq_true rfl) dL_errors_2 (fun r2 hr2 => ?_)
  obtain rfl := cn_0 hr2
  refine P_istore_n XC 1 rfl dL_errors_5 rfl (by decide) ?_
  dsimp only [List.set]
  refine P_aload_n XC 0 rfl dL_errors_6 rfl ?_
  refine P_sipush XC dL_errors_7 (by decide) ?_
  refine P_iconst XC dL_errors_10 ?_
  refine P_X7_put XC (by first | (with_reducible assumption) | (unfold IR; omega) | (unfold IR at *; omega)) (by first | (with_reducible assumption) | (unfold IR; omega) | (unfold IR at *; omega)) gL_errors_X7_put ⟨⟨(Nat.le_of_ble_eq_true rfl), (Nat.le_of_ble_eq_true rfl)⟩, (Nat.le_of_ble_eq_true rfl), (Nat.le_of_ble_eq_true rfl)⟩ (Nat.le_of_ble_eq_true rfl) dL_errors_11 ?_
  refine P_top (y := -2) (rfl) ?_
  change PP _ _ _ _ _ _ _ _ _ _ _ _ _ _ _ _ _ _ _ _ _ _ _ _ σ
  refine P_bipush XC dL_errors_14 (by decide) ?_
  refine P_icmp_ne XC 129 dL_errors_16 (by decide) (by first | (with_reducible assumption) | (unfold IR; omega) | (unfold IR at *; omega)) (by first | (with_reducible assumption) | (unfold IR; omega) | (unfold IR at *; omega)) (fun h16 => ?_) (fun h16 => ?_)
  · exfalso
    omega
  refine P_aload_n XC 0 rfl dL_errors_19 rfl ?_
  refine P_iconst XC dL_errors_20 ?_
  refine P_X7_draw XC (by first | (with_reducible assumption) | (unfold IR; omega) | (unfold IR at *; omega)) gL_errors_X7_draw ⟨⟨(Nat.le_of_ble_eq_true rfl), (Nat.le_of_ble_eq_true rfl)⟩, (Nat.le_of_ble_eq_true rfl), (Nat.le_of_ble_eq_true rfl)⟩ (Nat.le_of_ble_eq_true rfl) dL_errors_21 ?_
  have hv21 : drawS σ.1.1 σ.2.1 4 = (-2, none) := rfl
  rw [hv21]
  refine P_top (y := -2) rfl ?_
  change PP _ _ _ _ _ _ _ _ _ _ _ _ _ _ _ _ _ _ _ _ _ _ _ _ σ
  refine P_bipush XC dL_errors_24 (by decide) ?_
  refine P_icmp_ne XC 129 dL_errors_26 (by decide) (by first | (with_reducible assumption) | (unfold IR; omega) | (unfold IR at *; omega)) (by first | (with_reducible assumption) | (unfold IR; omega) | (unfold IR at *; omega)) (fun h26 => ?_) (fun h26 => ?_)
  · exfalso
    omega
  refine P_aload_n XC 0 rfl dL_errors_29 rfl ?_
  refine P_iconst XC dL_errors_30 ?_
  refine P_X7_draw XC (by first | (with_reducible assumption) | (unfold IR; omega) | (unfold IR at *; omega)) gL_errors_X7_draw ⟨⟨(Nat.le_of_ble_eq_true rfl), (Nat.le_of_ble_eq_true rfl)⟩, (Nat.le_of_ble_eq_true rfl), (Nat.le_of_ble_eq_true rfl)⟩ (Nat.le_of_ble_eq_true rfl) dL_errors_31 ?_
  have hv31 : drawS σ.1.1 σ.2.1 0 = (-4, none) := by rw [hB]; rfl
  rw [hv31]
  refine P_top (y := -4) rfl ?_
  change PP _ _ _ _ _ _ _ _ _ _ _ _ _ _ _ _ _ _ _ _ _ _ _ _ σ
  refine P_bipush XC dL_errors_34 (by decide) ?_
  refine P_icmp_ne XC 129 dL_errors_36 (by decide) (by first | (with_reducible assumption) | (unfold IR; omega) | (unfold IR at *; omega)) (by first | (with_reducible assumption) | (unfold IR; omega) | (unfold IR at *; omega)) (fun h36 => ?_) (fun h36 => ?_)
  · exfalso
    omega
  refine P_aload_n XC 0 rfl dL_errors_39 rfl ?_
  refine P_iconst XC dL_errors_40 ?_
  refine P_iconst XC dL_errors_41 ?_
  refine P_iconst XC dL_errors_42 ?_
  refine P_X7_rub XC (by first | (with_reducible assumption) | (unfold IR; omega) | (unfold IR at *; omega)) (by first | (with_reducible assumption) | (unfold IR; omega) | (unfold IR at *; omega)) (by first | (with_reducible assumption) | (unfold IR; omega) | (unfold IR at *; omega)) gL_errors_X7_rub ⟨⟨(Nat.le_of_ble_eq_true rfl), (Nat.le_of_ble_eq_true rfl)⟩, (Nat.le_of_ble_eq_true rfl), (Nat.le_of_ble_eq_true rfl)⟩ (Nat.le_of_ble_eq_true rfl) dL_errors_43 ?_
  have hv43 : rubS σ.1.1 (-1) 0 0 = (-2, none) := rfl
  rw [hv43]
  refine P_top (y := -2) rfl ?_
  change PP _ _ _ _ _ _ _ _ _ _ _ _ _ _ _ _ _ _ _ _ _ _ _ _ σ
  refine P_bipush XC dL_errors_46 (by decide) ?_
  refine P_icmp_ne XC 129 dL_errors_48 (by decide) (by first | (with_reducible assumption) | (unfold IR; omega) | (unfold IR at *; omega)) (by first | (with_reducible assumption) | (unfold IR; omega) | (unfold IR at *; omega)) (fun h48 => ?_) (fun h48 => ?_)
  · exfalso
    omega
  refine P_aload_n XC 0 rfl dL_errors_51 rfl ?_
  refine P_iconst XC dL_errors_52 ?_
  refine P_iconst XC dL_errors_53 ?_
  refine P_sipush XC dL_errors_54 (by decide) ?_
  refine P_X7_rub XC (by first | (with_reducible assumption) | (unfold IR; omega) | (unfold IR at *; omega)) (by first | (with_reducible assumption) | (unfold IR; omega) | (unfold IR at *; omega)) (by first | (with_reducible assumption) | (unfold IR; omega) | (unfold IR at *; omega)) gL_errors_X7_rub ⟨⟨(Nat.le_of_ble_eq_true rfl), (Nat.le_of_ble_eq_true rfl)⟩, (Nat.le_of_ble_eq_true rfl), (Nat.le_of_ble_eq_true rfl)⟩ (Nat.le_of_ble_eq_true rfl) dL_errors_57 ?_
  have hv57 : rubS σ.1.1 0 0 501 = (-2, none) := rfl
  rw [hv57]
  refine P_top (y := -2) rfl ?_
  change PP _ _ _ _ _ _ _ _ _ _ _ _ _ _ _ _ _ _ _ _ _ _ _ _ σ
  refine P_bipush XC dL_errors_60 (by decide) ?_
  refine P_icmp_ne XC 129 dL_errors_62 (by decide) (by first | (with_reducible assumption) | (unfold IR; omega) | (unfold IR at *; omega)) (by first | (with_reducible assumption) | (unfold IR; omega) | (unfold IR at *; omega)) (fun h62 => ?_) (fun h62 => ?_)
  · exfalso
    omega
  refine P_aload_n XC 0 rfl dL_errors_65 rfl ?_
  refine P_iload_n XC 1 rfl dL_errors_66 rfl ?_
  refine P_iconst XC dL_errors_67 ?_
  refine P_X7_smooth XC (by first | (with_reducible assumption) | (unfold IR; omega) | (unfold IR at *; omega)) (by first | (with_reducible assumption) | (unfold IR; omega) | (unfold IR at *; omega)) gL_errors_X7_smooth ⟨⟨(Nat.le_of_ble_eq_true rfl), (Nat.le_of_ble_eq_true rfl)⟩, (Nat.le_of_ble_eq_true rfl), (Nat.le_of_ble_eq_true rfl)⟩ (Nat.le_of_ble_eq_true rfl) dL_errors_68 ?_
  have hv68 : smoothS σ.1.1 (σ.1.1.length : Int) 1 = (-1, none) := by unfold smoothS; rw [if_pos (has_n (S := σ.1.1))]
  rw [hv68]
  refine P_top (y := -1) rfl ?_
  change PP _ _ _ _ _ _ _ _ _ _ _ _ _ _ _ _ _ _ _ _ _ _ _ _ σ
  refine P_iconst XC dL_errors_71 ?_
  refine P_icmp_ne XC 129 dL_errors_72 (by decide) (by first | (with_reducible assumption) | (unfold IR; omega) | (unfold IR at *; omega)) (by first | (with_reducible assumption) | (unfold IR; omega) | (unfold IR at *; omega)) (fun h72 => ?_) (fun h72 => ?_)
  · exfalso
    omega
  refine P_aload_n XC 0 rfl dL_errors_75 rfl ?_
  refine P_iload_n XC 1 rfl dL_errors_76 rfl ?_
  refine P_iconst XC dL_errors_77 ?_
  refine P_X7_thin XC (by first | (with_reducible assumption) | (unfold IR; omega) | (unfold IR at *; omega)) (by first | (with_reducible assumption) | (unfold IR; omega) | (unfold IR at *; omega)) gL_errors_X7_thin ⟨⟨(Nat.le_of_ble_eq_true rfl), (Nat.le_of_ble_eq_true rfl)⟩, (Nat.le_of_ble_eq_true rfl), (Nat.le_of_ble_eq_true rfl)⟩ (Nat.le_of_ble_eq_true rfl) dL_errors_78 ?_
  have hv78 : thinS σ.1.1 (σ.1.1.length : Int) 1 = (-1, none) := by unfold thinS; rw [if_pos (has_n (S := σ.1.1))]
  rw [hv78]
  refine P_top (y := -1) rfl ?_
  change PP _ _ _ _ _ _ _ _ _ _ _ _ _ _ _ _ _ _ _ _ _ _ _ _ σ
  refine P_iconst XC dL_errors_81 ?_
  refine P_icmp_ne XC 129 dL_errors_82 (by decide) (by first | (with_reducible assumption) | (unfold IR; omega) | (unfold IR at *; omega)) (by first | (with_reducible assumption) | (unfold IR; omega) | (unfold IR at *; omega)) (fun h82 => ?_) (fun h82 => ?_)
  · exfalso
    omega
  refine P_aload_n XC 0 rfl dL_errors_85 rfl ?_
  refine P_iload_n XC 1 rfl dL_errors_86 rfl ?_
  refine P_iload_n XC 1 rfl dL_errors_87 rfl ?_
  refine P_X7_join XC (by first | (with_reducible assumption) | (unfold IR; omega) | (unfold IR at *; omega)) (by first | (with_reducible assumption) | (unfold IR; omega) | (unfold IR at *; omega)) gL_errors_X7_join ⟨⟨(Nat.le_of_ble_eq_true rfl), (Nat.le_of_ble_eq_true rfl)⟩, (Nat.le_of_ble_eq_true rfl), (Nat.le_of_ble_eq_true rfl)⟩ (Nat.le_of_ble_eq_true rfl) dL_errors_88 ?_
  have hv88 : joinS σ.1.1 (σ.1.1.length : Int) (σ.1.1.length : Int) = (-1, none) := by unfold joinS; rw [if_pos (Or.inl (has_n (S := σ.1.1)))]
  rw [hv88]
  refine P_top (y := -1) rfl ?_
  change PP _ _ _ _ _ _ _ _ _ _ _ _ _ _ _ _ _ _ _ _ _ _ _ _ σ
  refine P_iconst XC dL_errors_91 ?_
  refine P_icmp_ne XC 129 dL_errors_92 (by decide) (by first | (with_reducible assumption) | (unfold IR; omega) | (unfold IR at *; omega)) (by first | (with_reducible assumption) | (unfold IR; omega) | (unfold IR at *; omega)) (fun h92 => ?_) (fun h92 => ?_)
  · exfalso
    omega
  refine P_aload_n XC 0 rfl dL_errors_95 rfl ?_
  refine P_iload_n XC 1 rfl dL_errors_96 rfl ?_
  refine P_iconst XC dL_errors_97 ?_
  refine P_iconst XC dL_errors_98 ?_
  refine P_X7_shift XC (by first | (with_reducible assumption) | (unfold IR; omega) | (unfold IR at *; omega)) (by first | (with_reducible assumption) | (unfold IR; omega) | (unfold IR at *; omega)) (by first | (with_reducible assumption) | (unfold IR; omega) | (unfold IR at *; omega)) gL_errors_X7_shift ⟨⟨(Nat.le_of_ble_eq_true rfl), (Nat.le_of_ble_eq_true rfl)⟩, (Nat.le_of_ble_eq_true rfl), (Nat.le_of_ble_eq_true rfl)⟩ (Nat.le_of_ble_eq_true rfl) dL_errors_99 ?_
  have hv99 : shiftS σ.1.1 (σ.1.1.length : Int) 0 0 = (-1, none) := by unfold shiftS; rw [if_pos (has_n (S := σ.1.1))]
  rw [hv99]
  refine P_top (y := -1) rfl ?_
  change PP _ _ _ _ _ _ _ _ _ _ _ _ _ _ _ _ _ _ _ _ _ _ _ _ σ
  refine P_iconst XC dL_errors_102 ?_
  refine P_icmp_ne XC 129 dL_errors_103 (by decide) (by first | (with_reducible assumption) | (unfold IR; omega) | (unfold IR at *; omega)) (by first | (with_reducible assumption) | (unfold IR; omega) | (unfold IR at *; omega)) (fun h103 => ?_) (fun h103 => ?_)
  · exfalso
    omega
  refine P_aload_n XC 0 rfl dL_errors_106 rfl ?_
  refine P_iload_n XC 1 rfl dL_errors_107 rfl ?_
  refine P_iconst XC dL_errors_108 ?_
  refine P_X7_paint XC (by first | (with_reducible assumption) | (unfold IR; omega) | (unfold IR at *; omega)) (by first | (with_reducible assumption) | (unfold IR; omega) | (unfold IR at *; omega)) gL_errors_X7_paint ⟨⟨(Nat.le_of_ble_eq_true rfl), (Nat.le_of_ble_eq_true rfl)⟩, (Nat.le_of_ble_eq_true rfl), (Nat.le_of_ble_eq_true rfl)⟩ (Nat.le_of_ble_eq_true rfl) dL_errors_109 ?_
  have hv109 : paintS σ.1.1 (σ.1.1.length : Int) 0 = (-1, none) := by unfold paintS; rw [if_pos (has_n (S := σ.1.1))]
  rw [hv109]
  refine P_top (y := -1) rfl ?_
  change PP _ _ _ _ _ _ _ _ _ _ _ _ _ _ _ _ _ _ _ _ _ _ _ _ σ
  refine P_iconst XC dL_errors_112 ?_
  refine P_icmp_ne XC 129 dL_errors_113 (by decide) (by first | (with_reducible assumption) | (unfold IR; omega) | (unfold IR at *; omega)) (by first | (with_reducible assumption) | (unfold IR; omega) | (unfold IR at *; omega)) (fun h113 => ?_) (fun h113 => ?_)
  · exfalso
    omega
  refine P_aload_n XC 0 rfl dL_errors_116 rfl ?_
  refine P_iload_n XC 1 rfl dL_errors_117 rfl ?_
  refine P_X7_remove XC (by first | (with_reducible assumption) | (unfold IR; omega) | (unfold IR at *; omega)) gL_errors_X7_remove ⟨⟨(Nat.le_of_ble_eq_true rfl), (Nat.le_of_ble_eq_true rfl)⟩, (Nat.le_of_ble_eq_true rfl), (Nat.le_of_ble_eq_true rfl)⟩ (Nat.le_of_ble_eq_true rfl) dL_errors_118 ?_
  have hv118 : removeS σ.1.1 (σ.1.1.length : Int) = (-1, none) := by unfold removeS; rw [if_pos (has_n (S := σ.1.1))]
  rw [hv118]
  refine P_top (y := -1) rfl ?_
  change PP _ _ _ _ _ _ _ _ _ _ _ _ _ _ _ _ _ _ _ _ _ _ _ _ σ
  refine P_iconst XC dL_errors_121 ?_
  refine P_icmp_ne XC 129 dL_errors_122 (by decide) (by first | (with_reducible assumption) | (unfold IR; omega) | (unfold IR at *; omega)) (by first | (with_reducible assumption) | (unfold IR; omega) | (unfold IR at *; omega)) (fun h122 => ?_) (fun h122 => ?_)
  · exfalso
    omega
  refine P_iconst XC dL_errors_125 ?_
  refine P_goto XC 130 dL_errors_126 (by decide) ?_
  refine P_istore_n XC 2 rfl dL_errors_130 rfl (by decide) ?_
  dsimp only [List.set]
  refine P_iload_n XC 2 rfl dL_errors_131 rfl ?_
  refine P_if_eq XC 161 dL_errors_132 (by decide) (by first | (with_reducible assumption) | (unfold IR; omega) | (unfold IR at *; omega)) (fun h132 => ?_) (fun h132 => ?_)
  · exfalso
    omega
  refine P_aload_n XC 0 rfl dL_errors_135 rfl ?_
  refine P_sipush XC dL_errors_136 (by decide) ?_
  refine P_X7_setGap XC (by first | (with_reducible assumption) | (unfold IR; omega) | (unfold IR at *; omega)) gL_errors_X7_setGap ⟨⟨(Nat.le_of_ble_eq_true rfl), (Nat.le_of_ble_eq_true rfl)⟩, (Nat.le_of_ble_eq_true rfl), (Nat.le_of_ble_eq_true rfl)⟩ (Nat.le_of_ble_eq_true rfl) dL_errors_139 ?_
  refine P_top (y := -2) (rfl) ?_
  change PP _ _ _ _ _ _ _ _ _ _ _ _ _ _ _ _ _ _ _ _ _ _ _ _ σ
  refine P_bipush XC dL_errors_142 (by decide) ?_
  refine P_icmp_ne XC 161 dL_errors_144 (by decide) (by first | (with_reducible assumption) | (unfold IR; omega) | (unfold IR at *; omega)) (by first | (with_reducible assumption) | (unfold IR; omega) | (unfold IR at *; omega)) (fun h144 => ?_) (fun h144 => ?_)
  · exfalso
    omega
  refine P_aload_n XC 0 rfl dL_errors_147 rfl ?_
  refine P_iconst XC dL_errors_148 ?_
  refine P_X7_setGap XC (by first | (with_reducible assumption) | (unfold IR; omega) | (unfold IR at *; omega)) gL_errors_X7_setGap ⟨⟨(Nat.le_of_ble_eq_true rfl), (Nat.le_of_ble_eq_true rfl)⟩, (Nat.le_of_ble_eq_true rfl), (Nat.le_of_ble_eq_true rfl)⟩ (Nat.le_of_ble_eq_true rfl) dL_errors_149 ?_
  refine P_top (y := -2) (rfl) ?_
  change PP _ _ _ _ _ _ _ _ _ _ _ _ _ _ _ _ _ _ _ _ _ _ _ _ σ
  refine P_bipush XC dL_errors_152 (by decide) ?_
  refine P_icmp_ne XC 161 dL_errors_154 (by decide) (by first | (with_reducible assumption) | (unfold IR; omega) | (unfold IR at *; omega)) (by first | (with_reducible assumption) | (unfold IR; omega) | (unfold IR at *; omega)) (fun h154 => ?_) (fun h154 => ?_)
  · exfalso
    omega
  refine P_iconst XC dL_errors_157 ?_
  refine P_goto XC 162 dL_errors_158 (by decide) ?_
  exact P_zret (r := true) XC hrV dL_errors_162 (fun u hu => hQ _ _ u ⟨1, rfl, rfl, rfl⟩ hu)

theorem lef_gone {gone : Pt → Bool} {F l : List Pt} {q : Pt} (h : gone q = true) : hFl (keep gone (F ++ (l ++ [q]))) = hFl (keep gone (F ++ l)) := by
  rw [← List.append_assoc, keep_app gone (F ++ l)]
  have k1 : keep gone [q] = [] := by unfold keep; simp [h]
  rw [k1, List.append_nil]
theorem lef_keep {gone : Pt → Bool} {F l : List Pt} {q : Pt} (h : gone q = false) : hFl (keep gone (F ++ (l ++ [q]))) = 1009 * (1009 * hFl (keep gone (F ++ l)) + (iI q.1).toInt64) + (iI q.2).toInt64 := by
  rw [← List.append_assoc, keep_app gone (F ++ l)]
  have k1 : keep gone [q] = [q] := by unfold keep; simp [h]
  rw [k1, hFl_s]
  rfl

set_option maxRecDepth 100000 in
set_option maxHeartbeats 4000000 in
theorem c_L_rubs (l : Launch) (D : va_G) (kI kC : ClassId) (pa pg pw : Nat → Nat) (σ : PS) (x y rad : Int) (hx : 0 ≤ x ∧ x ≤ 1000) (hy : 0 ≤ y ∧ y ≤ 1000) (hr : 0 ≤ rad ∧ rad ≤ 500) : PCon l yL_rubs wsL_rubs { frames := 8, cells := 0, slots := 0, locals := 186 } D kI kC pa pg pw [.ref (pa 0), .int (iI x), .int (iI y), .int (iI rad)] σ (qT (fun r σ2 => r = 1 ∧ ∃ o, σ2 = (actS σ.1 o, σ.2.1, σ.2.2.1, σ.2.2.2))) := by
  refine PCon.of (cc := cL_rubs) (maxL := 15) (ret := (some .boolean)) (by decide +kernel) rfl (Nat.le_of_ble_eq_true rfl) ?_
  intro pV eV sV mV bV tV cV AV Qf XC hrV hQ
  have XC : Cx pV _ sV mV _ tV cV cL_rubs 15 RL wsL_rubs AV D kI kC := XC
  change PP _ _ _ _ _ _ _ _ _ _ _ _ _ _ _ _ _ _ _ _ _ _ [some (.ref (pa 0)), some (.int (iI x)), some (.int (iI y)), some (.int (iI rad)), none, none, none, none, none, none, none, none, none, none, none] _ _
  refine P_ok (fun hok => ?_)
  have hS := ok_S hok
  have h16 := ok_16 hok
  refine P_iconst XC dL_rubs_0 ?_
  refine P_istore XC dL_rubs_1 rfl (by decide) ?_
  dsimp only [List.set]
  refine P_iconst XC dL_rubs_3 ?_
  refine P_istore XC dL_rubs_4 rfl (by decide) ?_
  dsimp only [List.set]
  refine P_ldc2 XC kcL_rubs_57 dL_rubs_6 ?_
  refine P_lstore XC dL_rubs_9 rfl (by decide) ?_
  dsimp only [List.set]
  refine P_iconst XC dL_rubs_11 ?_
  refine P_istore XC dL_rubs_12 rfl (by decide) ?_
  dsimp only [List.set]
  refine P_loopR (τ := Nat) (fun u => σ.1.1.length - u) (fun u => u ≤ σ.1.1.length) (fun u => [some (.ref (pa 0)), some (.int (iI x)), some (.int (iI y)), some (.int (iI rad)), some (.int (iI ((goneN (goneB x y rad) (σ.1.1.take u) : Nat) : Int))), some (.int (iI (((rubL (goneB x y rad) (σ.1.1.take u)).length : Nat) : Int))), some (.long (hFl (keep (goneB x y rad) (flat (σ.1.1.take u))))), none, some (.int (iI (u : Int))), none, none, none, none, none, none]) (0) (Nat.zero_le _) rfl (fun u hJ ih14 => ?_)
  obtain ⟨k, rfl⟩ : ∃ z, z = u := ⟨_, rfl⟩
  try dsimp only at hJ ih14 ⊢
  obtain hkl := hJ
  refine P_iload XC dL_rubs_14 rfl ?_
  refine P_aload_n XC 0 rfl dL_rubs_16 rfl ?_
  refine P_iconst XC dL_rubs_17 ?_
  refine P_X7_count XC (by first | (with_reducible assumption) | (unfold IR; omega) | (unfold IR at *; omega)) gL_rubs_X7_count ⟨⟨(Nat.le_of_ble_eq_true rfl), (Nat.le_of_ble_eq_true rfl)⟩, (Nat.le_of_ble_eq_true rfl), (Nat.le_of_ble_eq_true rfl)⟩ (Nat.le_of_ble_eq_true rfl) dL_rubs_18 (fun r18 hr18 => ?_)
  obtain rfl := cn_0 hr18
  refine P_icmp_ge XC 183 dL_rubs_21 (by decide) (by first | (with_reducible assumption) | (unfold IR; omega) | (unfold IR at *; omega)) (by first | (with_reducible assumption) | (unfold IR; omega) | (unfold IR at *; omega)) (fun h21 => ?_) (fun h21 => ?_)
  · skip
    have hke : k = σ.1.1.length := by omega
    subst hke
    rw [take_len σ.1.1]
    have hgl := goneN_le (goneB x y rad) hS (Nat.le_refl σ.1.1.length)
    have hrl := rubL_le (goneB x y rad) hS (Nat.le_refl σ.1.1.length)
    rw [take_len σ.1.1] at hgl hrl
    have hrv := rub_val (S := σ.1.1) hx hy hr
    refine P_aload_n XC 0 rfl dL_rubs_183 rfl ?_
    refine P_call (rest := _) XC (c_L_whole l D kI kC pa pg pw σ) gL_rubs_L_whole rfl kmL_whole ⟨⟨(Nat.le_of_ble_eq_true rfl), (Nat.le_of_ble_eq_true rfl)⟩, (Nat.le_of_ble_eq_true rfl), (Nat.le_of_ble_eq_true rfl)⟩ ⟨rfl, rfl⟩ rfl rfl (Nat.le_of_ble_eq_true rfl) dL_rubs_184 (kL_of ?_)
    dsimp only [Option.toList, List.cons_append, List.nil_append]
    refine P_lstore XC dL_rubs_187 rfl (by decide) ?_
    dsimp only [List.set]
    refine P_iload XC dL_rubs_189 rfl ?_
    refine P_bipush XC dL_rubs_191 (by decide) ?_
    refine P_merge (J := fun z => z = (rubS σ.1.1 x y rad).1) 213 2 (fun kj193 => ?_) (fun z193 hz193 => ?_)
    · try dsimp only [List.drop] at kj193
      refine P_icmp_le XC 201 dL_rubs_193 (by decide) (by first | (with_reducible assumption) | (unfold IR; omega) | (unfold IR at *; omega)) (by first | (with_reducible assumption) | (unfold IR; omega) | (unfold IR at *; omega)) (fun h193 => ?_) (fun h193 => ?_)
      · skip
        refine P_iload XC dL_rubs_201 rfl ?_
        refine P_if_ne XC 211 dL_rubs_203 (by decide) (by first | (with_reducible assumption) | (unfold IR; omega) | (unfold IR at *; omega)) (fun h203 => ?_) (fun h203 => ?_)
        · skip
          refine P_iload XC dL_rubs_211 rfl ?_
          exact kj193 _ (by (try dsimp only); rw [hrv]; first | (rw [if_pos (show 16 < _ by omega)]; done) | (rw [if_neg (show ¬ 16 < _ by omega), if_pos (by omega)]; done) | (rw [if_neg (show ¬ 16 < _ by omega), if_neg (by omega)]; done))
        refine P_bipush XC dL_rubs_206 (by decide) ?_
        refine P_goto XC 213 dL_rubs_208 (by decide) ?_
        exact kj193 _ (by (try dsimp only); rw [hrv]; first | (rw [if_pos (show 16 < _ by omega)]; done) | (rw [if_neg (show ¬ 16 < _ by omega), if_pos (by omega)]; done) | (rw [if_neg (show ¬ 16 < _ by omega), if_neg (by omega)]; done))
      refine P_bipush XC dL_rubs_196 (by decide) ?_
      refine P_goto XC 213 dL_rubs_198 (by decide) ?_
      exact kj193 _ (by (try dsimp only); rw [hrv]; first | (rw [if_pos (show 16 < _ by omega)]; done) | (rw [if_neg (show ¬ 16 < _ by omega), if_pos (by omega)]; done) | (rw [if_neg (show ¬ 16 < _ by omega), if_neg (by omega)]; done))
    try dsimp only [List.drop]
    try dsimp only at hz193
    subst hz193
    have hrI : -5 ≤ (rubS σ.1.1 x y rad).1 ∧ (rubS σ.1.1 x y rad).1 ≤ 400 := by
      rw [hrv]
      split
      · exact ⟨by decide, by decide⟩
      · split
        · exact ⟨by decide, by decide⟩
        · (try dsimp only); omega
    have hrb : ((rubS σ.1.1 x y rad).2 = none ∧ (rubS σ.1.1 x y rad).1 < 0) ∨ ((rubS σ.1.1 x y rad).2 = some (rubL (goneB x y rad) σ.1.1) ∧ 0 ≤ (rubS σ.1.1 x y rad).1) := by
      rw [hrv]
      split
      · exact Or.inl ⟨rfl, by decide⟩
      · split
        · exact Or.inl ⟨rfl, by decide⟩
        · exact Or.inr ⟨rfl, by (try dsimp only); omega⟩
    skip
    refine P_istore XC dL_rubs_213 rfl (by decide) ?_
    dsimp only [List.set]
    refine P_aload_n XC 0 rfl dL_rubs_215 rfl ?_
    refine P_iload_n XC 1 rfl dL_rubs_216 rfl ?_
    refine P_iload_n XC 2 rfl dL_rubs_217 rfl ?_
    refine P_iload_n XC 3 rfl dL_rubs_218 rfl ?_
    refine P_X7_rub XC (by first | (with_reducible assumption) | (unfold IR; omega) | (unfold IR at *; omega)) (by first | (with_reducible assumption) | (unfold IR; omega) | (unfold IR at *; omega)) (by first | (with_reducible assumption) | (unfold IR; omega) | (unfold IR at *; omega)) gL_rubs_X7_rub ⟨⟨(Nat.le_of_ble_eq_true rfl), (Nat.le_of_ble_eq_true rfl)⟩, (Nat.le_of_ble_eq_true rfl), (Nat.le_of_ble_eq_true rfl)⟩ (Nat.le_of_ble_eq_true rfl) dL_rubs_219 ?_
    generalize hτ : ((actS σ.1 (rubS σ.1.1 x y rad).2, σ.2.1, σ.2.2.1, σ.2.2.2) : PS) = τ
    have hτ1 : τ.1 = actS σ.1 (rubS σ.1.1 x y rad).2 := by rw [← hτ]
    have hA : (rubS σ.1.1 x y rad).1 < 0 → τ.1.1 = σ.1.1 := fun q => by rw [hτ1, (hrb.resolve_right (fun z => by omega)).1]; rfl
    have hBB : 0 ≤ (rubS σ.1.1 x y rad).1 → τ.1.1 = rubL (goneB x y rad) σ.1.1 := fun q => by rw [hτ1, (hrb.resolve_left (fun z => by omega)).1]; rfl
    refine P_ok (fun hokt => ?_)
    have hSt := ok_S hokt
    have h16t := ok_16 hokt
    refine P_iload XC dL_rubs_222 rfl ?_
    refine P_icmp_ne XC 242 dL_rubs_224 (by decide) (by first | (with_reducible assumption) | (unfold IR; omega) | (unfold IR at *; omega)) (by first | (with_reducible assumption) | (unfold IR; omega) | (unfold IR at *; omega)) (fun h224 => ?_) (fun h224 => ?_)
    · exfalso
      omega
    refine P_iload XC dL_rubs_227 rfl ?_
    refine P_merge0 244 1 (fun kj229 => ?_) ?_
    · try dsimp only [List.drop] at kj229
      refine P_if_ge XC 244 dL_rubs_229 (by decide) (by first | (with_reducible assumption) | (unfold IR; omega) | (unfold IR at *; omega)) (fun h229 => ?_) (fun h229 => ?_)
      · skip
        exact kj229
      refine P_aload_n XC 0 rfl dL_rubs_232 rfl ?_
      refine P_call (rest := _) XC (c_L_whole l D kI kC pa pg pw τ) gL_rubs_L_whole rfl kmL_whole ⟨⟨(Nat.le_of_ble_eq_true rfl), (Nat.le_of_ble_eq_true rfl)⟩, (Nat.le_of_ble_eq_true rfl), (Nat.le_of_ble_eq_true rfl)⟩ ⟨rfl, rfl⟩ rfl rfl (Nat.le_of_ble_eq_true rfl) dL_rubs_233 (kL_of ?_)
      dsimp only [Option.toList, List.cons_append, List.nil_append]
      refine P_lload XC dL_rubs_236 rfl ?_
      refine P_lcmp XC dL_rubs_238 ?_
      refine P_lc_eq XC 244 dL_rubs_239 (by decide) (fun h239 => ?_) (fun h239 => ?_)
      rotate_left
      · exfalso
        exact h239 (by rw [hA (by omega)])
      exact kj229
    try dsimp only [List.drop]
    refine P_ldc2 XC kcL_rubs_57 dL_rubs_244 ?_
    refine P_lstore XC dL_rubs_247 rfl (by decide) ?_
    dsimp only [List.set]
    refine P_iconst XC dL_rubs_249 ?_
    refine P_istore XC dL_rubs_250 rfl (by decide) ?_
    dsimp only [List.set]
    refine P_loopR (τ := Nat) (fun u => τ.1.1.length - u) (fun u => u ≤ τ.1.1.length) (fun u => [some (.ref (pa 0)), some (.int (iI x)), some (.int (iI y)), some (.int (iI rad)), some (.int (iI ((goneN (goneB x y rad) σ.1.1 : Nat) : Int))), some (.int (iI (((rubL (goneB x y rad) σ.1.1).length : Nat) : Int))), some (.long (hFl (keep (goneB x y rad) (flat σ.1.1)))), none, some (.long (hsS σ.1.1)), none, some (.int (iI (rubS σ.1.1 x y rad).1)), some (.long (hFl (flat (τ.1.1.take u)))), none, some (.int (iI (u : Int))), none]) (0) (Nat.zero_le _) rfl (fun u hJ ih252 => ?_)
    obtain ⟨k, rfl⟩ : ∃ z, z = u := ⟨_, rfl⟩
    try dsimp only at hJ ih252 ⊢
    obtain hkl := hJ
    refine P_iload XC dL_rubs_252 rfl ?_
    refine P_aload_n XC 0 rfl dL_rubs_254 rfl ?_
    refine P_iconst XC dL_rubs_255 ?_
    refine P_X7_count XC (by first | (with_reducible assumption) | (unfold IR; omega) | (unfold IR at *; omega)) gL_rubs_X7_count ⟨⟨(Nat.le_of_ble_eq_true rfl), (Nat.le_of_ble_eq_true rfl)⟩, (Nat.le_of_ble_eq_true rfl), (Nat.le_of_ble_eq_true rfl)⟩ (Nat.le_of_ble_eq_true rfl) dL_rubs_256 (fun r256 hr256 => ?_)
    obtain rfl := cn_0 hr256
    refine P_icmp_ge XC 323 dL_rubs_259 (by decide) (by first | (with_reducible assumption) | (unfold IR; omega) | (unfold IR at *; omega)) (by first | (with_reducible assumption) | (unfold IR; omega) | (unfold IR at *; omega)) (fun h259 => ?_) (fun h259 => ?_)
    · skip
      have hke : k = τ.1.1.length := by omega
      subst hke
      rw [take_len τ.1.1]
      refine P_iload XC dL_rubs_323 rfl ?_
      refine P_if_lt XC 346 dL_rubs_325 (by decide) (by first | (with_reducible assumption) | (unfold IR; omega) | (unfold IR at *; omega)) (fun h325 => ?_) (fun h325 => ?_)
      · skip
        refine P_iconst XC dL_rubs_346 ?_
        refine P_goto XC 351 dL_rubs_347 (by decide) ?_
        exact P_zret (r := true) XC hrV dL_rubs_351 (fun u hu => hQ _ _ u ⟨1, rfl, rfl, _, hτ.symm⟩ hu)
      refine P_lload XC dL_rubs_328 rfl ?_
      refine P_lload XC dL_rubs_330 rfl ?_
      refine P_lcmp XC dL_rubs_332 ?_
      refine P_lc_ne XC 350 dL_rubs_333 (by decide) (fun h333 => ?_) (fun h333 => ?_)
      · exfalso
        exact h333 (by rw [hBB (by omega), rubL_all])
      refine P_aload_n XC 0 rfl dL_rubs_336 rfl ?_
      refine P_iconst XC dL_rubs_337 ?_
      refine P_X7_count XC (by first | (with_reducible assumption) | (unfold IR; omega) | (unfold IR at *; omega)) gL_rubs_X7_count ⟨⟨(Nat.le_of_ble_eq_true rfl), (Nat.le_of_ble_eq_true rfl)⟩, (Nat.le_of_ble_eq_true rfl), (Nat.le_of_ble_eq_true rfl)⟩ (Nat.le_of_ble_eq_true rfl) dL_rubs_338 (fun r338 hr338 => ?_)
      obtain rfl := cn_0 hr338
      refine P_iload XC dL_rubs_341 rfl ?_
      refine P_icmp_ne XC 350 dL_rubs_343 (by decide) (by first | (with_reducible assumption) | (unfold IR; omega) | (unfold IR at *; omega)) (by first | (with_reducible assumption) | (unfold IR; omega) | (unfold IR at *; omega)) (fun h343 => ?_) (fun h343 => ?_)
      · exfalso
        rw [hBB (by omega)] at h343
        exact h343 rfl
      refine P_iconst XC dL_rubs_346 ?_
      refine P_goto XC 351 dL_rubs_347 (by decide) ?_
      exact P_zret (r := true) XC hrV dL_rubs_351 (fun u hu => hQ _ _ u ⟨1, rfl, rfl, _, hτ.symm⟩ hu)
    have hk : k < τ.1.1.length := by omega
    have hz := ok_sz hSt hk
    refine P_iconst XC dL_rubs_262 ?_
    refine P_istore XC dL_rubs_263 rfl (by decide) ?_
    dsimp only [List.set]
    rw [show hFl (flat (τ.1.1.take k)) = hFl (flat (τ.1.1.take k) ++ (gk τ.1.1 k).2.take 0) by rw [List.take_zero, List.append_nil]]
    refine P_loopR (τ := Nat) (fun u => szk (gk τ.1.1 k) - u) (fun u => u ≤ szk (gk τ.1.1 k)) (fun u => [some (.ref (pa 0)), some (.int (iI x)), some (.int (iI y)), some (.int (iI rad)), some (.int (iI ((goneN (goneB x y rad) σ.1.1 : Nat) : Int))), some (.int (iI (((rubL (goneB x y rad) σ.1.1).length : Nat) : Int))), some (.long (hFl (keep (goneB x y rad) (flat σ.1.1)))), none, some (.long (hsS σ.1.1)), none, some (.int (iI (rubS σ.1.1 x y rad).1)), some (.long (hFl (flat (τ.1.1.take k) ++ (gk τ.1.1 k).2.take u))), none, some (.int (iI (k : Int))), some (.int (iI (u : Int)))]) (0) (Nat.zero_le _) rfl (fun u hJ ih265 => ?_)
    obtain ⟨i, rfl⟩ : ∃ z, z = u := ⟨_, rfl⟩
    try dsimp only at hJ ih265 ⊢
    obtain hil := hJ
    refine P_iload XC dL_rubs_265 rfl ?_
    refine P_aload_n XC 0 rfl dL_rubs_267 rfl ?_
    refine P_iload XC dL_rubs_268 rfl ?_
    refine P_iconst XC dL_rubs_270 ?_
    refine P_X7_stroke XC (by first | (with_reducible assumption) | (unfold IR; omega) | (unfold IR at *; omega)) (by first | (with_reducible assumption) | (unfold IR; omega) | (unfold IR at *; omega)) gL_rubs_X7_stroke ⟨⟨(Nat.le_of_ble_eq_true rfl), (Nat.le_of_ble_eq_true rfl)⟩, (Nat.le_of_ble_eq_true rfl), (Nat.le_of_ble_eq_true rfl)⟩ (Nat.le_of_ble_eq_true rfl) dL_rubs_271 ?_
    refine P_top (y := (szk (gk τ.1.1 k) : Int)) (st_1 hk) ?_
    refine P_icmp_ge XC 317 dL_rubs_274 (by decide) (by first | (with_reducible assumption) | (unfold IR; omega) | (unfold IR at *; omega)) (by first | (with_reducible assumption) | (unfold IR; omega) | (unfold IR at *; omega)) (fun h274 => ?_) (fun h274 => ?_)
    · skip
      have hie : i = szk (gk τ.1.1 k) := by omega
      subst hie
      rw [pts_all, ← flat_s hk]
      refine P_iinc XC dL_rubs_317 rfl rfl (by decide) ?_
      dsimp only [List.set]
      refine P_goto XC 252 dL_rubs_320 (by decide) ?_
      refine P_kill 14 ?_
      dsimp only [List.set]
      exact ih252 (k + 1) (by (try dsimp only); omega) (by (try dsimp only); omega)
    have hi : i < szk (gk τ.1.1 k) := by omega
    have hls : hFl (flat (τ.1.1.take k) ++ (gk τ.1.1 k).2.take (i + 1)) = 1009 * (1009 * hFl (flat (τ.1.1.take k) ++ (gk τ.1.1 k).2.take i) + (iI (px (gk τ.1.1 k) i)).toInt64) + (iI (py (gk τ.1.1 k) i)).toInt64 := by
      rw [pts_s hi, ← List.append_assoc, hFl_s]
      rfl
    refine P_ldc2 XC kcL_rubs_21 dL_rubs_277 ?_
    refine P_ldc2 XC kcL_rubs_21 dL_rubs_280 ?_
    refine P_lload XC dL_rubs_283 rfl ?_
    refine P_lmul XC dL_rubs_285 ?_
    refine P_aload_n XC 0 rfl dL_rubs_286 rfl ?_
    refine P_iload XC dL_rubs_287 rfl ?_
    refine P_iload XC dL_rubs_289 rfl ?_
    refine P_iconst XC dL_rubs_291 ?_
    refine P_X7_point XC (by first | (with_reducible assumption) | (unfold IR; omega) | (unfold IR at *; omega)) (by first | (with_reducible assumption) | (unfold IR; omega) | (unfold IR at *; omega)) (by first | (with_reducible assumption) | (unfold IR; omega) | (unfold IR at *; omega)) gL_rubs_X7_point ⟨⟨(Nat.le_of_ble_eq_true rfl), (Nat.le_of_ble_eq_true rfl)⟩, (Nat.le_of_ble_eq_true rfl), (Nat.le_of_ble_eq_true rfl)⟩ (Nat.le_of_ble_eq_true rfl) dL_rubs_292 ?_
    refine P_top (y := px (gk τ.1.1 k) i) (pt_0 hk hi) ?_
    refine P_i2l XC dL_rubs_295 ?_
    refine P_ladd XC dL_rubs_296 ?_
    refine P_lmul XC dL_rubs_297 ?_
    refine P_aload_n XC 0 rfl dL_rubs_298 rfl ?_
    refine P_iload XC dL_rubs_299 rfl ?_
    refine P_iload XC dL_rubs_301 rfl ?_
    refine P_iconst XC dL_rubs_303 ?_
    refine P_X7_point XC (by first | (with_reducible assumption) | (unfold IR; omega) | (unfold IR at *; omega)) (by first | (with_reducible assumption) | (unfold IR; omega) | (unfold IR at *; omega)) (by first | (with_reducible assumption) | (unfold IR; omega) | (unfold IR at *; omega)) gL_rubs_X7_point ⟨⟨(Nat.le_of_ble_eq_true rfl), (Nat.le_of_ble_eq_true rfl)⟩, (Nat.le_of_ble_eq_true rfl), (Nat.le_of_ble_eq_true rfl)⟩ (Nat.le_of_ble_eq_true rfl) dL_rubs_304 ?_
    refine P_top (y := py (gk τ.1.1 k) i) (pt_1 hk hi) ?_
    refine P_i2l XC dL_rubs_307 ?_
    refine P_ladd XC dL_rubs_308 ?_
    refine P_lstore XC dL_rubs_309 rfl (by decide) ?_
    dsimp only [List.set]
    refine P_iinc XC dL_rubs_311 rfl rfl (by decide) ?_
    dsimp only [List.set]
    refine P_goto XC 265 dL_rubs_314 (by decide) ?_
    rw [← hls]
    exact ih265 (i + 1) (by (try dsimp only); omega) (by (try dsimp only); omega)
  have hk : k < σ.1.1.length := by omega
  have hz := ok_sz hS hk
  have hgl := goneN_le (goneB x y rad) hS (Nat.le_of_lt hk)
  have hrl := rubL_le (goneB x y rad) hS (Nat.le_of_lt hk)
  refine P_iconst XC dL_rubs_24 ?_
  refine P_istore XC dL_rubs_25 rfl (by decide) ?_
  dsimp only [List.set]
  refine P_iconst XC dL_rubs_27 ?_
  refine P_istore XC dL_rubs_28 rfl (by decide) ?_
  dsimp only [List.set]
  rw [show hFl (keep (goneB x y rad) (flat (σ.1.1.take k))) = hFl (keep (goneB x y rad) (flat (σ.1.1.take k) ++ (gk σ.1.1 k).2.take 0)) by rw [List.take_zero, List.append_nil]]
  refine P_loopR (τ := Nat) (fun u => szk (gk σ.1.1 k) - u) (fun u => u ≤ szk (gk σ.1.1 k)) (fun u => [some (.ref (pa 0)), some (.int (iI x)), some (.int (iI y)), some (.int (iI rad)), some (.int (iI ((goneN (goneB x y rad) (σ.1.1.take k) + ((gk σ.1.1 k).2.take u).countP (goneB x y rad) : Nat) : Int))), some (.int (iI (((rubL (goneB x y rad) (σ.1.1.take k)).length + (cntF (goneB x y rad) ((gk σ.1.1 k).2.take u)).1 : Nat) : Int))), some (.long (hFl (keep (goneB x y rad) (flat (σ.1.1.take k) ++ (gk σ.1.1 k).2.take u)))), none, some (.int (iI (k : Int))), some (.int (iI (bI (cntF (goneB x y rad) ((gk σ.1.1 k).2.take u)).2))), some (.int (iI (u : Int))), none, none, none, none]) (0) (Nat.zero_le _) rfl (fun u hJ ih30 => ?_)
  obtain ⟨i, rfl⟩ : ∃ z, z = u := ⟨_, rfl⟩
  try dsimp only at hJ ih30 ⊢
  obtain hil := hJ
  refine P_iload XC dL_rubs_30 rfl ?_
  refine P_aload_n XC 0 rfl dL_rubs_32 rfl ?_
  refine P_iload XC dL_rubs_33 rfl ?_
  refine P_iconst XC dL_rubs_35 ?_
  refine P_X7_stroke XC (by first | (with_reducible assumption) | (unfold IR; omega) | (unfold IR at *; omega)) (by first | (with_reducible assumption) | (unfold IR; omega) | (unfold IR at *; omega)) gL_rubs_X7_stroke ⟨⟨(Nat.le_of_ble_eq_true rfl), (Nat.le_of_ble_eq_true rfl)⟩, (Nat.le_of_ble_eq_true rfl), (Nat.le_of_ble_eq_true rfl)⟩ (Nat.le_of_ble_eq_true rfl) dL_rubs_36 ?_
  refine P_top (y := (szk (gk σ.1.1 k) : Int)) (st_1 hk) ?_
  refine P_icmp_ge XC 177 dL_rubs_39 (by decide) (by first | (with_reducible assumption) | (unfold IR; omega) | (unfold IR at *; omega)) (by first | (with_reducible assumption) | (unfold IR; omega) | (unfold IR at *; omega)) (fun h39 => ?_) (fun h39 => ?_)
  · skip
    have hie : i = szk (gk σ.1.1 k) := by omega
    subst hie
    rw [pts_all, ← flat_s hk, ← goneN_s (gk_at hk), ← (rubK_len (goneB x y rad) _ _).1, ← rubL_s (gk_at hk)]
    refine P_iinc XC dL_rubs_177 rfl rfl (by decide) ?_
    dsimp only [List.set]
    refine P_goto XC 14 dL_rubs_180 (by decide) ?_
    refine P_kill 9 ?_
    refine P_kill 10 ?_
    refine P_kill 11 ?_
    dsimp only [List.set]
    exact ih14 (k + 1) (by (try dsimp only); omega) (by (try dsimp only); omega)
  have hi : i < szk (gk σ.1.1 k) := by omega
  have hxy := ok_xy hS hk hi
  have hcl := countP_le (goneB x y rad) ((gk σ.1.1 k).2.take i)
  have hcf := cntF_le (goneB x y rad) ((gk σ.1.1 k).2.take i)
  have hln : ((gk σ.1.1 k).2.take i).length = i := by rw [List.length_take]; show min i (szk (gk σ.1.1 k)) = i; omega
  have hcs := cntF_s (goneB x y rad) ((gk σ.1.1 k).2.take i) (px (gk σ.1.1 k) i, py (gk σ.1.1 k) i)
  rw [← pts_s hi] at hcs
  have hns := countP_s (goneB x y rad) ((gk σ.1.1 k).2.take i) (px (gk σ.1.1 k) i, py (gk σ.1.1 k) i)
  rw [← pts_s hi] at hns
  have hgi := goneB_iff (x := x) (y := y) (r := rad) (u := px (gk σ.1.1 k) i) (v := py (gk σ.1.1 k) i)
  have hgj : ¬ ((px (gk σ.1.1 k) i - x) * (px (gk σ.1.1 k) i - x) + (py (gk σ.1.1 k) i - y) * (py (gk σ.1.1 k) i - y) ≤ rad * rad) → (goneB x y rad) (px (gk σ.1.1 k) i, py (gk σ.1.1 k) i) = false := fun q => by rw [Bool.eq_false_iff]; exact fun z => q (hgi.mp z)
  have hs1 := sqb (x := px (gk σ.1.1 k) i - x) (B := 1000) (by omega) (by omega)
  have hs2 := sqb (x := py (gk σ.1.1 k) i - y) (B := 1000) (by omega) (by omega)
  have hs3 := sqb (x := rad) (B := 500) (by omega) (by omega)
  unfold cnS1 at hcs
  refine P_aload_n XC 0 rfl dL_rubs_42 rfl ?_
  refine P_iload XC dL_rubs_43 rfl ?_
  refine P_iload XC dL_rubs_45 rfl ?_
  refine P_iconst XC dL_rubs_47 ?_
  refine P_X7_point XC (by first | (with_reducible assumption) | (unfold IR; omega) | (unfold IR at *; omega)) (by first | (with_reducible assumption) | (unfold IR; omega) | (unfold IR at *; omega)) (by first | (with_reducible assumption) | (unfold IR; omega) | (unfold IR at *; omega)) gL_rubs_X7_point ⟨⟨(Nat.le_of_ble_eq_true rfl), (Nat.le_of_ble_eq_true rfl)⟩, (Nat.le_of_ble_eq_true rfl), (Nat.le_of_ble_eq_true rfl)⟩ (Nat.le_of_ble_eq_true rfl) dL_rubs_48 ?_
  refine P_top (y := px (gk σ.1.1 k) i) (pt_0 hk hi) ?_
  refine P_iload_n XC 1 rfl dL_rubs_51 rfl ?_
  refine P_isub XC dL_rubs_52 ?_
  refine P_aload_n XC 0 rfl dL_rubs_53 rfl ?_
  refine P_iload XC dL_rubs_54 rfl ?_
  refine P_iload XC dL_rubs_56 rfl ?_
  refine P_iconst XC dL_rubs_58 ?_
  refine P_X7_point XC (by first | (with_reducible assumption) | (unfold IR; omega) | (unfold IR at *; omega)) (by first | (with_reducible assumption) | (unfold IR; omega) | (unfold IR at *; omega)) (by first | (with_reducible assumption) | (unfold IR; omega) | (unfold IR at *; omega)) gL_rubs_X7_point ⟨⟨(Nat.le_of_ble_eq_true rfl), (Nat.le_of_ble_eq_true rfl)⟩, (Nat.le_of_ble_eq_true rfl), (Nat.le_of_ble_eq_true rfl)⟩ (Nat.le_of_ble_eq_true rfl) dL_rubs_59 ?_
  refine P_top (y := py (gk σ.1.1 k) i) (pt_1 hk hi) ?_
  refine P_iload_n XC 2 rfl dL_rubs_62 rfl ?_
  refine P_isub XC dL_rubs_63 ?_
  refine P_call (rest := _) XC (c_L_far l D kI kC pa pg pw σ _ _) gL_rubs_L_far rfl kmL_far ⟨⟨(Nat.le_of_ble_eq_true rfl), (Nat.le_of_ble_eq_true rfl)⟩, (Nat.le_of_ble_eq_true rfl), (Nat.le_of_ble_eq_true rfl)⟩ ⟨rfl, rfl⟩ rfl rfl (Nat.le_of_ble_eq_true rfl) dL_rubs_64 (kS_of (fun r64 hr64 => ?_))
  dsimp only [Option.toList, List.cons_append, List.nil_append]
  subst hr64
  refine P_iload_n XC 3 rfl dL_rubs_67 rfl ?_
  refine P_iload_n XC 3 rfl dL_rubs_68 rfl ?_
  refine P_imul XC dL_rubs_69 ?_
  refine P_merge (J := fun z => z = bI ((goneB x y rad) (px (gk σ.1.1 k) i, py (gk σ.1.1 k) i))) 78 2 (fun kj70 => ?_) (fun z70 hz70 => ?_)
  · try dsimp only [List.drop] at kj70
    refine P_icmp_gt XC 77 dL_rubs_70 (by decide) (by first | (with_reducible assumption) | (unfold IR; omega) | (unfold IR at *; omega)) (by first | (with_reducible assumption) | (unfold IR; omega) | (unfold IR at *; omega)) (fun h70 => ?_) (fun h70 => ?_)
    · skip
      refine P_iconst XC dL_rubs_77 ?_
      exact kj70 _ (by (try dsimp only); first | (rw [hgi.mpr (by omega)]; rfl) | (rw [hgj (by omega)]; rfl))
    refine P_iconst XC dL_rubs_73 ?_
    refine P_goto XC 78 dL_rubs_74 (by decide) ?_
    exact kj70 _ (by (try dsimp only); first | (rw [hgi.mpr (by omega)]; rfl) | (rw [hgj (by omega)]; rfl))
  try dsimp only [List.drop]
  try dsimp only at hz70
  have hzz : (z70 = 1 ∧ (goneB x y rad) (px (gk σ.1.1 k) i, py (gk σ.1.1 k) i) = true) ∨ (z70 = 0 ∧ (goneB x y rad) (px (gk σ.1.1 k) i, py (gk σ.1.1 k) i) = false) := by
    rw [hz70]
    cases (goneB x y rad) (px (gk σ.1.1 k) i, py (gk σ.1.1 k) i) with
    | true => exact Or.inl ⟨rfl, rfl⟩
    | false => exact Or.inr ⟨rfl, rfl⟩
  clear hz70
  refine P_istore XC dL_rubs_78 rfl (by decide) ?_
  dsimp only [List.set]
  refine P_iload XC dL_rubs_80 rfl ?_
  refine P_iload XC dL_rubs_82 rfl ?_
  refine P_merge (J := fun z => z = (if (goneB x y rad) (px (gk σ.1.1 k) i, py (gk σ.1.1 k) i) = true then 1 else 0)) 92 1 (fun kj84 => ?_) (fun z84 hz84 => ?_)
  · try dsimp only [List.drop] at kj84
    refine P_if_eq XC 91 dL_rubs_84 (by decide) (by first | (with_reducible assumption) | (unfold IR; omega) | (unfold IR at *; omega)) (fun h84 => ?_) (fun h84 => ?_)
    · skip
      refine P_iconst XC dL_rubs_91 ?_
      exact kj84 _ (by (try dsimp only); first | (rw [if_pos (hzz.resolve_right (fun q => by omega)).2]; done) | (rw [if_neg (by rw [(hzz.resolve_left (fun q => by omega)).2]; decide)]; done))
    refine P_iconst XC dL_rubs_87 ?_
    refine P_goto XC 92 dL_rubs_88 (by decide) ?_
    exact kj84 _ (by (try dsimp only); first | (rw [if_pos (hzz.resolve_right (fun q => by omega)).2]; done) | (rw [if_neg (by rw [(hzz.resolve_left (fun q => by omega)).2]; decide)]; done))
  try dsimp only [List.drop]
  try dsimp only at hz84
  refine P_iadd XC dL_rubs_92 ?_
  refine P_top (y := ((goneN (goneB x y rad) (σ.1.1.take k) + ((gk σ.1.1 k).2.take (i + 1)).countP (goneB x y rad) : Nat) : Int)) (by rw [hz84, hns]; split <;> omega) ?_
  refine P_istore XC dL_rubs_93 rfl (by decide) ?_
  dsimp only [List.set]
  refine P_iload XC dL_rubs_95 rfl ?_
  refine P_iload XC dL_rubs_97 rfl ?_
  refine P_merge (J := fun z => z = ((cntF (goneB x y rad) ((gk σ.1.1 k).2.take (i + 1))).1 : Int) - ((cntF (goneB x y rad) ((gk σ.1.1 k).2.take i)).1 : Int)) 112 1 (fun kj99 => ?_) (fun z99 hz99 => ?_)
  · try dsimp only [List.drop] at kj99
    refine P_if_ne XC 111 dL_rubs_99 (by decide) (by first | (with_reducible assumption) | (unfold IR; omega) | (unfold IR at *; omega)) (fun h99 => ?_) (fun h99 => ?_)
    · skip
      refine P_iconst XC dL_rubs_111 ?_
      exact kj99 _ (by (try dsimp only); rw [hcs]; (try dsimp only); first | (rw [if_pos ⟨(hzz.resolve_left (fun q => by omega)).2, h104⟩]; omega) | (rw [if_neg (fun q => by rw [h104] at q; cases q.2)]; omega) | (rw [if_neg (fun q => by rw [(hzz.resolve_right (fun w => by omega)).2] at q; cases q.1)]; omega))
    refine P_iload XC dL_rubs_102 rfl ?_
    refine P_bif_ne XC 111 dL_rubs_104 (by decide) (fun h104 => ?_) (fun h104 => ?_)
    · skip
      refine P_iconst XC dL_rubs_111 ?_
      exact kj99 _ (by (try dsimp only); rw [hcs]; (try dsimp only); first | (rw [if_pos ⟨(hzz.resolve_left (fun q => by omega)).2, h104⟩]; omega) | (rw [if_neg (fun q => by rw [h104] at q; cases q.2)]; omega) | (rw [if_neg (fun q => by rw [(hzz.resolve_right (fun w => by omega)).2] at q; cases q.1)]; omega))
    refine P_iconst XC dL_rubs_107 ?_
    refine P_goto XC 112 dL_rubs_108 (by decide) ?_
    exact kj99 _ (by (try dsimp only); rw [hcs]; (try dsimp only); first | (rw [if_pos ⟨(hzz.resolve_left (fun q => by omega)).2, h104⟩]; omega) | (rw [if_neg (fun q => by rw [h104] at q; cases q.2)]; omega) | (rw [if_neg (fun q => by rw [(hzz.resolve_right (fun w => by omega)).2] at q; cases q.1)]; omega))
  try dsimp only [List.drop]
  try dsimp only at hz99
  refine P_iadd XC dL_rubs_112 ?_
  refine P_top (y := (((rubL (goneB x y rad) (σ.1.1.take k)).length + (cntF (goneB x y rad) ((gk σ.1.1 k).2.take (i + 1))).1 : Nat) : Int)) (by rw [hz99]; omega) ?_
  refine P_istore XC dL_rubs_113 rfl (by decide) ?_
  dsimp only [List.set]
  refine P_iload XC dL_rubs_115 rfl ?_
  refine P_if_eq XC 125 dL_rubs_117 (by decide) (by first | (with_reducible assumption) | (unfold IR; omega) | (unfold IR at *; omega)) (fun h117 => ?_) (fun h117 => ?_)
  · skip
    have hG : (goneB x y rad) (px (gk σ.1.1 k) i, py (gk σ.1.1 k) i) = false := (hzz.resolve_left (fun q => by omega)).2
    have hlf : hFl (keep (goneB x y rad) (flat (σ.1.1.take k) ++ (gk σ.1.1 k).2.take (i + 1))) = 1009 * (1009 * hFl (keep (goneB x y rad) (flat (σ.1.1.take k) ++ (gk σ.1.1 k).2.take i)) + (iI (px (gk σ.1.1 k) i)).toInt64) + (iI (py (gk σ.1.1 k) i)).toInt64 := by rw [pts_s hi]; exact lef_keep hG
    refine P_ldc2 XC kcL_rubs_21 dL_rubs_125 ?_
    refine P_ldc2 XC kcL_rubs_21 dL_rubs_128 ?_
    refine P_lload XC dL_rubs_131 rfl ?_
    refine P_lmul XC dL_rubs_133 ?_
    refine P_aload_n XC 0 rfl dL_rubs_134 rfl ?_
    refine P_iload XC dL_rubs_135 rfl ?_
    refine P_iload XC dL_rubs_137 rfl ?_
    refine P_iconst XC dL_rubs_139 ?_
    refine P_X7_point XC (by first | (with_reducible assumption) | (unfold IR; omega) | (unfold IR at *; omega)) (by first | (with_reducible assumption) | (unfold IR; omega) | (unfold IR at *; omega)) (by first | (with_reducible assumption) | (unfold IR; omega) | (unfold IR at *; omega)) gL_rubs_X7_point ⟨⟨(Nat.le_of_ble_eq_true rfl), (Nat.le_of_ble_eq_true rfl)⟩, (Nat.le_of_ble_eq_true rfl), (Nat.le_of_ble_eq_true rfl)⟩ (Nat.le_of_ble_eq_true rfl) dL_rubs_140 ?_
    refine P_top (y := px (gk σ.1.1 k) i) (pt_0 hk hi) ?_
    refine P_i2l XC dL_rubs_143 ?_
    refine P_ladd XC dL_rubs_144 ?_
    refine P_lmul XC dL_rubs_145 ?_
    refine P_aload_n XC 0 rfl dL_rubs_146 rfl ?_
    refine P_iload XC dL_rubs_147 rfl ?_
    refine P_iload XC dL_rubs_149 rfl ?_
    refine P_iconst XC dL_rubs_151 ?_
    refine P_X7_point XC (by first | (with_reducible assumption) | (unfold IR; omega) | (unfold IR at *; omega)) (by first | (with_reducible assumption) | (unfold IR; omega) | (unfold IR at *; omega)) (by first | (with_reducible assumption) | (unfold IR; omega) | (unfold IR at *; omega)) gL_rubs_X7_point ⟨⟨(Nat.le_of_ble_eq_true rfl), (Nat.le_of_ble_eq_true rfl)⟩, (Nat.le_of_ble_eq_true rfl), (Nat.le_of_ble_eq_true rfl)⟩ (Nat.le_of_ble_eq_true rfl) dL_rubs_152 ?_
    refine P_top (y := py (gk σ.1.1 k) i) (pt_1 hk hi) ?_
    refine P_i2l XC dL_rubs_155 ?_
    refine P_ladd XC dL_rubs_156 ?_
    refine P_lstore XC dL_rubs_157 rfl (by decide) ?_
    dsimp only [List.set]
    refine P_iload XC dL_rubs_159 rfl ?_
    refine P_if_ne XC 168 dL_rubs_161 (by decide) (by first | (with_reducible assumption) | (unfold IR; omega) | (unfold IR at *; omega)) (fun h161 => ?_) (fun h161 => ?_)
    · skip
      exfalso
      omega
    refine P_iconst XC dL_rubs_164 ?_
    refine P_top (y := bI (cntF (goneB x y rad) ((gk σ.1.1 k).2.take (i + 1))).2) (by rw [hcs]; show (1 : Int) = bI (!(goneB x y rad) (px (gk σ.1.1 k) i, py (gk σ.1.1 k) i)); rw [hG]; rfl) ?_
    refine P_goto XC 169 dL_rubs_165 (by decide) ?_
    refine P_istore XC dL_rubs_169 rfl (by decide) ?_
    dsimp only [List.set]
    refine P_iinc XC dL_rubs_171 rfl rfl (by decide) ?_
    dsimp only [List.set]
    refine P_goto XC 30 dL_rubs_174 (by decide) ?_
    rw [← hlf]
    refine P_kill 11 ?_
    dsimp only [List.set]
    exact ih30 (i + 1) (by (try dsimp only); omega) (by (try dsimp only); omega)
  have hG : (goneB x y rad) (px (gk σ.1.1 k) i, py (gk σ.1.1 k) i) = true := (hzz.resolve_right (fun q => by omega)).2
  have hlf : hFl (keep (goneB x y rad) (flat (σ.1.1.take k) ++ (gk σ.1.1 k).2.take (i + 1))) = hFl (keep (goneB x y rad) (flat (σ.1.1.take k) ++ (gk σ.1.1 k).2.take i)) := by rw [pts_s hi]; exact lef_gone hG
  refine P_lload XC dL_rubs_120 rfl ?_
  refine P_goto XC 157 dL_rubs_122 (by decide) ?_
  refine P_lstore XC dL_rubs_157 rfl (by decide) ?_
  dsimp only [List.set]
  refine P_iload XC dL_rubs_159 rfl ?_
  refine P_if_ne XC 168 dL_rubs_161 (by decide) (by first | (with_reducible assumption) | (unfold IR; omega) | (unfold IR at *; omega)) (fun h161 => ?_) (fun h161 => ?_)
  · skip
    refine P_iconst XC dL_rubs_168 ?_
    refine P_top (y := bI (cntF (goneB x y rad) ((gk σ.1.1 k).2.take (i + 1))).2) (by rw [hcs]; show (0 : Int) = bI (!(goneB x y rad) (px (gk σ.1.1 k) i, py (gk σ.1.1 k) i)); rw [hG]; rfl) ?_
    refine P_istore XC dL_rubs_169 rfl (by decide) ?_
    dsimp only [List.set]
    refine P_iinc XC dL_rubs_171 rfl rfl (by decide) ?_
    dsimp only [List.set]
    refine P_goto XC 30 dL_rubs_174 (by decide) ?_
    rw [← hlf]
    refine P_kill 11 ?_
    dsimp only [List.set]
    exact ih30 (i + 1) (by (try dsimp only); omega) (by (try dsimp only); omega)
  exfalso
  omega

set_option maxRecDepth 100000 in
set_option maxHeartbeats 4000000 in
theorem c_L_joins (l : Launch) (D : va_G) (kI kC : ClassId) (pa pg pw : Nat → Nat) (σ : PS) (k o : Nat) (hk : k < σ.1.1.length) (ho : o < σ.1.1.length) : PCon l yL_joins wsL_joins { frames := 7, cells := 0, slots := 0, locals := 162 } D kI kC pa pg pw [.ref (pa 0), .int (iI (k : Int)), .int (iI (o : Int))] σ (qT (fun r σ2 => r = 1 ∧ ∃ o, σ2 = (actS σ.1 o, σ.2.1, σ.2.2.1, σ.2.2.2))) := by
  refine PCon.of (cc := cL_joins) (maxL := 11) (ret := (some .boolean)) (by decide +kernel) rfl (Nat.le_of_ble_eq_true rfl) ?_
  intro pV eV sV mV bV tV cV AV Qf XC hrV hQ
  have XC : Cx pV _ sV mV _ tV cV cL_joins 11 RL wsL_joins AV D kI kC := XC
  change PP _ _ _ _ _ _ _ _ _ _ _ _ _ _ _ _ _ _ _ _ _ _ [some (.ref (pa 0)), some (.int (iI (k : Int))), some (.int (iI (o : Int))), none, none, none, none, none, none, none, none] _ _
  refine P_ok (fun hok => ?_)
  have hS := ok_S hok
  have h16 := ok_16 hok
  refine P_iload_n XC 1 rfl dL_joins_0 rfl ?_
  refine P_iload_n XC 2 rfl dL_joins_1 rfl ?_
  refine P_icmp_ne XC 22 dL_joins_2 (by decide) (by first | (with_reducible assumption) | (unfold IR; omega) | (unfold IR at *; omega)) (by first | (with_reducible assumption) | (unfold IR; omega) | (unfold IR at *; omega)) (fun h2 => ?_) (fun h2 => ?_)
  · skip
    have hne : k ≠ o := by omega
    have hz1 := ok_sz hS hk
    have hz2 := ok_sz hS ho
    have hx1 := ok_xy hS hk (i := szk (gk σ.1.1 k) - 1) (by omega)
    have hx2 := ok_xy hS ho (i := 0) (by omega)
    have hx3 := ok_xy hS ho (i := szk (gk σ.1.1 o) - 1) (by omega)
    have hcol := OkK_col (OkS_at hS hk)
    have hj := joinF_le (gk σ.1.1 k) (gk σ.1.1 o)
    have hjv := join_val hk ho hne
    have hjr := join_res hS hk ho hne
    have hjp := join_pts hz1.1 hz2.1
    refine P_aload_n XC 0 rfl dL_joins_22 rfl ?_
    refine P_iload_n XC 1 rfl dL_joins_23 rfl ?_
    refine P_iconst XC dL_joins_24 ?_
    refine P_X7_stroke XC (by first | (with_reducible assumption) | (unfold IR; omega) | (unfold IR at *; omega)) (by first | (with_reducible assumption) | (unfold IR; omega) | (unfold IR at *; omega)) gL_joins_X7_stroke ⟨⟨(Nat.le_of_ble_eq_true rfl), (Nat.le_of_ble_eq_true rfl)⟩, (Nat.le_of_ble_eq_true rfl), (Nat.le_of_ble_eq_true rfl)⟩ (Nat.le_of_ble_eq_true rfl) dL_joins_25 ?_
    refine P_top (y := (szk (gk σ.1.1 k) : Int)) (st_1 hk) ?_
    refine P_istore_n XC 3 rfl dL_joins_28 rfl (by decide) ?_
    dsimp only [List.set]
    refine P_aload_n XC 0 rfl dL_joins_29 rfl ?_
    refine P_iload_n XC 2 rfl dL_joins_30 rfl ?_
    refine P_iconst XC dL_joins_31 ?_
    refine P_X7_stroke XC (by first | (with_reducible assumption) | (unfold IR; omega) | (unfold IR at *; omega)) (by first | (with_reducible assumption) | (unfold IR; omega) | (unfold IR at *; omega)) gL_joins_X7_stroke ⟨⟨(Nat.le_of_ble_eq_true rfl), (Nat.le_of_ble_eq_true rfl)⟩, (Nat.le_of_ble_eq_true rfl), (Nat.le_of_ble_eq_true rfl)⟩ (Nat.le_of_ble_eq_true rfl) dL_joins_32 ?_
    refine P_top (y := (szk (gk σ.1.1 o) : Int)) (st_1 ho) ?_
    refine P_istore XC dL_joins_35 rfl (by decide) ?_
    dsimp only [List.set]
    refine P_aload_n XC 0 rfl dL_joins_37 rfl ?_
    refine P_iload_n XC 1 rfl dL_joins_38 rfl ?_
    refine P_iload_n XC 3 rfl dL_joins_39 rfl ?_
    refine P_iconst XC dL_joins_40 ?_
    refine P_isub XC dL_joins_41 ?_
    refine P_top (y := ((szk (gk σ.1.1 k) - 1 : Nat) : Int)) (by omega) ?_
    refine P_iconst XC dL_joins_42 ?_
    refine P_X7_point XC (by first | (with_reducible assumption) | (unfold IR; omega) | (unfold IR at *; omega)) (by first | (with_reducible assumption) | (unfold IR; omega) | (unfold IR at *; omega)) (by first | (with_reducible assumption) | (unfold IR; omega) | (unfold IR at *; omega)) gL_joins_X7_point ⟨⟨(Nat.le_of_ble_eq_true rfl), (Nat.le_of_ble_eq_true rfl)⟩, (Nat.le_of_ble_eq_true rfl), (Nat.le_of_ble_eq_true rfl)⟩ (Nat.le_of_ble_eq_true rfl) dL_joins_43 ?_
    refine P_top (y := px (gk σ.1.1 k) (szk (gk σ.1.1 k) - 1)) (pt_0 hk (by omega)) ?_
    refine P_aload_n XC 0 rfl dL_joins_46 rfl ?_
    refine P_iload_n XC 2 rfl dL_joins_47 rfl ?_
    refine P_iconst XC dL_joins_48 ?_
    refine P_iconst XC dL_joins_49 ?_
    refine P_X7_point XC (by first | (with_reducible assumption) | (unfold IR; omega) | (unfold IR at *; omega)) (by first | (with_reducible assumption) | (unfold IR; omega) | (unfold IR at *; omega)) (by first | (with_reducible assumption) | (unfold IR; omega) | (unfold IR at *; omega)) gL_joins_X7_point ⟨⟨(Nat.le_of_ble_eq_true rfl), (Nat.le_of_ble_eq_true rfl)⟩, (Nat.le_of_ble_eq_true rfl), (Nat.le_of_ble_eq_true rfl)⟩ (Nat.le_of_ble_eq_true rfl) dL_joins_50 ?_
    refine P_top (y := px (gk σ.1.1 o) 0) (pt_0 (i := 0) ho (by omega)) ?_
    refine P_merge (J := fun z => z = (joinF (gk σ.1.1 k) (gk σ.1.1 o) : Int)) 80 2 (fun kj53 => ?_) (fun z53 hz53 => ?_)
    · try dsimp only [List.drop] at kj53
      refine P_icmp_ne XC 79 dL_joins_53 (by decide) (by first | (with_reducible assumption) | (unfold IR; omega) | (unfold IR at *; omega)) (by first | (with_reducible assumption) | (unfold IR; omega) | (unfold IR at *; omega)) (fun h53 => ?_) (fun h53 => ?_)
      · skip
        refine P_iconst XC dL_joins_79 ?_
        exact kj53 _ (by (try dsimp only); unfold joinF; first | (rw [if_pos (by omega)]; rfl) | (rw [if_neg (by omega)]; rfl))
      refine P_aload_n XC 0 rfl dL_joins_56 rfl ?_
      refine P_iload_n XC 1 rfl dL_joins_57 rfl ?_
      refine P_iload_n XC 3 rfl dL_joins_58 rfl ?_
      refine P_iconst XC dL_joins_59 ?_
      refine P_isub XC dL_joins_60 ?_
      refine P_top (y := ((szk (gk σ.1.1 k) - 1 : Nat) : Int)) (by omega) ?_
      refine P_iconst XC dL_joins_61 ?_
      refine P_X7_point XC (by first | (with_reducible assumption) | (unfold IR; omega) | (unfold IR at *; omega)) (by first | (with_reducible assumption) | (unfold IR; omega) | (unfold IR at *; omega)) (by first | (with_reducible assumption) | (unfold IR; omega) | (unfold IR at *; omega)) gL_joins_X7_point ⟨⟨(Nat.le_of_ble_eq_true rfl), (Nat.le_of_ble_eq_true rfl)⟩, (Nat.le_of_ble_eq_true rfl), (Nat.le_of_ble_eq_true rfl)⟩ (Nat.le_of_ble_eq_true rfl) dL_joins_62 ?_
      refine P_top (y := py (gk σ.1.1 k) (szk (gk σ.1.1 k) - 1)) (pt_1 hk (by omega)) ?_
      refine P_aload_n XC 0 rfl dL_joins_65 rfl ?_
      refine P_iload_n XC 2 rfl dL_joins_66 rfl ?_
      refine P_iconst XC dL_joins_67 ?_
      refine P_iconst XC dL_joins_68 ?_
      refine P_X7_point XC (by first | (with_reducible assumption) | (unfold IR; omega) | (unfold IR at *; omega)) (by first | (with_reducible assumption) | (unfold IR; omega) | (unfold IR at *; omega)) (by first | (with_reducible assumption) | (unfold IR; omega) | (unfold IR at *; omega)) gL_joins_X7_point ⟨⟨(Nat.le_of_ble_eq_true rfl), (Nat.le_of_ble_eq_true rfl)⟩, (Nat.le_of_ble_eq_true rfl), (Nat.le_of_ble_eq_true rfl)⟩ (Nat.le_of_ble_eq_true rfl) dL_joins_69 ?_
      refine P_top (y := py (gk σ.1.1 o) 0) (pt_1 (i := 0) ho (by omega)) ?_
      refine P_icmp_ne XC 79 dL_joins_72 (by decide) (by first | (with_reducible assumption) | (unfold IR; omega) | (unfold IR at *; omega)) (by first | (with_reducible assumption) | (unfold IR; omega) | (unfold IR at *; omega)) (fun h72 => ?_) (fun h72 => ?_)
      · skip
        refine P_iconst XC dL_joins_79 ?_
        exact kj53 _ (by (try dsimp only); unfold joinF; first | (rw [if_pos (by omega)]; rfl) | (rw [if_neg (by omega)]; rfl))
      refine P_iconst XC dL_joins_75 ?_
      refine P_goto XC 80 dL_joins_76 (by decide) ?_
      exact kj53 _ (by (try dsimp only); unfold joinF; first | (rw [if_pos (by omega)]; rfl) | (rw [if_neg (by omega)]; rfl))
    try dsimp only [List.drop]
    try dsimp only at hz53
    subst hz53
    refine P_istore XC dL_joins_80 rfl (by decide) ?_
    dsimp only [List.set]
    refine P_iload_n XC 3 rfl dL_joins_82 rfl ?_
    refine P_iload XC dL_joins_83 rfl ?_
    refine P_iadd XC dL_joins_85 ?_
    refine P_iload XC dL_joins_86 rfl ?_
    refine P_merge (J := fun z => z = (joinF (gk σ.1.1 k) (gk σ.1.1 o) : Int)) 96 1 (fun kj88 => ?_) (fun z88 hz88 => ?_)
    · try dsimp only [List.drop] at kj88
      refine P_if_eq XC 95 dL_joins_88 (by decide) (by first | (with_reducible assumption) | (unfold IR; omega) | (unfold IR at *; omega)) (fun h88 => ?_) (fun h88 => ?_)
      · skip
        refine P_iconst XC dL_joins_95 ?_
        exact kj88 _ (by (try dsimp only); omega)
      refine P_iconst XC dL_joins_91 ?_
      refine P_goto XC 96 dL_joins_92 (by decide) ?_
      exact kj88 _ (by (try dsimp only); omega)
    try dsimp only [List.drop]
    try dsimp only at hz88
    subst hz88
    refine P_isub XC dL_joins_96 ?_
    refine P_top (y := (((szk (gk σ.1.1 k) + szk (gk σ.1.1 o) - joinF (gk σ.1.1 k) (gk σ.1.1 o)) : Nat) : Int)) (by omega) ?_
    refine P_istore XC dL_joins_97 rfl (by decide) ?_
    dsimp only [List.set]
    refine P_aload_n XC 0 rfl dL_joins_99 rfl ?_
    refine P_iload_n XC 1 rfl dL_joins_100 rfl ?_
    refine P_iconst XC dL_joins_101 ?_
    refine P_X7_stroke XC (by first | (with_reducible assumption) | (unfold IR; omega) | (unfold IR at *; omega)) (by first | (with_reducible assumption) | (unfold IR; omega) | (unfold IR at *; omega)) gL_joins_X7_stroke ⟨⟨(Nat.le_of_ble_eq_true rfl), (Nat.le_of_ble_eq_true rfl)⟩, (Nat.le_of_ble_eq_true rfl), (Nat.le_of_ble_eq_true rfl)⟩ (Nat.le_of_ble_eq_true rfl) dL_joins_102 ?_
    refine P_top (y := (gk σ.1.1 k).1) (st_0 hk) ?_
    refine P_istore XC dL_joins_105 rfl (by decide) ?_
    dsimp only [List.set]
    refine P_aload_n XC 0 rfl dL_joins_107 rfl ?_
    refine P_iconst XC dL_joins_108 ?_
    refine P_X7_count XC (by first | (with_reducible assumption) | (unfold IR; omega) | (unfold IR at *; omega)) gL_joins_X7_count ⟨⟨(Nat.le_of_ble_eq_true rfl), (Nat.le_of_ble_eq_true rfl)⟩, (Nat.le_of_ble_eq_true rfl), (Nat.le_of_ble_eq_true rfl)⟩ (Nat.le_of_ble_eq_true rfl) dL_joins_109 (fun r109 hr109 => ?_)
    obtain rfl := cn_0 hr109
    refine P_istore XC dL_joins_112 rfl (by decide) ?_
    dsimp only [List.set]
    refine P_aload_n XC 0 rfl dL_joins_114 rfl ?_
    refine P_iload_n XC 2 rfl dL_joins_115 rfl ?_
    refine P_iload XC dL_joins_116 rfl ?_
    refine P_iconst XC dL_joins_118 ?_
    refine P_isub XC dL_joins_119 ?_
    refine P_top (y := ((szk (gk σ.1.1 o) - 1 : Nat) : Int)) (by omega) ?_
    refine P_iconst XC dL_joins_120 ?_
    refine P_X7_point XC (by first | (with_reducible assumption) | (unfold IR; omega) | (unfold IR at *; omega)) (by first | (with_reducible assumption) | (unfold IR; omega) | (unfold IR at *; omega)) (by first | (with_reducible assumption) | (unfold IR; omega) | (unfold IR at *; omega)) gL_joins_X7_point ⟨⟨(Nat.le_of_ble_eq_true rfl), (Nat.le_of_ble_eq_true rfl)⟩, (Nat.le_of_ble_eq_true rfl), (Nat.le_of_ble_eq_true rfl)⟩ (Nat.le_of_ble_eq_true rfl) dL_joins_121 ?_
    refine P_top (y := px (gk σ.1.1 o) (szk (gk σ.1.1 o) - 1)) (pt_0 ho (by omega)) ?_
    refine P_istore XC dL_joins_124 rfl (by decide) ?_
    dsimp only [List.set]
    refine P_iload_n XC 1 rfl dL_joins_126 rfl ?_
    refine P_iload_n XC 2 rfl dL_joins_127 rfl ?_
    refine P_iload_n XC 1 rfl dL_joins_128 rfl ?_
    refine P_merge (J := fun z => z = (if o < k then 1 else 0)) 137 2 (fun kj129 => ?_) (fun z129 hz129 => ?_)
    · try dsimp only [List.drop] at kj129
      refine P_icmp_ge XC 136 dL_joins_129 (by decide) (by first | (with_reducible assumption) | (unfold IR; omega) | (unfold IR at *; omega)) (by first | (with_reducible assumption) | (unfold IR; omega) | (unfold IR at *; omega)) (fun h129 => ?_) (fun h129 => ?_)
      · skip
        refine P_iconst XC dL_joins_136 ?_
        exact kj129 _ (by (try dsimp only); first | (rw [if_pos (by omega)]; done) | (rw [if_neg (by omega)]; done))
      refine P_iconst XC dL_joins_132 ?_
      refine P_goto XC 137 dL_joins_133 (by decide) ?_
      exact kj129 _ (by (try dsimp only); first | (rw [if_pos (by omega)]; done) | (rw [if_neg (by omega)]; done))
    try dsimp only [List.drop]
    try dsimp only at hz129
    obtain ⟨a, hat⟩ : ∃ q, q = k - (if o < k then 1 else 0) := ⟨_, rfl⟩
    rw [← hat] at hjv hjr
    have hat2 : (o < k ∧ a = k - 1 ∧ z129 = 1) ∨ (k < o ∧ a = k ∧ z129 = 0) := by
      by_cases q : o < k
      · rw [if_pos q] at hat hz129; omega
      · rw [if_neg q] at hat hz129; omega
    refine P_isub XC dL_joins_137 ?_
    refine P_top (y := (a : Int)) (by omega) ?_
    refine P_istore XC dL_joins_138 rfl (by decide) ?_
    dsimp only [List.set]
    refine P_iload XC dL_joins_140 rfl ?_
    refine P_bipush XC dL_joins_142 (by decide) ?_
    refine P_icmp_le XC 164 dL_joins_144 (by decide) (by first | (with_reducible assumption) | (unfold IR; omega) | (unfold IR at *; omega)) (by first | (with_reducible assumption) | (unfold IR; omega) | (unfold IR at *; omega)) (fun h144 => ?_) (fun h144 => ?_)
    · skip
      refine P_aload_n XC 0 rfl dL_joins_164 rfl ?_
      refine P_iload_n XC 1 rfl dL_joins_165 rfl ?_
      refine P_iload_n XC 2 rfl dL_joins_166 rfl ?_
      refine P_X7_join XC (by first | (with_reducible assumption) | (unfold IR; omega) | (unfold IR at *; omega)) (by first | (with_reducible assumption) | (unfold IR; omega) | (unfold IR at *; omega)) gL_joins_X7_join ⟨⟨(Nat.le_of_ble_eq_true rfl), (Nat.le_of_ble_eq_true rfl)⟩, (Nat.le_of_ble_eq_true rfl), (Nat.le_of_ble_eq_true rfl)⟩ (Nat.le_of_ble_eq_true rfl) dL_joins_167 ?_
      rw [if_neg (by omega)] at hjv
      rw [hjv]
      refine P_top (y := (a : Int)) rfl ?_
      try dsimp only
      generalize hτ : ((actS σ.1 (some ((σ.1.1.set k ((gk σ.1.1 k).1, (gk σ.1.1 k).2 ++ (gk σ.1.1 o).2.drop (joinF (gk σ.1.1 k) (gk σ.1.1 o)))).eraseIdx o)), σ.2.1, σ.2.2.1, σ.2.2.2) : PS) = τ
      have hτ1 : τ.1.1 = (σ.1.1.set k ((gk σ.1.1 k).1, (gk σ.1.1 k).2 ++ (gk σ.1.1 o).2.drop (joinF (gk σ.1.1 k) (gk σ.1.1 o)))).eraseIdx o := by rw [← hτ]; rfl
      rw [← hτ1] at hjr
      have hal : a < τ.1.1.length := by omega
      refine P_ok (fun hokt => ?_)
      have h16t := ok_16 hokt
      refine P_iload XC dL_joins_170 rfl ?_
      refine P_icmp_ne XC 231 dL_joins_172 (by decide) (by first | (with_reducible assumption) | (unfold IR; omega) | (unfold IR at *; omega)) (by first | (with_reducible assumption) | (unfold IR; omega) | (unfold IR at *; omega)) (fun h172 => ?_) (fun h172 => ?_)
      · exfalso
        omega
      refine P_aload_n XC 0 rfl dL_joins_175 rfl ?_
      refine P_iload XC dL_joins_176 rfl ?_
      refine P_iconst XC dL_joins_178 ?_
      refine P_X7_stroke XC (by first | (with_reducible assumption) | (unfold IR; omega) | (unfold IR at *; omega)) (by first | (with_reducible assumption) | (unfold IR; omega) | (unfold IR at *; omega)) gL_joins_X7_stroke ⟨⟨(Nat.le_of_ble_eq_true rfl), (Nat.le_of_ble_eq_true rfl)⟩, (Nat.le_of_ble_eq_true rfl), (Nat.le_of_ble_eq_true rfl)⟩ (Nat.le_of_ble_eq_true rfl) dL_joins_179 ?_
      refine P_top (y := (((szk (gk σ.1.1 k) + szk (gk σ.1.1 o) - joinF (gk σ.1.1 k) (gk σ.1.1 o)) : Nat) : Int)) ((st_1 hal).trans (by rw [hjr.2, hjp.1])) ?_
      refine P_iload XC dL_joins_182 rfl ?_
      refine P_icmp_ne XC 231 dL_joins_184 (by decide) (by first | (with_reducible assumption) | (unfold IR; omega) | (unfold IR at *; omega)) (by first | (with_reducible assumption) | (unfold IR; omega) | (unfold IR at *; omega)) (fun h184 => ?_) (fun h184 => ?_)
      · exfalso
        omega
      refine P_aload_n XC 0 rfl dL_joins_187 rfl ?_
      refine P_iload XC dL_joins_188 rfl ?_
      refine P_iconst XC dL_joins_190 ?_
      refine P_X7_stroke XC (by first | (with_reducible assumption) | (unfold IR; omega) | (unfold IR at *; omega)) (by first | (with_reducible assumption) | (unfold IR; omega) | (unfold IR at *; omega)) gL_joins_X7_stroke ⟨⟨(Nat.le_of_ble_eq_true rfl), (Nat.le_of_ble_eq_true rfl)⟩, (Nat.le_of_ble_eq_true rfl), (Nat.le_of_ble_eq_true rfl)⟩ (Nat.le_of_ble_eq_true rfl) dL_joins_191 ?_
      refine P_top (y := (gk σ.1.1 k).1) ((st_0 hal).trans (by rw [hjr.2])) ?_
      refine P_iload XC dL_joins_194 rfl ?_
      refine P_icmp_ne XC 231 dL_joins_196 (by decide) (by first | (with_reducible assumption) | (unfold IR; omega) | (unfold IR at *; omega)) (by first | (with_reducible assumption) | (unfold IR; omega) | (unfold IR at *; omega)) (fun h196 => ?_) (fun h196 => ?_)
      · exfalso
        omega
      refine P_aload_n XC 0 rfl dL_joins_199 rfl ?_
      refine P_iconst XC dL_joins_200 ?_
      refine P_X7_count XC (by first | (with_reducible assumption) | (unfold IR; omega) | (unfold IR at *; omega)) gL_joins_X7_count ⟨⟨(Nat.le_of_ble_eq_true rfl), (Nat.le_of_ble_eq_true rfl)⟩, (Nat.le_of_ble_eq_true rfl), (Nat.le_of_ble_eq_true rfl)⟩ (Nat.le_of_ble_eq_true rfl) dL_joins_201 (fun r201 hr201 => ?_)
      obtain rfl := cn_0 hr201
      refine P_iload XC dL_joins_204 rfl ?_
      refine P_iconst XC dL_joins_206 ?_
      refine P_isub XC dL_joins_207 ?_
      refine P_icmp_ne XC 231 dL_joins_208 (by decide) (by first | (with_reducible assumption) | (unfold IR; omega) | (unfold IR at *; omega)) (by first | (with_reducible assumption) | (unfold IR; omega) | (unfold IR at *; omega)) (fun h208 => ?_) (fun h208 => ?_)
      · exfalso
        omega
      refine P_aload_n XC 0 rfl dL_joins_211 rfl ?_
      refine P_iload XC dL_joins_212 rfl ?_
      refine P_iload XC dL_joins_214 rfl ?_
      refine P_iconst XC dL_joins_216 ?_
      refine P_isub XC dL_joins_217 ?_
      refine P_top (y := (((szk (gk σ.1.1 k) + szk (gk σ.1.1 o) - joinF (gk σ.1.1 k) (gk σ.1.1 o)) - 1 : Nat) : Int)) (by omega) ?_
      refine P_iconst XC dL_joins_218 ?_
      refine P_X7_point XC (by first | (with_reducible assumption) | (unfold IR; omega) | (unfold IR at *; omega)) (by first | (with_reducible assumption) | (unfold IR; omega) | (unfold IR at *; omega)) (by first | (with_reducible assumption) | (unfold IR; omega) | (unfold IR at *; omega)) gL_joins_X7_point ⟨⟨(Nat.le_of_ble_eq_true rfl), (Nat.le_of_ble_eq_true rfl)⟩, (Nat.le_of_ble_eq_true rfl), (Nat.le_of_ble_eq_true rfl)⟩ (Nat.le_of_ble_eq_true rfl) dL_joins_219 ?_
      refine P_top (y := px (gk σ.1.1 o) (szk (gk σ.1.1 o) - 1)) ((pt_0 hal (by rw [hjr.2, hjp.1]; omega)).trans (by rw [hjr.2, hjp.2])) ?_
      refine P_iload XC dL_joins_222 rfl ?_
      refine P_icmp_ne XC 231 dL_joins_224 (by decide) (by first | (with_reducible assumption) | (unfold IR; omega) | (unfold IR at *; omega)) (by first | (with_reducible assumption) | (unfold IR; omega) | (unfold IR at *; omega)) (fun h224 => ?_) (fun h224 => ?_)
      · exfalso
        omega
      refine P_iconst XC dL_joins_227 ?_
      refine P_goto XC 232 dL_joins_228 (by decide) ?_
      exact P_zret (r := true) XC hrV dL_joins_232 (fun u hu => hQ _ _ u ⟨1, rfl, rfl, _, hτ.symm⟩ hu)
    refine P_aload_n XC 0 rfl dL_joins_147 rfl ?_
    refine P_iload_n XC 1 rfl dL_joins_148 rfl ?_
    refine P_iload_n XC 2 rfl dL_joins_149 rfl ?_
    refine P_X7_join XC (by first | (with_reducible assumption) | (unfold IR; omega) | (unfold IR at *; omega)) (by first | (with_reducible assumption) | (unfold IR; omega) | (unfold IR at *; omega)) gL_joins_X7_join ⟨⟨(Nat.le_of_ble_eq_true rfl), (Nat.le_of_ble_eq_true rfl)⟩, (Nat.le_of_ble_eq_true rfl), (Nat.le_of_ble_eq_true rfl)⟩ (Nat.le_of_ble_eq_true rfl) dL_joins_150 ?_
    rw [if_pos (by omega)] at hjv
    rw [hjv]
    refine P_top (y := -3) rfl ?_
    change PP _ _ _ _ _ _ _ _ _ _ _ _ _ _ _ _ _ _ _ _ _ _ _ _ σ
    refine P_bipush XC dL_joins_153 (by decide) ?_
    refine P_icmp_ne XC 162 dL_joins_155 (by decide) (by first | (with_reducible assumption) | (unfold IR; omega) | (unfold IR at *; omega)) (by first | (with_reducible assumption) | (unfold IR; omega) | (unfold IR at *; omega)) (fun h155 => ?_) (fun h155 => ?_)
    · exfalso
      omega
    refine P_iconst XC dL_joins_158 ?_
    refine P_goto XC 163 dL_joins_159 (by decide) ?_
    exact P_zret (r := true) XC hrV dL_joins_163 (fun u hu => hQ _ _ u ⟨1, rfl, rfl, none, rfl⟩ hu)
  have hke : k = o := by omega
  subst hke
  refine P_aload_n XC 0 rfl dL_joins_5 rfl ?_
  refine P_iload_n XC 1 rfl dL_joins_6 rfl ?_
  refine P_iload_n XC 1 rfl dL_joins_7 rfl ?_
  refine P_X7_join XC (by first | (with_reducible assumption) | (unfold IR; omega) | (unfold IR at *; omega)) (by first | (with_reducible assumption) | (unfold IR; omega) | (unfold IR at *; omega)) gL_joins_X7_join ⟨⟨(Nat.le_of_ble_eq_true rfl), (Nat.le_of_ble_eq_true rfl)⟩, (Nat.le_of_ble_eq_true rfl), (Nat.le_of_ble_eq_true rfl)⟩ (Nat.le_of_ble_eq_true rfl) dL_joins_8 ?_
  have hv8 : joinS σ.1.1 (k : Int) (k : Int) = (-2, none) := by unfold joinS; rw [if_neg (fun z => z.elim (has_k hk) (has_k hk)), if_pos rfl]
  rw [hv8]
  refine P_top (y := -2) rfl ?_
  change PP _ _ _ _ _ _ _ _ _ _ _ _ _ _ _ _ _ _ _ _ _ _ _ _ σ
  refine P_bipush XC dL_joins_11 (by decide) ?_
  refine P_icmp_ne XC 20 dL_joins_13 (by decide) (by first | (with_reducible assumption) | (unfold IR; omega) | (unfold IR at *; omega)) (by first | (with_reducible assumption) | (unfold IR; omega) | (unfold IR at *; omega)) (fun h13 => ?_) (fun h13 => ?_)
  · exfalso
    omega
  refine P_iconst XC dL_joins_16 ?_
  refine P_goto XC 21 dL_joins_17 (by decide) ?_
  exact P_zret (r := true) XC hrV dL_joins_21 (fun u hu => hQ _ _ u ⟨1, rfl, rfl, none, rfl⟩ hu)

end LAW4
