/-! lines and words in the reading order -/
section LAW3

theorem P_merge0 {p : Program} {l : Launch} {e : Env} {R : Room} {s : State} {m : MethodId} {args : Array Value} {below : List Frame} {meth : Method} {c : Code} {nL : Nat} {A : Nat → Prop} {D : va_G} {kI kC : ClassId} {Q : State → Prop} {pa pg pw : Nat → Nat} {cells slots pc : Nat} {lv : List (Option Value)} {st : List Value} {σ : PS} (jp d : Nat)
    (k : PP p l e R s m args below meth c nL A D Q kI kC pa pg pw cells slots jp lv (st.drop d) σ → PP p l e R s m args below meth c nL A D Q kI kC pa pg pw cells slots pc lv st σ)
    (hk : PP p l e R s m args below meth c nL A D Q kI kC pa pg pw cells slots jp lv (st.drop d) σ) : PP p l e R s m args below meth c nL A D Q kI kC pa pg pw cells slots pc lv st σ := k hk

set_option maxRecDepth 100000 in
set_option maxHeartbeats 4000000 in
theorem c_L_order (l : Launch) (D : va_G) (kI kC : ClassId) (pa pg pw : Nat → Nat) (σ : PS)  : PCon l yL_order wsL_order { frames := 7, cells := 0, slots := 0, locals := 162 } D kI kC pa pg pw [.ref (pa 0), .int (iI σ.2.2.2)] σ (qS σ (fun r => r = 1)) := by
  refine PCon.of (cc := cL_order) (maxL := 12) (ret := (some .boolean)) (by decide +kernel) rfl (Nat.le_of_ble_eq_true rfl) ?_
  intro pV eV sV mV bV tV cV AV Qf XC hrV hQ
  have XC : Cx pV _ sV mV _ tV cV cL_order 12 RL wsL_order AV D kI kC := XC
  change PP _ _ _ _ _ _ _ _ _ _ _ _ _ _ _ _ _ _ _ _ _ _ [some (.ref (pa 0)), some (.int (iI σ.2.2.2)), none, none, none, none, none, none, none, none, none, none] _ _
  refine P_ok (fun hok => ?_)
  have hS := ok_S hok
  have h16 := ok_16 hok
  have hg := hok.2.2.2
  refine P_aload_n XC 0 rfl dL_order_0 rfl ?_
  refine P_iconst XC dL_order_1 ?_
  refine P_X7_count XC (by first | (with_reducible assumption) | (unfold IR; omega) | (unfold IR at *; omega)) gL_order_X7_count ⟨⟨(Nat.le_of_ble_eq_true rfl), (Nat.le_of_ble_eq_true rfl)⟩, (Nat.le_of_ble_eq_true rfl), (Nat.le_of_ble_eq_true rfl)⟩ (Nat.le_of_ble_eq_true rfl) dL_order_2 (fun r2 hr2 => ?_)
  obtain rfl := cn_0 hr2
  refine P_istore_n XC 2 rfl dL_order_5 rfl (by decide) ?_
  dsimp only [List.set]
  refine P_iconst XC dL_order_6 ?_
  refine P_istore_n XC 3 rfl dL_order_7 rfl (by decide) ?_
  dsimp only [List.set]
  refine P_iconst XC dL_order_8 ?_
  refine P_istore XC dL_order_9 rfl (by decide) ?_
  dsimp only [List.set]
  refine P_iconst XC dL_order_11 ?_
  refine P_istore XC dL_order_12 rfl (by decide) ?_
  dsimp only [List.set]
  refine P_iconst XC dL_order_14 ?_
  refine P_istore XC dL_order_15 rfl (by decide) ?_
  dsimp only [List.set]
  refine P_loopR (τ := Nat) (fun u => σ.1.1.length - u) (fun u => u ≤ σ.1.1.length) (fun u => [some (.ref (pa 0)), some (.int (iI σ.2.2.2)), some (.int (iI (σ.1.1.length : Int))), some (.int (iI ((bitK (odS σ.1.1) u : Nat) : Int))), some (.int (iI ((wn σ.1.1 σ.2.2.2 u : Int) - 1))), some (.int (iI (RtF σ.1.1 σ.2.2.2 u))), some (.int (iI (u : Int))), none, none, none, none, none]) (0) (Nat.zero_le _) rfl (fun u hJ ih17 => ?_)
  obtain ⟨k, rfl⟩ : ∃ z, z = u := ⟨_, rfl⟩
  try dsimp only at hJ ih17 ⊢
  obtain hkl := hJ
  refine P_iload XC dL_order_17 rfl ?_
  refine P_iload_n XC 2 rfl dL_order_19 rfl ?_
  refine P_icmp_ge XC 400 dL_order_20 (by decide) (by first | (with_reducible assumption) | (unfold IR; omega) | (unfold IR at *; omega)) (by first | (with_reducible assumption) | (unfold IR; omega) | (unfold IR at *; omega)) (fun h20 => ?_) (fun h20 => ?_)
  · skip
    have hke : k = σ.1.1.length := by omega
    subst hke
    have hwn : wn σ.1.1 σ.2.2.2 σ.1.1.length = (WD σ.1.1 σ.2.2.2).1 := rfl
    have hWle : (WD σ.1.1 σ.2.2.2).1 ≤ σ.1.1.length := (WI_run (S := σ.1.1) (gap := σ.2.2.2) σ.1.1.length (Nat.le_refl _)).1.1
    have hmn := (GS_ok hS).1
    refine P_iconst XC dL_order_400 ?_
    refine P_istore XC dL_order_401 rfl (by decide) ?_
    dsimp only [List.set]
    refine P_iconst XC dL_order_403 ?_
    refine P_istore XC dL_order_404 rfl (by decide) ?_
    dsimp only [List.set]
    refine P_iconst XC dL_order_406 ?_
    refine P_istore XC dL_order_407 rfl (by decide) ?_
    dsimp only [List.set]
    refine P_kill 9 ?_
    dsimp only [List.set]
    refine P_kill 10 ?_
    dsimp only [List.set]
    refine P_kill 11 ?_
    dsimp only [List.set]
    refine P_loopR (τ := Nat) (fun u => mS σ.1.1 - u) (fun u => u ≤ mS σ.1.1) (fun u => [some (.ref (pa 0)), some (.int (iI σ.2.2.2)), some (.int (iI (σ.1.1.length : Int))), some (.int (iI ((bitK (odS σ.1.1) σ.1.1.length : Nat) : Int))), some (.int (iI ((wn σ.1.1 σ.2.2.2 σ.1.1.length : Int) - 1))), some (.int (iI (RtF σ.1.1 σ.2.2.2 σ.1.1.length))), some (.int (iI (itr (fun L a => a + lineS σ.1.1 σ.2.2.2 (L : Int) 2) 0 u))), some (.int (iI (itr (fun L a => a + lineS σ.1.1 σ.2.2.2 (L : Int) 3) 0 u))), some (.int (iI (u : Int))), none, none, none]) (0) (Nat.zero_le _) rfl (fun u hJ ih409 => ?_)
    obtain ⟨v, rfl⟩ : ∃ z, z = u := ⟨_, rfl⟩
    try dsimp only at hJ ih409 ⊢
    obtain hvl := hJ
    refine P_iload XC dL_order_409 rfl ?_
    refine P_aload_n XC 0 rfl dL_order_411 rfl ?_
    refine P_iconst XC dL_order_412 ?_
    refine P_X7_count XC (by first | (with_reducible assumption) | (unfold IR; omega) | (unfold IR at *; omega)) gL_order_X7_count ⟨⟨(Nat.le_of_ble_eq_true rfl), (Nat.le_of_ble_eq_true rfl)⟩, (Nat.le_of_ble_eq_true rfl), (Nat.le_of_ble_eq_true rfl)⟩ (Nat.le_of_ble_eq_true rfl) dL_order_413 (fun r413 hr413 => ?_)
    obtain rfl := cn_3 hr413
    refine P_icmp_ge XC 525 dL_order_416 (by decide) (by first | (with_reducible assumption) | (unfold IR; omega) | (unfold IR at *; omega)) (by first | (with_reducible assumption) | (unfold IR; omega) | (unfold IR at *; omega)) (fun h416 => ?_) (fun h416 => ?_)
    · skip
      have hve : v = mS σ.1.1 := by omega
      subst hve
      rw [sum_lines hS rfl, sum_lw hS rfl]
      refine P_iconst XC dL_order_525 ?_
      refine P_istore XC dL_order_526 rfl (by decide) ?_
      dsimp only [List.set]
      refine P_iconst XC dL_order_528 ?_
      refine P_istore XC dL_order_529 rfl (by decide) ?_
      dsimp only [List.set]
      refine P_kill 10 ?_
      dsimp only [List.set]
      refine P_kill 11 ?_
      dsimp only [List.set]
      refine P_loopR (τ := Nat) (fun u => (WD σ.1.1 σ.2.2.2).1 - u) (fun u => u ≤ (WD σ.1.1 σ.2.2.2).1) (fun u => [some (.ref (pa 0)), some (.int (iI σ.2.2.2)), some (.int (iI (σ.1.1.length : Int))), some (.int (iI ((bitK (odS σ.1.1) σ.1.1.length : Nat) : Int))), some (.int (iI ((wn σ.1.1 σ.2.2.2 σ.1.1.length : Int) - 1))), some (.int (iI (RtF σ.1.1 σ.2.2.2 σ.1.1.length))), some (.int (iI (σ.1.1.length : Int))), some (.int (iI ((WD σ.1.1 σ.2.2.2).1 : Int))), some (.int (iI (itr (fun x a => a + wordS σ.1.1 σ.2.2.2 (x : Int) 1) 0 u))), some (.int (iI (u : Int))), none, none]) (0) (Nat.zero_le _) rfl (fun u hJ ih531 => ?_)
      obtain ⟨x, rfl⟩ : ∃ z, z = u := ⟨_, rfl⟩
      try dsimp only at hJ ih531 ⊢
      obtain hxl := hJ
      refine P_iload XC dL_order_531 rfl ?_
      refine P_aload_n XC 0 rfl dL_order_533 rfl ?_
      refine P_iconst XC dL_order_534 ?_
      refine P_X7_count XC (by first | (with_reducible assumption) | (unfold IR; omega) | (unfold IR at *; omega)) gL_order_X7_count ⟨⟨(Nat.le_of_ble_eq_true rfl), (Nat.le_of_ble_eq_true rfl)⟩, (Nat.le_of_ble_eq_true rfl), (Nat.le_of_ble_eq_true rfl)⟩ (Nat.le_of_ble_eq_true rfl) dL_order_535 (fun r535 hr535 => ?_)
      obtain rfl := cn_4 hr535
      refine P_icmp_ge XC 590 dL_order_538 (by decide) (by first | (with_reducible assumption) | (unfold IR; omega) | (unfold IR at *; omega)) (by first | (with_reducible assumption) | (unfold IR; omega) | (unfold IR at *; omega)) (fun h538 => ?_) (fun h538 => ?_)
      · skip
        have hxe : x = (WD σ.1.1 σ.2.2.2).1 := by omega
        subst hxe
        rw [sum_words rfl]
        refine P_iload XC dL_order_590 rfl ?_
        refine P_iload_n XC 2 rfl dL_order_592 rfl ?_
        refine P_icmp_ne XC 676 dL_order_593 (by decide) (by first | (with_reducible assumption) | (unfold IR; omega) | (unfold IR at *; omega)) (by first | (with_reducible assumption) | (unfold IR; omega) | (unfold IR at *; omega)) (fun h593 => ?_) (fun h593 => ?_)
        · exfalso
          omega
        refine P_iload XC dL_order_596 rfl ?_
        refine P_iload_n XC 2 rfl dL_order_598 rfl ?_
        refine P_icmp_ne XC 676 dL_order_599 (by decide) (by first | (with_reducible assumption) | (unfold IR; omega) | (unfold IR at *; omega)) (by first | (with_reducible assumption) | (unfold IR; omega) | (unfold IR at *; omega)) (fun h599 => ?_) (fun h599 => ?_)
        · exfalso
          omega
        refine P_iload XC dL_order_602 rfl ?_
        refine P_aload_n XC 0 rfl dL_order_604 rfl ?_
        refine P_iconst XC dL_order_605 ?_
        refine P_X7_count XC (by first | (with_reducible assumption) | (unfold IR; omega) | (unfold IR at *; omega)) gL_order_X7_count ⟨⟨(Nat.le_of_ble_eq_true rfl), (Nat.le_of_ble_eq_true rfl)⟩, (Nat.le_of_ble_eq_true rfl), (Nat.le_of_ble_eq_true rfl)⟩ (Nat.le_of_ble_eq_true rfl) dL_order_606 (fun r606 hr606 => ?_)
        obtain rfl := cn_4 hr606
        refine P_icmp_ne XC 676 dL_order_609 (by decide) (by first | (with_reducible assumption) | (unfold IR; omega) | (unfold IR at *; omega)) (by first | (with_reducible assumption) | (unfold IR; omega) | (unfold IR at *; omega)) (fun h609 => ?_) (fun h609 => ?_)
        · exfalso
          omega
        refine P_aload_n XC 0 rfl dL_order_612 rfl ?_
        refine P_iconst XC dL_order_613 ?_
        refine P_X7_count XC (by first | (with_reducible assumption) | (unfold IR; omega) | (unfold IR at *; omega)) gL_order_X7_count ⟨⟨(Nat.le_of_ble_eq_true rfl), (Nat.le_of_ble_eq_true rfl)⟩, (Nat.le_of_ble_eq_true rfl), (Nat.le_of_ble_eq_true rfl)⟩ (Nat.le_of_ble_eq_true rfl) dL_order_614 (fun r614 hr614 => ?_)
        obtain rfl := cn_4 hr614
        refine P_iload XC dL_order_617 rfl ?_
        refine P_iconst XC dL_order_619 ?_
        refine P_iadd XC dL_order_620 ?_
        refine P_icmp_ne XC 676 dL_order_621 (by decide) (by first | (with_reducible assumption) | (unfold IR; omega) | (unfold IR at *; omega)) (by first | (with_reducible assumption) | (unfold IR; omega) | (unfold IR at *; omega)) (fun h621 => ?_) (fun h621 => ?_)
        · exfalso
          omega
        refine P_aload_n XC 0 rfl dL_order_624 rfl ?_
        refine P_iload_n XC 2 rfl dL_order_625 rfl ?_
        refine P_X7_read XC (by first | (with_reducible assumption) | (unfold IR; omega) | (unfold IR at *; omega)) gL_order_X7_read ⟨⟨(Nat.le_of_ble_eq_true rfl), (Nat.le_of_ble_eq_true rfl)⟩, (Nat.le_of_ble_eq_true rfl), (Nat.le_of_ble_eq_true rfl)⟩ (Nat.le_of_ble_eq_true rfl) dL_order_626 ?_
        refine P_top (y := -5) (rd_n) ?_
        refine P_bipush XC dL_order_629 (by decide) ?_
        refine P_icmp_ne XC 676 dL_order_631 (by decide) (by first | (with_reducible assumption) | (unfold IR; omega) | (unfold IR at *; omega)) (by first | (with_reducible assumption) | (unfold IR; omega) | (unfold IR at *; omega)) (fun h631 => ?_) (fun h631 => ?_)
        · exfalso
          omega
        refine P_aload_n XC 0 rfl dL_order_634 rfl ?_
        refine P_iconst XC dL_order_635 ?_
        refine P_X7_read XC (by first | (with_reducible assumption) | (unfold IR; omega) | (unfold IR at *; omega)) gL_order_X7_read ⟨⟨(Nat.le_of_ble_eq_true rfl), (Nat.le_of_ble_eq_true rfl)⟩, (Nat.le_of_ble_eq_true rfl), (Nat.le_of_ble_eq_true rfl)⟩ (Nat.le_of_ble_eq_true rfl) dL_order_636 ?_
        refine P_top (y := -2) (rd_m) ?_
        refine P_bipush XC dL_order_639 (by decide) ?_
        refine P_icmp_ne XC 676 dL_order_641 (by decide) (by first | (with_reducible assumption) | (unfold IR; omega) | (unfold IR at *; omega)) (by first | (with_reducible assumption) | (unfold IR; omega) | (unfold IR at *; omega)) (fun h641 => ?_) (fun h641 => ?_)
        · exfalso
          omega
        refine P_aload_n XC 0 rfl dL_order_644 rfl ?_
        refine P_aload_n XC 0 rfl dL_order_645 rfl ?_
        refine P_iconst XC dL_order_646 ?_
        refine P_X7_count XC (by first | (with_reducible assumption) | (unfold IR; omega) | (unfold IR at *; omega)) gL_order_X7_count ⟨⟨(Nat.le_of_ble_eq_true rfl), (Nat.le_of_ble_eq_true rfl)⟩, (Nat.le_of_ble_eq_true rfl), (Nat.le_of_ble_eq_true rfl)⟩ (Nat.le_of_ble_eq_true rfl) dL_order_647 (fun r647 hr647 => ?_)
        obtain rfl := cn_3 hr647
        refine P_iconst XC dL_order_650 ?_
        refine P_X7_line XC (by first | (with_reducible assumption) | (unfold IR; omega) | (unfold IR at *; omega)) (by first | (with_reducible assumption) | (unfold IR; omega) | (unfold IR at *; omega)) gL_order_X7_line ⟨⟨(Nat.le_of_ble_eq_true rfl), (Nat.le_of_ble_eq_true rfl)⟩, (Nat.le_of_ble_eq_true rfl), (Nat.le_of_ble_eq_true rfl)⟩ (Nat.le_of_ble_eq_true rfl) dL_order_651 ?_
        refine P_top (y := -1) (ln_n) ?_
        refine P_iconst XC dL_order_654 ?_
        refine P_icmp_ne XC 676 dL_order_655 (by decide) (by first | (with_reducible assumption) | (unfold IR; omega) | (unfold IR at *; omega)) (by first | (with_reducible assumption) | (unfold IR; omega) | (unfold IR at *; omega)) (fun h655 => ?_) (fun h655 => ?_)
        · exfalso
          omega
        refine P_aload_n XC 0 rfl dL_order_658 rfl ?_
        refine P_aload_n XC 0 rfl dL_order_659 rfl ?_
        refine P_iconst XC dL_order_660 ?_
        refine P_X7_count XC (by first | (with_reducible assumption) | (unfold IR; omega) | (unfold IR at *; omega)) gL_order_X7_count ⟨⟨(Nat.le_of_ble_eq_true rfl), (Nat.le_of_ble_eq_true rfl)⟩, (Nat.le_of_ble_eq_true rfl), (Nat.le_of_ble_eq_true rfl)⟩ (Nat.le_of_ble_eq_true rfl) dL_order_661 (fun r661 hr661 => ?_)
        obtain rfl := cn_4 hr661
        refine P_iconst XC dL_order_664 ?_
        refine P_X7_word XC (by first | (with_reducible assumption) | (unfold IR; omega) | (unfold IR at *; omega)) (by first | (with_reducible assumption) | (unfold IR; omega) | (unfold IR at *; omega)) gL_order_X7_word ⟨⟨(Nat.le_of_ble_eq_true rfl), (Nat.le_of_ble_eq_true rfl)⟩, (Nat.le_of_ble_eq_true rfl), (Nat.le_of_ble_eq_true rfl)⟩ (Nat.le_of_ble_eq_true rfl) dL_order_665 ?_
        refine P_top (y := -1) (wr_n) ?_
        refine P_iconst XC dL_order_668 ?_
        refine P_icmp_ne XC 676 dL_order_669 (by decide) (by first | (with_reducible assumption) | (unfold IR; omega) | (unfold IR at *; omega)) (by first | (with_reducible assumption) | (unfold IR; omega) | (unfold IR at *; omega)) (fun h669 => ?_) (fun h669 => ?_)
        · exfalso
          omega
        refine P_iconst XC dL_order_672 ?_
        refine P_goto XC 677 dL_order_673 (by decide) ?_
        exact P_zret (r := true) XC hrV dL_order_677 (fun u hu => hQ _ _ u ⟨1, rfl, rfl, rfl⟩ hu)
      have hx : x < (WD σ.1.1 σ.2.2.2).1 := by omega
      have hwr := wr_rng (g := σ.2.2.2) hS hx
      refine P_iload XC dL_order_541 rfl ?_
      refine P_aload_n XC 0 rfl dL_order_543 rfl ?_
      refine P_iload XC dL_order_544 rfl ?_
      refine P_iconst XC dL_order_546 ?_
      refine P_X7_word XC (by first | (with_reducible assumption) | (unfold IR; omega) | (unfold IR at *; omega)) (by first | (with_reducible assumption) | (unfold IR; omega) | (unfold IR at *; omega)) gL_order_X7_word ⟨⟨(Nat.le_of_ble_eq_true rfl), (Nat.le_of_ble_eq_true rfl)⟩, (Nat.le_of_ble_eq_true rfl), (Nat.le_of_ble_eq_true rfl)⟩ (Nat.le_of_ble_eq_true rfl) dL_order_547 ?_
      refine P_iadd XC dL_order_550 ?_
      refine P_istore XC dL_order_551 rfl (by decide) ?_
      dsimp only [List.set]
      refine P_aload_n XC 0 rfl dL_order_553 rfl ?_
      refine P_iload XC dL_order_554 rfl ?_
      refine P_iconst XC dL_order_556 ?_
      refine P_X7_word XC (by first | (with_reducible assumption) | (unfold IR; omega) | (unfold IR at *; omega)) (by first | (with_reducible assumption) | (unfold IR; omega) | (unfold IR at *; omega)) gL_order_X7_word ⟨⟨(Nat.le_of_ble_eq_true rfl), (Nat.le_of_ble_eq_true rfl)⟩, (Nat.le_of_ble_eq_true rfl), (Nat.le_of_ble_eq_true rfl)⟩ (Nat.le_of_ble_eq_true rfl) dL_order_557 ?_
      refine P_aload_n XC 0 rfl dL_order_560 rfl ?_
      refine P_iload XC dL_order_561 rfl ?_
      refine P_iconst XC dL_order_563 ?_
      refine P_X7_word XC (by first | (with_reducible assumption) | (unfold IR; omega) | (unfold IR at *; omega)) (by first | (with_reducible assumption) | (unfold IR; omega) | (unfold IR at *; omega)) gL_order_X7_word ⟨⟨(Nat.le_of_ble_eq_true rfl), (Nat.le_of_ble_eq_true rfl)⟩, (Nat.le_of_ble_eq_true rfl), (Nat.le_of_ble_eq_true rfl)⟩ (Nat.le_of_ble_eq_true rfl) dL_order_564 ?_
      refine P_icmp_gt XC 582 dL_order_567 (by decide) (by first | (with_reducible assumption) | (unfold IR; omega) | (unfold IR at *; omega)) (by first | (with_reducible assumption) | (unfold IR; omega) | (unfold IR at *; omega)) (fun h567 => ?_) (fun h567 => ?_)
      · exfalso
        omega
      refine P_aload_n XC 0 rfl dL_order_570 rfl ?_
      refine P_iload XC dL_order_571 rfl ?_
      refine P_iconst XC dL_order_573 ?_
      refine P_X7_word XC (by first | (with_reducible assumption) | (unfold IR; omega) | (unfold IR at *; omega)) (by first | (with_reducible assumption) | (unfold IR; omega) | (unfold IR at *; omega)) gL_order_X7_word ⟨⟨(Nat.le_of_ble_eq_true rfl), (Nat.le_of_ble_eq_true rfl)⟩, (Nat.le_of_ble_eq_true rfl), (Nat.le_of_ble_eq_true rfl)⟩ (Nat.le_of_ble_eq_true rfl) dL_order_574 ?_
      refine P_top (y := -2) (wr_5 hx) ?_
      refine P_bipush XC dL_order_577 (by decide) ?_
      refine P_icmp_eq XC 584 dL_order_579 (by decide) (by first | (with_reducible assumption) | (unfold IR; omega) | (unfold IR at *; omega)) (by first | (with_reducible assumption) | (unfold IR; omega) | (unfold IR at *; omega)) (fun h579 => ?_) (fun h579 => ?_)
      rotate_left
      · exfalso
        omega
      refine P_iinc XC dL_order_584 rfl rfl (by decide) ?_
      dsimp only [List.set]
      refine P_goto XC 531 dL_order_587 (by decide) ?_
      exact ih531 (x + 1) (by (try dsimp only); omega) (by (try dsimp only); omega)
    have hv : v < mS σ.1.1 := by omega
    have hlr := ln_rng (g := σ.2.2.2) hS hv
    refine P_iload XC dL_order_419 rfl ?_
    refine P_aload_n XC 0 rfl dL_order_421 rfl ?_
    refine P_iload XC dL_order_422 rfl ?_
    refine P_iconst XC dL_order_424 ?_
    refine P_X7_line XC (by first | (with_reducible assumption) | (unfold IR; omega) | (unfold IR at *; omega)) (by first | (with_reducible assumption) | (unfold IR; omega) | (unfold IR at *; omega)) gL_order_X7_line ⟨⟨(Nat.le_of_ble_eq_true rfl), (Nat.le_of_ble_eq_true rfl)⟩, (Nat.le_of_ble_eq_true rfl), (Nat.le_of_ble_eq_true rfl)⟩ (Nat.le_of_ble_eq_true rfl) dL_order_425 ?_
    refine P_iadd XC dL_order_428 ?_
    refine P_istore XC dL_order_429 rfl (by decide) ?_
    dsimp only [List.set]
    refine P_iload XC dL_order_431 rfl ?_
    refine P_aload_n XC 0 rfl dL_order_433 rfl ?_
    refine P_iload XC dL_order_434 rfl ?_
    refine P_iconst XC dL_order_436 ?_
    refine P_X7_line XC (by first | (with_reducible assumption) | (unfold IR; omega) | (unfold IR at *; omega)) (by first | (with_reducible assumption) | (unfold IR; omega) | (unfold IR at *; omega)) gL_order_X7_line ⟨⟨(Nat.le_of_ble_eq_true rfl), (Nat.le_of_ble_eq_true rfl)⟩, (Nat.le_of_ble_eq_true rfl), (Nat.le_of_ble_eq_true rfl)⟩ (Nat.le_of_ble_eq_true rfl) dL_order_437 ?_
    refine P_iadd XC dL_order_440 ?_
    refine P_istore XC dL_order_441 rfl (by decide) ?_
    dsimp only [List.set]
    refine P_iload XC dL_order_443 rfl ?_
    refine P_merge0 505 1 (fun kj445 => ?_) ?_
    · try dsimp only [List.drop] at kj445
      refine P_if_le XC 505 dL_order_445 (by decide) (by first | (with_reducible assumption) | (unfold IR; omega) | (unfold IR at *; omega)) (fun h445 => ?_) (fun h445 => ?_)
      · skip
        exact kj445
      have hlr2 := ln_rng (g := σ.2.2.2) hS (L := v - 1) (by omega)
      have hso := ln_sorted (S := σ.1.1) (g := σ.2.2.2) (L := v - 1) (by omega)
      rw [show v - 1 + 1 = v by omega] at hso
      refine P_aload_n XC 0 rfl dL_order_448 rfl ?_
      refine P_iload XC dL_order_449 rfl ?_
      refine P_iconst XC dL_order_451 ?_
      refine P_X7_line XC (by first | (with_reducible assumption) | (unfold IR; omega) | (unfold IR at *; omega)) (by first | (with_reducible assumption) | (unfold IR; omega) | (unfold IR at *; omega)) gL_order_X7_line ⟨⟨(Nat.le_of_ble_eq_true rfl), (Nat.le_of_ble_eq_true rfl)⟩, (Nat.le_of_ble_eq_true rfl), (Nat.le_of_ble_eq_true rfl)⟩ (Nat.le_of_ble_eq_true rfl) dL_order_452 ?_
      refine P_aload_n XC 0 rfl dL_order_455 rfl ?_
      refine P_iload XC dL_order_456 rfl ?_
      refine P_iconst XC dL_order_458 ?_
      refine P_isub XC dL_order_459 ?_
      refine P_top (y := ((v - 1 : Nat) : Int)) (by omega) ?_
      refine P_iconst XC dL_order_460 ?_
      refine P_X7_line XC (by first | (with_reducible assumption) | (unfold IR; omega) | (unfold IR at *; omega)) (by first | (with_reducible assumption) | (unfold IR; omega) | (unfold IR at *; omega)) gL_order_X7_line ⟨⟨(Nat.le_of_ble_eq_true rfl), (Nat.le_of_ble_eq_true rfl)⟩, (Nat.le_of_ble_eq_true rfl), (Nat.le_of_ble_eq_true rfl)⟩ (Nat.le_of_ble_eq_true rfl) dL_order_461 ?_
      refine P_icmp_lt XC 517 dL_order_464 (by decide) (by first | (with_reducible assumption) | (unfold IR; omega) | (unfold IR at *; omega)) (by first | (with_reducible assumption) | (unfold IR; omega) | (unfold IR at *; omega)) (fun h464 => ?_) (fun h464 => ?_)
      · exfalso
        omega
      refine P_aload_n XC 0 rfl dL_order_467 rfl ?_
      refine P_iload XC dL_order_468 rfl ?_
      refine P_iconst XC dL_order_470 ?_
      refine P_X7_line XC (by first | (with_reducible assumption) | (unfold IR; omega) | (unfold IR at *; omega)) (by first | (with_reducible assumption) | (unfold IR; omega) | (unfold IR at *; omega)) gL_order_X7_line ⟨⟨(Nat.le_of_ble_eq_true rfl), (Nat.le_of_ble_eq_true rfl)⟩, (Nat.le_of_ble_eq_true rfl), (Nat.le_of_ble_eq_true rfl)⟩ (Nat.le_of_ble_eq_true rfl) dL_order_471 ?_
      refine P_aload_n XC 0 rfl dL_order_474 rfl ?_
      refine P_iload XC dL_order_475 rfl ?_
      refine P_iconst XC dL_order_477 ?_
      refine P_isub XC dL_order_478 ?_
      refine P_top (y := ((v - 1 : Nat) : Int)) (by omega) ?_
      refine P_iconst XC dL_order_479 ?_
      refine P_X7_line XC (by first | (with_reducible assumption) | (unfold IR; omega) | (unfold IR at *; omega)) (by first | (with_reducible assumption) | (unfold IR; omega) | (unfold IR at *; omega)) gL_order_X7_line ⟨⟨(Nat.le_of_ble_eq_true rfl), (Nat.le_of_ble_eq_true rfl)⟩, (Nat.le_of_ble_eq_true rfl), (Nat.le_of_ble_eq_true rfl)⟩ (Nat.le_of_ble_eq_true rfl) dL_order_480 ?_
      refine P_icmp_ne XC 505 dL_order_483 (by decide) (by first | (with_reducible assumption) | (unfold IR; omega) | (unfold IR at *; omega)) (by first | (with_reducible assumption) | (unfold IR; omega) | (unfold IR at *; omega)) (fun h483 => ?_) (fun h483 => ?_)
      · skip
        exact kj445
      refine P_aload_n XC 0 rfl dL_order_486 rfl ?_
      refine P_iload XC dL_order_487 rfl ?_
      refine P_iconst XC dL_order_489 ?_
      refine P_X7_line XC (by first | (with_reducible assumption) | (unfold IR; omega) | (unfold IR at *; omega)) (by first | (with_reducible assumption) | (unfold IR; omega) | (unfold IR at *; omega)) gL_order_X7_line ⟨⟨(Nat.le_of_ble_eq_true rfl), (Nat.le_of_ble_eq_true rfl)⟩, (Nat.le_of_ble_eq_true rfl), (Nat.le_of_ble_eq_true rfl)⟩ (Nat.le_of_ble_eq_true rfl) dL_order_490 ?_
      refine P_aload_n XC 0 rfl dL_order_493 rfl ?_
      refine P_iload XC dL_order_494 rfl ?_
      refine P_iconst XC dL_order_496 ?_
      refine P_isub XC dL_order_497 ?_
      refine P_top (y := ((v - 1 : Nat) : Int)) (by omega) ?_
      refine P_iconst XC dL_order_498 ?_
      refine P_X7_line XC (by first | (with_reducible assumption) | (unfold IR; omega) | (unfold IR at *; omega)) (by first | (with_reducible assumption) | (unfold IR; omega) | (unfold IR at *; omega)) gL_order_X7_line ⟨⟨(Nat.le_of_ble_eq_true rfl), (Nat.le_of_ble_eq_true rfl)⟩, (Nat.le_of_ble_eq_true rfl), (Nat.le_of_ble_eq_true rfl)⟩ (Nat.le_of_ble_eq_true rfl) dL_order_499 ?_
      refine P_icmp_lt XC 517 dL_order_502 (by decide) (by first | (with_reducible assumption) | (unfold IR; omega) | (unfold IR at *; omega)) (by first | (with_reducible assumption) | (unfold IR; omega) | (unfold IR at *; omega)) (fun h502 => ?_) (fun h502 => ?_)
      · exfalso
        omega
      exact kj445
    try dsimp only [List.drop]
    refine P_aload_n XC 0 rfl dL_order_505 rfl ?_
    refine P_iload XC dL_order_506 rfl ?_
    refine P_iconst XC dL_order_508 ?_
    refine P_X7_line XC (by first | (with_reducible assumption) | (unfold IR; omega) | (unfold IR at *; omega)) (by first | (with_reducible assumption) | (unfold IR; omega) | (unfold IR at *; omega)) gL_order_X7_line ⟨⟨(Nat.le_of_ble_eq_true rfl), (Nat.le_of_ble_eq_true rfl)⟩, (Nat.le_of_ble_eq_true rfl), (Nat.le_of_ble_eq_true rfl)⟩ (Nat.le_of_ble_eq_true rfl) dL_order_509 ?_
    refine P_top (y := -2) (ln_5 hv) ?_
    refine P_bipush XC dL_order_512 (by decide) ?_
    refine P_icmp_eq XC 519 dL_order_514 (by decide) (by first | (with_reducible assumption) | (unfold IR; omega) | (unfold IR at *; omega)) (by first | (with_reducible assumption) | (unfold IR; omega) | (unfold IR at *; omega)) (fun h514 => ?_) (fun h514 => ?_)
    rotate_left
    · exfalso
      omega
    refine P_iinc XC dL_order_519 rfl rfl (by decide) ?_
    dsimp only [List.set]
    refine P_goto XC 409 dL_order_522 (by decide) ?_
    exact ih409 (v + 1) (by (try dsimp only); omega) (by (try dsimp only); omega)
  have hk : k < σ.1.1.length := by omega
  have hod := od_lt hk
  have hpl := (plS_od hk).2
  have hbl := bitK_lt (f := odS σ.1.1) (k := k) (fun q hq => by have := od_lt (S := σ.1.1) (k := q) (by omega); omega)
  have ho16 : odS σ.1.1 k < 16 := by omega
  have hnb : (bitK (odS σ.1.1) k).testBit (odS σ.1.1 k) = false := by
    cases hb : (bitK (odS σ.1.1) k).testBit (odS σ.1.1 k) with
    | false => rfl
    | true =>
      obtain ⟨q, hq1, hq2⟩ := bitK_test.mp hb
      have := odS_inj (by omega) hk hq2
      omega
  have hwp := wn_pos (g := σ.2.2.2) hk
  have hwl := wn_lt (g := σ.2.2.2) hk
  have hws := wn_step (g := σ.2.2.2) hk
  have hrr := RtF_rng (gap := σ.2.2.2) hS (p := k) (by omega)
  have hrr2 := RtF_rng (gap := σ.2.2.2) hS (p := k + 1) (by omega)
  have hbds := bdS hS hod
  have hlm := lnS_lt hS hod
  have hmn := (GS_ok hS).1
  have hmn2 : mS σ.1.1 ≤ σ.1.1.length := hmn
  have hWle : (WD σ.1.1 σ.2.2.2).1 ≤ σ.1.1.length := (WI_run (S := σ.1.1) (gap := σ.2.2.2) σ.1.1.length (Nat.le_refl _)).1.1
  have hbb : 0 < k → odS σ.1.1 (k - 1) < σ.1.1.length ∧ lnS σ.1.1 (odS σ.1.1 (k - 1)) < mS σ.1.1 := fun z => ⟨od_lt (by omega), lnS_lt hS (od_lt (by omega))⟩
  refine P_aload_n XC 0 rfl dL_order_23 rfl ?_
  refine P_iload XC dL_order_24 rfl ?_
  refine P_X7_read XC (by first | (with_reducible assumption) | (unfold IR; omega) | (unfold IR at *; omega)) gL_order_X7_read ⟨⟨(Nat.le_of_ble_eq_true rfl), (Nat.le_of_ble_eq_true rfl)⟩, (Nat.le_of_ble_eq_true rfl), (Nat.le_of_ble_eq_true rfl)⟩ (Nat.le_of_ble_eq_true rfl) dL_order_26 ?_
  refine P_top (y := ((odS σ.1.1 k) : Int)) (rd_k hk) ?_
  refine P_istore XC dL_order_29 rfl (by decide) ?_
  dsimp only [List.set]
  refine P_iload XC dL_order_31 rfl ?_
  refine P_if_lt XC 65 dL_order_33 (by decide) (by first | (with_reducible assumption) | (unfold IR; omega) | (unfold IR at *; omega)) (fun h33 => ?_) (fun h33 => ?_)
  · exfalso
    omega
  refine P_iload XC dL_order_36 rfl ?_
  refine P_iload_n XC 2 rfl dL_order_38 rfl ?_
  refine P_icmp_ge XC 65 dL_order_39 (by decide) (by first | (with_reducible assumption) | (unfold IR; omega) | (unfold IR at *; omega)) (by first | (with_reducible assumption) | (unfold IR; omega) | (unfold IR at *; omega)) (fun h39 => ?_) (fun h39 => ?_)
  · exfalso
    omega
  refine P_iload_n XC 3 rfl dL_order_42 rfl ?_
  refine P_iload XC dL_order_43 rfl ?_
  refine P_ishr XC dL_order_45 ?_
  refine P_iconst XC dL_order_46 ?_
  refine P_iand XC dL_order_47 ?_
  refine P_eqv (y := iI (bI false)) ((bit_get hbl ho16).trans (by rw [hnb])) ?_
  refine P_iconst XC dL_order_48 ?_
  refine P_icmp_eq XC 65 dL_order_49 (by decide) (IR_bI _) (by first | (with_reducible assumption) | (unfold IR; omega) | (unfold IR at *; omega)) (fun h49 => ?_) (fun h49 => ?_)
  · exfalso
    exact absurd h49 (by decide)
  refine P_aload_n XC 0 rfl dL_order_52 rfl ?_
  refine P_iload XC dL_order_53 rfl ?_
  refine P_bipush XC dL_order_55 (by decide) ?_
  refine P_X7_stroke XC (by first | (with_reducible assumption) | (unfold IR; omega) | (unfold IR at *; omega)) (by first | (with_reducible assumption) | (unfold IR; omega) | (unfold IR at *; omega)) gL_order_X7_stroke ⟨⟨(Nat.le_of_ble_eq_true rfl), (Nat.le_of_ble_eq_true rfl)⟩, (Nat.le_of_ble_eq_true rfl), (Nat.le_of_ble_eq_true rfl)⟩ (Nat.le_of_ble_eq_true rfl) dL_order_57 ?_
  refine P_top (y := (k : Int)) ((st_9 hod).trans (by rw [hpl])) ?_
  refine P_iload XC dL_order_60 rfl ?_
  refine P_icmp_eq XC 67 dL_order_62 (by decide) (by first | (with_reducible assumption) | (unfold IR; omega) | (unfold IR at *; omega)) (by first | (with_reducible assumption) | (unfold IR; omega) | (unfold IR at *; omega)) (fun h62 => ?_) (fun h62 => ?_)
  rotate_left
  · exfalso
    omega
  refine P_iload_n XC 3 rfl dL_order_67 rfl ?_
  refine P_iconst XC dL_order_68 ?_
  refine P_iload XC dL_order_69 rfl ?_
  refine P_ishl XC dL_order_71 ?_
  refine P_ior XC dL_order_72 ?_
  refine P_eqv (y := iI ((bitK (odS σ.1.1) (k + 1) : Nat) : Int)) (bit_put hbl ho16) ?_
  refine P_istore_n XC 3 rfl dL_order_73 rfl (by decide) ?_
  dsimp only [List.set]
  refine P_iload XC dL_order_74 rfl ?_
  refine P_merge (J := fun z => z = (if k = 0 then -1 else ((odS σ.1.1 (k - 1)) : Int))) 91 1 (fun kj76 => ?_) (fun z76 hz76 => ?_)
  · try dsimp only [List.drop] at kj76
    refine P_if_ne XC 83 dL_order_76 (by decide) (by first | (with_reducible assumption) | (unfold IR; omega) | (unfold IR at *; omega)) (fun h76 => ?_) (fun h76 => ?_)
    · skip
      refine P_aload_n XC 0 rfl dL_order_83 rfl ?_
      refine P_iload XC dL_order_84 rfl ?_
      refine P_iconst XC dL_order_86 ?_
      refine P_isub XC dL_order_87 ?_
      refine P_top (y := ((k - 1 : Nat) : Int)) (by omega) ?_
      refine P_X7_read XC (by first | (with_reducible assumption) | (unfold IR; omega) | (unfold IR at *; omega)) gL_order_X7_read ⟨⟨(Nat.le_of_ble_eq_true rfl), (Nat.le_of_ble_eq_true rfl)⟩, (Nat.le_of_ble_eq_true rfl), (Nat.le_of_ble_eq_true rfl)⟩ (Nat.le_of_ble_eq_true rfl) dL_order_88 ?_
      refine P_top (y := ((odS σ.1.1 (k - 1)) : Int)) (rd_k (by omega)) ?_
      exact kj76 _ (by (try dsimp only); first | (rw [if_pos (by omega)]; done) | (rw [if_neg (by omega)]; done))
    refine P_iconst XC dL_order_79 ?_
    refine P_goto XC 91 dL_order_80 (by decide) ?_
    exact kj76 _ (by (try dsimp only); first | (rw [if_pos (by omega)]; done) | (rw [if_neg (by omega)]; done))
  try dsimp only [List.drop]
  try dsimp only at hz76
  have hbf : 0 < k → z76 = ((odS σ.1.1 (k - 1)) : Int) := fun q => by rw [hz76, if_neg (by omega)]
  refine P_istore XC dL_order_91 rfl (by decide) ?_
  dsimp only [List.set]
  refine P_iload XC dL_order_93 rfl ?_
  refine P_merge (J := fun z => z = bI (decide (k = 0 ∨ lnS σ.1.1 (odS σ.1.1 k) ≠ lnS σ.1.1 (odS σ.1.1 (k - 1))))) 122 1 (fun kj95 => ?_) (fun z95 hz95 => ?_)
  · try dsimp only [List.drop] at kj95
    refine P_if_eq XC 117 dL_order_95 (by decide) (by first | (with_reducible assumption) | (unfold IR; omega) | (unfold IR at *; omega)) (fun h95 => ?_) (fun h95 => ?_)
    · skip
      refine P_iconst XC dL_order_117 ?_
      refine P_goto XC 122 dL_order_118 (by decide) ?_
      exact kj95 _ (by (try dsimp only); first | (rw [decide_eq_true (show (k = 0 ∨ lnS σ.1.1 (odS σ.1.1 k) ≠ lnS σ.1.1 (odS σ.1.1 (k - 1))) by omega)]; rfl) | (rw [decide_eq_false (show ¬ (k = 0 ∨ lnS σ.1.1 (odS σ.1.1 k) ≠ lnS σ.1.1 (odS σ.1.1 (k - 1))) by omega)]; rfl))
    have hb := hbf (by omega)
    have hb2 := hbb (by omega)
    refine P_aload_n XC 0 rfl dL_order_98 rfl ?_
    refine P_iload XC dL_order_99 rfl ?_
    refine P_bipush XC dL_order_101 (by decide) ?_
    refine P_X7_stroke XC (by first | (with_reducible assumption) | (unfold IR; omega) | (unfold IR at *; omega)) (by first | (with_reducible assumption) | (unfold IR; omega) | (unfold IR at *; omega)) gL_order_X7_stroke ⟨⟨(Nat.le_of_ble_eq_true rfl), (Nat.le_of_ble_eq_true rfl)⟩, (Nat.le_of_ble_eq_true rfl), (Nat.le_of_ble_eq_true rfl)⟩ (Nat.le_of_ble_eq_true rfl) dL_order_103 ?_
    refine P_top (y := (lnS σ.1.1 (odS σ.1.1 k) : Int)) (st_7 hod) ?_
    refine P_aload_n XC 0 rfl dL_order_106 rfl ?_
    refine P_iload XC dL_order_107 rfl ?_
    refine P_bipush XC dL_order_109 (by decide) ?_
    refine P_X7_stroke XC (by first | (with_reducible assumption) | (unfold IR; omega) | (unfold IR at *; omega)) (by first | (with_reducible assumption) | (unfold IR; omega) | (unfold IR at *; omega)) gL_order_X7_stroke ⟨⟨(Nat.le_of_ble_eq_true rfl), (Nat.le_of_ble_eq_true rfl)⟩, (Nat.le_of_ble_eq_true rfl), (Nat.le_of_ble_eq_true rfl)⟩ (Nat.le_of_ble_eq_true rfl) dL_order_111 ?_
    refine P_top (y := (lnS σ.1.1 (odS σ.1.1 (k - 1)) : Int)) (by rw [hb]; exact st_7 hb2.1) ?_
    refine P_icmp_eq XC 121 dL_order_114 (by decide) (by first | (with_reducible assumption) | (unfold IR; omega) | (unfold IR at *; omega)) (by first | (with_reducible assumption) | (unfold IR; omega) | (unfold IR at *; omega)) (fun h114 => ?_) (fun h114 => ?_)
    · skip
      refine P_iconst XC dL_order_121 ?_
      exact kj95 _ (by (try dsimp only); first | (rw [decide_eq_true (show (k = 0 ∨ lnS σ.1.1 (odS σ.1.1 k) ≠ lnS σ.1.1 (odS σ.1.1 (k - 1))) by omega)]; rfl) | (rw [decide_eq_false (show ¬ (k = 0 ∨ lnS σ.1.1 (odS σ.1.1 k) ≠ lnS σ.1.1 (odS σ.1.1 (k - 1))) by omega)]; rfl))
    refine P_iconst XC dL_order_117 ?_
    refine P_goto XC 122 dL_order_118 (by decide) ?_
    exact kj95 _ (by (try dsimp only); first | (rw [decide_eq_true (show (k = 0 ∨ lnS σ.1.1 (odS σ.1.1 k) ≠ lnS σ.1.1 (odS σ.1.1 (k - 1))) by omega)]; rfl) | (rw [decide_eq_false (show ¬ (k = 0 ∨ lnS σ.1.1 (odS σ.1.1 k) ≠ lnS σ.1.1 (odS σ.1.1 (k - 1))) by omega)]; rfl))
  try dsimp only [List.drop]
  try dsimp only at hz95
  have hnl : (z95 = 1 ∧ (k = 0 ∨ lnS σ.1.1 (odS σ.1.1 k) ≠ lnS σ.1.1 (odS σ.1.1 (k - 1)))) ∨ (z95 = 0 ∧ ¬ (k = 0 ∨ lnS σ.1.1 (odS σ.1.1 k) ≠ lnS σ.1.1 (odS σ.1.1 (k - 1)))) := by
    by_cases q : (k = 0 ∨ lnS σ.1.1 (odS σ.1.1 k) ≠ lnS σ.1.1 (odS σ.1.1 (k - 1)))
    · exact Or.inl ⟨by rw [hz95, decide_eq_true q]; rfl, q⟩
    · exact Or.inr ⟨by rw [hz95, decide_eq_false q]; rfl, q⟩
  clear hz95
  refine P_istore XC dL_order_122 rfl (by decide) ?_
  dsimp only [List.set]
  refine P_iload XC dL_order_124 rfl ?_
  refine P_merge0 217 1 (fun kj126 => ?_) ?_
  · try dsimp only [List.drop] at kj126
    refine P_if_le XC 217 dL_order_126 (by decide) (by first | (with_reducible assumption) | (unfold IR; omega) | (unfold IR at *; omega)) (fun h126 => ?_) (fun h126 => ?_)
    · skip
      exact kj126
    have hb := hbf (by omega)
    have hb2 := hbb (by omega)
    have hbds2 := bdS hS hb2.1
    have hole := odS_le (S := σ.1.1) (p := k - 1) (q := k) (by omega) hk
    have hosp : lnS σ.1.1 (odS σ.1.1 k) ≤ lnS σ.1.1 (odS σ.1.1 (k - 1)) + 1 := by
      have := od_step hS (k := k - 1) (by omega)
      rwa [show k - 1 + 1 = k by omega] at this
    have hoix := od_ord (S := σ.1.1) (p := k - 1) (q := k) (by omega) hk
    refine P_aload_n XC 0 rfl dL_order_129 rfl ?_
    refine P_iload XC dL_order_130 rfl ?_
    refine P_bipush XC dL_order_132 (by decide) ?_
    refine P_X7_stroke XC (by first | (with_reducible assumption) | (unfold IR; omega) | (unfold IR at *; omega)) (by first | (with_reducible assumption) | (unfold IR; omega) | (unfold IR at *; omega)) gL_order_X7_stroke ⟨⟨(Nat.le_of_ble_eq_true rfl), (Nat.le_of_ble_eq_true rfl)⟩, (Nat.le_of_ble_eq_true rfl), (Nat.le_of_ble_eq_true rfl)⟩ (Nat.le_of_ble_eq_true rfl) dL_order_134 ?_
    refine P_top (y := (lnS σ.1.1 (odS σ.1.1 k) : Int)) (st_7 hod) ?_
    refine P_aload_n XC 0 rfl dL_order_137 rfl ?_
    refine P_iload XC dL_order_138 rfl ?_
    refine P_bipush XC dL_order_140 (by decide) ?_
    refine P_X7_stroke XC (by first | (with_reducible assumption) | (unfold IR; omega) | (unfold IR at *; omega)) (by first | (with_reducible assumption) | (unfold IR; omega) | (unfold IR at *; omega)) gL_order_X7_stroke ⟨⟨(Nat.le_of_ble_eq_true rfl), (Nat.le_of_ble_eq_true rfl)⟩, (Nat.le_of_ble_eq_true rfl), (Nat.le_of_ble_eq_true rfl)⟩ (Nat.le_of_ble_eq_true rfl) dL_order_142 ?_
    refine P_top (y := (lnS σ.1.1 (odS σ.1.1 (k - 1)) : Int)) (by rw [hb]; exact st_7 hb2.1) ?_
    refine P_icmp_lt XC 215 dL_order_145 (by decide) (by first | (with_reducible assumption) | (unfold IR; omega) | (unfold IR at *; omega)) (by first | (with_reducible assumption) | (unfold IR; omega) | (unfold IR at *; omega)) (fun h145 => ?_) (fun h145 => ?_)
    · exfalso
      omega
    refine P_aload_n XC 0 rfl dL_order_148 rfl ?_
    refine P_iload XC dL_order_149 rfl ?_
    refine P_bipush XC dL_order_151 (by decide) ?_
    refine P_X7_stroke XC (by first | (with_reducible assumption) | (unfold IR; omega) | (unfold IR at *; omega)) (by first | (with_reducible assumption) | (unfold IR; omega) | (unfold IR at *; omega)) gL_order_X7_stroke ⟨⟨(Nat.le_of_ble_eq_true rfl), (Nat.le_of_ble_eq_true rfl)⟩, (Nat.le_of_ble_eq_true rfl), (Nat.le_of_ble_eq_true rfl)⟩ (Nat.le_of_ble_eq_true rfl) dL_order_153 ?_
    refine P_top (y := (lnS σ.1.1 (odS σ.1.1 k) : Int)) (st_7 hod) ?_
    refine P_aload_n XC 0 rfl dL_order_156 rfl ?_
    refine P_iload XC dL_order_157 rfl ?_
    refine P_bipush XC dL_order_159 (by decide) ?_
    refine P_X7_stroke XC (by first | (with_reducible assumption) | (unfold IR; omega) | (unfold IR at *; omega)) (by first | (with_reducible assumption) | (unfold IR; omega) | (unfold IR at *; omega)) gL_order_X7_stroke ⟨⟨(Nat.le_of_ble_eq_true rfl), (Nat.le_of_ble_eq_true rfl)⟩, (Nat.le_of_ble_eq_true rfl), (Nat.le_of_ble_eq_true rfl)⟩ (Nat.le_of_ble_eq_true rfl) dL_order_161 ?_
    refine P_top (y := (lnS σ.1.1 (odS σ.1.1 (k - 1)) : Int)) (by rw [hb]; exact st_7 hb2.1) ?_
    refine P_iconst XC dL_order_164 ?_
    refine P_iadd XC dL_order_165 ?_
    refine P_icmp_gt XC 215 dL_order_166 (by decide) (by first | (with_reducible assumption) | (unfold IR; omega) | (unfold IR at *; omega)) (by first | (with_reducible assumption) | (unfold IR; omega) | (unfold IR at *; omega)) (fun h166 => ?_) (fun h166 => ?_)
    · exfalso
      omega
    refine P_iload XC dL_order_169 rfl ?_
    refine P_if_ne XC 217 dL_order_171 (by decide) (by first | (with_reducible assumption) | (unfold IR; omega) | (unfold IR at *; omega)) (fun h171 => ?_) (fun h171 => ?_)
    · skip
      exact kj126
    refine P_aload_n XC 0 rfl dL_order_174 rfl ?_
    refine P_iload XC dL_order_175 rfl ?_
    refine P_iconst XC dL_order_177 ?_
    refine P_X7_stroke XC (by first | (with_reducible assumption) | (unfold IR; omega) | (unfold IR at *; omega)) (by first | (with_reducible assumption) | (unfold IR; omega) | (unfold IR at *; omega)) gL_order_X7_stroke ⟨⟨(Nat.le_of_ble_eq_true rfl), (Nat.le_of_ble_eq_true rfl)⟩, (Nat.le_of_ble_eq_true rfl), (Nat.le_of_ble_eq_true rfl)⟩ (Nat.le_of_ble_eq_true rfl) dL_order_178 ?_
    refine P_top (y := lfS σ.1.1 (odS σ.1.1 k)) (st_2 hod) ?_
    refine P_aload_n XC 0 rfl dL_order_181 rfl ?_
    refine P_iload XC dL_order_182 rfl ?_
    refine P_iconst XC dL_order_184 ?_
    refine P_X7_stroke XC (by first | (with_reducible assumption) | (unfold IR; omega) | (unfold IR at *; omega)) (by first | (with_reducible assumption) | (unfold IR; omega) | (unfold IR at *; omega)) gL_order_X7_stroke ⟨⟨(Nat.le_of_ble_eq_true rfl), (Nat.le_of_ble_eq_true rfl)⟩, (Nat.le_of_ble_eq_true rfl), (Nat.le_of_ble_eq_true rfl)⟩ (Nat.le_of_ble_eq_true rfl) dL_order_185 ?_
    refine P_top (y := lfS σ.1.1 (odS σ.1.1 (k - 1))) (by rw [hb]; exact st_2 hb2.1) ?_
    refine P_icmp_lt XC 215 dL_order_188 (by decide) (by first | (with_reducible assumption) | (unfold IR; omega) | (unfold IR at *; omega)) (by first | (with_reducible assumption) | (unfold IR; omega) | (unfold IR at *; omega)) (fun h188 => ?_) (fun h188 => ?_)
    · exfalso
      omega
    refine P_aload_n XC 0 rfl dL_order_191 rfl ?_
    refine P_iload XC dL_order_192 rfl ?_
    refine P_iconst XC dL_order_194 ?_
    refine P_X7_stroke XC (by first | (with_reducible assumption) | (unfold IR; omega) | (unfold IR at *; omega)) (by first | (with_reducible assumption) | (unfold IR; omega) | (unfold IR at *; omega)) gL_order_X7_stroke ⟨⟨(Nat.le_of_ble_eq_true rfl), (Nat.le_of_ble_eq_true rfl)⟩, (Nat.le_of_ble_eq_true rfl), (Nat.le_of_ble_eq_true rfl)⟩ (Nat.le_of_ble_eq_true rfl) dL_order_195 ?_
    refine P_top (y := lfS σ.1.1 (odS σ.1.1 k)) (st_2 hod) ?_
    refine P_aload_n XC 0 rfl dL_order_198 rfl ?_
    refine P_iload XC dL_order_199 rfl ?_
    refine P_iconst XC dL_order_201 ?_
    refine P_X7_stroke XC (by first | (with_reducible assumption) | (unfold IR; omega) | (unfold IR at *; omega)) (by first | (with_reducible assumption) | (unfold IR; omega) | (unfold IR at *; omega)) gL_order_X7_stroke ⟨⟨(Nat.le_of_ble_eq_true rfl), (Nat.le_of_ble_eq_true rfl)⟩, (Nat.le_of_ble_eq_true rfl), (Nat.le_of_ble_eq_true rfl)⟩ (Nat.le_of_ble_eq_true rfl) dL_order_202 ?_
    refine P_top (y := lfS σ.1.1 (odS σ.1.1 (k - 1))) (by rw [hb]; exact st_2 hb2.1) ?_
    refine P_icmp_ne XC 217 dL_order_205 (by decide) (by first | (with_reducible assumption) | (unfold IR; omega) | (unfold IR at *; omega)) (by first | (with_reducible assumption) | (unfold IR; omega) | (unfold IR at *; omega)) (fun h205 => ?_) (fun h205 => ?_)
    · skip
      exact kj126
    refine P_iload XC dL_order_208 rfl ?_
    refine P_iload XC dL_order_210 rfl ?_
    refine P_icmp_ge XC 217 dL_order_212 (by decide) (by first | (with_reducible assumption) | (unfold IR; omega) | (unfold IR at *; omega)) (by first | (with_reducible assumption) | (unfold IR; omega) | (unfold IR at *; omega)) (fun h212 => ?_) (fun h212 => ?_)
    rotate_left
    · exfalso
      have := hoix (by omega) (by omega)
      omega
    exact kj126
  try dsimp only [List.drop]
  refine P_iload XC dL_order_217 rfl ?_
  refine P_merge (J := fun z => z = bI (decide (k = 0 ∨ lnS σ.1.1 (odS σ.1.1 k) ≠ lnS σ.1.1 (odS σ.1.1 (k - 1)) ∨ RtF σ.1.1 σ.2.2.2 k + σ.2.2.2 < lfS σ.1.1 (odS σ.1.1 k)))) 241 1 (fun kj219 => ?_) (fun z219 hz219 => ?_)
  · try dsimp only [List.drop] at kj219
    refine P_if_ne XC 236 dL_order_219 (by decide) (by first | (with_reducible assumption) | (unfold IR; omega) | (unfold IR at *; omega)) (fun h219 => ?_) (fun h219 => ?_)
    · skip
      refine P_iconst XC dL_order_236 ?_
      refine P_goto XC 241 dL_order_237 (by decide) ?_
      exact kj219 _ (by (try dsimp only); first | (rw [decide_eq_true (show (k = 0 ∨ lnS σ.1.1 (odS σ.1.1 k) ≠ lnS σ.1.1 (odS σ.1.1 (k - 1)) ∨ RtF σ.1.1 σ.2.2.2 k + σ.2.2.2 < lfS σ.1.1 (odS σ.1.1 k)) by omega)]; rfl) | (rw [decide_eq_false (show ¬ (k = 0 ∨ lnS σ.1.1 (odS σ.1.1 k) ≠ lnS σ.1.1 (odS σ.1.1 (k - 1)) ∨ RtF σ.1.1 σ.2.2.2 k + σ.2.2.2 < lfS σ.1.1 (odS σ.1.1 k)) by omega)]; rfl))
    refine P_aload_n XC 0 rfl dL_order_222 rfl ?_
    refine P_iload XC dL_order_223 rfl ?_
    refine P_iconst XC dL_order_225 ?_
    refine P_X7_stroke XC (by first | (with_reducible assumption) | (unfold IR; omega) | (unfold IR at *; omega)) (by first | (with_reducible assumption) | (unfold IR; omega) | (unfold IR at *; omega)) gL_order_X7_stroke ⟨⟨(Nat.le_of_ble_eq_true rfl), (Nat.le_of_ble_eq_true rfl)⟩, (Nat.le_of_ble_eq_true rfl), (Nat.le_of_ble_eq_true rfl)⟩ (Nat.le_of_ble_eq_true rfl) dL_order_226 ?_
    refine P_top (y := lfS σ.1.1 (odS σ.1.1 k)) (st_2 hod) ?_
    refine P_iload XC dL_order_229 rfl ?_
    refine P_iload_n XC 1 rfl dL_order_231 rfl ?_
    refine P_iadd XC dL_order_232 ?_
    refine P_icmp_le XC 240 dL_order_233 (by decide) (by first | (with_reducible assumption) | (unfold IR; omega) | (unfold IR at *; omega)) (by first | (with_reducible assumption) | (unfold IR; omega) | (unfold IR at *; omega)) (fun h233 => ?_) (fun h233 => ?_)
    · skip
      refine P_iconst XC dL_order_240 ?_
      exact kj219 _ (by (try dsimp only); first | (rw [decide_eq_true (show (k = 0 ∨ lnS σ.1.1 (odS σ.1.1 k) ≠ lnS σ.1.1 (odS σ.1.1 (k - 1)) ∨ RtF σ.1.1 σ.2.2.2 k + σ.2.2.2 < lfS σ.1.1 (odS σ.1.1 k)) by omega)]; rfl) | (rw [decide_eq_false (show ¬ (k = 0 ∨ lnS σ.1.1 (odS σ.1.1 k) ≠ lnS σ.1.1 (odS σ.1.1 (k - 1)) ∨ RtF σ.1.1 σ.2.2.2 k + σ.2.2.2 < lfS σ.1.1 (odS σ.1.1 k)) by omega)]; rfl))
    refine P_iconst XC dL_order_236 ?_
    refine P_goto XC 241 dL_order_237 (by decide) ?_
    exact kj219 _ (by (try dsimp only); first | (rw [decide_eq_true (show (k = 0 ∨ lnS σ.1.1 (odS σ.1.1 k) ≠ lnS σ.1.1 (odS σ.1.1 (k - 1)) ∨ RtF σ.1.1 σ.2.2.2 k + σ.2.2.2 < lfS σ.1.1 (odS σ.1.1 k)) by omega)]; rfl) | (rw [decide_eq_false (show ¬ (k = 0 ∨ lnS σ.1.1 (odS σ.1.1 k) ≠ lnS σ.1.1 (odS σ.1.1 (k - 1)) ∨ RtF σ.1.1 σ.2.2.2 k + σ.2.2.2 < lfS σ.1.1 (odS σ.1.1 k)) by omega)]; rfl))
  try dsimp only [List.drop]
  try dsimp only at hz219
  have hbg : (z219 = 1 ∧ (k = 0 ∨ lnS σ.1.1 (odS σ.1.1 k) ≠ lnS σ.1.1 (odS σ.1.1 (k - 1)) ∨ RtF σ.1.1 σ.2.2.2 k + σ.2.2.2 < lfS σ.1.1 (odS σ.1.1 k))) ∨ (z219 = 0 ∧ ¬ (k = 0 ∨ lnS σ.1.1 (odS σ.1.1 k) ≠ lnS σ.1.1 (odS σ.1.1 (k - 1)) ∨ RtF σ.1.1 σ.2.2.2 k + σ.2.2.2 < lfS σ.1.1 (odS σ.1.1 k))) := by
    by_cases q : (k = 0 ∨ lnS σ.1.1 (odS σ.1.1 k) ≠ lnS σ.1.1 (odS σ.1.1 (k - 1)) ∨ RtF σ.1.1 σ.2.2.2 k + σ.2.2.2 < lfS σ.1.1 (odS σ.1.1 k))
    · exact Or.inl ⟨by rw [hz219, decide_eq_true q]; rfl, q⟩
    · exact Or.inr ⟨by rw [hz219, decide_eq_false q]; rfl, q⟩
  clear hz219
  have hws2 : (z219 = 1 ∧ wn σ.1.1 σ.2.2.2 (k + 1) = wn σ.1.1 σ.2.2.2 k + 1 ∧ RtF σ.1.1 σ.2.2.2 (k + 1) = rtS σ.1.1 (odS σ.1.1 k)) ∨ (z219 = 0 ∧ wn σ.1.1 σ.2.2.2 (k + 1) = wn σ.1.1 σ.2.2.2 k ∧ RtF σ.1.1 σ.2.2.2 (k + 1) = max (rtS σ.1.1 (odS σ.1.1 k)) (RtF σ.1.1 σ.2.2.2 k)) := by
    rcases hbg with ⟨e, q⟩ | ⟨e, q⟩
    · exact Or.inl ⟨e, hws.1 q⟩
    · exact Or.inr ⟨e, hws.2 q⟩
  refine P_istore XC dL_order_241 rfl (by decide) ?_
  dsimp only [List.set]
  refine P_iload XC dL_order_243 rfl ?_
  refine P_iload XC dL_order_245 rfl ?_
  refine P_merge (J := fun z => z = (wn σ.1.1 σ.2.2.2 (k + 1) : Int) - (wn σ.1.1 σ.2.2.2 k : Int)) 255 1 (fun kj247 => ?_) (fun z247 hz247 => ?_)
  · try dsimp only [List.drop] at kj247
    refine P_if_eq XC 254 dL_order_247 (by decide) (by first | (with_reducible assumption) | (unfold IR; omega) | (unfold IR at *; omega)) (fun h247 => ?_) (fun h247 => ?_)
    · skip
      refine P_iconst XC dL_order_254 ?_
      exact kj247 _ (by (try dsimp only); omega)
    refine P_iconst XC dL_order_250 ?_
    refine P_goto XC 255 dL_order_251 (by decide) ?_
    exact kj247 _ (by (try dsimp only); omega)
  try dsimp only [List.drop]
  try dsimp only at hz247
  refine P_iadd XC dL_order_255 ?_
  refine P_top (y := (wn σ.1.1 σ.2.2.2 (k + 1) : Int) - 1) (by omega) ?_
  refine P_istore XC dL_order_256 rfl (by decide) ?_
  dsimp only [List.set]
  refine P_iload XC dL_order_258 rfl ?_
  refine P_merge (J := fun z => z = RtF σ.1.1 σ.2.2.2 (k + 1)) 287 1 (fun kj260 => ?_) (fun z260 hz260 => ?_)
  · try dsimp only [List.drop] at kj260
    refine P_if_ne XC 275 dL_order_260 (by decide) (by first | (with_reducible assumption) | (unfold IR; omega) | (unfold IR at *; omega)) (fun h260 => ?_) (fun h260 => ?_)
    · skip
      refine P_aload_n XC 0 rfl dL_order_275 rfl ?_
      refine P_iload XC dL_order_276 rfl ?_
      refine P_iconst XC dL_order_278 ?_
      refine P_X7_stroke XC (by first | (with_reducible assumption) | (unfold IR; omega) | (unfold IR at *; omega)) (by first | (with_reducible assumption) | (unfold IR; omega) | (unfold IR at *; omega)) gL_order_X7_stroke ⟨⟨(Nat.le_of_ble_eq_true rfl), (Nat.le_of_ble_eq_true rfl)⟩, (Nat.le_of_ble_eq_true rfl), (Nat.le_of_ble_eq_true rfl)⟩ (Nat.le_of_ble_eq_true rfl) dL_order_279 ?_
      refine P_top (y := rtS σ.1.1 (odS σ.1.1 k)) (st_3 hod) ?_
      refine P_goto XC 287 dL_order_282 (by decide) ?_
      exact kj260 _ (by (try dsimp only); omega)
    refine P_aload_n XC 0 rfl dL_order_263 rfl ?_
    refine P_iload XC dL_order_264 rfl ?_
    refine P_iconst XC dL_order_266 ?_
    refine P_X7_stroke XC (by first | (with_reducible assumption) | (unfold IR; omega) | (unfold IR at *; omega)) (by first | (with_reducible assumption) | (unfold IR; omega) | (unfold IR at *; omega)) gL_order_X7_stroke ⟨⟨(Nat.le_of_ble_eq_true rfl), (Nat.le_of_ble_eq_true rfl)⟩, (Nat.le_of_ble_eq_true rfl), (Nat.le_of_ble_eq_true rfl)⟩ (Nat.le_of_ble_eq_true rfl) dL_order_267 ?_
    refine P_top (y := rtS σ.1.1 (odS σ.1.1 k)) (st_3 hod) ?_
    refine P_iload XC dL_order_270 rfl ?_
    refine P_icmp_le XC 285 dL_order_272 (by decide) (by first | (with_reducible assumption) | (unfold IR; omega) | (unfold IR at *; omega)) (by first | (with_reducible assumption) | (unfold IR; omega) | (unfold IR at *; omega)) (fun h272 => ?_) (fun h272 => ?_)
    · skip
      refine P_iload XC dL_order_285 rfl ?_
      exact kj260 _ (by (try dsimp only); omega)
    refine P_aload_n XC 0 rfl dL_order_275 rfl ?_
    refine P_iload XC dL_order_276 rfl ?_
    refine P_iconst XC dL_order_278 ?_
    refine P_X7_stroke XC (by first | (with_reducible assumption) | (unfold IR; omega) | (unfold IR at *; omega)) (by first | (with_reducible assumption) | (unfold IR; omega) | (unfold IR at *; omega)) gL_order_X7_stroke ⟨⟨(Nat.le_of_ble_eq_true rfl), (Nat.le_of_ble_eq_true rfl)⟩, (Nat.le_of_ble_eq_true rfl), (Nat.le_of_ble_eq_true rfl)⟩ (Nat.le_of_ble_eq_true rfl) dL_order_279 ?_
    refine P_top (y := rtS σ.1.1 (odS σ.1.1 k)) (st_3 hod) ?_
    refine P_goto XC 287 dL_order_282 (by decide) ?_
    exact kj260 _ (by (try dsimp only); omega)
  try dsimp only [List.drop]
  try dsimp only at hz260
  subst hz260
  refine P_istore XC dL_order_287 rfl (by decide) ?_
  dsimp only [List.set]
  refine P_aload_n XC 0 rfl dL_order_289 rfl ?_
  refine P_iload XC dL_order_290 rfl ?_
  refine P_bipush XC dL_order_292 (by decide) ?_
  refine P_X7_stroke XC (by first | (with_reducible assumption) | (unfold IR; omega) | (unfold IR at *; omega)) (by first | (with_reducible assumption) | (unfold IR; omega) | (unfold IR at *; omega)) gL_order_X7_stroke ⟨⟨(Nat.le_of_ble_eq_true rfl), (Nat.le_of_ble_eq_true rfl)⟩, (Nat.le_of_ble_eq_true rfl), (Nat.le_of_ble_eq_true rfl)⟩ (Nat.le_of_ble_eq_true rfl) dL_order_294 ?_
  refine P_top (y := (lnS σ.1.1 (odS σ.1.1 k) : Int)) (st_7 hod) ?_
  refine P_istore XC dL_order_297 rfl (by decide) ?_
  dsimp only [List.set]
  refine P_aload_n XC 0 rfl dL_order_299 rfl ?_
  refine P_iload XC dL_order_300 rfl ?_
  refine P_bipush XC dL_order_302 (by decide) ?_
  refine P_X7_stroke XC (by first | (with_reducible assumption) | (unfold IR; omega) | (unfold IR at *; omega)) (by first | (with_reducible assumption) | (unfold IR; omega) | (unfold IR at *; omega)) gL_order_X7_stroke ⟨⟨(Nat.le_of_ble_eq_true rfl), (Nat.le_of_ble_eq_true rfl)⟩, (Nat.le_of_ble_eq_true rfl), (Nat.le_of_ble_eq_true rfl)⟩ (Nat.le_of_ble_eq_true rfl) dL_order_304 ?_
  refine P_top (y := ((wn σ.1.1 σ.2.2.2 (k + 1) - 1 : Nat) : Int)) ((st_8 hod).trans (wo_at hk)) ?_
  refine P_iload XC dL_order_307 rfl ?_
  refine P_icmp_ne XC 392 dL_order_309 (by decide) (by first | (with_reducible assumption) | (unfold IR; omega) | (unfold IR at *; omega)) (by first | (with_reducible assumption) | (unfold IR; omega) | (unfold IR at *; omega)) (fun h309 => ?_) (fun h309 => ?_)
  · exfalso
    omega
  refine P_aload_n XC 0 rfl dL_order_312 rfl ?_
  refine P_iload XC dL_order_313 rfl ?_
  refine P_top (y := ((wn σ.1.1 σ.2.2.2 (k + 1) - 1 : Nat) : Int)) (by omega) ?_
  refine P_iconst XC dL_order_315 ?_
  refine P_X7_word XC (by first | (with_reducible assumption) | (unfold IR; omega) | (unfold IR at *; omega)) (by first | (with_reducible assumption) | (unfold IR; omega) | (unfold IR at *; omega)) gL_order_X7_word ⟨⟨(Nat.le_of_ble_eq_true rfl), (Nat.le_of_ble_eq_true rfl)⟩, (Nat.le_of_ble_eq_true rfl), (Nat.le_of_ble_eq_true rfl)⟩ (Nat.le_of_ble_eq_true rfl) dL_order_316 ?_
  refine P_top (y := (lnS σ.1.1 (odS σ.1.1 k) : Int)) (wr_line hk) ?_
  refine P_iload XC dL_order_319 rfl ?_
  refine P_icmp_ne XC 392 dL_order_321 (by decide) (by first | (with_reducible assumption) | (unfold IR; omega) | (unfold IR at *; omega)) (by first | (with_reducible assumption) | (unfold IR; omega) | (unfold IR at *; omega)) (fun h321 => ?_) (fun h321 => ?_)
  · exfalso
    omega
  refine P_iload XC dL_order_324 rfl ?_
  refine P_merge0 358 1 (fun kj326 => ?_) ?_
  · try dsimp only [List.drop] at kj326
    refine P_if_eq XC 358 dL_order_326 (by decide) (by first | (with_reducible assumption) | (unfold IR; omega) | (unfold IR at *; omega)) (fun h326 => ?_) (fun h326 => ?_)
    · skip
      exact kj326
    have hB : bgF σ.1.1 σ.2.2.2 k := (hbg.resolve_right (fun z => by omega)).2
    refine P_aload_n XC 0 rfl dL_order_329 rfl ?_
    refine P_iload XC dL_order_330 rfl ?_
    refine P_top (y := ((wn σ.1.1 σ.2.2.2 (k + 1) - 1 : Nat) : Int)) (by omega) ?_
    refine P_iconst XC dL_order_332 ?_
    refine P_X7_word XC (by first | (with_reducible assumption) | (unfold IR; omega) | (unfold IR at *; omega)) (by first | (with_reducible assumption) | (unfold IR; omega) | (unfold IR at *; omega)) gL_order_X7_word ⟨⟨(Nat.le_of_ble_eq_true rfl), (Nat.le_of_ble_eq_true rfl)⟩, (Nat.le_of_ble_eq_true rfl), (Nat.le_of_ble_eq_true rfl)⟩ (Nat.le_of_ble_eq_true rfl) dL_order_333 ?_
    refine P_top (y := (k : Int)) (wr_first hk hB) ?_
    refine P_iload XC dL_order_336 rfl ?_
    refine P_icmp_ne XC 392 dL_order_338 (by decide) (by first | (with_reducible assumption) | (unfold IR; omega) | (unfold IR at *; omega)) (by first | (with_reducible assumption) | (unfold IR; omega) | (unfold IR at *; omega)) (fun h338 => ?_) (fun h338 => ?_)
    · exfalso
      omega
    refine P_iload XC dL_order_341 rfl ?_
    refine P_if_eq XC 358 dL_order_343 (by decide) (by first | (with_reducible assumption) | (unfold IR; omega) | (unfold IR at *; omega)) (fun h343 => ?_) (fun h343 => ?_)
    · skip
      exact kj326
    have hN : (k = 0 ∨ lnS σ.1.1 (odS σ.1.1 k) ≠ lnS σ.1.1 (odS σ.1.1 (k - 1))) := (hnl.resolve_right (fun z => by omega)).2
    refine P_aload_n XC 0 rfl dL_order_346 rfl ?_
    refine P_iload XC dL_order_347 rfl ?_
    refine P_iconst XC dL_order_349 ?_
    refine P_X7_line XC (by first | (with_reducible assumption) | (unfold IR; omega) | (unfold IR at *; omega)) (by first | (with_reducible assumption) | (unfold IR; omega) | (unfold IR at *; omega)) gL_order_X7_line ⟨⟨(Nat.le_of_ble_eq_true rfl), (Nat.le_of_ble_eq_true rfl)⟩, (Nat.le_of_ble_eq_true rfl), (Nat.le_of_ble_eq_true rfl)⟩ (Nat.le_of_ble_eq_true rfl) dL_order_350 ?_
    refine P_top (y := ((wn σ.1.1 σ.2.2.2 (k + 1) - 1 : Nat) : Int)) (ln_first hS hk hN) ?_
    refine P_iload XC dL_order_353 rfl ?_
    refine P_icmp_ne XC 392 dL_order_355 (by decide) (by first | (with_reducible assumption) | (unfold IR; omega) | (unfold IR at *; omega)) (by first | (with_reducible assumption) | (unfold IR; omega) | (unfold IR at *; omega)) (fun h355 => ?_) (fun h355 => ?_)
    · exfalso
      omega
    exact kj326
  try dsimp only [List.drop]
  have hban := ln_band (g := σ.2.2.2) hS hod
  have hlr := ln_rng (g := σ.2.2.2) hS hlm
  refine P_aload_n XC 0 rfl dL_order_358 rfl ?_
  refine P_iload XC dL_order_359 rfl ?_
  refine P_iconst XC dL_order_361 ?_
  refine P_X7_line XC (by first | (with_reducible assumption) | (unfold IR; omega) | (unfold IR at *; omega)) (by first | (with_reducible assumption) | (unfold IR; omega) | (unfold IR at *; omega)) gL_order_X7_line ⟨⟨(Nat.le_of_ble_eq_true rfl), (Nat.le_of_ble_eq_true rfl)⟩, (Nat.le_of_ble_eq_true rfl), (Nat.le_of_ble_eq_true rfl)⟩ (Nat.le_of_ble_eq_true rfl) dL_order_362 ?_
  refine P_aload_n XC 0 rfl dL_order_365 rfl ?_
  refine P_iload XC dL_order_366 rfl ?_
  refine P_iconst XC dL_order_368 ?_
  refine P_X7_stroke XC (by first | (with_reducible assumption) | (unfold IR; omega) | (unfold IR at *; omega)) (by first | (with_reducible assumption) | (unfold IR; omega) | (unfold IR at *; omega)) gL_order_X7_stroke ⟨⟨(Nat.le_of_ble_eq_true rfl), (Nat.le_of_ble_eq_true rfl)⟩, (Nat.le_of_ble_eq_true rfl), (Nat.le_of_ble_eq_true rfl)⟩ (Nat.le_of_ble_eq_true rfl) dL_order_369 ?_
  refine P_top (y := tpS σ.1.1 (odS σ.1.1 k)) (st_4 hod) ?_
  refine P_icmp_gt XC 392 dL_order_372 (by decide) (by first | (with_reducible assumption) | (unfold IR; omega) | (unfold IR at *; omega)) (by first | (with_reducible assumption) | (unfold IR; omega) | (unfold IR at *; omega)) (fun h372 => ?_) (fun h372 => ?_)
  · exfalso
    omega
  refine P_aload_n XC 0 rfl dL_order_375 rfl ?_
  refine P_iload XC dL_order_376 rfl ?_
  refine P_iconst XC dL_order_378 ?_
  refine P_X7_line XC (by first | (with_reducible assumption) | (unfold IR; omega) | (unfold IR at *; omega)) (by first | (with_reducible assumption) | (unfold IR; omega) | (unfold IR at *; omega)) gL_order_X7_line ⟨⟨(Nat.le_of_ble_eq_true rfl), (Nat.le_of_ble_eq_true rfl)⟩, (Nat.le_of_ble_eq_true rfl), (Nat.le_of_ble_eq_true rfl)⟩ (Nat.le_of_ble_eq_true rfl) dL_order_379 ?_
  refine P_aload_n XC 0 rfl dL_order_382 rfl ?_
  refine P_iload XC dL_order_383 rfl ?_
  refine P_iconst XC dL_order_385 ?_
  refine P_X7_stroke XC (by first | (with_reducible assumption) | (unfold IR; omega) | (unfold IR at *; omega)) (by first | (with_reducible assumption) | (unfold IR; omega) | (unfold IR at *; omega)) gL_order_X7_stroke ⟨⟨(Nat.le_of_ble_eq_true rfl), (Nat.le_of_ble_eq_true rfl)⟩, (Nat.le_of_ble_eq_true rfl), (Nat.le_of_ble_eq_true rfl)⟩ (Nat.le_of_ble_eq_true rfl) dL_order_386 ?_
  refine P_top (y := boS σ.1.1 (odS σ.1.1 k)) (st_5 hod) ?_
  refine P_icmp_ge XC 394 dL_order_389 (by decide) (by first | (with_reducible assumption) | (unfold IR; omega) | (unfold IR at *; omega)) (by first | (with_reducible assumption) | (unfold IR; omega) | (unfold IR at *; omega)) (fun h389 => ?_) (fun h389 => ?_)
  rotate_left
  · exfalso
    omega
  refine P_iinc XC dL_order_394 rfl rfl (by decide) ?_
  dsimp only [List.set]
  refine P_goto XC 17 dL_order_397 (by decide) ?_
  refine P_kill 7 ?_
  refine P_kill 8 ?_
  refine P_kill 9 ?_
  refine P_kill 10 ?_
  refine P_kill 11 ?_
  dsimp only [List.set]
  exact ih17 (k + 1) (by (try dsimp only); omega) (by (try dsimp only); omega)

end LAW3
