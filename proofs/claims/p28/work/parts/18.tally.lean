/-! the class's Tally: a table of cells by open addressing -/
section TALLY
def bump (f : Nat → Nat) (c : Nat) : Nat → Nat := fun x => if x = c then f x + 1 else f x
theorem bump_s {f : Nat → Nat} {c : Nat} : bump f c c = f c + 1 := if_pos rfl
theorem bump_n {f : Nat → Nat} {c x : Nat} (h : x ≠ c) : bump f c x = f x := if_neg h
def used (P : Nat → Int) (s : Nat) : Bool := decide (P s ≠ 0)
def TI (K P : Nat → Int) (cells most : Int) (cnt : Nat → Nat) (t : Nat) : Prop :=
  (∀ s, s < 512 → P s ≠ 0 → 0 ≤ K s ∧ K s ≤ 10200 ∧ P s = (cnt (K s).toNat : Int)) ∧
  (∀ c, 0 < cnt c → c ≤ 10200 ∧ ∃ j, j < 512 ∧ P ((c + j) % 512) ≠ 0 ∧ K ((c + j) % 512) = (c : Int) ∧ ∀ i, i < j → P ((c + i) % 512) ≠ 0) ∧
  (∀ s s2, s < 512 → s2 < 512 → P s ≠ 0 → P s2 ≠ 0 → K s = K s2 → s = s2) ∧
  cells = (fb_ct (fun c => decide (0 < cnt c)) 10201 : Nat) ∧
  (0 ≤ most ∧ (∀ c, (cnt c : Int) ≤ most) ∧ (most = 0 ∨ ∃ c, c ≤ 10200 ∧ (cnt c : Int) = most)) ∧
  fb_ct (used P) 512 ≤ t ∧ ∀ c, cnt c ≤ t
theorem TI_0 {K P : Nat → Int} (h : ∀ s, s < 512 → P s = 0) : TI K P 0 0 (fun _ => 0) 0 := by
  refine ⟨fun s hs z => absurd (h s hs) z, fun c hc => absurd hc (Nat.lt_irrefl 0), fun s s2 hs _ z => absurd (h s hs) z, ?_, ⟨Int.le_refl 0, fun _ => Int.le_refl 0, Or.inl rfl⟩, ?_, fun _ => Nat.le_refl 0⟩
  · rw [fb_ct_zero.mpr (fun k _ => by simp)]; rfl
  · rw [fb_ct_zero.mpr (fun k hk => by unfold used; simp [h k hk])]; exact Nat.le_refl 0
theorem ct_bump {cnt : Nat → Nat} {c : Nat} (hc : c ≤ 10200) (h0 : cnt c = 0) : fb_ct (fun x => decide (0 < bump cnt c x)) 10201 = fb_ct (fun x => decide (0 < cnt x)) 10201 + 1 := by
  have h := fb_ct_upd (fun x => decide (0 < cnt x)) true (i := c) (n := 10201) (by omega)
  rw [if_neg (by simp [h0]), if_pos rfl] at h
  rw [Nat.add_zero] at h
  rw [← h]
  refine fb_ct_cong (fun k _ => ?_)
  by_cases e : k = c
  · subst e; rw [bump_s, if_pos rfl]; simp
  · rw [bump_n e, if_neg e]
theorem ct_bump2 {cnt : Nat → Nat} {c : Nat} (h0 : 0 < cnt c) : fb_ct (fun x => decide (0 < bump cnt c x)) 10201 = fb_ct (fun x => decide (0 < cnt x)) 10201 := by
  refine fb_ct_cong (fun k _ => ?_)
  by_cases e : k = c
  · subst e; rw [bump_s]; simp [h0]
  · rw [bump_n e]
theorem most_bump {cnt : Nat → Nat} {c : Nat} {most : Int} (hc : c ≤ 10200) (h : 0 ≤ most ∧ (∀ c, (cnt c : Int) ≤ most) ∧ (most = 0 ∨ ∃ c, c ≤ 10200 ∧ (cnt c : Int) = most)) : 0 ≤ max most ((cnt c : Int) + 1) ∧ (∀ x, (bump cnt c x : Int) ≤ max most ((cnt c : Int) + 1)) ∧ (max most ((cnt c : Int) + 1) = 0 ∨ ∃ x, x ≤ 10200 ∧ (bump cnt c x : Int) = max most ((cnt c : Int) + 1)) := by
  obtain ⟨h1, h2, h3⟩ := h
  refine ⟨by omega, fun x => ?_, ?_⟩
  · by_cases e : x = c
    · subst e; rw [bump_s]; omega
    · rw [bump_n e]; have := h2 x; omega
  · right
    rcases Int.le_total ((cnt c : Int) + 1) most with q | q
    · rcases h3 with h3 | ⟨x, hx, h3⟩
      · omega
      · have e : x ≠ c := fun e => by subst e; omega
        exact ⟨x, hx, by rw [bump_n e]; omega⟩
    · exact ⟨c, hc, by rw [bump_s]; omega⟩
/-- a cell that is there already -/
theorem TI_inc {K P : Nat → Int} {cells most : Int} {cnt : Nat → Nat} {t c s : Nat} (h : TI K P cells most cnt t) (hs : s < 512) (hp : P s ≠ 0) (hk : K s = (c : Int)) : TI K (upz P s (P s + 1)) cells (max most (P s + 1)) (bump cnt c) (t + 1) := by
  obtain ⟨h1, h2, h3, h4, h5, h6, h7⟩ := h
  obtain ⟨k1, k2, k3⟩ := h1 s hs hp
  rw [hk, Int.toNat_natCast] at k3
  have hc : c ≤ 10200 := by omega
  have hpos : 0 < cnt c := by
    rcases Nat.eq_zero_or_pos (cnt c) with z | z
    · rw [z] at k3; exact absurd k3 hp
    · exact z
  have hne : ∀ q, upz P s (P s + 1) q ≠ 0 ↔ P q ≠ 0 := fun q => by
    by_cases e : q = s
    · subst e; rw [upz_s]; omega
    · rw [upz_n e]
  refine ⟨fun q hq hq2 => ?_, fun x hx => ?_, fun a b ha hb ha2 hb2 e => h3 a b ha hb ((hne a).mp ha2) ((hne b).mp hb2) e, by rw [h4, ct_bump2 hpos], by rw [k3]; exact most_bump hc h5, ?_, fun x => ?_⟩
  · have hq3 := (hne q).mp hq2
    obtain ⟨a1, a2, a3⟩ := h1 q hq hq3
    refine ⟨a1, a2, ?_⟩
    by_cases e : q = s
    · subst e; rw [upz_s, hk, Int.toNat_natCast, bump_s]; omega
    · rw [upz_n e, a3]
      have : (K q).toNat ≠ c := fun z => e (h3 q s hq hs hq3 hp (by omega))
      rw [bump_n this]
  · have hx2 : 0 < cnt x := by
      by_cases e : x = c
      · subst e; exact hpos
      · rwa [bump_n e] at hx
    obtain ⟨a1, j, a2, a3, a4, a5⟩ := h2 x hx2
    exact ⟨a1, j, a2, (hne _).mpr a3, a4, fun i hi => (hne _).mpr (a5 i hi)⟩
  · rw [fb_ct_cong (q := used P) (fun k _ => by unfold used; exact decide_eq_decide.mpr (hne k))]
    omega
  · by_cases e : x = c
    · subst e; rw [bump_s]; have := h7 x; omega
    · rw [bump_n e]; have := h7 x; omega
/-- a cell that is new -/
theorem TI_new {K P : Nat → Int} {cells most : Int} {cnt : Nat → Nat} {t c j : Nat} (h : TI K P cells most cnt t) (hc : c ≤ 10200) (hj : j < 512) (hb : ∀ i, i < j → P ((c + i) % 512) ≠ 0 ∧ K ((c + i) % 512) ≠ (c : Int)) (hp : P ((c + j) % 512) = 0) : TI (upz K ((c + j) % 512) c) (upz P ((c + j) % 512) (P ((c + j) % 512) + 1)) (cells + 1) (max most (P ((c + j) % 512) + 1)) (bump cnt c) (t + 1) := by
  obtain ⟨h1, h2, h3, h4, h5, h6, h7⟩ := h
  have h0 : cnt c = 0 := by
    rcases Nat.eq_zero_or_pos (cnt c) with z | z
    · exact z
    · obtain ⟨-, i, a2, a3, a4, a5⟩ := h2 c z
      rcases Nat.lt_trichotomy i j with q | q | q
      · exact absurd a4 (hb i q).2
      · subst q; exact absurd hp a3
      · exact absurd hp (a5 j q)
  have hsl : (c + j) % 512 < 512 := Nat.mod_lt _ (by decide)
  generalize hs : (c + j) % 512 = s at hp hsl ⊢
  rw [hp]
  have hne : ∀ q, q ≠ s → upz P s (0 + 1) q = P q := fun q e => upz_n e
  refine ⟨fun q hq hq2 => ?_, fun x hx => ?_, fun a b ha hb2 ha2 hb3 e => ?_, by rw [h4, ct_bump hc h0]; omega, ?_, ?_, fun x => ?_⟩
  · by_cases e : q = s
    · subst e; rw [upz_s, upz_s, Int.toNat_natCast, bump_s]; omega
    · rw [hne q e] at hq2 ⊢
      rw [upz_n e]
      obtain ⟨a1, a2, a3⟩ := h1 q hq hq2
      refine ⟨a1, a2, ?_⟩
      have : (K q).toNat ≠ c := fun z => by
        rw [z, h0] at a3
        exact hq2 a3
      rw [bump_n this]; exact a3
  · by_cases e : x = c
    · subst e
      refine ⟨hc, j, hj, by rw [hs, upz_s]; decide, by rw [hs, upz_s], fun i hi => ?_⟩
      have h9 := (hb i hi).1
      by_cases z : (x + i) % 512 = s
      · rw [z, upz_s]; decide
      · rw [hne _ z]; exact h9
    · rw [bump_n e] at hx
      obtain ⟨a1, i, a2, a3, a4, a5⟩ := h2 x hx
      have hz : ∀ r, P r ≠ 0 → upz P s (0 + 1) r ≠ 0 := fun r hr => by
        by_cases z : r = s
        · rw [z, upz_s]; decide
        · rw [hne r z]; exact hr
      refine ⟨a1, i, a2, hz _ a3, ?_, fun k hk => hz _ (a5 k hk)⟩
      rw [upz_n (fun z => by rw [z] at a3; exact a3 hp)]
      exact a4
  · have key : ∀ q, q < 512 → q ≠ s → upz P s (0 + 1) q ≠ 0 → upz K s c q ≠ (c : Int) := fun q hq e hq2 => by
      rw [hne q e] at hq2
      rw [upz_n e]
      obtain ⟨a1, a2, a3⟩ := h1 q hq hq2
      intro z
      rw [z, Int.toNat_natCast, h0] at a3
      exact hq2 a3
    by_cases ea : a = s
    · by_cases eb : b = s
      · rw [ea, eb]
      · refine absurd ?_ (key b hb2 eb hb3)
        rw [← e, ea, upz_s]
    · by_cases eb : b = s
      · refine absurd ?_ (key a ha ea ha2)
        rw [e, eb, upz_s]
      · rw [upz_n ea, upz_n eb] at e
        rw [hne _ ea] at ha2
        rw [hne _ eb] at hb3
        exact h3 a b ha hb2 ha2 hb3 e
  · have := most_bump hc h5
    rw [h0] at this
    exact this
  · have h8 := fb_ct_upd (used P) true (i := s) (n := 512) hsl
    rw [if_neg (by unfold used; simp [hp]), if_pos rfl] at h8
    rw [fb_ct_cong (q := fun k => if k = s then true else used P k) (fun k _ => ?_)]
    · omega
    · by_cases e : k = s
      · subst e; unfold used; rw [upz_s, if_pos rfl]; rfl
      · unfold used; rw [hne k e, if_neg e]
  · by_cases e : x = c
    · subst e; rw [bump_s]; have := h7 x; omega
    · rw [bump_n e]; have := h7 x; omega
/-- there is room -/
theorem TI_room {K P : Nat → Int} {cells most : Int} {cnt : Nat → Nat} {t c : Nat} (h : TI K P cells most cnt t) (ht : t < 512) (hb : ∀ i, i < 512 → P ((c + i) % 512) ≠ 0) : False := by
  have h6 := h.2.2.2.2.2.1
  have h8 : fb_ct (used P) 512 = 512 := fb_ct_all.mpr (fun k hk => by
    unfold used
    have := hb ((k + 512 * c - c) % 512) (Nat.mod_lt _ (by decide))
    rw [show (c + (k + 512 * c - c) % 512) % 512 = k by omega] at this
    exact decide_eq_true this)
  omega

theorem IR_P {K P : Nat → Int} {cells most : Int} {cnt : Nat → Nat} {t s : Nat} (h : TI K P cells most cnt t) (hs : s < 512) (ht : t < 512) : -1000000 ≤ P s ∧ P s ≤ 1000000 := by
  by_cases z : P s = 0
  · omega
  · have h1 := h.1 s hs z
    have h2 := h.2.2.2.2.2.2 (K s).toNat
    omega
theorem IR_M {K P : Nat → Int} {cells most : Int} {cnt : Nat → Nat} {t : Nat} (h : TI K P cells most cnt t) (ht : t < 512) : 0 ≤ most ∧ most ≤ 1000000 := by
  obtain ⟨h1, h2, h3⟩ := h.2.2.2.2.1
  refine ⟨h1, ?_⟩
  rcases h3 with z | ⟨c, hc, z⟩
  · omega
  · have := h.2.2.2.2.2.2 c
    omega

set_option maxRecDepth 100000 in
set_option maxHeartbeats 4000000 in
theorem c_X3_add (l : Launch) (D : va_G) (kI kC : ClassId) (h0 h1 h2 : Nat) (cells most : Int) (K P : Nat → Int) (cnt : Nat → Nat) (t c : Nat) (hT : TI K P cells most cnt t) (ht : t < 511) (hc : c ≤ 10200) : Con l yX3_add wsX3_add { frames := 1, cells := 0, slots := 0, locals := 21 } D kI kC [.ref h0, .int (iI (c : Int))] (taW kI h0 h1 h2 cells most K P) (σ := Int × Int × (Nat → Int) × (Nat → Int)) (qV (fun u => TI u.2.2.1 u.2.2.2 u.1 u.2.1 (bump cnt c) (t + 1))) (fun u => taW kI h0 h1 h2 u.1 u.2.1 u.2.2.1 u.2.2.2) := by
  refine Con.of (cc := cX3_add) (maxL := 4) (ret := none) (by decide +kernel) rfl (List.forall_mem_cons.mpr ⟨rfl, List.forall_mem_cons.mpr ⟨rfl, fun _ h => absurd h List.not_mem_nil⟩⟩) (Nat.le_of_ble_eq_true rfl) ?_
  intro pV eV sV mV bV tV cV AV XC hrV
  have XC : Cx pV _ sV mV _ tV cV cX3_add 4 RX3 wsX3_add AV D kI kC := XC
  change VV _ _ _ _ _ _ _ _ _ _ _ _ _ _ _ _ _ [some (.ref h0), some (.int (iI (c : Int))), none, none] _ _
  dsimp only [taW]
  refine V_iconst XC dX3_add_0 ?_
  refine V_istore_n XC 2 rfl dX3_add_1 (by decide) ?_
  dsimp only [List.set]
  refine V_loopR (σ := Nat) (fun u => 512 - u) (fun u => u ≤ 512 ∧ ∀ i, i < u → P ((c + i) % 512) ≠ 0 ∧ K ((c + i) % 512) ≠ (c : Int)) (fun u => [some (.ref h0), some (.int (iI (c : Int))), some (.int (iI (u : Int))), none]) (0) ⟨Nat.zero_le _, fun q hq => absurd hq (Nat.not_lt_zero q)⟩ rfl (fun u hJ ih2 => ?_)
  obtain ⟨j, rfl⟩ : ∃ z, z = u := ⟨_, rfl⟩
  try dsimp only at hJ ih2 ⊢
  obtain ⟨hj, hb⟩ := hJ
  refine V_iload_n XC 2 rfl dX3_add_2 rfl ?_
  refine V_sipush XC dX3_add_3 (by decide) ?_
  refine V_icmp_ge XC 87 dX3_add_6 (by decide) ⟨by omega, by omega⟩ ⟨by omega, by omega⟩ (fun h6 => ?_) (fun h6 => ?_)
  · skip
    exact absurd (TI_room hT (by omega) (fun i hi => (hb i (by omega)).1)) (fun z => z)
  refine V_iload_n XC 1 rfl dX3_add_9 rfl ?_
  refine V_iload_n XC 2 rfl dX3_add_10 rfl ?_
  refine V_iadd XC dX3_add_11 ?_
  refine V_sipush XC dX3_add_12 (by decide) ?_
  refine V_iandM (j := 9) XC dX3_add_15 (by omega) (by omega) (by decide) ?_
  have hsl : (c + j) % 512 < 512 := Nat.mod_lt _ (by decide)
  refine V_top (y := ((((c + j) % 512 : Nat)) : Int)) (by rw [show (2 : Int) ^ 9 = 512 from rfl]; omega) ?_
  refine V_istore_n XC 3 rfl dX3_add_16 (by decide) ?_
  dsimp only [List.set]
  refine V_aload_n XC 0 rfl dX3_add_17 rfl ?_
  refine V_get XC 3 flX3_add_13 0 rfl rfl dX3_add_18 ?_
  refine V_iload_n XC 3 rfl dX3_add_21 rfl ?_
  refine V_iald XC (_) 2 rfl rfl (by omega) (by decide) dX3_add_22 ?_
  refine V_if_ne XC 43 dX3_add_23 (by decide) (by have := IR_P hT hsl (by omega); exact ⟨by omega, by omega⟩) (fun h23 => ?_) (fun h23 => ?_)
  · skip
    have hks := (hT.1 _ hsl h23)
    refine V_aload_n XC 0 rfl dX3_add_43 rfl ?_
    refine V_get XC 2 flX3_add_9 0 rfl rfl dX3_add_44 ?_
    refine V_iload_n XC 3 rfl dX3_add_47 rfl ?_
    refine V_iald XC (_) 1 rfl rfl (by omega) (by decide) dX3_add_48 ?_
    try rw [upz_s]
    refine V_iload_n XC 1 rfl dX3_add_49 rfl ?_
    refine V_icmp_ne XC 81 dX3_add_50 (by decide) ⟨by omega, by omega⟩ ⟨by omega, by omega⟩ (fun h50 => ?_) (fun h50 => ?_)
    · skip
      refine V_iinc XC dX3_add_81 rfl (by decide) ?_
      dsimp only [List.set]
      refine V_goto XC 2 dX3_add_84 (by decide) ?_
      refine V_kill 3 ?_
      dsimp only [List.set]
      first
      | exact absurd rfl h50
      | (refine ih2 (j + 1) ⟨by omega, fun i hi => ?_⟩ (by omega)
         rcases Nat.lt_or_ge i j with z | z
         · exact hb i z
         · rw [show i = j by omega]; exact ⟨h23, h50⟩)
    refine V_aload_n XC 0 rfl dX3_add_53 rfl ?_
    refine V_get XC 3 flX3_add_13 0 rfl rfl dX3_add_54 ?_
    refine V_iload_n XC 3 rfl dX3_add_57 rfl ?_
    refine V_dup2 XC dX3_add_58 rfl rfl ?_
    refine V_iald XC (_) 2 rfl rfl (by omega) (by decide) dX3_add_59 ?_
    refine V_iconst XC dX3_add_60 ?_
    refine V_iadd XC dX3_add_61 ?_
    refine V_iast XC (_) 2 rfl rfl (by omega) (by decide) dX3_add_62 ?_
    dsimp only [List.set]
    refine V_aload_n XC 0 rfl dX3_add_63 rfl ?_
    refine V_aload_n XC 0 rfl dX3_add_64 rfl ?_
    refine V_get XC 1 flX3_add_20 0 rfl rfl dX3_add_65 ?_
    refine V_aload_n XC 0 rfl dX3_add_68 rfl ?_
    refine V_get XC 3 flX3_add_13 0 rfl rfl dX3_add_69 ?_
    refine V_iload_n XC 3 rfl dX3_add_72 rfl ?_
    refine V_iald XC (_) 2 rfl rfl (by omega) (by decide) dX3_add_73 ?_
    have hir := hT.2.2.2.2.1
    have hir2 := IR_P hT hsl (by omega)
    have hir3 := IR_M hT (by omega)
    rw [upz_s]
    refine V_mmax XC mmX3_add_52 ⟨by omega, by omega⟩ ⟨by omega, by omega⟩ (Nat.le_of_ble_eq_true rfl) (Nat.le_of_ble_eq_true rfl) (Nat.le_of_ble_eq_true rfl) (Nat.le_of_ble_eq_true rfl) dX3_add_74 ?_
    refine V_putI XC 1 flX3_add_20 fpX3 pdX3_1 rfl 0 rfl (Nat.le_of_ble_eq_true rfl) dX3_add_77 ?_
    dsimp only [List.set]
    refine V_vret XC (_, _, _, _) hrV rfl dX3_add_80 ?_
    first
    | exact TI_inc hT hsl h23 (by omega)
    | exact TI_new hT hc (by omega) hb h23
  refine V_aload_n XC 0 rfl dX3_add_26 rfl ?_
  refine V_get XC 2 flX3_add_9 0 rfl rfl dX3_add_27 ?_
  refine V_iload_n XC 3 rfl dX3_add_30 rfl ?_
  refine V_iload_n XC 1 rfl dX3_add_31 rfl ?_
  refine V_iast XC (_) 1 rfl rfl (by omega) (by decide) dX3_add_32 ?_
  dsimp only [List.set]
  refine V_aload_n XC 0 rfl dX3_add_33 rfl ?_
  refine V_dup XC dX3_add_34 rfl ?_
  refine V_get XC 0 flX3_add_16 0 rfl rfl dX3_add_35 ?_
  refine V_iconst XC dX3_add_38 ?_
  refine V_iadd XC dX3_add_39 ?_
  refine V_putI XC 0 flX3_add_16 fpX3 pdX3_0 rfl 0 rfl (Nat.le_of_ble_eq_true rfl) dX3_add_40 ?_
  dsimp only [List.set]
  refine V_aload_n XC 0 rfl dX3_add_43 rfl ?_
  refine V_get XC 2 flX3_add_9 0 rfl rfl dX3_add_44 ?_
  refine V_iload_n XC 3 rfl dX3_add_47 rfl ?_
  refine V_iald XC (_) 1 rfl rfl (by omega) (by decide) dX3_add_48 ?_
  try rw [upz_s]
  refine V_iload_n XC 1 rfl dX3_add_49 rfl ?_
  refine V_icmp_ne XC 81 dX3_add_50 (by decide) ⟨by omega, by omega⟩ ⟨by omega, by omega⟩ (fun h50 => ?_) (fun h50 => ?_)
  · skip
    exact absurd rfl h50
  refine V_aload_n XC 0 rfl dX3_add_53 rfl ?_
  refine V_get XC 3 flX3_add_13 0 rfl rfl dX3_add_54 ?_
  refine V_iload_n XC 3 rfl dX3_add_57 rfl ?_
  refine V_dup2 XC dX3_add_58 rfl rfl ?_
  refine V_iald XC (_) 2 rfl rfl (by omega) (by decide) dX3_add_59 ?_
  refine V_iconst XC dX3_add_60 ?_
  refine V_iadd XC dX3_add_61 ?_
  refine V_iast XC (_) 2 rfl rfl (by omega) (by decide) dX3_add_62 ?_
  dsimp only [List.set]
  refine V_aload_n XC 0 rfl dX3_add_63 rfl ?_
  refine V_aload_n XC 0 rfl dX3_add_64 rfl ?_
  refine V_get XC 1 flX3_add_20 0 rfl rfl dX3_add_65 ?_
  refine V_aload_n XC 0 rfl dX3_add_68 rfl ?_
  refine V_get XC 3 flX3_add_13 0 rfl rfl dX3_add_69 ?_
  refine V_iload_n XC 3 rfl dX3_add_72 rfl ?_
  refine V_iald XC (_) 2 rfl rfl (by omega) (by decide) dX3_add_73 ?_
  have hir := hT.2.2.2.2.1
  have hir2 := IR_P hT hsl (by omega)
  have hir3 := IR_M hT (by omega)
  rw [upz_s]
  refine V_mmax XC mmX3_add_52 ⟨by omega, by omega⟩ ⟨by omega, by omega⟩ (Nat.le_of_ble_eq_true rfl) (Nat.le_of_ble_eq_true rfl) (Nat.le_of_ble_eq_true rfl) (Nat.le_of_ble_eq_true rfl) dX3_add_74 ?_
  refine V_putI XC 1 flX3_add_20 fpX3 pdX3_1 rfl 0 rfl (Nat.le_of_ble_eq_true rfl) dX3_add_77 ?_
  dsimp only [List.set]
  refine V_vret XC (_, _, _, _) hrV rfl dX3_add_80 ?_
  first
  | exact TI_inc hT hsl h23 (by omega)
  | exact TI_new hT hc (by omega) hb h23

/-- the points of a color (or of all) in their cells -/
def cellN (x y : Int) : Nat := (y / 10 * 101 + x / 10).toNat
def cnK (t : Stk) (n : Nat) (f : Nat → Nat) : Nat → Nat := itr (fun i f => bump f (cellN (px t i) (py t i))) f n
def cnS (S : List Stk) (c : Int) (n : Nat) : Nat → Nat := itr (fun k f => if ofC (gk S k) c = true then cnK (gk S k) (szk (gk S k)) f else f) (fun _ => 0) n
theorem cellN_le {x y : Int} (hx : 0 ≤ x ∧ x ≤ 1000) (hy : 0 ≤ y ∧ y ≤ 1000) : (y / 10 * 101 + x / 10) = (cellN x y : Int) ∧ cellN x y ≤ 10200 := by
  unfold cellN
  omega

set_option maxRecDepth 100000 in
set_option maxHeartbeats 4000000 in
theorem c_X3_take (l : Launch) (D : va_G) (kI kC : ClassId) (h0 h1 h2 : Nat) (cells most : Int) (K P : Nat → Int) (s0 s1 : Nat) (m : Nat) (F : Nat → Int) (hm : m ≤ 16) (hS : OkS (shC m F)) (c : Int) (hc : IR c) : Con l yX3_take wsX3_take { frames := 2, cells := 0, slots := 0, locals := 44 } D kI kC [.ref h0, .ref s0, .int (iI c)] (taW kI h0 h1 h2 cells most K P ++ shW kI s0 s1 (m : Int) F) (σ := Int × Int × (Nat → Int) × (Nat → Int)) (qV (fun u => ∃ t, t ≤ 384 ∧ TI u.2.2.1 u.2.2.2 u.1 u.2.1 (cnS (shC m F) c m) t)) (fun u => taW kI h0 h1 h2 u.1 u.2.1 u.2.2.1 u.2.2.2 ++ shW kI s0 s1 (m : Int) F) := by
  refine Con.of (cc := cX3_take) (maxL := 5) (ret := none) (by decide +kernel) rfl (List.forall_mem_cons.mpr ⟨rfl, List.forall_mem_cons.mpr ⟨rfl, List.forall_mem_cons.mpr ⟨rfl, fun _ h => absurd h List.not_mem_nil⟩⟩⟩) (Nat.le_of_ble_eq_true rfl) ?_
  intro pV eV sV mV bV tV cV AV XC hrV
  have XC : Cx pV _ sV mV _ tV cV cX3_take 5 RX3 wsX3_take AV D kI kC := XC
  change VV _ _ _ _ _ _ _ _ _ _ _ _ _ _ _ _ _ [some (.ref h0), some (.ref s0), some (.int (iI c)), none, none] _ _
  dsimp only [taW, shW, List.cons_append, List.nil_append]
  refine V_aload_n XC 0 rfl dX3_take_0 rfl ?_
  refine V_iconst XC dX3_take_1 ?_
  refine V_putI XC 0 flX3_take_16 fpX3 pdX3_0 rfl 0 rfl (Nat.le_of_ble_eq_true rfl) dX3_take_2 ?_
  dsimp only [List.set]
  refine V_aload_n XC 0 rfl dX3_take_5 rfl ?_
  refine V_iconst XC dX3_take_6 ?_
  refine V_putI XC 1 flX3_take_20 fpX3 pdX3_1 rfl 0 rfl (Nat.le_of_ble_eq_true rfl) dX3_take_7 ?_
  dsimp only [List.set]
  refine V_iconst XC dX3_take_10 ?_
  refine V_istore_n XC 3 rfl dX3_take_11 (by decide) ?_
  dsimp only [List.set]
  refine V_loop (σ := Nat × (Nat → Int)) (fun u => 512 - u.1) (fun u => u.1 ≤ 512 ∧ ∀ i, i < u.1 → u.2 i = 0) (fun u => [some (.ref h0), some (.ref s0), some (.int (iI c)), some (.int (iI (u.1 : Int))), none]) (fun u => taW kI h0 h1 h2 0 0 K u.2 ++ shW kI s0 s1 (m : Int) F) (0, P) ?_ rfl rfl (fun u hJ ih12 => ?_)
  · dsimp only
    exact ⟨Nat.zero_le _, fun q hq => absurd hq (Nat.not_lt_zero q)⟩
  obtain ⟨j, P2⟩ := u
  try dsimp only at hJ ih12 ⊢
  try dsimp only [List.cons_append, List.nil_append, padO, mdO, shW, trW, txW, hiW, liW, woW, taW]
  obtain ⟨hj, hz⟩ := hJ
  refine V_iload_n XC 3 rfl dX3_take_12 rfl ?_
  refine V_sipush XC dX3_take_13 (by decide) ?_
  refine V_icmp_ge XC 32 dX3_take_16 (by decide) ⟨by omega, by omega⟩ ⟨by omega, by omega⟩ (fun h16 => ?_) (fun h16 => ?_)
  · skip
    refine V_iconst XC dX3_take_32 ?_
    refine V_istore_n XC 3 rfl dX3_take_33 (by decide) ?_
    dsimp only [List.set]
    refine V_loop (σ := Nat × Int × Int × (Nat → Int) × (Nat → Int)) (fun u => m - u.1) (fun u => u.1 ≤ m ∧ ∃ t, t ≤ 24 * u.1 ∧ TI u.2.2.2.1 u.2.2.2.2 u.2.1 u.2.2.1 (cnS (shC m F) c u.1) t) (fun u => [some (.ref h0), some (.ref s0), some (.int (iI c)), some (.int (iI (u.1 : Int))), none]) (fun u => taW kI h0 h1 h2 u.2.1 u.2.2.1 u.2.2.2.1 u.2.2.2.2 ++ shW kI s0 s1 (m : Int) F) (0, 0, 0, K, P2) ?_ rfl rfl (fun u hJ ih34 => ?_)
    · dsimp only
      exact ⟨Nat.zero_le _, 0, Nat.le_refl _, TI_0 (fun s hs => hz s (by omega))⟩
    obtain ⟨k, ce, mo, K2, P3⟩ := u
    try dsimp only at hJ ih34 ⊢
    try dsimp only [List.cons_append, List.nil_append, padO, mdO, shW, trW, txW, hiW, liW, woW, taW]
    obtain ⟨hk, t, ht, hT⟩ := hJ
    refine V_iload_n XC 3 rfl dX3_take_34 rfl ?_
    refine V_aload_n XC 1 rfl dX3_take_35 rfl ?_
    refine V_get XC 0 flX3_take_23 3 rfl rfl dX3_take_36 ?_
    refine V_icmp_ge XC 97 dX3_take_39 (by decide) ⟨by omega, by omega⟩ ⟨by omega, by omega⟩ (fun h39 => ?_) (fun h39 => ?_)
    · skip
      refine V_vret XC (ce, mo, K2, P3) hrV rfl dX3_take_97 ?_
      have e : k = m := by omega
      subst e
      exact ⟨t, by omega, hT⟩
    have hkk := shC_in hS (show k < m by omega)
    have hat := shC_at (F := F) (show k < m by omega)
    have hf := skC_ok hkk
    have hsz := skC_sz hkk
    have hz2 := OkK_sz hkk
    refine V_aload_n XC 1 rfl dX3_take_42 rfl ?_
    refine V_iload_n XC 3 rfl dX3_take_43 rfl ?_
    refine V_iload_n XC 2 rfl dX3_take_44 rfl ?_
    refine V_callV (rest := _) (q0 := 3) XC (c_X2_isOf l D kI kC _ _ _ _ _ _ (by omega) hc ⟨by omega, by omega⟩) gX3_take_X2_isOf rfl kmX2_isOf ⟨⟨Nat.le_of_ble_eq_true rfl, Nat.le_of_ble_eq_true rfl⟩, Nat.le_of_ble_eq_true rfl, Nat.le_of_ble_eq_true rfl⟩ ⟨rfl, rfl⟩ rfl rfl (Nat.le_of_ble_eq_true rfl) [3, 4] rfl rfl (fun _ => rfl) rfl rfl dX3_take_45 (kR_of rfl (fun r45 hq45 => ?_))
    subst hq45
    refine V_bif_eq XC 91 dX3_take_48 (by decide) (fun h48 => ?_) (fun h48 => ?_)
    · skip
      refine V_iinc XC dX3_take_91 rfl (by decide) ?_
      dsimp only [List.set]
      refine V_goto XC 34 dX3_take_94 (by decide) ?_
      first
      | (refine ih34 (k + 1, ce, mo, K2, P3) ⟨by (try dsimp only); omega, t, by (try dsimp only); omega, ?_⟩ (by (try dsimp only); omega)
         show TI K2 P3 ce mo (if _ then _ else _) t
         rw [if_neg (by rw [shC_at (by omega), h48]; decide)]
         exact hT)
      | (refine ih34 (k + 1, ce3, mo3, K3, P4) ⟨by (try dsimp only); omega, t3, by (try dsimp only); omega, ?_⟩ (by (try dsimp only); omega)
         show TI K3 P4 ce3 mo3 (if _ then _ else _) t3
         rw [if_pos (by rw [shC_at (by omega)]; exact h48), hat, ← show i = szk (skC F k) by omega]
         exact hT3)
    refine V_iconst XC dX3_take_51 ?_
    refine V_istore XC dX3_take_52 (by decide) ?_
    dsimp only [List.set]
    refine V_loop (σ := Nat × Int × Int × (Nat → Int) × (Nat → Int)) (fun u => 24 - u.1) (fun u => u.1 ≤ szk (skC F k) ∧ ∃ t, t ≤ 24 * k + u.1 ∧ TI u.2.2.2.1 u.2.2.2.2 u.2.1 u.2.2.1 (cnK (skC F k) u.1 (cnS (shC m F) c k)) t) (fun u => [some (.ref h0), some (.ref s0), some (.int (iI c)), some (.int (iI (k : Int))), some (.int (iI (u.1 : Int)))]) (fun u => taW kI h0 h1 h2 u.2.1 u.2.2.1 u.2.2.2.1 u.2.2.2.2 ++ shW kI s0 s1 (m : Int) F) (0, ce, mo, K2, P3) ?_ rfl rfl (fun u hJ ih54 => ?_)
    · dsimp only
      exact ⟨Nat.zero_le _, t, by omega, hT⟩
    obtain ⟨i, ce3, mo3, K3, P4⟩ := u
    try dsimp only at hJ ih54 ⊢
    try dsimp only [List.cons_append, List.nil_append, padO, mdO, shW, trW, txW, hiW, liW, woW, taW]
    obtain ⟨hi, t3, ht3, hT3⟩ := hJ
    refine V_iload XC dX3_take_54 rfl ?_
    refine V_aload_n XC 1 rfl dX3_take_56 rfl ?_
    refine V_iload_n XC 3 rfl dX3_take_57 rfl ?_
    refine V_callV (rest := _) (q0 := 3) XC (c_X2_size l D kI kC _ _ _ _ _ (by omega)) gX3_take_X2_size rfl kmX2_size ⟨⟨Nat.le_of_ble_eq_true rfl, Nat.le_of_ble_eq_true rfl⟩, Nat.le_of_ble_eq_true rfl, Nat.le_of_ble_eq_true rfl⟩ ⟨rfl, rfl⟩ rfl rfl (Nat.le_of_ble_eq_true rfl) [3, 4] rfl rfl (fun _ => rfl) rfl rfl dX3_take_58 (kR_of rfl (fun r58 hq58 => ?_))
    subst hq58
    refine V_icmp_ge XC 91 dX3_take_61 (by decide) ⟨by omega, by omega⟩ ⟨by omega, by omega⟩ (fun h61 => ?_) (fun h61 => ?_)
    · skip
      refine V_iinc XC dX3_take_91 rfl (by decide) ?_
      dsimp only [List.set]
      refine V_goto XC 34 dX3_take_94 (by decide) ?_
      refine V_kill 4 ?_
      dsimp only [List.set]
      first
      | (refine ih34 (k + 1, ce, mo, K2, P3) ⟨by (try dsimp only); omega, t, by (try dsimp only); omega, ?_⟩ (by (try dsimp only); omega)
         show TI K2 P3 ce mo (if _ then _ else _) t
         rw [if_neg (by rw [shC_at (by omega), h48]; decide)]
         exact hT)
      | (refine ih34 (k + 1, ce3, mo3, K3, P4) ⟨by (try dsimp only); omega, t3, by (try dsimp only); omega, ?_⟩ (by (try dsimp only); omega)
         show TI K3 P4 ce3 mo3 (if _ then _ else _) t3
         rw [if_pos (by rw [shC_at (by omega)]; exact h48), hat, ← show i = szk (skC F k) by omega]
         exact hT3)
    have hfi := hf.2.2.2.2 i (by omega)
    have hxy := skC_xy (F := F) (k := k) (i := i) (by omega)
    have hce := cellN_le ⟨hfi.1, hfi.2.1⟩ ⟨hfi.2.2.1, hfi.2.2.2⟩
    refine V_aload_n XC 0 rfl dX3_take_64 rfl ?_
    refine V_aload_n XC 1 rfl dX3_take_65 rfl ?_
    refine V_iload_n XC 3 rfl dX3_take_66 rfl ?_
    refine V_iload XC dX3_take_67 rfl ?_
    refine V_callV (rest := _) (q0 := 3) XC (c_X2_x l D kI kC _ _ _ _ _ _ (by omega) (by omega)) gX3_take_X2_x rfl kmX2_x ⟨⟨Nat.le_of_ble_eq_true rfl, Nat.le_of_ble_eq_true rfl⟩, Nat.le_of_ble_eq_true rfl, Nat.le_of_ble_eq_true rfl⟩ ⟨rfl, rfl⟩ rfl rfl (Nat.le_of_ble_eq_true rfl) [3, 4] rfl rfl (fun _ => rfl) rfl rfl dX3_take_69 (kR_of rfl (fun r69 hq69 => ?_))
    subst hq69
    refine V_aload_n XC 1 rfl dX3_take_72 rfl ?_
    refine V_iload_n XC 3 rfl dX3_take_73 rfl ?_
    refine V_iload XC dX3_take_74 rfl ?_
    refine V_callV (rest := _) (q0 := 3) XC (c_X2_y l D kI kC _ _ _ _ _ _ (by omega) (by omega)) gX3_take_X2_y rfl kmX2_y ⟨⟨Nat.le_of_ble_eq_true rfl, Nat.le_of_ble_eq_true rfl⟩, Nat.le_of_ble_eq_true rfl, Nat.le_of_ble_eq_true rfl⟩ ⟨rfl, rfl⟩ rfl rfl (Nat.le_of_ble_eq_true rfl) [3, 4] rfl rfl (fun _ => rfl) rfl rfl dX3_take_76 (kR_of rfl (fun r76 hq76 => ?_))
    subst hq76
    refine V_callN (rest := _) XC (c_X7_cellOf l D kI kC _ _ (by omega) (by omega)) gX3_take_X7_cellOf_n43 mnX3_take_43.1 mnX3_take_43.2 rfl kmX7_cellOf ⟨⟨Nat.le_of_ble_eq_true rfl, Nat.le_of_ble_eq_true rfl⟩, Nat.le_of_ble_eq_true rfl, Nat.le_of_ble_eq_true rfl⟩ ⟨rfl, rfl⟩ rfl rfl (Nat.le_of_ble_eq_true rfl) [] rfl rfl (fun _ => rfl) dX3_take_79 (kR_of rfl (fun r79 hq79 => ?_))
    subst hq79
    rw [hce.1, hxy.1, hxy.2]
    refine V_callV (rest := _) (q0 := 0) XC (c_X3_add l D kI kC _ _ _ _ _ _ _ _ t3 _ hT3 (by omega) (by rw [← hxy.1, ← hxy.2]; exact hce.2)) gX3_take_X3_add rfl kmX3_add ⟨⟨Nat.le_of_ble_eq_true rfl, Nat.le_of_ble_eq_true rfl⟩, Nat.le_of_ble_eq_true rfl, Nat.le_of_ble_eq_true rfl⟩ ⟨rfl, rfl⟩ rfl rfl (Nat.le_of_ble_eq_true rfl) [0, 1, 2] rfl rfl (fun _ => rfl) rfl rfl dX3_take_82 (kV_of (fun u82 hq82 => ?_))
    obtain ⟨ce82, mo82, K82, P82⟩ := u82
    dsimp only [putW, List.set, Option.toList, List.cons_append, List.nil_append, padO, mdO, shW, trW, txW, hiW, liW, woW, taW]
    try dsimp only at hq82
    have hT82 := hq82
    refine V_iinc XC dX3_take_85 rfl (by decide) ?_
    dsimp only [List.set]
    refine V_goto XC 54 dX3_take_88 (by decide) ?_
    exact ih54 (i + 1, ce82, mo82, K82, P82) ⟨by (try dsimp only); omega, t3 + 1, by (try dsimp only); omega, hT82⟩ (by (try dsimp only); omega)
  refine V_aload_n XC 0 rfl dX3_take_19 rfl ?_
  refine V_get XC 3 flX3_take_13 0 rfl rfl dX3_take_20 ?_
  refine V_iload_n XC 3 rfl dX3_take_23 rfl ?_
  refine V_iconst XC dX3_take_24 ?_
  refine V_iast XC (j) 2 rfl (by omega) (by omega) (by decide) dX3_take_25 ?_
  dsimp only [List.set]
  refine V_iinc XC dX3_take_26 rfl (by decide) ?_
  dsimp only [List.set]
  refine V_goto XC 12 dX3_take_29 (by decide) ?_
  refine ih12 (j + 1, upz P2 j 0) ⟨by (try dsimp only); omega, fun q hq => ?_⟩ (by (try dsimp only); omega)
  dsimp only at hq ⊢
  by_cases z : q = j
  · subst z; rw [upz_s]
  · rw [upz_n z]; exact hz q (by omega)

end TALLY
