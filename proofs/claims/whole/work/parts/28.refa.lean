/-! the reference: small ones, rows, history -/
section REFA

set_option maxRecDepth 100000 in
set_option maxHeartbeats 4000000 in
theorem c_X8_in (l : Launch) (D : va_G) (kI kC : ClassId) (v a b : Int) (hv : IR v) (ha : IR a) (hb : IR b) : ConR l yX8_in wsX8_in { frames := 0, cells := 0, slots := 0, locals := 0 } D kI kC [.int (iI v), .int (iI a), .int (iI b)] [] (fun r => r = bI (decide (a ≤ v ∧ v ≤ b))) := by
  refine Con.of (cc := cX8_in) (maxL := 3) (ret := (some .boolean)) (by decide +kernel) rfl (List.forall_mem_cons.mpr ⟨rfl, List.forall_mem_cons.mpr ⟨rfl, List.forall_mem_cons.mpr ⟨rfl, fun _ h => absurd h List.not_mem_nil⟩⟩⟩) (Nat.le_of_ble_eq_true rfl) ?_
  intro pV eV sV mV bV tV cV AV XC hrV
  have XC : Cx pV _ sV mV _ tV cV cX8_in 3 RX8 wsX8_in AV D kI kC := XC
  change VV _ _ _ _ _ _ _ _ _ _ _ _ _ _ _ _ _ [some (.int (iI v)), some (.int (iI a)), some (.int (iI b))] _ _
  refine V_iload_n XC 0 rfl dX8_in_0 rfl ?_
  refine V_iload_n XC 1 rfl dX8_in_1 rfl ?_
  refine V_icmp_lt XC 14 dX8_in_2 (by decide) (by first | assumption | (unfold IR; omega)) (by first | assumption | (unfold IR; omega)) (fun h2 => ?_) (fun h2 => ?_)
  · skip
    refine V_iconst XC dX8_in_14 ?_
    refine V_zret (r := false) XC () hrV rfl dX8_in_15 ?_
    try dsimp only
    first | rfl | exact congrArg bI (decide_eq_true (by omega)).symm | exact congrArg bI (decide_eq_false (by omega)).symm
  refine V_iload_n XC 0 rfl dX8_in_5 rfl ?_
  refine V_iload_n XC 2 rfl dX8_in_6 rfl ?_
  refine V_icmp_gt XC 14 dX8_in_7 (by decide) (by first | assumption | (unfold IR; omega)) (by first | assumption | (unfold IR; omega)) (fun h7 => ?_) (fun h7 => ?_)
  · skip
    refine V_iconst XC dX8_in_14 ?_
    refine V_zret (r := false) XC () hrV rfl dX8_in_15 ?_
    try dsimp only
    first | rfl | exact congrArg bI (decide_eq_true (by omega)).symm | exact congrArg bI (decide_eq_false (by omega)).symm
  refine V_iconst XC dX8_in_10 ?_
  refine V_goto XC 15 dX8_in_11 (by decide) ?_
  refine V_zret (r := true) XC () hrV rfl dX8_in_15 ?_
  try dsimp only
  first | rfl | exact congrArg bI (decide_eq_true (by omega)).symm | exact congrArg bI (decide_eq_false (by omega)).symm

set_option maxRecDepth 100000 in
set_option maxHeartbeats 4000000 in
theorem c_X8_isPlace (l : Launch) (D : va_G) (kI kC : ClassId) (v : Int) (hv : IR v) : ConR l yX8_isPlace wsX8_isPlace { frames := 1, cells := 0, slots := 0, locals := 22 } D kI kC [.int (iI v)] [] (fun r => r = bI (decide (0 ≤ v ∧ v ≤ 1000))) := by
  refine Con.of (cc := cX8_isPlace) (maxL := 1) (ret := (some .boolean)) (by decide +kernel) rfl (List.forall_mem_cons.mpr ⟨rfl, fun _ h => absurd h List.not_mem_nil⟩) (Nat.le_of_ble_eq_true rfl) ?_
  intro pV eV sV mV bV tV cV AV XC hrV
  have XC : Cx pV _ sV mV _ tV cV cX8_isPlace 1 RX8 wsX8_isPlace AV D kI kC := XC
  change VV _ _ _ _ _ _ _ _ _ _ _ _ _ _ _ _ _ [some (.int (iI v))] _ _
  refine V_iload_n XC 0 rfl dX8_isPlace_0 rfl ?_
  refine V_iconst XC dX8_isPlace_1 ?_
  refine V_sipush XC dX8_isPlace_2 (by decide) ?_
  refine V_callS (rest := _) XC (c_X8_in l D kI kC _ _ _ (by first | assumption | (unfold IR; omega)) (by first | assumption | (unfold IR; omega)) (by first | assumption | (unfold IR; omega))) gX8_isPlace_X8_in rfl kmX8_in ⟨⟨Nat.le_of_ble_eq_true rfl, Nat.le_of_ble_eq_true rfl⟩, Nat.le_of_ble_eq_true rfl, Nat.le_of_ble_eq_true rfl⟩ ⟨rfl, rfl⟩ rfl rfl (Nat.le_of_ble_eq_true rfl) [] rfl rfl (fun _ => rfl) dX8_isPlace_5 (kR_of rfl (fun r5 hq5 => ?_))
  subst hq5
  refine V_zret XC () hrV rfl dX8_isPlace_8 ?_
  try dsimp only

set_option maxRecDepth 100000 in
set_option maxHeartbeats 4000000 in
theorem c_X8_square (l : Launch) (D : va_G) (kI kC : ClassId) (x y : Int) : ConR l yX8_square wsX8_square { frames := 0, cells := 0, slots := 0, locals := 0 } D kI kC [.int (iI x), .int (iI y)] [] (fun r => r = x * x + y * y) := by
  refine Con.of (cc := cX8_square) (maxL := 2) (ret := (some .int)) (by decide +kernel) rfl (List.forall_mem_cons.mpr ⟨rfl, List.forall_mem_cons.mpr ⟨rfl, fun _ h => absurd h List.not_mem_nil⟩⟩) (Nat.le_of_ble_eq_true rfl) ?_
  intro pV eV sV mV bV tV cV AV XC hrV
  have XC : Cx pV _ sV mV _ tV cV cX8_square 2 RX8 wsX8_square AV D kI kC := XC
  change VV _ _ _ _ _ _ _ _ _ _ _ _ _ _ _ _ _ [some (.int (iI x)), some (.int (iI y))] _ _
  refine V_iload_n XC 0 rfl dX8_square_0 rfl ?_
  refine V_iload_n XC 0 rfl dX8_square_1 rfl ?_
  refine V_imul XC dX8_square_2 ?_
  refine V_iload_n XC 1 rfl dX8_square_3 rfl ?_
  refine V_iload_n XC 1 rfl dX8_square_4 rfl ?_
  refine V_imul XC dX8_square_5 ?_
  refine V_iadd XC dX8_square_6 ?_
  refine V_iret XC () hrV rfl dX8_square_7 ?_
  first | rfl | assumption | omega

set_option maxRecDepth 100000 in
set_option maxHeartbeats 4000000 in
theorem c_X8_strokes (l : Launch) (D : va_G) (kI kC : ClassId) (b : Nat → Nat) (gp : Int) (ke : Nat) (un : Nat) (bu : Nat) (ty : Nat) (pc : Int) (gd : Bool) (rd : Int) (po : Int) (ln : Int) (wd : Int) (G : Nat → Int)  : ConR l yX8_strokes wsX8_strokes { frames := 0, cells := 0, slots := 0, locals := 0 } D kI kC [.ref (b 0)] (mdO b gp (ke : Int) (un : Int) (bu : Int) (ty : Int) pc gd rd po ln wd :: [(b 1, IA kI 801 G)]) (fun r => r = G 0) := by
  refine Con.of (cc := cX8_strokes) (maxL := 1) (ret := (some .int)) (by decide +kernel) rfl (List.forall_mem_cons.mpr ⟨rfl, fun _ h => absurd h List.not_mem_nil⟩) (Nat.le_of_ble_eq_true rfl) ?_
  intro pV eV sV mV bV tV cV AV XC hrV
  have XC : Cx pV _ sV mV _ tV cV cX8_strokes 1 RX8 wsX8_strokes AV D kI kC := XC
  change VV _ _ _ _ _ _ _ _ _ _ _ _ _ _ _ _ _ [some (.ref (b 0))] _ _
  dsimp only [mdO, List.cons_append, List.nil_append]
  refine V_aload_n XC 0 rfl dX8_strokes_0 rfl ?_
  refine V_get XC 0 flX8_strokes_7 0 rfl rfl dX8_strokes_1 ?_
  refine V_iconst XC dX8_strokes_4 ?_
  refine V_iald XC (0) 1 rfl rfl (by decide) (by decide) dX8_strokes_5 ?_
  refine V_iret XC () hrV rfl dX8_strokes_6 ?_
  first | rfl | assumption | omega

set_option maxRecDepth 100000 in
set_option maxHeartbeats 4000000 in
theorem c_X8_size (l : Launch) (D : va_G) (kI kC : ClassId) (b : Nat → Nat) (gp : Int) (ke : Nat) (un : Nat) (bu : Nat) (ty : Nat) (pc : Int) (gd : Bool) (rd : Int) (po : Int) (ln : Int) (wd : Int) (G : Nat → Int) (k : Nat) (hk : k < 16) : ConR l yX8_size wsX8_size { frames := 0, cells := 0, slots := 0, locals := 0 } D kI kC [.ref (b 0), .int (iI (k : Int))] (mdO b gp (ke : Int) (un : Int) (bu : Int) (ty : Int) pc gd rd po ln wd :: [(b 1, IA kI 801 G)]) (fun r => r = G (1 + k)) := by
  refine Con.of (cc := cX8_size) (maxL := 2) (ret := (some .int)) (by decide +kernel) rfl (List.forall_mem_cons.mpr ⟨rfl, List.forall_mem_cons.mpr ⟨rfl, fun _ h => absurd h List.not_mem_nil⟩⟩) (Nat.le_of_ble_eq_true rfl) ?_
  intro pV eV sV mV bV tV cV AV XC hrV
  have XC : Cx pV _ sV mV _ tV cV cX8_size 2 RX8 wsX8_size AV D kI kC := XC
  change VV _ _ _ _ _ _ _ _ _ _ _ _ _ _ _ _ _ [some (.ref (b 0)), some (.int (iI (k : Int)))] _ _
  dsimp only [mdO, List.cons_append, List.nil_append]
  refine V_aload_n XC 0 rfl dX8_size_0 rfl ?_
  refine V_get XC 0 flX8_size_7 0 rfl rfl dX8_size_1 ?_
  refine V_iconst XC dX8_size_4 ?_
  refine V_iload_n XC 1 rfl dX8_size_5 rfl ?_
  refine V_iadd XC dX8_size_6 ?_
  refine V_iald XC (1 + k) 1 rfl (by omega) (by omega) (by decide) dX8_size_7 ?_
  refine V_iret XC () hrV rfl dX8_size_8 ?_
  first | rfl | assumption | omega

set_option maxRecDepth 100000 in
set_option maxHeartbeats 4000000 in
theorem c_X8_x (l : Launch) (D : va_G) (kI kC : ClassId) (b : Nat → Nat) (gp : Int) (ke : Nat) (un : Nat) (bu : Nat) (ty : Nat) (pc : Int) (gd : Bool) (rd : Int) (po : Int) (ln : Int) (wd : Int) (G : Nat → Int) (k i : Nat) (hk : k < 16) (hi : i < 24) : ConR l yX8_x wsX8_x { frames := 0, cells := 0, slots := 0, locals := 0 } D kI kC [.ref (b 0), .int (iI (k : Int)), .int (iI (i : Int))] (mdO b gp (ke : Int) (un : Int) (bu : Int) (ty : Int) pc gd rd po ln wd :: [(b 1, IA kI 801 G)]) (fun r => r = G (33 + 24 * k + i)) := by
  refine Con.of (cc := cX8_x) (maxL := 3) (ret := (some .int)) (by decide +kernel) rfl (List.forall_mem_cons.mpr ⟨rfl, List.forall_mem_cons.mpr ⟨rfl, List.forall_mem_cons.mpr ⟨rfl, fun _ h => absurd h List.not_mem_nil⟩⟩⟩) (Nat.le_of_ble_eq_true rfl) ?_
  intro pV eV sV mV bV tV cV AV XC hrV
  have XC : Cx pV _ sV mV _ tV cV cX8_x 3 RX8 wsX8_x AV D kI kC := XC
  change VV _ _ _ _ _ _ _ _ _ _ _ _ _ _ _ _ _ [some (.ref (b 0)), some (.int (iI (k : Int))), some (.int (iI (i : Int)))] _ _
  dsimp only [mdO, List.cons_append, List.nil_append]
  refine V_aload_n XC 0 rfl dX8_x_0 rfl ?_
  refine V_get XC 0 flX8_x_7 0 rfl rfl dX8_x_1 ?_
  refine V_bipush XC dX8_x_4 (by decide) ?_
  refine V_bipush XC dX8_x_6 (by decide) ?_
  refine V_iload_n XC 1 rfl dX8_x_8 rfl ?_
  refine V_imul XC dX8_x_9 ?_
  refine V_iadd XC dX8_x_10 ?_
  refine V_iload_n XC 2 rfl dX8_x_11 rfl ?_
  refine V_iadd XC dX8_x_12 ?_
  refine V_iald XC (33 + 24 * k + i) 1 rfl (by omega) (by omega) (by decide) dX8_x_13 ?_
  refine V_iret XC () hrV rfl dX8_x_14 ?_
  first | rfl | assumption | omega

set_option maxRecDepth 100000 in
set_option maxHeartbeats 4000000 in
theorem c_X8_y (l : Launch) (D : va_G) (kI kC : ClassId) (b : Nat → Nat) (gp : Int) (ke : Nat) (un : Nat) (bu : Nat) (ty : Nat) (pc : Int) (gd : Bool) (rd : Int) (po : Int) (ln : Int) (wd : Int) (G : Nat → Int) (k i : Nat) (hk : k < 16) (hi : i < 24) : ConR l yX8_y wsX8_y { frames := 0, cells := 0, slots := 0, locals := 0 } D kI kC [.ref (b 0), .int (iI (k : Int)), .int (iI (i : Int))] (mdO b gp (ke : Int) (un : Int) (bu : Int) (ty : Int) pc gd rd po ln wd :: [(b 1, IA kI 801 G)]) (fun r => r = G (417 + 24 * k + i)) := by
  refine Con.of (cc := cX8_y) (maxL := 3) (ret := (some .int)) (by decide +kernel) rfl (List.forall_mem_cons.mpr ⟨rfl, List.forall_mem_cons.mpr ⟨rfl, List.forall_mem_cons.mpr ⟨rfl, fun _ h => absurd h List.not_mem_nil⟩⟩⟩) (Nat.le_of_ble_eq_true rfl) ?_
  intro pV eV sV mV bV tV cV AV XC hrV
  have XC : Cx pV _ sV mV _ tV cV cX8_y 3 RX8 wsX8_y AV D kI kC := XC
  change VV _ _ _ _ _ _ _ _ _ _ _ _ _ _ _ _ _ [some (.ref (b 0)), some (.int (iI (k : Int))), some (.int (iI (i : Int)))] _ _
  dsimp only [mdO, List.cons_append, List.nil_append]
  refine V_aload_n XC 0 rfl dX8_y_0 rfl ?_
  refine V_get XC 0 flX8_y_7 0 rfl rfl dX8_y_1 ?_
  refine V_sipush XC dX8_y_4 (by decide) ?_
  refine V_bipush XC dX8_y_7 (by decide) ?_
  refine V_iload_n XC 1 rfl dX8_y_9 rfl ?_
  refine V_imul XC dX8_y_10 ?_
  refine V_iadd XC dX8_y_11 ?_
  refine V_iload_n XC 2 rfl dX8_y_12 rfl ?_
  refine V_iadd XC dX8_y_13 ?_
  refine V_iald XC (417 + 24 * k + i) 1 rfl (by omega) (by omega) (by decide) dX8_y_14 ?_
  refine V_iret XC () hrV rfl dX8_y_15 ?_
  first | rfl | assumption | omega

set_option maxRecDepth 100000 in
set_option maxHeartbeats 4000000 in
theorem c_X8_noStroke (l : Launch) (D : va_G) (kI kC : ClassId) (b : Nat → Nat) (gp : Int) (ke : Nat) (un : Nat) (bu : Nat) (ty : Nat) (pc : Int) (gd : Bool) (rd : Int) (po : Int) (ln : Int) (wd : Int) (G : Nat → Int) (n : Nat) (hn : n ≤ 16) (hG : G 0 = (n : Int)) (z : Int) (hz : IR z) : ConR l yX8_noStroke wsX8_noStroke { frames := 1, cells := 0, slots := 0, locals := 22 } D kI kC [.ref (b 0), .int (iI z)] (mdO b gp (ke : Int) (un : Int) (bu : Int) (ty : Int) pc gd rd po ln wd :: [(b 1, IA kI 801 G)]) (fun r => r = bI (!decide (0 ≤ z ∧ z < (n : Int)))) := by
  refine Con.of (cc := cX8_noStroke) (maxL := 2) (ret := (some .boolean)) (by decide +kernel) rfl (List.forall_mem_cons.mpr ⟨rfl, List.forall_mem_cons.mpr ⟨rfl, fun _ h => absurd h List.not_mem_nil⟩⟩) (Nat.le_of_ble_eq_true rfl) ?_
  intro pV eV sV mV bV tV cV AV XC hrV
  have XC : Cx pV _ sV mV _ tV cV cX8_noStroke 2 RX8 wsX8_noStroke AV D kI kC := XC
  change VV _ _ _ _ _ _ _ _ _ _ _ _ _ _ _ _ _ [some (.ref (b 0)), some (.int (iI z))] _ _
  dsimp only [mdO, List.cons_append, List.nil_append]
  refine V_iload_n XC 1 rfl dX8_noStroke_0 rfl ?_
  refine V_iconst XC dX8_noStroke_1 ?_
  refine V_aload_n XC 0 rfl dX8_noStroke_2 rfl ?_
  refine V_callV (rest := _) (q0 := 0) XC (c_X8_strokes l D kI kC _ _ _ _ _ _ _ _ _ _ _ _ _ ) gX8_noStroke_X8_strokes rfl kmX8_strokes ⟨⟨Nat.le_of_ble_eq_true rfl, Nat.le_of_ble_eq_true rfl⟩, Nat.le_of_ble_eq_true rfl, Nat.le_of_ble_eq_true rfl⟩ ⟨rfl, rfl⟩ rfl rfl (Nat.le_of_ble_eq_true rfl) [0, 1] rfl rfl (fun _ => rfl) rfl rfl dX8_noStroke_3 (kR_of rfl (fun r3 hq3 => ?_))
  subst hq3
  rw [hG]
  refine V_iconst XC dX8_noStroke_6 ?_
  refine V_isub XC dX8_noStroke_7 ?_
  refine V_callS (rest := _) XC (c_X8_in l D kI kC _ _ _ hz ⟨by decide, by decide⟩ ⟨by omega, by omega⟩) gX8_noStroke_X8_in rfl kmX8_in ⟨⟨Nat.le_of_ble_eq_true rfl, Nat.le_of_ble_eq_true rfl⟩, Nat.le_of_ble_eq_true rfl, Nat.le_of_ble_eq_true rfl⟩ ⟨rfl, rfl⟩ rfl rfl (Nat.le_of_ble_eq_true rfl) [] rfl rfl (fun _ => rfl) dX8_noStroke_8 (kR_of rfl (fun r8 hq8 => ?_))
  subst hq8
  refine V_bif_ne XC 18 dX8_noStroke_11 (by decide) (fun h11 => ?_) (fun h11 => ?_)
  · skip
    have h9 := of_decide_eq_true h11
    refine V_iconst XC dX8_noStroke_18 ?_
    refine V_zret (r := false) XC () hrV rfl dX8_noStroke_19 ?_
    try dsimp only
    first | (rw [decide_eq_true (by omega)]; rfl) | (rw [decide_eq_false (by omega)]; rfl)
  have h9 := of_decide_eq_false h11
  refine V_iconst XC dX8_noStroke_14 ?_
  refine V_goto XC 19 dX8_noStroke_15 (by decide) ?_
  refine V_zret (r := true) XC () hrV rfl dX8_noStroke_19 ?_
  try dsimp only
  first | (rw [decide_eq_true (by omega)]; rfl) | (rw [decide_eq_false (by omega)]; rfl)

theorem cpz_0 {F G : Nat → Int} {sp dp : Nat} : cpz F G sp dp 0 = G := by
  funext i
  unfold cpz
  rw [if_neg (by omega)]
theorem cpz_s {F G : Nat → Int} {sp dp n : Nat} : upz (cpz F G sp dp n) (dp + n) (F (sp + n)) = cpz F G sp dp (n + 1) := by
  funext i
  unfold upz cpz
  by_cases e : i = dp + n
  · rw [if_pos e, if_pos (by omega), e, show dp + n - dp = n by omega]
  · rw [if_neg e]
    by_cases q : dp ≤ i ∧ i < dp + n
    · rw [if_pos q, if_pos (by omega)]
    · rw [if_neg q, if_neg (by omega)]
theorem shl_0 {H : Nat → Int} : shl H 0 = H := by
  funext i
  unfold shl
  rw [if_neg (by omega)]
theorem shl_s {H : Nat → Int} {k : Nat} : upz (shl H k) k (H (k + 801)) = shl H (k + 1) := by
  funext i
  unfold upz shl
  by_cases e : i = k
  · rw [if_pos e, if_pos (by omega), e]
  · rw [if_neg e]
    by_cases q : i < k
    · rw [if_pos q, if_pos (by omega)]
    · rw [if_neg q, if_neg (by omega)]
theorem shl_at {H : Nat → Int} {k : Nat} : shl H k (k + 801) = H (k + 801) := if_neg (by omega)

set_option maxRecDepth 100000 in
set_option maxHeartbeats 4000000 in
theorem c_X8_copyRow (l : Launch) (D : va_G) (kI kC : ClassId) (h0 h1 n0 n1 : Nat) (F G : Nat → Int) (sp dp : Nat) (hn0 : n0 < 10000) (hn1 : n1 < 10000) (h4 : sp + 801 ≤ n0) (h5 : dp + 801 ≤ n1) : Con l yX8_copyRow wsX8_copyRow { frames := 0, cells := 0, slots := 0, locals := 0 } D kI kC [.ref h0, .int (iI (sp : Int)), .ref h1, .int (iI (dp : Int))] [(h0, IA kI n0 F), (h1, IA kI n1 G)] (σ := Unit) (qV (fun u => True)) (fun u => [(h0, IA kI n0 F), (h1, IA kI n1 (cpz F G sp dp 801))]) := by
  refine Con.of (cc := cX8_copyRow) (maxL := 5) (ret := none) (by decide +kernel) rfl (List.forall_mem_cons.mpr ⟨rfl, List.forall_mem_cons.mpr ⟨rfl, List.forall_mem_cons.mpr ⟨rfl, List.forall_mem_cons.mpr ⟨rfl, fun _ h => absurd h List.not_mem_nil⟩⟩⟩⟩) (Nat.le_of_ble_eq_true rfl) ?_
  intro pV eV sV mV bV tV cV AV XC hrV
  have XC : Cx pV _ sV mV _ tV cV cX8_copyRow 5 RX8 wsX8_copyRow AV D kI kC := XC
  change VV _ _ _ _ _ _ _ _ _ _ _ _ _ _ _ _ _ [some (.ref h0), some (.int (iI (sp : Int))), some (.ref h1), some (.int (iI (dp : Int))), none] _ _
  refine V_iconst XC dX8_copyRow_0 ?_
  refine V_istore XC dX8_copyRow_1 (by decide) ?_
  dsimp only [List.set]
  refine V_loop (σ := Nat) (fun u => 801 - u) (fun u => u ≤ 801) (fun u => [some (.ref h0), some (.int (iI (sp : Int))), some (.ref h1), some (.int (iI (dp : Int))), some (.int (iI (u : Int)))]) (fun u => [(h0, IA kI n0 F), (h1, IA kI n1 (cpz F G sp dp u))]) (0) (Nat.zero_le _) rfl (by rw [cpz_0]) (fun u hJ ih3 => ?_)
  obtain ⟨j, rfl⟩ : ∃ z, z = u := ⟨_, rfl⟩
  try dsimp only at hJ ih3 ⊢
  try dsimp only [List.cons_append, List.nil_append, padO, mdO, shW, trW, txW, hiW, liW, woW, taW]
  obtain hj := hJ
  refine V_iload XC dX8_copyRow_3 rfl ?_
  refine V_sipush XC dX8_copyRow_5 (by decide) ?_
  refine V_icmp_ge XC 29 dX8_copyRow_8 (by decide) ⟨by omega, by omega⟩ ⟨by omega, by omega⟩ (fun h8 => ?_) (fun h8 => ?_)
  · skip
    obtain rfl : j = 801 := by omega
    refine V_vret XC (()) hrV rfl dX8_copyRow_29 ?_
    trivial
  refine V_aload_n XC 2 rfl dX8_copyRow_11 rfl ?_
  refine V_iload_n XC 3 rfl dX8_copyRow_12 rfl ?_
  refine V_iload XC dX8_copyRow_13 rfl ?_
  refine V_iadd XC dX8_copyRow_15 ?_
  refine V_aload_n XC 0 rfl dX8_copyRow_16 rfl ?_
  refine V_iload_n XC 1 rfl dX8_copyRow_17 rfl ?_
  refine V_iload XC dX8_copyRow_18 rfl ?_
  refine V_iadd XC dX8_copyRow_20 ?_
  refine V_iald XC (sp + j) 0 rfl (by omega) (by omega) (by omega) dX8_copyRow_21 ?_
  refine V_iast XC (dp + j) 1 rfl (by omega) (by omega) (by omega) dX8_copyRow_22 ?_
  dsimp only [List.set]
  rw [cpz_s]
  refine V_iinc XC dX8_copyRow_23 rfl (by decide) ?_
  dsimp only [List.set]
  refine V_goto XC 3 dX8_copyRow_26 (by decide) ?_
  exact ih3 (j + 1) (by omega) (by omega)

set_option maxRecDepth 100000 in
set_option maxHeartbeats 4000000 in
theorem c_X8_push (l : Launch) (D : va_G) (kI kC : ClassId) (b : Nat → Nat) (gp : Int) (ke : Nat) (un : Nat) (bu : Nat) (ty : Nat) (pc : Int) (gd : Bool) (rd : Int) (po : Int) (ln : Int) (wd : Int) (G : Nat → Int) (H : Nat → Int) (hk : ke ≤ 6) : Con l yX8_push wsX8_push { frames := 1, cells := 0, slots := 0, locals := 24 } D kI kC [.ref (b 0)] (mdO b gp (ke : Int) (un : Int) (bu : Int) (ty : Int) pc gd rd po ln wd :: [(b 1, IA kI 801 G), (b 2, IA kI 4806 H)]) (σ := Unit) (qV (fun u => True)) (fun u => (mdO b gp ((min (ke + 1) 6 : Nat) : Int) (un : Int) (bu : Int) (ty : Int) pc gd rd po ln wd :: [(b 1, IA kI 801 G), (b 2, IA kI 4806 (pushH G H ke))])) := by
  refine Con.of (cc := cX8_push) (maxL := 2) (ret := none) (by decide +kernel) rfl (List.forall_mem_cons.mpr ⟨rfl, fun _ h => absurd h List.not_mem_nil⟩) (Nat.le_of_ble_eq_true rfl) ?_
  intro pV eV sV mV bV tV cV AV XC hrV
  have XC : Cx pV _ sV mV _ tV cV cX8_push 2 RX8 wsX8_push AV D kI kC := XC
  change VV _ _ _ _ _ _ _ _ _ _ _ _ _ _ _ _ _ [some (.ref (b 0)), none] _ _
  dsimp only [mdO, List.cons_append, List.nil_append]
  refine V_aload_n XC 0 rfl dX8_push_0 rfl ?_
  refine V_get XC 3 flX8_push_79 0 rfl rfl dX8_push_1 ?_
  refine V_bipush XC dX8_push_4 (by decide) ?_
  refine V_icmp_ne XC 55 dX8_push_6 (by decide) ⟨by omega, by omega⟩ ⟨by decide, by decide⟩ (fun h6 => ?_) (fun h6 => ?_)
  · skip
    have e5 : min ke 5 = ke := by omega
    have hpu : cpz G H 0 (801 * ke) 801 = pushH G H ke := by unfold pushH; rw [if_neg (by omega), e5]
    refine V_aload_n XC 0 rfl dX8_push_55 rfl ?_
    refine V_get XC 0 flX8_push_7 0 rfl rfl dX8_push_56 ?_
    refine V_iconst XC dX8_push_59 ?_
    refine V_aload_n XC 0 rfl dX8_push_60 rfl ?_
    refine V_get XC 2 flX8_push_17 0 rfl rfl dX8_push_61 ?_
    refine V_sipush XC dX8_push_64 (by decide) ?_
    refine V_aload_n XC 0 rfl dX8_push_67 rfl ?_
    refine V_get XC 3 flX8_push_79 0 rfl rfl dX8_push_68 ?_
    refine V_imul XC dX8_push_71 ?_
    first | refine V_top (y := ((801 * ke : Nat) : Int)) (by omega) ?_ | refine V_top (y := ((801 * 5 : Nat) : Int)) (by decide) ?_
    refine V_callS (rest := _) XC (c_X8_copyRow l D kI kC _ _ _ _ _ _ 0 _ (by decide) (by decide) (by omega) (by omega)) gX8_push_X8_copyRow rfl kmX8_copyRow ⟨⟨Nat.le_of_ble_eq_true rfl, Nat.le_of_ble_eq_true rfl⟩, Nat.le_of_ble_eq_true rfl, Nat.le_of_ble_eq_true rfl⟩ ⟨rfl, rfl⟩ rfl rfl (Nat.le_of_ble_eq_true rfl) [1, 2] rfl rfl (fun _ => rfl) dX8_push_72 (kV_of (fun u72 hq72 => ?_))
    dsimp only [putW, List.set, Option.toList, List.cons_append, List.nil_append, padO, mdO, shW, trW, txW, hiW, liW, woW, taW]
    try dsimp only at hq72
    rw [hpu]
    refine V_aload_n XC 0 rfl dX8_push_75 rfl ?_
    refine V_dup XC dX8_push_76 rfl ?_
    refine V_get XC 3 flX8_push_79 0 rfl rfl dX8_push_77 ?_
    refine V_iconst XC dX8_push_80 ?_
    refine V_iadd XC dX8_push_81 ?_
    first | refine V_top (y := ((min (ke + 1) 6 : Nat) : Int)) (by omega) ?_ | refine V_top (y := ((min (6 + 1) 6 : Nat) : Int)) (by decide) ?_
    refine V_putI XC 3 flX8_push_79 fpX8 pdX8_3 rfl 0 rfl (Nat.le_of_ble_eq_true rfl) dX8_push_82 ?_
    dsimp only [List.set]
    refine V_vret XC (()) hrV rfl dX8_push_85 ?_
    trivial
  obtain rfl : ke = 6 := by omega
  refine V_aload_n XC 0 rfl dX8_push_9 rfl ?_
  refine V_dup XC dX8_push_10 rfl ?_
  refine V_get XC 3 flX8_push_79 0 rfl rfl dX8_push_11 ?_
  refine V_iconst XC dX8_push_14 ?_
  refine V_isub XC dX8_push_15 ?_
  refine V_top (y := ((5 : Nat) : Int)) (by decide) ?_
  refine V_putI XC 3 flX8_push_79 fpX8 pdX8_3 rfl 0 rfl (Nat.le_of_ble_eq_true rfl) dX8_push_16 ?_
  dsimp only [List.set]
  refine V_iconst XC dX8_push_19 ?_
  refine V_istore_n XC 1 rfl dX8_push_20 (by decide) ?_
  dsimp only [List.set]
  refine V_loop (σ := Nat) (fun u => 4005 - u) (fun u => u ≤ 4005) (fun u => [some (.ref (b 0)), some (.int (iI (u : Int)))]) (fun u => (mdO b gp ((5 : Nat) : Int) (un : Int) (bu : Int) (ty : Int) pc gd rd po ln wd :: [(b 1, IA kI 801 G), (b 2, IA kI 4806 (shl H u))])) (0) (Nat.zero_le _) rfl (by rw [shl_0]) (fun u hJ ih21 => ?_)
  obtain ⟨j, rfl⟩ : ∃ z, z = u := ⟨_, rfl⟩
  try dsimp only at hJ ih21 ⊢
  try dsimp only [List.cons_append, List.nil_append, padO, mdO, shW, trW, txW, hiW, liW, woW, taW]
  obtain hj := hJ
  refine V_iload_n XC 1 rfl dX8_push_21 rfl ?_
  refine V_sipush XC dX8_push_22 (by decide) ?_
  refine V_aload_n XC 0 rfl dX8_push_25 rfl ?_
  refine V_get XC 3 flX8_push_79 0 rfl rfl dX8_push_26 ?_
  refine V_imul XC dX8_push_29 ?_
  refine V_icmp_ge XC 55 dX8_push_30 (by decide) ⟨by omega, by omega⟩ ⟨by decide, by decide⟩ (fun h30 => ?_) (fun h30 => ?_)
  · skip
    obtain rfl : j = 4005 := by omega
    have hpu : cpz G (shl H 4005) 0 (801 * 5) 801 = pushH G H 6 := rfl
    refine V_aload_n XC 0 rfl dX8_push_55 rfl ?_
    refine V_get XC 0 flX8_push_7 0 rfl rfl dX8_push_56 ?_
    refine V_iconst XC dX8_push_59 ?_
    refine V_aload_n XC 0 rfl dX8_push_60 rfl ?_
    refine V_get XC 2 flX8_push_17 0 rfl rfl dX8_push_61 ?_
    refine V_sipush XC dX8_push_64 (by decide) ?_
    refine V_aload_n XC 0 rfl dX8_push_67 rfl ?_
    refine V_get XC 3 flX8_push_79 0 rfl rfl dX8_push_68 ?_
    refine V_imul XC dX8_push_71 ?_
    first | refine V_top (y := ((801 * ke : Nat) : Int)) (by omega) ?_ | refine V_top (y := ((801 * 5 : Nat) : Int)) (by decide) ?_
    refine V_callS (rest := _) XC (c_X8_copyRow l D kI kC _ _ _ _ _ _ 0 _ (by decide) (by decide) (by omega) (by omega)) gX8_push_X8_copyRow rfl kmX8_copyRow ⟨⟨Nat.le_of_ble_eq_true rfl, Nat.le_of_ble_eq_true rfl⟩, Nat.le_of_ble_eq_true rfl, Nat.le_of_ble_eq_true rfl⟩ ⟨rfl, rfl⟩ rfl rfl (Nat.le_of_ble_eq_true rfl) [1, 2] rfl rfl (fun _ => rfl) dX8_push_72 (kV_of (fun u72 hq72 => ?_))
    dsimp only [putW, List.set, Option.toList, List.cons_append, List.nil_append, padO, mdO, shW, trW, txW, hiW, liW, woW, taW]
    try dsimp only at hq72
    rw [hpu]
    refine V_aload_n XC 0 rfl dX8_push_75 rfl ?_
    refine V_dup XC dX8_push_76 rfl ?_
    refine V_get XC 3 flX8_push_79 0 rfl rfl dX8_push_77 ?_
    refine V_iconst XC dX8_push_80 ?_
    refine V_iadd XC dX8_push_81 ?_
    first | refine V_top (y := ((min (ke + 1) 6 : Nat) : Int)) (by omega) ?_ | refine V_top (y := ((min (6 + 1) 6 : Nat) : Int)) (by decide) ?_
    refine V_putI XC 3 flX8_push_79 fpX8 pdX8_3 rfl 0 rfl (Nat.le_of_ble_eq_true rfl) dX8_push_82 ?_
    dsimp only [List.set]
    refine V_vret XC (()) hrV rfl dX8_push_85 ?_
    trivial
  refine V_aload_n XC 0 rfl dX8_push_33 rfl ?_
  refine V_get XC 2 flX8_push_17 0 rfl rfl dX8_push_34 ?_
  refine V_iload_n XC 1 rfl dX8_push_37 rfl ?_
  refine V_aload_n XC 0 rfl dX8_push_38 rfl ?_
  refine V_get XC 2 flX8_push_17 0 rfl rfl dX8_push_39 ?_
  refine V_iload_n XC 1 rfl dX8_push_42 rfl ?_
  refine V_sipush XC dX8_push_43 (by decide) ?_
  refine V_iadd XC dX8_push_46 ?_
  refine V_iald XC (j + 801) 2 rfl (by omega) (by omega) (by decide) dX8_push_47 ?_
  rw [shl_at]
  refine V_iast XC (_) 2 rfl rfl (by omega) (by decide) dX8_push_48 ?_
  dsimp only [List.set]
  rw [shl_s]
  refine V_iinc XC dX8_push_49 rfl (by decide) ?_
  dsimp only [List.set]
  refine V_goto XC 21 dX8_push_52 (by decide) ?_
  exact ih21 (j + 1) (by omega) (by omega)

set_option maxRecDepth 100000 in
set_option maxHeartbeats 4000000 in
theorem c_X8_record (l : Launch) (D : va_G) (kI kC : ClassId) (b : Nat → Nat) (gp : Int) (ke : Nat) (un : Nat) (bu : Nat) (ty : Nat) (pc : Int) (gd : Bool) (rd : Int) (po : Int) (ln : Int) (wd : Int) (G : Nat → Int) (H : Nat → Int) (hk : ke ≤ 6) : Con l yX8_record wsX8_record { frames := 2, cells := 0, slots := 0, locals := 45 } D kI kC [.ref (b 0)] (mdO b gp (ke : Int) (un : Int) (bu : Int) (ty : Int) pc gd rd po ln wd :: [(b 1, IA kI 801 G), (b 2, IA kI 4806 H)]) (σ := Unit) (qV (fun u => True)) (fun u => (mdO b gp ((min (ke + 1) 6 : Nat) : Int) ((0 : Nat) : Int) (bu : Int) (ty : Int) pc gd rd po ln wd :: [(b 1, IA kI 801 G), (b 2, IA kI 4806 (pushH G H ke))])) := by
  refine Con.of (cc := cX8_record) (maxL := 1) (ret := none) (by decide +kernel) rfl (List.forall_mem_cons.mpr ⟨rfl, fun _ h => absurd h List.not_mem_nil⟩) (Nat.le_of_ble_eq_true rfl) ?_
  intro pV eV sV mV bV tV cV AV XC hrV
  have XC : Cx pV _ sV mV _ tV cV cX8_record 1 RX8 wsX8_record AV D kI kC := XC
  change VV _ _ _ _ _ _ _ _ _ _ _ _ _ _ _ _ _ [some (.ref (b 0))] _ _
  dsimp only [mdO, List.cons_append, List.nil_append]
  refine V_aload_n XC 0 rfl dX8_record_0 rfl ?_
  refine V_callV (rest := _) (q0 := 0) XC (c_X8_push l D kI kC _ _ _ _ _ _ _ _ _ _ _ _ _ _ (by omega)) gX8_record_X8_push rfl kmX8_push ⟨⟨Nat.le_of_ble_eq_true rfl, Nat.le_of_ble_eq_true rfl⟩, Nat.le_of_ble_eq_true rfl, Nat.le_of_ble_eq_true rfl⟩ ⟨rfl, rfl⟩ rfl rfl (Nat.le_of_ble_eq_true rfl) [0, 1, 2] rfl rfl (fun _ => rfl) rfl rfl dX8_record_1 (kV_of (fun u1 hq1 => ?_))
  dsimp only [putW, List.set, Option.toList, List.cons_append, List.nil_append, padO, mdO, shW, trW, txW, hiW, liW, woW, taW]
  try dsimp only at hq1
  refine V_aload_n XC 0 rfl dX8_record_4 rfl ?_
  refine V_iconst XC dX8_record_5 ?_
  refine V_putI XC 5 flX8_record_89 fpX8 pdX8_5 rfl 0 rfl (Nat.le_of_ble_eq_true rfl) dX8_record_6 ?_
  dsimp only [List.set]
  refine V_vret XC (()) hrV rfl dX8_record_9 ?_
  trivial

set_option maxRecDepth 100000 in
set_option maxHeartbeats 4000000 in
theorem c_X8_become (l : Launch) (D : va_G) (kI kC : ClassId) (b : Nat → Nat) (gp : Int) (ke : Nat) (un : Nat) (bu : Nat) (ty : Nat) (pc : Int) (gd : Bool) (rd : Int) (po : Int) (ln : Int) (wd : Int) (G : Nat → Int) (H : Nat → Int) (X : Nat → Int) (hk : ke ≤ 6) : Con l yX8_become wsX8_become { frames := 3, cells := 0, slots := 0, locals := 65 } D kI kC [.ref (b 0)] (mdO b gp (ke : Int) (un : Int) (bu : Int) (ty : Int) pc gd rd po ln wd :: [(b 1, IA kI 801 G), (b 2, IA kI 4806 H), (b 9, IA kI 801 X)]) (σ := Unit) (qV (fun u => True)) (fun u => (mdO b gp ((min (ke + 1) 6 : Nat) : Int) ((0 : Nat) : Int) (bu : Int) (ty : Int) pc gd rd po ln wd :: [(b 1, IA kI 801 (cpz X G 0 0 801)), (b 2, IA kI 4806 (pushH G H ke)), (b 9, IA kI 801 X)])) := by
  refine Con.of (cc := cX8_become) (maxL := 1) (ret := none) (by decide +kernel) rfl (List.forall_mem_cons.mpr ⟨rfl, fun _ h => absurd h List.not_mem_nil⟩) (Nat.le_of_ble_eq_true rfl) ?_
  intro pV eV sV mV bV tV cV AV XC hrV
  have XC : Cx pV _ sV mV _ tV cV cX8_become 1 RX8 wsX8_become AV D kI kC := XC
  change VV _ _ _ _ _ _ _ _ _ _ _ _ _ _ _ _ _ [some (.ref (b 0))] _ _
  dsimp only [mdO, List.cons_append, List.nil_append]
  refine V_aload_n XC 0 rfl dX8_become_0 rfl ?_
  refine V_callV (rest := _) (q0 := 0) XC (c_X8_record l D kI kC _ _ _ _ _ _ _ _ _ _ _ _ _ _ (by omega)) gX8_become_X8_record rfl kmX8_record ⟨⟨Nat.le_of_ble_eq_true rfl, Nat.le_of_ble_eq_true rfl⟩, Nat.le_of_ble_eq_true rfl, Nat.le_of_ble_eq_true rfl⟩ ⟨rfl, rfl⟩ rfl rfl (Nat.le_of_ble_eq_true rfl) [0, 1, 2] rfl rfl (fun _ => rfl) rfl rfl dX8_become_1 (kV_of (fun u1 hq1 => ?_))
  dsimp only [putW, List.set, Option.toList, List.cons_append, List.nil_append, padO, mdO, shW, trW, txW, hiW, liW, woW, taW]
  try dsimp only at hq1
  refine V_aload_n XC 0 rfl dX8_become_4 rfl ?_
  refine V_get XC 16 flX8_become_39 0 rfl rfl dX8_become_5 ?_
  refine V_iconst XC dX8_become_8 ?_
  refine V_aload_n XC 0 rfl dX8_become_9 rfl ?_
  refine V_get XC 0 flX8_become_7 0 rfl rfl dX8_become_10 ?_
  refine V_iconst XC dX8_become_13 ?_
  refine V_callS (rest := _) XC (c_X8_copyRow l D kI kC _ _ _ _ _ _ 0 0 (by decide) (by decide) (by omega) (by omega)) gX8_become_X8_copyRow rfl kmX8_copyRow ⟨⟨Nat.le_of_ble_eq_true rfl, Nat.le_of_ble_eq_true rfl⟩, Nat.le_of_ble_eq_true rfl, Nat.le_of_ble_eq_true rfl⟩ ⟨rfl, rfl⟩ rfl rfl (Nat.le_of_ble_eq_true rfl) [3, 1] rfl rfl (fun _ => rfl) dX8_become_14 (kV_of (fun u14 hq14 => ?_))
  dsimp only [putW, List.set, Option.toList, List.cons_append, List.nil_append, padO, mdO, shW, trW, txW, hiW, liW, woW, taW]
  try dsimp only at hq14
  refine V_vret XC (()) hrV rfl dX8_become_17 ?_
  trivial

set_option maxRecDepth 100000 in
set_option maxHeartbeats 4000000 in
theorem c_X8_undo (l : Launch) (D : va_G) (kI kC : ClassId) (b : Nat → Nat) (gp : Int) (ke : Nat) (un : Nat) (bu : Nat) (ty : Nat) (pc : Int) (gd : Bool) (rd : Int) (po : Int) (ln : Int) (wd : Int) (G : Nat → Int) (H : Nat → Int) (A : Nat → Int) (S : List Stk) (past fut : List (List Stk)) (h3 : Ok3 (S, past, fut)) (hN : NowR G S) (hH : RH (S, past, fut) ke un H A)  : Con l yX8_undo wsX8_undo { frames := 1, cells := 0, slots := 0, locals := 24 } D kI kC [.ref (b 0)] (mdO b gp (ke : Int) (un : Int) (bu : Int) (ty : Int) pc gd rd po ln wd :: [(b 1, IA kI 801 G), (b 2, IA kI 4806 H), (b 3, IA kI 4806 A)]) (σ := (Nat → Int) × Nat × Nat × (Nat → Int) × (Nat → Int)) (qI (fun r u => r = (undoS (S, past, fut)).1 ∧ NowR u.1 (undoS (S, past, fut)).2.1 ∧ RH (undoS (S, past, fut)).2 u.2.1 u.2.2.1 u.2.2.2.1 u.2.2.2.2 ∧ Ok3 (undoS (S, past, fut)).2)) (fun u => (mdO b gp (u.2.1 : Int) (u.2.2.1 : Int) (bu : Int) (ty : Int) pc gd rd po ln wd :: [(b 1, IA kI 801 u.1), (b 2, IA kI 4806 u.2.2.2.1), (b 3, IA kI 4806 u.2.2.2.2)])) := by
  refine Con.of (cc := cX8_undo) (maxL := 1) (ret := (some .int)) (by decide +kernel) rfl (List.forall_mem_cons.mpr ⟨rfl, fun _ h => absurd h List.not_mem_nil⟩) (Nat.le_of_ble_eq_true rfl) ?_
  intro pV eV sV mV bV tV cV AV XC hrV
  have XC : Cx pV _ sV mV _ tV cV cX8_undo 1 RX8 wsX8_undo AV D kI kC := XC
  change VV _ _ _ _ _ _ _ _ _ _ _ _ _ _ _ _ _ [some (.ref (b 0))] _ _
  dsimp only [mdO, List.cons_append, List.nil_append]
  have hn16 : S.length ≤ 16 := h3.1.1
  have hS : OkS S := h3.1
  have hk6 : ke ≤ 6 := by rw [hH.1]; exact h3.2.1.1
  have hun : un = fut.length := hH.2.1
  have hkp : ke = past.length := hH.1
  have hpf : past.length + fut.length ≤ 6 := h3.2.1.2
  refine V_aload_n XC 0 rfl dX8_undo_0 rfl ?_
  refine V_get XC 3 flX8_undo_79 0 rfl rfl dX8_undo_1 ?_
  refine V_if_ne XC 10 dX8_undo_4 (by decide) ⟨by omega, by omega⟩ (fun h4 => ?_) (fun h4 => ?_)
  · skip
    obtain ⟨Z, q, rfl⟩ : ∃ X q, past = X :: q := by
      cases past with
      | nil => exact absurd hkp (by simp; omega)
      | cons X q => exact ⟨X, q, rfl⟩
    have hZ : OkS Z := h3.2.2.1 Z List.mem_cons_self
    rw [List.length_cons] at hkp hpf
    refine V_aload_n XC 0 rfl dX8_undo_10 rfl ?_
    refine V_get XC 0 flX8_undo_7 0 rfl rfl dX8_undo_11 ?_
    refine V_iconst XC dX8_undo_14 ?_
    refine V_aload_n XC 0 rfl dX8_undo_15 rfl ?_
    refine V_get XC 4 flX8_undo_20 0 rfl rfl dX8_undo_16 ?_
    refine V_sipush XC dX8_undo_19 (by decide) ?_
    refine V_aload_n XC 0 rfl dX8_undo_22 rfl ?_
    refine V_get XC 5 flX8_undo_89 0 rfl rfl dX8_undo_23 ?_
    refine V_imul XC dX8_undo_26 ?_
    refine V_top (y := ((801 * un : Nat) : Int)) (by omega) ?_
    refine V_callS (rest := _) XC (c_X8_copyRow l D kI kC _ _ _ _ _ _ 0 _ (by decide) (by decide) (by omega) (by omega)) gX8_undo_X8_copyRow rfl kmX8_copyRow ⟨⟨Nat.le_of_ble_eq_true rfl, Nat.le_of_ble_eq_true rfl⟩, Nat.le_of_ble_eq_true rfl, Nat.le_of_ble_eq_true rfl⟩ ⟨rfl, rfl⟩ rfl rfl (Nat.le_of_ble_eq_true rfl) [1, 3] rfl rfl (fun _ => rfl) dX8_undo_27 (kV_of (fun u27 hq27 => ?_))
    dsimp only [putW, List.set, Option.toList, List.cons_append, List.nil_append, padO, mdO, shW, trW, txW, hiW, liW, woW, taW]
    try dsimp only at hq27
    refine V_aload_n XC 0 rfl dX8_undo_30 rfl ?_
    refine V_dup XC dX8_undo_31 rfl ?_
    refine V_get XC 5 flX8_undo_89 0 rfl rfl dX8_undo_32 ?_
    refine V_iconst XC dX8_undo_35 ?_
    refine V_iadd XC dX8_undo_36 ?_
    refine V_top (y := ((un + 1 : Nat) : Int)) (by omega) ?_
    refine V_putI XC 5 flX8_undo_89 fpX8 pdX8_5 rfl 0 rfl (Nat.le_of_ble_eq_true rfl) dX8_undo_37 ?_
    dsimp only [List.set]
    refine V_aload_n XC 0 rfl dX8_undo_40 rfl ?_
    refine V_dup XC dX8_undo_41 rfl ?_
    refine V_get XC 3 flX8_undo_79 0 rfl rfl dX8_undo_42 ?_
    refine V_iconst XC dX8_undo_45 ?_
    refine V_isub XC dX8_undo_46 ?_
    refine V_top (y := ((ke - 1 : Nat) : Int)) (by omega) ?_
    refine V_putI XC 3 flX8_undo_79 fpX8 pdX8_3 rfl 0 rfl (Nat.le_of_ble_eq_true rfl) dX8_undo_47 ?_
    dsimp only [List.set]
    refine V_aload_n XC 0 rfl dX8_undo_50 rfl ?_
    refine V_get XC 2 flX8_undo_17 0 rfl rfl dX8_undo_51 ?_
    refine V_sipush XC dX8_undo_54 (by decide) ?_
    refine V_aload_n XC 0 rfl dX8_undo_57 rfl ?_
    refine V_get XC 3 flX8_undo_79 0 rfl rfl dX8_undo_58 ?_
    refine V_imul XC dX8_undo_61 ?_
    refine V_top (y := ((801 * (ke - 1) : Nat) : Int)) (by omega) ?_
    refine V_aload_n XC 0 rfl dX8_undo_62 rfl ?_
    refine V_get XC 0 flX8_undo_7 0 rfl rfl dX8_undo_63 ?_
    refine V_iconst XC dX8_undo_66 ?_
    refine V_callS (rest := _) XC (c_X8_copyRow l D kI kC _ _ _ _ _ _ (801 * (ke - 1)) 0 (by decide) (by decide) (by omega) (by omega)) gX8_undo_X8_copyRow rfl kmX8_copyRow ⟨⟨Nat.le_of_ble_eq_true rfl, Nat.le_of_ble_eq_true rfl⟩, Nat.le_of_ble_eq_true rfl, Nat.le_of_ble_eq_true rfl⟩ ⟨rfl, rfl⟩ rfl rfl (Nat.le_of_ble_eq_true rfl) [2, 1] rfl rfl (fun _ => rfl) dX8_undo_67 (kV_of (fun u67 hq67 => ?_))
    dsimp only [putW, List.set, Option.toList, List.cons_append, List.nil_append, padO, mdO, shW, trW, txW, hiW, liW, woW, taW]
    try dsimp only at hq67
    refine V_aload_n XC 0 rfl dX8_undo_70 rfl ?_
    refine V_get XC 3 flX8_undo_79 0 rfl rfl dX8_undo_71 ?_
    refine V_iret XC (cpz H G (801 * (ke - 1)) 0 801, ke - 1, un + 1, H, cpz G A 0 (801 * un) 801) hrV rfl dX8_undo_74 ?_
    show ((ke - 1 : Nat) : Int) = (q.length : Int) ∧ NowR (cpz H G (801 * (ke - 1)) 0 801) Z ∧ RH (Z, q, S :: fut) (ke - 1) (un + 1) H (cpz G A 0 (801 * un) 801) ∧ Ok3 (Z, q, S :: fut)
    have hz := hH.2.2.1 0 Z rfl
    rw [Nat.sub_zero] at hz
    refine ⟨by show ((ke - 1 : Nat) : Int) = (q.length : Int); omega, ⟨?_, row_congr hZ hz.2 (fun i hi => ?_)⟩, ⟨by show _ = q.length; omega, by show _ = fut.length + 1; omega, fun j S2 hj => ?_, fun j S2 hj => ?_⟩, hZ, ⟨by show q.length ≤ 6; omega, by show q.length + (fut.length + 1) ≤ 6; omega⟩, fun S2 hS2 => h3.2.2.1 S2 (List.mem_cons_of_mem _ hS2), fun S2 hS2 => ?_⟩
    · show cpz H G (801 * (ke - 1)) 0 801 0 = (Z.length : Int)
      unfold cpz
      rw [if_pos (by omega), ← hz.1]
      rfl
    · show cpz H G (801 * (ke - 1)) 0 801 i = H (801 * (ke - 1) + i)
      unfold cpz
      rw [if_pos (by omega)]
      rfl
    · have h8 := hH.2.2.1 (j + 1) S2 (by simpa using hj)
      rwa [show ke - 1 - (j + 1) = ke - 1 - 1 - j by omega] at h8
    · cases j with
      | zero =>
        have h8 : some S = some S2 := hj
        cases h8
        refine ⟨?_, row_congr hS hN.2 (fun i hi => ?_)⟩
        · show cpz G A 0 (801 * un) 801 (801 * un) = (S.length : Int)
          unfold cpz
          rw [if_pos (by omega), Nat.sub_self]
          exact hN.1
        · show cpz G A 0 (801 * un) 801 (801 * un + i) = G i
          unfold cpz
          rw [if_pos (by omega)]
          congr 1
          omega
      | succ j =>
        have hj2 : fut[j]? = some S2 := by simpa using hj
        have hlt := (List.getElem?_eq_some_iff.mp hj2).1
        refine slotR_congr (h3.2.2.2 S2 (List.mem_of_getElem? hj2)) (hH.2.2.2 j S2 hj2) (fun i hi => ?_)
        unfold cpz
        rw [if_neg (by omega)]
        congr 1
        omega
    · rcases List.mem_cons.mp hS2 with z | z
      · rw [z]; exact hS
      · exact h3.2.2.2 S2 z
  obtain rfl : past = [] := by
    cases past with
    | nil => rfl
    | cons X q => exact absurd hkp (by simp; omega)
  refine V_bipush XC dX8_undo_7 (by decide) ?_
  refine V_iret XC (G, ke, un, H, A) hrV rfl dX8_undo_9 ?_
  exact ⟨rfl, hN, hH, h3⟩

set_option maxRecDepth 100000 in
set_option maxHeartbeats 4000000 in
theorem c_X8_redo (l : Launch) (D : va_G) (kI kC : ClassId) (b : Nat → Nat) (gp : Int) (ke : Nat) (un : Nat) (bu : Nat) (ty : Nat) (pc : Int) (gd : Bool) (rd : Int) (po : Int) (ln : Int) (wd : Int) (G : Nat → Int) (H : Nat → Int) (A : Nat → Int) (S : List Stk) (past fut : List (List Stk)) (h3 : Ok3 (S, past, fut)) (hN : NowR G S) (hH : RH (S, past, fut) ke un H A)  : Con l yX8_redo wsX8_redo { frames := 2, cells := 0, slots := 0, locals := 45 } D kI kC [.ref (b 0)] (mdO b gp (ke : Int) (un : Int) (bu : Int) (ty : Int) pc gd rd po ln wd :: [(b 1, IA kI 801 G), (b 2, IA kI 4806 H), (b 3, IA kI 4806 A)]) (σ := (Nat → Int) × Nat × Nat × (Nat → Int) × (Nat → Int)) (qI (fun r u => r = (redoS (S, past, fut)).1 ∧ NowR u.1 (redoS (S, past, fut)).2.1 ∧ RH (redoS (S, past, fut)).2 u.2.1 u.2.2.1 u.2.2.2.1 u.2.2.2.2 ∧ Ok3 (redoS (S, past, fut)).2)) (fun u => (mdO b gp (u.2.1 : Int) (u.2.2.1 : Int) (bu : Int) (ty : Int) pc gd rd po ln wd :: [(b 1, IA kI 801 u.1), (b 2, IA kI 4806 u.2.2.2.1), (b 3, IA kI 4806 u.2.2.2.2)])) := by
  refine Con.of (cc := cX8_redo) (maxL := 1) (ret := (some .int)) (by decide +kernel) rfl (List.forall_mem_cons.mpr ⟨rfl, fun _ h => absurd h List.not_mem_nil⟩) (Nat.le_of_ble_eq_true rfl) ?_
  intro pV eV sV mV bV tV cV AV XC hrV
  have XC : Cx pV _ sV mV _ tV cV cX8_redo 1 RX8 wsX8_redo AV D kI kC := XC
  change VV _ _ _ _ _ _ _ _ _ _ _ _ _ _ _ _ _ [some (.ref (b 0))] _ _
  dsimp only [mdO, List.cons_append, List.nil_append]
  have hn16 : S.length ≤ 16 := h3.1.1
  have hS : OkS S := h3.1
  have hk6 : ke ≤ 6 := by rw [hH.1]; exact h3.2.1.1
  have hun : un = fut.length := hH.2.1
  have hkp : ke = past.length := hH.1
  have hpf : past.length + fut.length ≤ 6 := h3.2.1.2
  refine V_aload_n XC 0 rfl dX8_redo_0 rfl ?_
  refine V_get XC 5 flX8_redo_89 0 rfl rfl dX8_redo_1 ?_
  refine V_if_ne XC 10 dX8_redo_4 (by decide) ⟨by omega, by omega⟩ (fun h4 => ?_) (fun h4 => ?_)
  · skip
    obtain ⟨Z, q, rfl⟩ : ∃ X q, fut = X :: q := by
      cases fut with
      | nil => exact absurd hun (by simp; omega)
      | cons X q => exact ⟨X, q, rfl⟩
    have hZ : OkS Z := h3.2.2.2 Z List.mem_cons_self
    rw [List.length_cons] at hun hpf
    refine V_aload_n XC 0 rfl dX8_redo_10 rfl ?_
    refine V_callV (rest := _) (q0 := 0) XC (c_X8_push l D kI kC _ _ _ _ _ _ _ _ _ _ _ _ _ _ (by omega)) gX8_redo_X8_push rfl kmX8_push ⟨⟨Nat.le_of_ble_eq_true rfl, Nat.le_of_ble_eq_true rfl⟩, Nat.le_of_ble_eq_true rfl, Nat.le_of_ble_eq_true rfl⟩ ⟨rfl, rfl⟩ rfl rfl (Nat.le_of_ble_eq_true rfl) [0, 1, 2] rfl rfl (fun _ => rfl) rfl rfl dX8_redo_11 (kV_of (fun u11 hq11 => ?_))
    dsimp only [putW, List.set, Option.toList, List.cons_append, List.nil_append, padO, mdO, shW, trW, txW, hiW, liW, woW, taW]
    try dsimp only at hq11
    refine V_aload_n XC 0 rfl dX8_redo_14 rfl ?_
    refine V_dup XC dX8_redo_15 rfl ?_
    refine V_get XC 5 flX8_redo_89 0 rfl rfl dX8_redo_16 ?_
    refine V_iconst XC dX8_redo_19 ?_
    refine V_isub XC dX8_redo_20 ?_
    refine V_top (y := ((un - 1 : Nat) : Int)) (by omega) ?_
    refine V_putI XC 5 flX8_redo_89 fpX8 pdX8_5 rfl 0 rfl (Nat.le_of_ble_eq_true rfl) dX8_redo_21 ?_
    dsimp only [List.set]
    refine V_aload_n XC 0 rfl dX8_redo_24 rfl ?_
    refine V_get XC 4 flX8_redo_20 0 rfl rfl dX8_redo_25 ?_
    refine V_sipush XC dX8_redo_28 (by decide) ?_
    refine V_aload_n XC 0 rfl dX8_redo_31 rfl ?_
    refine V_get XC 5 flX8_redo_89 0 rfl rfl dX8_redo_32 ?_
    refine V_imul XC dX8_redo_35 ?_
    refine V_top (y := ((801 * (un - 1) : Nat) : Int)) (by omega) ?_
    refine V_aload_n XC 0 rfl dX8_redo_36 rfl ?_
    refine V_get XC 0 flX8_redo_7 0 rfl rfl dX8_redo_37 ?_
    refine V_iconst XC dX8_redo_40 ?_
    refine V_callS (rest := _) XC (c_X8_copyRow l D kI kC _ _ _ _ _ _ (801 * (un - 1)) 0 (by decide) (by decide) (by omega) (by omega)) gX8_redo_X8_copyRow rfl kmX8_copyRow ⟨⟨Nat.le_of_ble_eq_true rfl, Nat.le_of_ble_eq_true rfl⟩, Nat.le_of_ble_eq_true rfl, Nat.le_of_ble_eq_true rfl⟩ ⟨rfl, rfl⟩ rfl rfl (Nat.le_of_ble_eq_true rfl) [3, 1] rfl rfl (fun _ => rfl) dX8_redo_41 (kV_of (fun u41 hq41 => ?_))
    dsimp only [putW, List.set, Option.toList, List.cons_append, List.nil_append, padO, mdO, shW, trW, txW, hiW, liW, woW, taW]
    try dsimp only at hq41
    refine V_aload_n XC 0 rfl dX8_redo_44 rfl ?_
    refine V_get XC 5 flX8_redo_89 0 rfl rfl dX8_redo_45 ?_
    refine V_iret XC (cpz A G (801 * (un - 1)) 0 801, min (ke + 1) 6, un - 1, pushH G H ke, A) hrV rfl dX8_redo_48 ?_
    show ((un - 1 : Nat) : Int) = (q.length : Int) ∧ NowR (cpz A G (801 * (un - 1)) 0 801) Z ∧ RH (Z, S :: past, q) (min (ke + 1) 6) (un - 1) (pushH G H ke) A ∧ Ok3 (Z, S :: past, q)
    have hz := hH.2.2.2 0 Z rfl
    rw [Nat.sub_zero] at hz
    have hpush := RH_push h3 hH hN
    refine ⟨by show ((un - 1 : Nat) : Int) = (q.length : Int); omega, ⟨?_, row_congr hZ hz.2 (fun i hi => ?_)⟩, ⟨by show _ = past.length + 1; omega, by show _ = q.length; omega, fun j S2 hj => ?_, fun j S2 hj => ?_⟩, hZ, ⟨by show past.length + 1 ≤ 6; omega, by show past.length + 1 + q.length ≤ 6; omega⟩, fun S2 hS2 => ?_, fun S2 hS2 => h3.2.2.2 S2 (List.mem_cons_of_mem _ hS2)⟩
    · show cpz A G (801 * (un - 1)) 0 801 0 = (Z.length : Int)
      unfold cpz
      rw [if_pos (by omega), ← hz.1]
      rfl
    · show cpz A G (801 * (un - 1)) 0 801 i = A (801 * (un - 1) + i)
      unfold cpz
      rw [if_pos (by omega)]
      rfl
    · refine hpush j S2 ?_
      have hj2 : (S :: past)[j]? = some S2 := hj
      have hlt := (List.getElem?_eq_some_iff.mp hj2).1
      rw [List.length_cons] at hlt
      rw [List.getElem?_take, if_pos (by omega)]
      exact hj2
    · have h8 := hH.2.2.2 (j + 1) S2 (by simpa using hj)
      rwa [show un - 1 - (j + 1) = un - 1 - 1 - j by omega] at h8
    · rcases List.mem_cons.mp hS2 with z | z
      · rw [z]; exact hS
      · exact h3.2.2.1 S2 z
  obtain rfl : fut = [] := by
    cases fut with
    | nil => rfl
    | cons X q => exact absurd hun (by simp; omega)
  refine V_bipush XC dX8_redo_7 (by decide) ?_
  refine V_iret XC (G, ke, un, H, A) hrV rfl dX8_redo_9 ?_
  exact ⟨rfl, hN, hH, h3⟩

end REFA
