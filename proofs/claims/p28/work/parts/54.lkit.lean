/-! answers of the law's methods; joins; facts of longs and of bits -/
section LKIT
def qS (σ : PS) (φ : Int → Prop) : Option Value → PS → Prop := fun v σ2 => ∃ r : Int, v = some (.int (iI r)) ∧ σ2 = σ ∧ φ r
def qT (φ : Int → PS → Prop) : Option Value → PS → Prop := fun v σ2 => ∃ r : Int, v = some (.int (iI r)) ∧ φ r σ2
def qLg (σ : PS) (x : Int64) : Option Value → PS → Prop := fun v σ2 => v = some (.long x) ∧ σ2 = σ
theorem kS_of {σ : PS} {φ : Int → Prop} {P : Option Value → PS → Prop} (k : ∀ r : Int, φ r → P (some (.int (iI r))) σ) : ∀ v σ2, qS σ φ v σ2 → P v σ2 := by
  rintro v σ2 ⟨r, rfl, rfl, h⟩
  exact k r h
theorem kT_of {φ : Int → PS → Prop} {P : Option Value → PS → Prop} (k : ∀ (r : Int) (σ2 : PS), φ r σ2 → P (some (.int (iI r))) σ2) : ∀ v σ2, qT φ v σ2 → P v σ2 := by
  rintro v σ2 ⟨r, rfl, h⟩
  exact k r σ2 h
theorem kL_of {σ : PS} {x : Int64} {P : Option Value → PS → Prop} (k : P (some (.long x)) σ) : ∀ v σ2, qLg σ x v σ2 → P v σ2 := by
  rintro v σ2 ⟨rfl, rfl⟩
  exact k
theorem P_merge {p : Program} {l : Launch} {e : Env} {R : Room} {s : State} {m : MethodId} {args : Array Value} {below : List Frame} {meth : Method} {c : Code} {nL : Nat} {A : Nat → Prop} {D : va_G} {kI kC : ClassId} {Q : State → Prop} {pa pg pw : Nat → Nat} {cells slots pc : Nat} {lv : List (Option Value)} {st : List Value} {σ : PS} {J : Int → Prop} (jp d : Nat)
    (k : (∀ z : Int, J z → PP p l e R s m args below meth c nL A D Q kI kC pa pg pw cells slots jp lv (.int (iI z) :: st.drop d) σ) → PP p l e R s m args below meth c nL A D Q kI kC pa pg pw cells slots pc lv st σ)
    (hk : ∀ z : Int, J z → PP p l e R s m args below meth c nL A D Q kI kC pa pg pw cells slots jp lv (.int (iI z) :: st.drop d) σ) : PP p l e R s m args below meth c nL A D Q kI kC pa pg pw cells slots pc lv st σ := k hk
theorem lg_of {a : Int} (h : IR a) : (iI a).toInt64.toInt = a := by
  rw [Int32.toInt_toInt64, iI_T h]
theorem lg_mul {a b : Int} (ha : IR a) (hb : IR b) : ((iI a).toInt64 * (iI b).toInt64).toInt = a * b := by
  rw [Int64.toInt_mul, lg_of ha, lg_of hb]
  have h1 := ha.1
  have h2 := ha.2
  have h3 := hb.1
  have h4 := hb.2
  have e1 : a * b ≤ 4611686018427387904 := by
    have := Int.mul_nonneg (show (0 : Int) ≤ 2147483648 - a by omega) (show (0 : Int) ≤ 2147483648 + b by omega)
    have := Int.mul_nonneg (show (0 : Int) ≤ 2147483648 + a by omega) (show (0 : Int) ≤ 2147483648 - b by omega)
    simp only [Int.sub_mul, Int.mul_sub, Int.add_mul, Int.mul_add] at *
    omega
  have e2 : -4611686018427387904 ≤ a * b := by
    have := Int.mul_nonneg (show (0 : Int) ≤ 2147483648 - a by omega) (show (0 : Int) ≤ 2147483648 - b by omega)
    have := Int.mul_nonneg (show (0 : Int) ≤ 2147483648 + a by omega) (show (0 : Int) ≤ 2147483648 + b by omega)
    simp only [Int.sub_mul, Int.mul_sub, Int.add_mul, Int.mul_add] at *
    omega
  exact Int.bmod_eq_of_le (by omega) (by omega)
theorem lg_le {a b q : Int} (ha : IR a) (hb : IR b) (hq : IR q) : (iI a).toInt64 * (iI b).toInt64 ≤ (iI q).toInt64 ↔ a * b ≤ q := by
  rw [Int64.le_iff_toInt_le, lg_mul ha hb, lg_of hq]
theorem pk_31 (x : Int) : iI x &&& 2147483647 = iI (((iI x).toBitVec.toNat % 2 ^ 31 : Nat) : Int) ∧ (((iI x).toBitVec.toNat % 2 ^ 31 : Nat) : Int) < 2147483648 := by
  have h1 : (iI x).toBitVec.toNat % 2 ^ 31 < 2 ^ 31 := Nat.mod_lt _ (Nat.two_pow_pos 31)
  have h2 : (iI x).toBitVec.toNat % 2 ^ 31 < 2147483648 := h1
  refine ⟨?_, by omega⟩
  rw [pk_and (iI x) (m := 2147483647) 31 rfl, iI_N h2]
theorem itr_rng {f : Nat → Int} {B : Int} : ∀ {n : Nat}, (∀ k, k < n → 0 ≤ f k ∧ f k ≤ B) → 0 ≤ itr (fun k a => a + f k) 0 n ∧ itr (fun k a => a + f k) 0 n ≤ B * (n : Int)
  | 0, _ => by
    show (0 : Int) ≤ 0 ∧ (0 : Int) ≤ B * 0
    omega
  | n + 1, h => by
    have ih := itr_rng (n := n) (fun k hk => h k (by omega))
    have h1 := h n (by omega)
    rw [itr_s]
    have e : B * ((n + 1 : Nat) : Int) = B * (n : Int) + B := by rw [Int.natCast_add, Int.mul_add]; simp
    rw [e]
    omega
end LKIT
