-- numbers and bits by toInt
theorem z_b01 {x : Int32} (h : x = 0 ∨ x = 1) : 0 ≤ x.toInt ∧ x.toInt ≤ 1 := by rcases h with rfl | rfl <;> decide
theorem z_01 {x : Int32} (h1 : 0 ≤ x.toInt) (h2 : x.toInt ≤ 1) : x = 0 ∨ x = 1 := by
  have h : x.toInt = 0 ∨ x.toInt = 1 := by omega
  rcases h with h | h
  · exact Or.inl (z_ofI h (by decide))
  · exact Or.inr (z_ofI h (by decide))
theorem z_nat {y : Int32} (h : 0 ≤ y.toInt) : (y.toBitVec.toNat : Int) = y.toInt ∧ y.toBitVec.toNat < 2147483648 := by
  have e : y.toInt = y.toBitVec.toInt := rfl
  rw [BitVec.toInt_eq_toNat_cond] at e
  have h2 := y.toBitVec.isLt
  split at e <;> omega
theorem z_ofnat {y : Int32} (h : y.toBitVec.toNat < 2147483648) : y.toInt = y.toBitVec.toNat := by
  have e : y.toInt = y.toBitVec.toInt := rfl
  rw [BitVec.toInt_eq_toNat_cond] at e
  split at e <;> omega
theorem z_andr {x y : Int32} {b : Int} (hy : y.toInt = b) (h : 0 ≤ b) : 0 ≤ (x &&& y).toInt ∧ (x &&& y).toInt ≤ b := by
  obtain ⟨h1, h2⟩ := z_nat (y := y) (by omega)
  have e : (x &&& y).toBitVec.toNat = x.toBitVec.toNat &&& y.toBitVec.toNat := by rw [Int32.toBitVec_and, BitVec.toNat_and]
  have h3 : x.toBitVec.toNat &&& y.toBitVec.toNat ≤ y.toBitVec.toNat := Nat.and_le_right
  have h4 := z_ofnat (y := x &&& y) (by omega)
  omega
theorem z_andl {x y : Int32} {b : Int} (hx : x.toInt = b) (h : 0 ≤ b) : 0 ≤ (x &&& y).toInt ∧ (x &&& y).toInt ≤ b := by
  obtain ⟨h1, h2⟩ := z_nat (y := x) (by omega)
  have e : (x &&& y).toBitVec.toNat = x.toBitVec.toNat &&& y.toBitVec.toNat := by rw [Int32.toBitVec_and, BitVec.toNat_and]
  have h3 : x.toBitVec.toNat &&& y.toBitVec.toNat ≤ x.toBitVec.toNat := Nat.and_le_left
  have h4 := z_ofnat (y := x &&& y) (by omega)
  omega
theorem z_or {x y : Int32} {a b : Int} (hx : x.toInt = a) (hy : y.toInt = b) {k : Nat} {N : Int} (hk : k ≤ 30) (hN : N = ((2 ^ k : Nat) : Int)) (ha : 0 ≤ a) (ha2 : a < N) (hb : 0 ≤ b) (hb2 : b < N) : 0 ≤ (x ||| y).toInt ∧ (x ||| y).toInt < N := by
  obtain ⟨h1, h2⟩ := z_nat (y := x) (by omega)
  obtain ⟨h3, h4⟩ := z_nat (y := y) (by omega)
  have e : (x ||| y).toBitVec.toNat = x.toBitVec.toNat ||| y.toBitVec.toNat := by rw [Int32.toBitVec_or, BitVec.toNat_or]
  have h5 : x.toBitVec.toNat ||| y.toBitVec.toNat < 2 ^ k := Nat.or_lt_two_pow (by omega) (by omega)
  have h6 : 2 ^ k ≤ 2 ^ 30 := Nat.pow_le_pow_right (by decide) hk
  have h7 := z_ofnat (y := x ||| y) (by omega)
  omega
theorem z_shl1c : ∀ j, j < 31 → ((1 : Int32) <<< (nI j &&& 31)).toInt = ((2 ^ j : Nat) : Int) := by decide +kernel
theorem z_shl1 {y : Int32} {b : Int} (hy : y.toInt = b) (h0 : 0 ≤ b) {k : Nat} (hk : k ≤ 30) (h : b ≤ k) : 1 ≤ ((1 : Int32) <<< (y &&& 31)).toInt ∧ ((1 : Int32) <<< (y &&& 31)).toInt ≤ ((2 ^ k : Nat) : Int) := by
  have e : y = nI b.toNat := z_nI (by omega)
  rw [e, z_shl1c _ (by omega)]
  have h1 : 2 ^ b.toNat ≤ 2 ^ k := Nat.pow_le_pow_right (by decide) (by omega)
  have h2 : 1 ≤ 2 ^ b.toNat := Nat.one_le_two_pow
  omega
theorem z_shr {x : Int32} {a : Int} (hx : x.toInt = a) (h : 0 ≤ a) (y : Int32) : 0 ≤ (x >>> (y &&& 31)).toInt ∧ (x >>> (y &&& 31)).toInt ≤ a := by
  rw [pk_shr x (y &&& 31) _ rfl, hx, Int.shiftRight_eq_div_pow]
  have h2 : (0 : Int) < ((2 ^ ((y &&& 31).toBitVec.smod 32).toNat : Nat) : Int) := by
    have : 0 < 2 ^ ((y &&& 31).toBitVec.smod 32).toNat := Nat.two_pow_pos _
    omega
  exact ⟨Int.ediv_nonneg h (Int.le_of_lt h2), Int.ediv_le_self _ h⟩
theorem z_div {x y : Int32} {a b : Int} (hx : x.toInt = a) (hy : y.toInt = b) (h : 0 ≤ a) (hb : 0 < b) : (x / y).toInt = a / b := by
  rw [Int32.toInt_div, hx, hy, Int.tdiv_eq_ediv_of_nonneg h]
  have h1 := Int.ediv_nonneg h (Int.le_of_lt hb)
  have h2 := Int.ediv_le_self b h
  have h3 := z_rng x
  exact Int.bmod_eq_of_le (by omega) (by omega)
theorem z_rem {x y : Int32} {a b : Int} (hx : x.toInt = a) (hy : y.toInt = b) (h : 0 ≤ a) (hb : 0 < b) : (x - x / y * y).toInt = a % b := by
  have h3 := z_rng x
  have h4 : b * (a / b) ≤ a := Int.mul_ediv_self_le (Int.ne_of_gt hb)
  have h5 : 0 ≤ b * (a / b) := Int.mul_nonneg (Int.le_of_lt hb) (Int.ediv_nonneg h (Int.le_of_lt hb))
  have h6 : (x / y * y).toInt = a / b * b := z_mul (z_div hx hy h hb) hy (by rw [Int.mul_comm]; omega) (by rw [Int.mul_comm]; omega)
  rw [z_sub hx h6 (by rw [Int.mul_comm]; omega) (by rw [Int.mul_comm]; omega), Int.emod_def, Int.mul_comm]
theorem z_max {x y : Int32} {a b : Int} (hx : x.toInt = a) (hy : y.toInt = b) : a ≤ (if x < y then y else x).toInt ∧ b ≤ (if x < y then y else x).toInt ∧ ((if x < y then y else x).toInt = a ∨ (if x < y then y else x).toInt = b) := by
  by_cases h : x < y
  · rw [if_pos h]
    have := (z_lt hx hy).mp h
    omega
  · rw [if_neg h]
    have : ¬ a < b := fun q => h ((z_lt hx hy).mpr q)
    omega
theorem z_min {x y : Int32} {a b : Int} (hx : x.toInt = a) (hy : y.toInt = b) : (if y < x then y else x).toInt ≤ a ∧ (if y < x then y else x).toInt ≤ b ∧ ((if y < x then y else x).toInt = a ∨ (if y < x then y else x).toInt = b) := by
  by_cases h : y < x
  · rw [if_pos h]
    have := (z_lt hy hx).mp h
    omega
  · rw [if_neg h]
    have : ¬ b < a := fun q => h ((z_lt hy hx).mpr q)
    omega
