theorem z_clI {x : Int32} (h : 0 ≤ x.toInt) : ((x.toNatClampNeg : Nat) : Int) = x.toInt := by
  rw [z_cl (k := x.toInt.toNat) (by omega)]
  omega
theorem z_xor {x y : Int32} {a b : Int} (hx : x.toInt = a) (hy : y.toInt = b) {k : Nat} {N : Int} (hk : k ≤ 30) (hN : N = ((2 ^ k : Nat) : Int)) (ha : 0 ≤ a) (ha2 : a < N) (hb : 0 ≤ b) (hb2 : b < N) : 0 ≤ (x ^^^ y).toInt ∧ (x ^^^ y).toInt < N := by
  obtain ⟨h1, h2⟩ := z_nat (y := x) (by omega)
  obtain ⟨h3, h4⟩ := z_nat (y := y) (by omega)
  have e : (x ^^^ y).toBitVec.toNat = x.toBitVec.toNat ^^^ y.toBitVec.toNat := by rw [Int32.toBitVec_xor, BitVec.toNat_xor]
  have h5 : x.toBitVec.toNat ^^^ y.toBitVec.toNat < 2 ^ k := Nat.xor_lt_two_pow (by omega) (by omega)
  have h6 : 2 ^ k ≤ 2 ^ 30 := Nat.pow_le_pow_right (by decide) hk
  have h7 := z_ofnat (y := x ^^^ y) (by omega)
  omega
def zfi (k : Nat) (e : va_E) : Int := match e with
  | .inr (_, fs) => match fs[k]? with
    | some (.int x) => x.toInt
    | _ => 0
  | _ => 0
def zms (x : Int32) : Nat := if x.toInt = -1 then 0 else (33 - x.toInt).toNat
theorem zms_dec {x y : Int32} (hx : 0 ≤ x.toInt) (hx2 : x.toInt ≤ 31) (h : y.toInt = -1 ∨ x.toInt < y.toInt) : zms y < zms x := by
  have e : zms x = (33 - x.toInt).toNat := if_neg (by omega)
  rw [e]
  by_cases q : y.toInt = -1
  · have e2 : zms y = 0 := if_pos q
    omega
  · have e2 : zms y = (33 - y.toInt).toNat := if_neg q
    omega
