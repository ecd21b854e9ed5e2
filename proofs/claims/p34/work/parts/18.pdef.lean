def pNo : Nat → Bool := fun _ => false
def pAll : Nat → Bool := fun _ => true
def pCl : Nat → Bool := fun k => decide (k < 10) || decide (17 ≤ k)
def pM : Nat → Bool := fun k => decide (10 ≤ k) && decide (k < 17)
theorem pCl_hi {k : Nat} (h : 17 ≤ k) : pCl k = true := by
  unfold pCl
  simp [h]
theorem DM.K {l : Launch} {g : zG} {P : Nat → Bool} {al : Bool} {y : MethodName} {cc : ByteArray} {mL : Nat} {rt : Option FieldType} {rm : Room} {K0 : (Nat → va_E) → Option Value → Prop} {σ : Nat → va_E} {av : List Value} (h : ∀ K, K = K0 → DM l g P al y cc mL rt rm K σ av) : DM l g P al y cc mL rt rm K0 σ av := h _ rfl
theorem zF1_r {b : Nat} {x : Int32} (h0 : 0 ≤ x.toInt) (h : x.toInt < 4) : zF1 idn b x.toNatClampNeg = some (b + 35 + 5 * x.toInt.toNat) := by
  rw [z_cl (k := x.toInt.toNat) (by omega)]
  unfold zF1
  rw [if_pos (by omega)]
theorem zF5_r {b : Nat} {x : Int32} (h0 : 0 ≤ x.toInt) (h : x.toInt < 4) : zF5 idn b x.toNatClampNeg = some (b + 55 + 11 * x.toInt.toNat) := by
  rw [z_cl (k := x.toInt.toNat) (by omega)]
  unfold zF5
  rw [if_pos (by omega)]
theorem zF22_r {b : Nat} {x : Int32} (h0 : 0 ≤ x.toInt) (h : x.toInt < 4) : zF22 idn b x.toNatClampNeg = some (b + 26 + 1 * x.toInt.toNat) := by
  rw [z_cl (k := x.toInt.toNat) (by omega)]
  unfold zF22
  rw [if_pos (by omega)]
theorem zF23_r {b : Nat} {x : Int32} (h0 : 0 ≤ x.toInt) (h : x.toInt < 4) : zF23 idn b x.toNatClampNeg = some (b + 30 + 1 * x.toInt.toNat) := by
  rw [z_cl (k := x.toInt.toNat) (by omega)]
  unfold zF23
  rw [if_pos (by omega)]
theorem zF42_r {b : Nat} {x : Int32} (h0 : 0 ≤ x.toInt) (h : x.toInt < 8) : zF42 idn b x.toNatClampNeg = some (b + 1 + 1 * x.toInt.toNat) := by
  rw [z_cl (k := x.toInt.toNat) (by omega)]
  unfold zF42
  rw [if_pos (by omega)]
