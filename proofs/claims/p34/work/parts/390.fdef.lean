-- what lies in an array
def zar (e : va_E) : Nat → Int32 := match e with
  | .inl (_, _, .inl f) => f
  | _ => fun _ => 0
theorem zar_of {e : va_E} {cA : ClassId} {n : Nat} {f : Nat → Int32} (h : e = .inl (cA, n, .inl f)) : zar e = f := by
  subst h
  rfl
theorem upd_same {f : Nat → Int32} {k : Nat} {v : Int32} : upd f k v k = v := by
  unfold upd
  rw [if_pos rfl]
theorem upd_other {f : Nat → Int32} {k i : Nat} {v : Int32} (h : i ≠ k) : upd f k v i = f i := by
  unfold upd
  rw [if_neg h]
-- bits
def zb (x : Int32) (k : Nat) : Prop := x.toBitVec.getLsbD k = true
theorem zb_and {x y : Int32} {k : Nat} : zb (x &&& y) k ↔ zb x k ∧ zb y k := by
  unfold zb
  rw [Int32.toBitVec_and, BitVec.getLsbD_and, Bool.and_eq_true]
theorem zb_or {x y : Int32} {k : Nat} : zb (x ||| y) k ↔ zb x k ∨ zb y k := by
  unfold zb
  rw [Int32.toBitVec_or, BitVec.getLsbD_or, Bool.or_eq_true]
theorem zb_not {x : Int32} {k : Nat} (hk : k < 32) : zb (x ^^^ (-1)) k ↔ ¬ zb x k := by
  unfold zb
  have h : ((-1 : Int32)).toBitVec = BitVec.allOnes 32 := by decide
  rw [Int32.toBitVec_xor, BitVec.getLsbD_xor, h, BitVec.getLsbD_allOnes, decide_eq_true hk]
  cases x.toBitVec.getLsbD k <;> decide
theorem zb_shlc : ∀ j, j < 31 → ∀ k, k < 32 → ((1 : Int32) <<< (nI j &&& 31)).toBitVec.getLsbD k = decide (k = j) := by decide +kernel
theorem zb_shl {y : Int32} {p k : Nat} (hy : y.toInt = (p : Int)) (hp : p < 31) : zb ((1 : Int32) <<< (y &&& 31)) k ↔ k = p := by
  obtain rfl : y = nI p := z_nI hy
  unfold zb
  by_cases hk : k < 32
  · rw [zb_shlc p hp k hk, decide_eq_true_iff]
  · rw [BitVec.getLsbD_of_ge _ _ (by omega)]
    constructor
    · intro h; cases h
    · intro h; omega
theorem zb_0 {k : Nat} : ¬ zb 0 k := by
  unfold zb
  have h : (0 : Int32).toBitVec = 0#32 := by decide
  rw [h, BitVec.getLsbD_zero]
  intro h; cases h
theorem zb_iff {x : Int32} {k : Nat} (h : 0 ≤ x.toInt) : zb x k ↔ x.toInt.toNat / 2 ^ k % 2 = 1 := by
  obtain ⟨h1, h2⟩ := z_nat (y := x) h
  have h3 : x.toInt.toNat = x.toBitVec.toNat := by omega
  unfold zb
  rw [h3, BitVec.getLsbD, Nat.testBit_eq_decide_div_mod_eq, decide_eq_true_iff]
theorem z_and1 {a : Int32} (h : 0 ≤ a.toInt) : (a &&& 1).toInt = a.toInt % 2 := by
  obtain ⟨h1, h2⟩ := z_nat (y := a) h
  have e : (a &&& 1).toBitVec.toNat = a.toBitVec.toNat % 2 := by rw [Int32.toBitVec_and, BitVec.toNat_and, show (1 : Int32).toBitVec.toNat = 1 from rfl, Nat.and_one_is_mod]
  have h4 := z_ofnat (y := a &&& 1) (by omega)
  omega
theorem z_smod : ∀ j, j < 31 → ((nI j &&& 31).toBitVec.smod 32).toNat = j := by decide +kernel
theorem z_shrp {x y : Int32} {p : Nat} (hx : 0 ≤ x.toInt) (hy : y.toInt = (p : Int)) (hp : p < 31) : (x >>> (y &&& 31)).toInt = ((x.toInt.toNat / 2 ^ p : Nat) : Int) := by
  obtain rfl : y = nI p := z_nI hy
  rw [pk_shr x (nI p &&& 31) _ rfl, Int.shiftRight_eq_div_pow, z_smod p hp, Int.natCast_ediv, Int.toNat_of_nonneg hx]
theorem zb_get {x y : Int32} {p : Nat} (hx : 0 ≤ x.toInt) (hy : y.toInt = (p : Int)) (hp : p < 31) : (((x >>> (y &&& 31)) &&& 1).toInt = 1 ∧ zb x p) ∨ (((x >>> (y &&& 31)) &&& 1).toInt = 0 ∧ ¬ zb x p) := by
  have h1 := z_shrp hx hy hp
  have h2 : 0 ≤ (x >>> (y &&& 31)).toInt := by
    rw [h1]
    exact Int.natCast_nonneg _
  rw [z_and1 h2, h1, zb_iff hx]
  generalize x.toInt.toNat / 2 ^ p = n
  omega
theorem zb_lt {x : Int32} {n k : Nat} (h0 : 0 ≤ x.toInt) (h : x.toInt < ((2 ^ n : Nat) : Int)) (hk : zb x k) : k < n := by
  apply Classical.byContradiction
  intro q
  have h3 := (zb_iff h0).mp hk
  have h4 : x.toInt.toNat < 2 ^ n := by omega
  have h5 : 2 ^ n ≤ 2 ^ k := Nat.pow_le_pow_right (by decide) (by omega)
  rw [Nat.div_eq_of_lt (by omega)] at h3
  omega
theorem zb_none {x : Int32} {n : Nat} (h0 : 0 ≤ x.toInt) (h : x.toInt < ((2 ^ n : Nat) : Int)) (hk : ∀ k, k < n → ¬ zb x k) : x.toInt = 0 := by
  obtain ⟨h1, h2⟩ := z_nat (y := x) h0
  have e : x.toBitVec.toNat = 0 := by
    apply Nat.eq_of_testBit_eq
    intro i
    rw [Nat.zero_testBit]
    cases hb : x.toBitVec.toNat.testBit i with
    | false => rfl
    | true =>
      have hz : zb x i := by
        unfold zb
        rw [BitVec.getLsbD]
        exact hb
      exact absurd hz (hk i (zb_lt h0 h hz))
  omega
theorem z_orle {x y : Int32} {n : Nat} (hn : n ≤ 30) (h1 : 0 ≤ x.toInt) (h2 : x.toInt < ((2 ^ n : Nat) : Int)) (h3 : 0 ≤ y.toInt) (h4 : y.toInt < ((2 ^ n : Nat) : Int)) : x.toInt ≤ (x ||| y).toInt := by
  obtain ⟨a1, a2⟩ := z_nat (y := x) h1
  obtain ⟨b1, b2⟩ := z_nat (y := y) h3
  have e : (x ||| y).toBitVec.toNat = x.toBitVec.toNat ||| y.toBitVec.toNat := by rw [Int32.toBitVec_or, BitVec.toNat_or]
  have h5 : x.toBitVec.toNat ||| y.toBitVec.toNat < 2 ^ n := Nat.or_lt_two_pow (by omega) (by omega)
  have h6 : 2 ^ n ≤ 2 ^ 30 := Nat.pow_le_pow_right (by decide) hn
  have h7 := z_ofnat (y := x ||| y) (by omega)
  have h8 : x.toBitVec.toNat ≤ x.toBitVec.toNat ||| y.toBitVec.toNat := Nat.left_le_or
  omega
theorem z_orlt {x y : Int32} {n : Nat} (hn : n ≤ 30) (h1 : 0 ≤ x.toInt) (h2 : x.toInt < ((2 ^ n : Nat) : Int)) (h3 : 0 ≤ y.toInt) (h4 : y.toInt < ((2 ^ n : Nat) : Int)) (hd : ¬ (y &&& (x ^^^ (-1))).toInt = 0) : x.toInt < (x ||| y).toInt := by
  have hle := z_orle hn h1 h2 h3 h4
  apply Classical.byContradiction
  intro q
  have e : (x ||| y) = x := Int32.toInt_inj.mp (by omega)
  apply hd
  have hz : (y &&& (x ^^^ (-1))).toBitVec = 0#32 := by
    apply BitVec.eq_of_getLsbD_eq
    intro i hi
    rw [BitVec.getLsbD_zero]
    cases hb : (y &&& (x ^^^ (-1))).toBitVec.getLsbD i with
    | false => rfl
    | true =>
      have hb2 : zb (y &&& (x ^^^ (-1))) i := hb
      rw [zb_and, zb_not hi] at hb2
      have hb3 : zb (x ||| y) i := zb_or.mpr (Or.inr hb2.1)
      rw [e] at hb3
      exact absurd hb3 hb2.2
  show (y &&& (x ^^^ (-1))).toBitVec.toInt = 0
  rw [hz]
  rfl
-- how many bits, as the loop counts them
def zpop (x : Int32) : Nat → Int
  | 0 => 0
  | k + 1 => zpop x k + ((x >>> (nI k &&& 31)) &&& 1).toInt
theorem zpop_all : ∀ s, s < 17 → zpop ((1 : Int32) <<< (nI s &&& 31) - 1) 16 = ((s : Nat) : Int) := by decide +kernel
theorem zpop_step {x y n r s : Int32} {k : Nat} (hy : y.toInt = (k : Int)) (hn : n.toInt = zpop x k) (hr : r = s &&& 1) (hs : s = x >>> (y &&& 31)) : n.toInt + r.toInt = zpop x (k + 1) := by
  obtain rfl : y = nI k := z_nI hy
  rw [hn, hr, hs]
  rfl
theorem z_shl1e {y : Int32} (h0 : 0 ≤ y.toInt) (h1 : y.toInt ≤ 16) : ((1 : Int32) <<< (y &&& 31)).toInt = ((2 ^ y.toInt.toNat : Nat) : Int) ∧ 1 ≤ ((1 : Int32) <<< (y &&& 31)).toInt ∧ ((1 : Int32) <<< (y &&& 31)).toInt ≤ 65536 := by
  have e : y = nI y.toInt.toNat := z_nI (by omega)
  have h2 := z_shl1c y.toInt.toNat (by omega)
  rw [← e] at h2
  have h3 := z_shl1 (y := y) rfl h0 (k := 16) (by decide) (by omega)
  have h4 : ((2 ^ 16 : Nat) : Int) = 65536 := by decide
  rw [h4] at h3
  exact ⟨h2, h3⟩
def ib (x : Int32) (k : Nat) : Bool := x.toBitVec.getLsbD k
theorem ib_zb {x : Int32} {k : Nat} : ib x k = true ↔ zb x k := Iff.rfl
theorem ib_no {x : Int32} {k : Nat} : ib x k = false ↔ ¬ zb x k := by
  unfold zb ib
  cases x.toBitVec.getLsbD k <;> simp
/-- numbers of the same sixteen bits are the same -/
theorem zb_ext {x y : Int32} (hx : 0 ≤ x.toInt ∧ x.toInt ≤ 65535) (hy : 0 ≤ y.toInt ∧ y.toInt ≤ 65535) (h : ∀ k, k < 16 → (zb x k ↔ zb y k)) : x = y := by
  apply Int32.toBitVec_inj.mp
  apply BitVec.eq_of_getLsbD_eq
  intro i hi
  by_cases h16 : i < 16
  · have := h i h16
    unfold zb at this
    cases h1 : x.toBitVec.getLsbD i <;> cases h2 : y.toBitVec.getLsbD i <;> simp_all
  · have a1 : ¬ zb x i := fun q => h16 (zb_lt (n := 16) hx.1 (by have : ((2 ^ 16 : Nat) : Int) = 65536 := by decide
                                                                 omega) q)
    have a2 : ¬ zb y i := fun q => h16 (zb_lt (n := 16) hy.1 (by have : ((2 ^ 16 : Nat) : Int) = 65536 := by decide
                                                                 omega) q)
    unfold zb at a1 a2
    simp only [Bool.not_eq_true] at a1 a2
    rw [a1, a2]
/-- the bit that the code asks for -/
theorem zb_ask {x y : Int32} {p : Nat} (hx : 0 ≤ x.toInt) (hy : y.toInt = (p : Int)) (hp : p < 31) {r : Int32} (hr : r = (x >>> (y &&& 31)) &&& 1) : (r.toInt = 1 ∧ ib x p = true) ∨ (r.toInt = 0 ∧ ib x p = false) := by
  subst hr
  rcases zb_get hx hy hp with ⟨h1, h2⟩ | ⟨h1, h2⟩
  · exact Or.inl ⟨h1, h2⟩
  · exact Or.inr ⟨h1, ib_no.mpr h2⟩
theorem z_clI {x : Int32} (h : 0 ≤ x.toInt) : ((Int32.toNatClampNeg x : Nat) : Int) = x.toInt := by
  rw [z_cl (k := x.toInt.toNat) (by omega)]
  omega
