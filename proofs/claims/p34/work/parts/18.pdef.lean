def pNo : Nat → Bool := fun _ => false
def pAll : Nat → Bool := fun k => decide (k < 126)
theorem pAll_of {k : Nat} (h : k < 126) : pAll k = true := decide_eq_true h
theorem pAll_no {k : Nat} (h : ¬ (k < 126)) : ¬ dIn pAll k := fun q => h (of_decide_eq_true q.2)
def pCl : Nat → Bool := fun k => decide (k < 10 ∨ (17 ≤ k ∧ k < 126))
theorem pCl_of {k : Nat} (h : k < 10 ∨ (17 ≤ k ∧ k < 126)) : pCl k = true := decide_eq_true h
theorem pCl_no {k : Nat} (h : ¬ (k < 10 ∨ (17 ≤ k ∧ k < 126))) : ¬ dIn pCl k := fun q => h (of_decide_eq_true q.2)
def pM : Nat → Bool := fun k => decide (10 ≤ k ∧ k < 17)
theorem pM_of {k : Nat} (h : 10 ≤ k ∧ k < 17) : pM k = true := decide_eq_true h
theorem pM_no {k : Nat} (h : ¬ (10 ≤ k ∧ k < 17)) : ¬ dIn pM k := fun q => h (of_decide_eq_true q.2)
def pT : Nat → Bool := fun k => decide (3 ≤ k ∧ k < 5)
theorem pT_of {k : Nat} (h : 3 ≤ k ∧ k < 5) : pT k = true := decide_eq_true h
theorem pT_no {k : Nat} (h : ¬ (3 ≤ k ∧ k < 5)) : ¬ dIn pT k := fun q => h (of_decide_eq_true q.2)
def pL : Nat → Bool := fun k => decide (6 ≤ k ∧ k < 9)
theorem pL_of {k : Nat} (h : 6 ≤ k ∧ k < 9) : pL k = true := decide_eq_true h
theorem pL_no {k : Nat} (h : ¬ (6 ≤ k ∧ k < 9)) : ¬ dIn pL k := fun q => h (of_decide_eq_true q.2)
def pQ : Nat → Bool := fun k => decide (17 ≤ k ∧ k < 21)
theorem pQ_of {k : Nat} (h : 17 ≤ k ∧ k < 21) : pQ k = true := decide_eq_true h
theorem pQ_no {k : Nat} (h : ¬ (17 ≤ k ∧ k < 21)) : ¬ dIn pQ k := fun q => h (of_decide_eq_true q.2)
def pA : Nat → Bool := fun k => decide (k = 1 ∨ (17 ≤ k ∧ k < 21) ∨ (35 ≤ k ∧ k < 55))
theorem pA_of {k : Nat} (h : k = 1 ∨ (17 ≤ k ∧ k < 21) ∨ (35 ≤ k ∧ k < 55)) : pA k = true := decide_eq_true h
theorem pA_no {k : Nat} (h : ¬ (k = 1 ∨ (17 ≤ k ∧ k < 21) ∨ (35 ≤ k ∧ k < 55))) : ¬ dIn pA k := fun q => h (of_decide_eq_true q.2)
def pBl : Nat → Bool := fun k => decide (21 ≤ k ∧ k < 34)
theorem pBl_of {k : Nat} (h : 21 ≤ k ∧ k < 34) : pBl k = true := decide_eq_true h
theorem pBl_no {k : Nat} (h : ¬ (21 ≤ k ∧ k < 34)) : ¬ dIn pBl k := fun q => h (of_decide_eq_true q.2)
def pK : Nat → Bool := fun k => decide (35 ≤ k ∧ k < 55)
theorem pK_of {k : Nat} (h : 35 ≤ k ∧ k < 55) : pK k = true := decide_eq_true h
theorem pK_no {k : Nat} (h : ¬ (35 ≤ k ∧ k < 55)) : ¬ dIn pK k := fun q => h (of_decide_eq_true q.2)
def pB : Nat → Bool := fun k => decide (55 ≤ k ∧ k < 99)
theorem pB_of {k : Nat} (h : 55 ≤ k ∧ k < 99) : pB k = true := decide_eq_true h
theorem pB_no {k : Nat} (h : ¬ (55 ≤ k ∧ k < 99)) : ¬ dIn pB k := fun q => h (of_decide_eq_true q.2)
def pG : Nat → Bool := fun k => decide (k = 34 ∨ (99 ≤ k ∧ k < 126))
theorem pG_of {k : Nat} (h : k = 34 ∨ (99 ≤ k ∧ k < 126)) : pG k = true := decide_eq_true h
theorem pG_no {k : Nat} (h : ¬ (k = 34 ∨ (99 ≤ k ∧ k < 126))) : ¬ dIn pG k := fun q => h (of_decide_eq_true q.2)
def pGT : Nat → Bool := fun k => decide ((3 ≤ k ∧ k < 5) ∨ k = 34 ∨ (99 ≤ k ∧ k < 126))
theorem pGT_of {k : Nat} (h : (3 ≤ k ∧ k < 5) ∨ k = 34 ∨ (99 ≤ k ∧ k < 126)) : pGT k = true := decide_eq_true h
theorem pGT_no {k : Nat} (h : ¬ ((3 ≤ k ∧ k < 5) ∨ k = 34 ∨ (99 ≤ k ∧ k < 126))) : ¬ dIn pGT k := fun q => h (of_decide_eq_true q.2)
theorem sub_pCl_pAll : ∀ k, pCl k = true → pAll k = true := fun k h => pAll_of (by have := of_decide_eq_true h; omega)
theorem sub_pM_pAll : ∀ k, pM k = true → pAll k = true := fun k h => pAll_of (by have := of_decide_eq_true h; omega)
theorem sub_pT_pAll : ∀ k, pT k = true → pAll k = true := fun k h => pAll_of (by have := of_decide_eq_true h; omega)
theorem sub_pT_pCl : ∀ k, pT k = true → pCl k = true := fun k h => pCl_of (by have := of_decide_eq_true h; omega)
theorem sub_pT_pGT : ∀ k, pT k = true → pGT k = true := fun k h => pGT_of (by have := of_decide_eq_true h; omega)
theorem sub_pL_pAll : ∀ k, pL k = true → pAll k = true := fun k h => pAll_of (by have := of_decide_eq_true h; omega)
theorem sub_pL_pCl : ∀ k, pL k = true → pCl k = true := fun k h => pCl_of (by have := of_decide_eq_true h; omega)
theorem sub_pQ_pAll : ∀ k, pQ k = true → pAll k = true := fun k h => pAll_of (by have := of_decide_eq_true h; omega)
theorem sub_pQ_pCl : ∀ k, pQ k = true → pCl k = true := fun k h => pCl_of (by have := of_decide_eq_true h; omega)
theorem sub_pQ_pA : ∀ k, pQ k = true → pA k = true := fun k h => pA_of (by have := of_decide_eq_true h; omega)
theorem sub_pA_pAll : ∀ k, pA k = true → pAll k = true := fun k h => pAll_of (by have := of_decide_eq_true h; omega)
theorem sub_pA_pCl : ∀ k, pA k = true → pCl k = true := fun k h => pCl_of (by have := of_decide_eq_true h; omega)
theorem sub_pBl_pAll : ∀ k, pBl k = true → pAll k = true := fun k h => pAll_of (by have := of_decide_eq_true h; omega)
theorem sub_pBl_pCl : ∀ k, pBl k = true → pCl k = true := fun k h => pCl_of (by have := of_decide_eq_true h; omega)
theorem sub_pK_pAll : ∀ k, pK k = true → pAll k = true := fun k h => pAll_of (by have := of_decide_eq_true h; omega)
theorem sub_pK_pCl : ∀ k, pK k = true → pCl k = true := fun k h => pCl_of (by have := of_decide_eq_true h; omega)
theorem sub_pK_pA : ∀ k, pK k = true → pA k = true := fun k h => pA_of (by have := of_decide_eq_true h; omega)
theorem sub_pB_pAll : ∀ k, pB k = true → pAll k = true := fun k h => pAll_of (by have := of_decide_eq_true h; omega)
theorem sub_pB_pCl : ∀ k, pB k = true → pCl k = true := fun k h => pCl_of (by have := of_decide_eq_true h; omega)
theorem sub_pG_pAll : ∀ k, pG k = true → pAll k = true := fun k h => pAll_of (by have := of_decide_eq_true h; omega)
theorem sub_pG_pCl : ∀ k, pG k = true → pCl k = true := fun k h => pCl_of (by have := of_decide_eq_true h; omega)
theorem sub_pG_pGT : ∀ k, pG k = true → pGT k = true := fun k h => pGT_of (by have := of_decide_eq_true h; omega)
theorem sub_pGT_pAll : ∀ k, pGT k = true → pAll k = true := fun k h => pAll_of (by have := of_decide_eq_true h; omega)
theorem sub_pGT_pCl : ∀ k, pGT k = true → pCl k = true := fun k h => pCl_of (by have := of_decide_eq_true h; omega)
theorem va_up_up {f : Nat → va_E} {k : Nat} {a b : va_E} : va_up (va_up f k a) k b = va_up f k b := by
  funext j
  unfold va_up
  split <;> rfl
theorem z_addl {l v x y s : Int32} (h0 : 0 ≤ l.toInt) (h7 : l.toInt ≤ 7) (hv0 : 0 ≤ v.toInt) (hv : v.toInt < ((2 ^ l.toInt.toNat : Nat) : Int)) (hs : s = (1 : Int32) <<< (l &&& 31)) (hy : y = v ||| s) (hx : x.toInt = l.toInt + 1) : y.toInt < ((2 ^ x.toInt.toNat : Nat) : Int) := by
  have h1 := z_shl1c l.toInt.toNat (by omega)
  rw [← z_nI (x := l) (k := l.toInt.toNat) (by omega), ← hs] at h1
  have h2 : 2 ^ (l.toInt.toNat + 1) = 2 ^ l.toInt.toNat + 2 ^ l.toInt.toNat := by rw [Nat.pow_succ]; omega
  have h3 : 1 ≤ 2 ^ l.toInt.toNat := Nat.one_le_two_pow
  have h4 := z_or (x := v) (y := s) rfl rfl (k := l.toInt.toNat + 1) (N := ((2 ^ (l.toInt.toNat + 1) : Nat) : Int)) (by omega) rfl hv0 (by omega) (by omega) (by omega)
  rw [show x.toInt.toNat = l.toInt.toNat + 1 by omega, hy]
  exact h4.2
theorem DM.K {l : Launch} {g : zG} {P : Nat → Bool} {al : Bool} {y : MethodName} {cc : ByteArray} {mL : Nat} {rt : Option FieldType} {rm : Room} {K0 : (Nat → va_E) → Option Value → Prop} {σ : Nat → va_E} {av : List Value} (h : ∀ K, K = K0 → DM l g P al y cc mL rt rm K σ av) : DM l g P al y cc mL rt rm K0 σ av := h _ rfl
theorem zF1_r {b : Nat} {x : Int32} (h0 : 0 ≤ x.toInt) (h : x.toInt < 4) : zF1 idn b x.toNatClampNeg = some (b + 35 + 5 * x.toInt.toNat) := by
  rw [z_cl (k := x.toInt.toNat) (by omega)]
  unfold zF1
  rw [if_pos (by omega)]
theorem zF5_r {b : Nat} {x : Int32} (h0 : 0 ≤ x.toInt) (h : x.toInt < 4) : zF5 idn b x.toNatClampNeg = some (b + 55 + 11 * x.toInt.toNat) := by
  rw [z_cl (k := x.toInt.toNat) (by omega)]
  unfold zF5
  rw [if_pos (by omega)]
theorem zF22_r {b : Nat} {x : Int32} (h0 : 0 ≤ x.toInt) (h : x.toInt < 4) : zF22 idn b x.toNatClampNeg = some (b + 26 + 1 * x.toInt.toNat) := by
  rw [z_cl (k := x.toInt.toNat) (by omega)]
  unfold zF22
  rw [if_pos (by omega)]
theorem zF23_r {b : Nat} {x : Int32} (h0 : 0 ≤ x.toInt) (h : x.toInt < 4) : zF23 idn b x.toNatClampNeg = some (b + 30 + 1 * x.toInt.toNat) := by
  rw [z_cl (k := x.toInt.toNat) (by omega)]
  unfold zF23
  rw [if_pos (by omega)]
theorem zF42_r {b : Nat} {x : Int32} (h0 : 0 ≤ x.toInt) (h : x.toInt < 8) : zF42 idn b x.toNatClampNeg = some (b + 1 + 1 * x.toInt.toNat) := by
  rw [z_cl (k := x.toInt.toNat) (by omega)]
  unfold zF42
  rw [if_pos (by omega)]
