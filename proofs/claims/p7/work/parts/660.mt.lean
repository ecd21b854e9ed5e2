-- what lies in an array
def zar (e : va_E) : Nat → Int32 := match e with
  | .inl (_, _, .inl f) => f
  | _ => fun _ => 0
theorem zar_of {e : va_E} {cA : ClassId} {n : Nat} {f : Nat → Int32} (h : e = .inl (cA, n, .inl f)) : zar e = f := by
  subst h
  rfl
theorem upd_sm {f : Nat → Int32} {k : Nat} {v : Int32} : upd f k v k = v := by
  unfold upd
  rw [if_pos rfl]
theorem upd_other {f : Nat → Int32} {k i : Nat} {v : Int32} (h : i ≠ k) : upd f k v i = f i := by
  unfold upd
  rw [if_neg h]
-- bits
def zb (x : Int32) (k : Nat) : Prop := x.toBitVec.getLsbD k = true
theorem zb_and {x y : Int32} {k : Nat} : zb (x &&& y) k ↔ zb x k ∧ zb y k := by
  unfold zb
  rw [Int32.toBitVec_and, BitVec.getLsbD_and, Bool.and_eq_true]
theorem zb_or {x y : Int32} {k : Nat} : zb (x ||| y) k ↔ zb x k ∨ zb y k := by
  unfold zb
  rw [Int32.toBitVec_or, BitVec.getLsbD_or, Bool.or_eq_true]
theorem zb_not {x : Int32} {k : Nat} (hk : k < 32) : zb (x ^^^ (-1)) k ↔ ¬ zb x k := by
  unfold zb
  have h : ((-1 : Int32)).toBitVec = BitVec.allOnes 32 := by decide
  rw [Int32.toBitVec_xor, BitVec.getLsbD_xor, h, BitVec.getLsbD_allOnes, decide_eq_true hk]
  cases x.toBitVec.getLsbD k <;> decide
theorem zb_shlc : ∀ j, j < 31 → ∀ k, k < 32 → ((1 : Int32) <<< (nI j &&& 31)).toBitVec.getLsbD k = decide (k = j) := by decide +kernel
theorem zb_shl {y : Int32} {p k : Nat} (hy : y.toInt = (p : Int)) (hp : p < 31) : zb ((1 : Int32) <<< (y &&& 31)) k ↔ k = p := by
  obtain rfl : y = nI p := z_nI hy
  unfold zb
  by_cases hk : k < 32
  · rw [zb_shlc p hp k hk, decide_eq_true_iff]
  · rw [BitVec.getLsbD_of_ge _ _ (by omega)]
    constructor
    · intro h; cases h
    · intro h; omega
theorem zb_0 {k : Nat} : ¬ zb 0 k := by
  unfold zb
  have h : (0 : Int32).toBitVec = 0#32 := by decide
  rw [h, BitVec.getLsbD_zero]
  intro h; cases h
theorem zb_iff {x : Int32} {k : Nat} (h : 0 ≤ x.toInt) : zb x k ↔ x.toInt.toNat / 2 ^ k % 2 = 1 := by
  obtain ⟨h1, h2⟩ := z_nat (y := x) h
  have h3 : x.toInt.toNat = x.toBitVec.toNat := by omega
  unfold zb
  rw [h3, BitVec.getLsbD, Nat.testBit_eq_decide_div_mod_eq, decide_eq_true_iff]
theorem z_and1 {a : Int32} (h : 0 ≤ a.toInt) : (a &&& 1).toInt = a.toInt % 2 := by
  obtain ⟨h1, h2⟩ := z_nat (y := a) h
  have e : (a &&& 1).toBitVec.toNat = a.toBitVec.toNat % 2 := by rw [Int32.toBitVec_and, BitVec.toNat_and, show (1 : Int32).toBitVec.toNat = 1 from rfl, Nat.and_one_is_mod]
  have h4 := z_ofnat (y := a &&& 1) (by omega)
  omega
theorem z_smod : ∀ j, j < 31 → ((nI j &&& 31).toBitVec.smod 32).toNat = j := by decide +kernel
theorem z_shrp {x y : Int32} {p : Nat} (hx : 0 ≤ x.toInt) (hy : y.toInt = (p : Int)) (hp : p < 31) : (x >>> (y &&& 31)).toInt = ((x.toInt.toNat / 2 ^ p : Nat) : Int) := by
  obtain rfl : y = nI p := z_nI hy
  rw [pk_shr x (nI p &&& 31) _ rfl, Int.shiftRight_eq_div_pow, z_smod p hp, Int.natCast_ediv, Int.toNat_of_nonneg hx]
theorem zb_get {x y : Int32} {p : Nat} (hx : 0 ≤ x.toInt) (hy : y.toInt = (p : Int)) (hp : p < 31) : (((x >>> (y &&& 31)) &&& 1).toInt = 1 ∧ zb x p) ∨ (((x >>> (y &&& 31)) &&& 1).toInt = 0 ∧ ¬ zb x p) := by
  have h1 := z_shrp hx hy hp
  have h2 : 0 ≤ (x >>> (y &&& 31)).toInt := by
    rw [h1]
    exact Int.natCast_nonneg _
  rw [z_and1 h2, h1, zb_iff hx]
  generalize x.toInt.toNat / 2 ^ p = n
  omega
theorem zb_lt {x : Int32} {n k : Nat} (h0 : 0 ≤ x.toInt) (h : x.toInt < ((2 ^ n : Nat) : Int)) (hk : zb x k) : k < n := by
  apply Classical.byContradiction
  intro q
  have h3 := (zb_iff h0).mp hk
  have h4 : x.toInt.toNat < 2 ^ n := by omega
  have h5 : 2 ^ n ≤ 2 ^ k := Nat.pow_le_pow_right (by decide) (by omega)
  rw [Nat.div_eq_of_lt (by omega)] at h3
  omega
theorem zb_none {x : Int32} {n : Nat} (h0 : 0 ≤ x.toInt) (h : x.toInt < ((2 ^ n : Nat) : Int)) (hk : ∀ k, k < n → ¬ zb x k) : x.toInt = 0 := by
  obtain ⟨h1, h2⟩ := z_nat (y := x) h0
  have e : x.toBitVec.toNat = 0 := by
    apply Nat.eq_of_testBit_eq
    intro i
    rw [Nat.zero_testBit]
    cases hb : x.toBitVec.toNat.testBit i with
    | false => rfl
    | true =>
      have hz : zb x i := by
        unfold zb
        rw [BitVec.getLsbD]
        exact hb
      exact absurd hz (hk i (zb_lt h0 h hz))
  omega
theorem z_orle {x y : Int32} {n : Nat} (hn : n ≤ 30) (h1 : 0 ≤ x.toInt) (h2 : x.toInt < ((2 ^ n : Nat) : Int)) (h3 : 0 ≤ y.toInt) (h4 : y.toInt < ((2 ^ n : Nat) : Int)) : x.toInt ≤ (x ||| y).toInt := by
  obtain ⟨a1, a2⟩ := z_nat (y := x) h1
  obtain ⟨b1, b2⟩ := z_nat (y := y) h3
  have e : (x ||| y).toBitVec.toNat = x.toBitVec.toNat ||| y.toBitVec.toNat := by rw [Int32.toBitVec_or, BitVec.toNat_or]
  have h5 : x.toBitVec.toNat ||| y.toBitVec.toNat < 2 ^ n := Nat.or_lt_two_pow (by omega) (by omega)
  have h6 : 2 ^ n ≤ 2 ^ 30 := Nat.pow_le_pow_right (by decide) hn
  have h7 := z_ofnat (y := x ||| y) (by omega)
  have h8 : x.toBitVec.toNat ≤ x.toBitVec.toNat ||| y.toBitVec.toNat := Nat.left_le_or
  omega
theorem z_orlt {x y : Int32} {n : Nat} (hn : n ≤ 30) (h1 : 0 ≤ x.toInt) (h2 : x.toInt < ((2 ^ n : Nat) : Int)) (h3 : 0 ≤ y.toInt) (h4 : y.toInt < ((2 ^ n : Nat) : Int)) (hd : ¬ (y &&& (x ^^^ (-1))).toInt = 0) : x.toInt < (x ||| y).toInt := by
  have hle := z_orle hn h1 h2 h3 h4
  apply Classical.byContradiction
  intro q
  have e : (x ||| y) = x := Int32.toInt_inj.mp (by omega)
  apply hd
  have hz : (y &&& (x ^^^ (-1))).toBitVec = 0#32 := by
    apply BitVec.eq_of_getLsbD_eq
    intro i hi
    rw [BitVec.getLsbD_zero]
    cases hb : (y &&& (x ^^^ (-1))).toBitVec.getLsbD i with
    | false => rfl
    | true =>
      have hb2 : zb (y &&& (x ^^^ (-1))) i := hb
      rw [zb_and, zb_not hi] at hb2
      have hb3 : zb (x ||| y) i := zb_or.mpr (Or.inr hb2.1)
      rw [e] at hb3
      exact absurd hb3 hb2.2
  show (y &&& (x ^^^ (-1))).toBitVec.toInt = 0
  rw [hz]
  rfl
-- how many bits, as the loop counts them
def zpop (x : Int32) : Nat → Int
  | 0 => 0
  | k + 1 => zpop x k + ((x >>> (nI k &&& 31)) &&& 1).toInt
theorem zpop_all : ∀ s, s < 17 → zpop ((1 : Int32) <<< (nI s &&& 31) - 1) 16 = ((s : Nat) : Int) := by decide +kernel
theorem zpop_step {x y n r s : Int32} {k : Nat} (hy : y.toInt = (k : Int)) (hn : n.toInt = zpop x k) (hr : r = s &&& 1) (hs : s = x >>> (y &&& 31)) : n.toInt + r.toInt = zpop x (k + 1) := by
  obtain rfl : y = nI k := z_nI hy
  rw [hn, hr, hs]
  rfl
theorem z_shl1e {y : Int32} (h0 : 0 ≤ y.toInt) (h1 : y.toInt ≤ 16) : ((1 : Int32) <<< (y &&& 31)).toInt = ((2 ^ y.toInt.toNat : Nat) : Int) ∧ 1 ≤ ((1 : Int32) <<< (y &&& 31)).toInt ∧ ((1 : Int32) <<< (y &&& 31)).toInt ≤ 65536 := by
  have e : y = nI y.toInt.toNat := z_nI (by omega)
  have h2 := z_shl1c y.toInt.toNat (by omega)
  rw [← e] at h2
  have h3 := z_shl1 (y := y) rfl h0 (k := 16) (by decide) (by omega)
  have h4 : ((2 ^ 16 : Nat) : Int) = 65536 := by decide
  rw [h4] at h3
  exact ⟨h2, h3⟩
def ZE (x : Int32) (i : Int) : Prop := ∃ k : Nat, i ≤ (k : Int) ∧ k < 8 ∧ zb x k
theorem ZE_start {x : Int32} (h0 : 0 ≤ x.toInt) (h1 : x.toInt ≤ 255) (hn : ¬ x.toInt = 0) : ZE x 0 := by
  apply Classical.byContradiction
  intro q
  have h4 : ((2 ^ 8 : Nat) : Int) = 256 := by decide
  exact hn (zb_none (n := 8) h0 (by omega) (fun k hk hz => q ⟨k, by omega, hk, hz⟩))
theorem ZE_lt {x : Int32} {i : Int} (h : ZE x i) : i ≤ 7 := by
  obtain ⟨k, k1, k2, -⟩ := h
  omega
theorem ZE_next {x : Int32} {i : Int} (h : ZE x i) (hn : ¬ zb x i.toNat) : ZE x (i + 1) := by
  obtain ⟨k, k1, k2, k3⟩ := h
  refine ⟨k, ?_, k2, k3⟩
  have : (k : Int) ≠ i := fun e => hn (by rw [← e, Int.toNat_natCast]; exact k3)
  omega
-- sums
def zsum (f : Nat → Int32) : Nat → Int
  | 0 => 0
  | n + 1 => zsum f n + (f n).toInt
theorem zsum_le {f g : Nat → Int32} : ∀ {n : Nat}, (∀ k, k < n → (f k).toInt ≤ (g k).toInt) → zsum f n ≤ zsum g n := by
  intro n
  induction n with
  | zero => intro _; exact Int.le_refl _
  | succ n ih =>
    intro h
    have h1 := ih (fun k hk => h k (by omega))
    have h2 := h n (by omega)
    show zsum f n + _ ≤ zsum g n + _
    omega
theorem zsum_lt {f g : Nat → Int32} : ∀ {n : Nat}, (∀ k, k < n → (f k).toInt ≤ (g k).toInt) → (∃ k, k < n ∧ (f k).toInt < (g k).toInt) → zsum f n < zsum g n := by
  intro n
  induction n with
  | zero => intro _ h; obtain ⟨k, hk, -⟩ := h; omega
  | succ n ih =>
    intro h he
    obtain ⟨k, hk, hl⟩ := he
    have h2 := h n (by omega)
    show zsum f n + _ < zsum g n + _
    by_cases q : k = n
    · subst q
      have h1 := zsum_le (n := k) (fun j hj => h j (by omega))
      omega
    · have h1 := ih (fun j hj => h j (by omega)) ⟨k, by omega, hl⟩
      omega
theorem zsum_01 {f : Nat → Int32} : ∀ {n : Nat}, (∀ k, k < n → 0 ≤ (f k).toInt ∧ (f k).toInt ≤ 1) → 0 ≤ zsum f n ∧ zsum f n ≤ (n : Int) := by
  intro n
  induction n with
  | zero => intro _; exact ⟨Int.le_refl _, Int.le_refl _⟩
  | succ n ih =>
    intro h
    have h1 := ih (fun k hk => h k (by omega))
    have h2 := h n (by omega)
    show 0 ≤ zsum f n + _ ∧ zsum f n + _ ≤ _
    omega
theorem zsum_0 {f : Nat → Int32} : ∀ {n : Nat}, (∀ k, k < n → 0 ≤ (f k).toInt) → 0 ≤ zsum f n := by
  intro n
  induction n with
  | zero => intro _; exact Int.le_refl _
  | succ n ih =>
    intro h
    have h1 := ih (fun k hk => h k (by omega))
    have h2 := h n (by omega)
    show 0 ≤ zsum f n + _
    omega
/-- two places, unlike ones, are set -/
theorem zsum_set {R : Nat → Int32} {a b : Nat} {v : Int32} (hv : v.toInt = 1) (h01 : ∀ k, k < 32 → 0 ≤ (R k).toInt ∧ (R k).toInt ≤ 1) (ha : a < 32) (hb : b < 32) (hne : ¬ (R a).toInt = (R b).toInt) : zsum R 32 < zsum (upd (upd R a v) b v) 32 := by
  have hab : a ≠ b := fun q => hne (by rw [q])
  have e1 : (upd (upd R a v) b v a).toInt = 1 := by rw [upd_other hab, upd_sm]; exact hv
  have e2 : (upd (upd R a v) b v b).toInt = 1 := by rw [upd_sm]; exact hv
  refine zsum_lt (fun k hk => ?_) ?_
  · have := h01 k hk
    by_cases q : k = b
    · subst q; omega
    · by_cases q2 : k = a
      · subst q2; omega
      · rw [upd_other q, upd_other q2]
        exact Int.le_refl _
  · have h1 := h01 a ha
    have h2 := h01 b hb
    by_cases q : (R a).toInt = 0
    · exact ⟨a, ha, by omega⟩
    · exact ⟨b, hb, by omega⟩
-- a round of STEP BY STEP
def rnl (F0 F : Nat → Int32) (some : Int) : Prop := (∀ l, l < 8 → (F l).toInt ≤ (F0 l).toInt) ∧ (some = 1 → ∃ l, l < 8 ∧ (F l).toInt < (F0 l).toInt)
theorem rnl_start {F : Nat → Int32} : rnl F F 0 := ⟨fun _ _ => Int.le_refl _, fun h => absurd h (by decide)⟩
theorem rnl_upd {F0 F : Nat → Int32} {s : Int} {i : Nat} {v : Int32} (h : rnl F0 F s) (hv : v.toInt ≤ (F i).toInt) : rnl F0 (upd F i v) s := by
  have e : ∀ l, (upd F i v l).toInt ≤ (F l).toInt := fun l => by
    by_cases q : l = i
    · subst q; rw [upd_sm]; exact hv
    · rw [upd_other q]; exact Int.le_refl _
  refine ⟨fun l hl => Int.le_trans (e l) (h.1 l hl), fun q => ?_⟩
  obtain ⟨l, h1, h2⟩ := h.2 q
  exact ⟨l, h1, by have := e l; omega⟩
theorem rnl_some {F0 F : Nat → Int32} {s : Int} {i : Nat} (h : rnl F0 F s) (hi : i < 8) (hne : ¬ (F i).toInt = (F0 i).toInt) : rnl F0 F 1 :=
  ⟨h.1, fun _ => ⟨i, hi, by have := h.1 i hi; omega⟩⟩
theorem rnl_keep {F0 F : Nat → Int32} {s t : Int} (h : rnl F0 F s) (ht : t = 1 → s = 1) : rnl F0 F t := ⟨h.1, fun q => h.2 (ht q)⟩
theorem rnl_le {F0 F : Nat → Int32} {s : Int} (h : rnl F0 F s) : zsum F 8 ≤ zsum F0 8 := zsum_le h.1
theorem rnl_lt {F0 F : Nat → Int32} {s : Int} (h : rnl F0 F s) (hs : s = 1) : zsum F 8 < zsum F0 8 := zsum_lt h.1 (h.2 hs)
-- pigeons
theorem pig : ∀ (n : Nat) (f : Nat → Nat), (∀ i, i ≤ n → f i < n) → (∀ i j, i < j → j ≤ n → f i ≠ f j) → False := by
  intro n
  induction n with
  | zero => intro f h _; exact absurd (h 0 (Nat.le_refl _)) (Nat.not_lt_zero _)
  | succ n ih =>
    intro f h hi
    refine ih (fun i => if f i = n then f (n + 1) else f i) (fun i hle => ?_) (fun i j hij hj => ?_)
    · have h1 := h i (by omega)
      have h2 := h (n + 1) (Nat.le_refl _)
      have h3 := hi i (n + 1) (by omega) (Nat.le_refl _)
      show (if f i = n then f (n + 1) else f i) < n
      split <;> omega
    · have h1 := hi i j hij (by omega)
      have h2 := hi i (n + 1) (by omega) (Nat.le_refl _)
      have h3 := hi j (n + 1) (by omega) (Nat.le_refl _)
      show (if f i = n then f (n + 1) else f i) ≠ (if f j = n then f (n + 1) else f j)
      split <;> split <;> omega
def zix (W : Nat → Int32) (x : Int) : Nat → Nat
  | 0 => 0
  | n + 1 => if (W n).toInt = x then n else zix W x n
theorem zix_at {W : Nat → Int32} : ∀ {n k : Nat}, (∀ i j, i < j → j < n → (W i).toInt ≠ (W j).toInt) → k < n → zix W (W k).toInt n = k := by
  intro n
  induction n with
  | zero => intro k _ hk; omega
  | succ n ih =>
    intro k h hk
    show (if (W n).toInt = (W k).toInt then n else zix W (W k).toInt n) = k
    by_cases q : k = n
    · subst q; rw [if_pos rfl]
    · rw [if_neg (fun e => h k n (by omega) (by omega) e.symm)]
      exact ih (fun i j h1 h2 => h i j h1 (by omega)) (by omega)
