/-- a TREE as it lies behind the cells' addresses -/
def zTr (ad : Nat → Nat) (o j : Nat) : Int := (ad (3 * (o + j) + 1) : Int) - 1
def fT (f : Nat → Int32) (j : Nat) : Int := (f j).toInt
/-- how often a way up of n steps from x meets j -/
def zvis (T : Nat → Int) (j : Nat) : Nat → Int → Int
  | 0, _ => 0
  | n + 1, x => if 0 ≤ x ∧ x ≤ 31 then (if x = (j : Int) then 1 else 0) + zvis T j n (T x.toNat) else 0
def zbl (T : Nat → Int) (j : Nat) (x : Int) : Int := if j = 32 then 1 else zvis T j 32 x
def zblN (T : Nat → Int) (j : Nat) : Nat → Int
  | 0 => 0
  | k + 1 => zblN T j k + zbl T j (k : Int)
/-- some steps up -/
def zrs (T : Nat → Int) : Nat → Int → Int
  | 0, x => x
  | n + 1, x => if 0 ≤ x ∧ x ≤ 31 then zrs T n (if T x.toNat = -1 then 32 else T x.toNat) else x
theorem zrs_out {T : Nat → Int} {n : Nat} {x : Int} (h : ¬ (0 ≤ x ∧ x ≤ 31)) : zrs T n x = x := by
  cases n with
  | zero => rfl
  | succ n => exact if_neg h
theorem zrs_st {T : Nat → Int} {n : Nat} {x : Int} (h : 0 ≤ x ∧ x ≤ 31) : zrs T (n + 1) x = zrs T n (if T x.toNat = -1 then 32 else T x.toNat) := if_pos h
theorem zvis_out {T : Nat → Int} {j n : Nat} {x : Int} (h : ¬ (0 ≤ x ∧ x ≤ 31)) : zvis T j n x = 0 := by
  cases n with
  | zero => rfl
  | succ n => exact if_neg h
theorem zvis_st {T : Nat → Int} {j n : Nat} {x : Int} (h : 0 ≤ x ∧ x ≤ 31) : zvis T j (n + 1) x = (if x = (j : Int) then 1 else 0) + zvis T j n (T x.toNat) := if_pos h
theorem zvis_bd (T : Nat → Int) (j : Nat) : ∀ (n : Nat) (x : Int), 0 ≤ zvis T j n x ∧ zvis T j n x ≤ n := by
  intro n
  induction n with
  | zero => intro x; exact ⟨Int.le_refl 0, Int.le_refl 0⟩
  | succ n ih =>
    intro x
    by_cases h : 0 ≤ x ∧ x ≤ 31
    · rw [zvis_st h]
      have := ih (T x.toNat)
      split <;> omega
    · rw [zvis_out h]
      omega
theorem zbl_bd {T : Nat → Int} {j : Nat} {x : Int} : 0 ≤ zbl T j x ∧ zbl T j x ≤ 32 := by
  unfold zbl
  split
  · omega
  · have := zvis_bd T j 32 x
    omega
theorem zblN_bd (T : Nat → Int) (j : Nat) : ∀ k : Nat, 0 ≤ zblN T j k ∧ zblN T j k ≤ 32 * (k : Int) := by
  intro k
  induction k with
  | zero => exact ⟨Int.le_refl 0, Int.le_refl 0⟩
  | succ k ih =>
    have := zbl_bd (T := T) (j := j) (x := (k : Int))
    have e : zblN T j (k + 1) = zblN T j k + zbl T j (k : Int) := rfl
    omega
theorem zblN_lt {T : Nat → Int} {j k : Nat} (h : j < 32) : zblN T j (k + 1) = zblN T j k + zvis T j 32 (k : Int) := by
  show zblN T j k + zbl T j (k : Int) = _
  unfold zbl
  rw [if_neg (by omega)]
theorem zblN_all (T : Nat → Int) : ∀ k : Nat, zblN T 32 k = (k : Int) := by
  intro k
  induction k with
  | zero => rfl
  | succ k ih =>
    show zblN T 32 k + zbl T 32 (k : Int) = _
    unfold zbl
    rw [if_pos rfl, ih]
    omega
theorem zvis_cg {T U : Nat → Int} (h : ∀ i, i < 32 → T i = U i) (j : Nat) : ∀ (n : Nat) (x : Int), zvis T j n x = zvis U j n x := by
  intro n
  induction n with
  | zero => intro x; rfl
  | succ n ih =>
    intro x
    by_cases q : 0 ≤ x ∧ x ≤ 31
    · rw [zvis_st q, zvis_st q, h _ (by omega), ih]
    · rw [zvis_out q, zvis_out q]
theorem zblN_cg {T U : Nat → Int} (h : ∀ i, i < 32 → T i = U i) (j : Nat) : ∀ k : Nat, zblN T j k = zblN U j k := by
  intro k
  induction k with
  | zero => rfl
  | succ k ih =>
    show zblN T j k + zbl T j (k : Int) = zblN U j k + zbl U j (k : Int)
    rw [ih]
    unfold zbl
    rw [zvis_cg h]
theorem zrs_cg {T U : Nat → Int} (h : ∀ i, i < 32 → T i = U i) : ∀ (n : Nat) (x : Int), zrs T n x = zrs U n x := by
  intro n
  induction n with
  | zero => intro x; rfl
  | succ n ih =>
    intro x
    by_cases q : 0 ≤ x ∧ x ≤ 31
    · rw [zrs_st q, zrs_st q, h _ (by omega), ih]
    · rw [zrs_out q, zrs_out q]
/-- every UPPER one has a higher number -/
def zAsc (T : Nat → Int) : Prop := ∀ i : Nat, i < 32 → T i = -1 ∨ ((i : Int) < T i ∧ T i ≤ 31)
theorem zvis_gt {T : Nat → Int} (hT : zAsc T) (j : Nat) : ∀ (n : Nat) (x : Int), (x = -1 ∨ (j : Int) < x) → zvis T j n x = 0 := by
  intro n
  induction n with
  | zero => intro x _; rfl
  | succ n ih =>
    intro x hx
    by_cases q : 0 ≤ x ∧ x ≤ 31
    · rw [zvis_st q, if_neg (by omega), ih]
      · rfl
      · rcases hT x.toNat (by omega) with h | h
        · exact Or.inl h
        · right
          omega
    · exact zvis_out q
theorem zvis_self {T : Nat → Int} (hT : zAsc T) {j n : Nat} (hj : j < 32) : zvis T j (n + 1) (j : Int) = 1 := by
  rw [zvis_st (by omega), if_pos rfl, zvis_gt hT]
  · rfl
  · rcases hT j hj with h | h
    · exact Or.inl (by rw [Int.toNat_natCast]; exact h)
    · right
      rw [Int.toNat_natCast]
      omega
/-- the way up is looked at as far as x; n steps are enough for the rest -/
def zway (T : Nat → Int) (j : Nat) (v x : Int) : Prop := ∃ n : Nat, (32 ≤ (n : Int) + x ∨ x = -1) ∧ zvis T j 32 v = zvis T j n x
theorem zway_0 {T : Nat → Int} {j : Nat} {v : Int} (h : 0 ≤ v) : zway T j v v := ⟨32, Or.inl (by omega), rfl⟩
theorem zway_st {T : Nat → Int} {j : Nat} {v x : Int} (hT : zAsc T) (h : zway T j v x) (h0 : 0 ≤ x) (h1 : x ≤ 31) (hj : ¬ x = (j : Int)) : zway T j v (T x.toNat) := by
  obtain ⟨n, hn, e⟩ := h
  cases n with
  | zero => omega
  | succ n =>
    refine ⟨n, ?_, ?_⟩
    · rcases hT x.toNat (by omega) with q | q
      · exact Or.inr q
      · left
        omega
    · rw [e, zvis_st ⟨h0, h1⟩, if_neg hj]
      omega
theorem zway_no {T : Nat → Int} {j : Nat} {v : Int} (h : zway T j v (-1)) : zvis T j 32 v = 0 := by
  obtain ⟨n, -, e⟩ := h
  rw [e]
  exact zvis_out (by omega)
theorem zway_is {T : Nat → Int} {j : Nat} {v : Int} (hT : zAsc T) (hj : j < 32) (h : zway T j v (j : Int)) : zvis T j 32 v = 1 := by
  obtain ⟨n, hn, e⟩ := h
  cases n with
  | zero => omega
  | succ n => rw [e, zvis_self hT hj]
/-- a TREE of no UPPER ones -/
theorem zvis_bare {T : Nat → Int} (h : ∀ i, i < 32 → T i = -1) (j n : Nat) {x : Int} (h0 : 0 ≤ x) (h1 : x ≤ 31) : zvis T j (n + 1) x = if x = (j : Int) then 1 else 0 := by
  rw [zvis_st ⟨h0, h1⟩, h _ (by omega), zvis_out (by omega)]
  omega
theorem zblN_bare {T : Nat → Int} (h : ∀ i, i < 32 → T i = -1) (j : Nat) (hj : j < 32) : ∀ k : Nat, k ≤ 16 → zblN T j k = if j < k then 1 else 0 := by
  intro k
  induction k with
  | zero => intro _; rfl
  | succ k ih =>
    intro hk
    rw [zblN_lt hj, ih (by omega), zvis_bare h j 31 (by omega) (by omega)]
    by_cases q : j < k
    · rw [if_pos q, if_neg (by omega), if_pos (by omega)]
      rfl
    · by_cases q2 : j = k
      · rw [if_neg q, if_pos (by omega), if_pos (by omega)]
        rfl
      · rw [if_neg q, if_neg (by omega), if_neg (by omega)]
        rfl
/-- what a step of climb adds -/
theorem climb_st {f y : Nat → Int32} {F : Nat → Int} {i : Nat} {nd sm nx : Int32} (hi : i < 32) (h0 : 0 ≤ nd.toInt) (h1 : nd.toInt ≤ 31) (hs : sm.toInt = (y nd.toNatClampNeg).toInt + 1) (hx : nx = f nd.toNatClampNeg) (h : ∀ j, j < 32 → (y j).toInt + zvis (fT f) j (32 - i) nd.toInt = F j) : ∀ j, j < 32 → ((upd y nd.toNatClampNeg sm) j).toInt + zvis (fT f) j (32 - (i + 1)) nx.toInt = F j := by
  intro j hj
  have hq := h j hj
  have hc : nd.toNatClampNeg = nd.toInt.toNat := z_cl (k := nd.toInt.toNat) (by omega)
  rw [show 32 - i = (32 - (i + 1)) + 1 by omega, zvis_st ⟨h0, h1⟩] at hq
  have e2 : fT f nd.toInt.toNat = nx.toInt := by rw [hx, hc]; rfl
  rw [e2] at hq
  rw [hc] at hs ⊢
  unfold upd
  by_cases q : j = nd.toInt.toNat
  · rw [if_pos q, hs]
    rw [if_pos (by omega)] at hq
    rw [← q]
    omega
  · rw [if_neg q]
    rw [if_neg (by omega)] at hq
    omega

theorem upd_bd {y : Nat → Int32} {k : Nat} {x : Int32} {F : Int → Prop} (h : ∀ j, j < 32 → F (y j).toInt) (hx : F x.toInt) : ∀ j, j < 32 → F ((upd y k x) j).toInt := by
  intro j hj
  unfold upd
  by_cases q : j = k
  · rw [if_pos q]
    exact hx
  · rw [if_neg q]
    exact h j hj
theorem upd_32 {y : Nat → Int32} {nd x : Int32} (h0 : 0 ≤ nd.toInt) (h1 : nd.toInt ≤ 31) : upd y nd.toNatClampNeg x 32 = y 32 := by
  unfold upd
  rw [if_neg]
  rw [z_cl (k := nd.toInt.toNat) (by omega)]
  omega
theorem upd_same {y : Nat → Int32} {k : Nat} {x : Int32} (h : x = y k) (j : Nat) : upd y k x j = y j := by
  unfold upd
  by_cases q : j = k
  · rw [if_pos q, h, q]
  · rw [if_neg q]
