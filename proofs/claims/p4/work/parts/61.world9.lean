/-- a gossip's code: how many values lie on the stack before each piece of it -/
def cstep (c : Nat → Int32) (D : Nat → Nat) (m i : Nat) : Prop := 0 ≤ (c i).toInt ∧
  (((c i).toInt / 1048576 = 0 ∧ D (i + 1) = D i + 1) ∨
   ((c i).toInt / 1048576 = 1 ∧ (c i).toInt % 1048576 ≤ 6 ∧ D (i + 1) = D i + 1) ∨
   (2 ≤ (c i).toInt / 1048576 ∧ (c i).toInt / 1048576 ≤ 9 ∧ 2 ≤ D i ∧ D (i + 1) + 1 = D i) ∨
   ((c i).toInt / 1048576 = 10 ∧ 1 ≤ D i ∧ D (i + 1) = D i) ∨
   (((c i).toInt / 1048576 = 11 ∨ (c i).toInt / 1048576 = 12) ∧ 1 ≤ D i ∧ D (i + 1) + 1 = D i ∧ (i : Int) < (c i).toInt % 1048576 ∧ (c i).toInt % 1048576 ≤ (m : Int) ∧ D ((c i).toInt % 1048576).toNat = D i))
def cwf (c : Nat → Int32) (m : Nat) : Prop := ∃ D : Nat → Nat, D 0 = 0 ∧ ∀ i, i < m → cstep c D m i
def cgood (e14 e15 : va_E) (h : Nat) : Prop := ∃ (cA cB : ClassId) (c t : Nat → Int32), e14 = .inl (cA, 960, .inl c) ∧ e15 = .inl (cB, 8, .inl t) ∧ ((t h).toInt ≤ 120 * h ∨ ∃ m : Nat, m ≤ 120 ∧ (t h).toInt = 120 * h + m ∧ cwf (fun i => c (120 * h + i)) m)
def CI (sk : Int) (e14 e15 : va_E) : Prop := ∀ h : Nat, h < 8 → (h : Int) ≠ sk → cgood e14 e15 h
def IR (g : zG) (ad : Nat → Nat) (me : Int32) (ct : Nat → va_E) (sk : Int := -1) : Prop := Inv9 g ad me ct ∧ CI sk (ct 14) (ct 15)
theorem upR {g : zG} {ad : Nat → Nat} {me : Int32} {ct : Nat → va_E} {sk : Int} {k : Nat} {e : va_E} (hI : IR g ad me ct sk) (hk : k ≠ 14 ∧ k ≠ 15) (h : okk9 g ad me k e) : IR g ad me (va_up ct k e) sk :=
  ⟨up9 hI.1 h, by rw [va_up_ne _ _ (Ne.symm hk.1), va_up_ne _ _ (Ne.symm hk.2)]; exact hI.2⟩
theorem upR_pe {g : zG} {ad : Nat → Nat} {me me2 : Int32} {ct : Nat → va_E} {sk : Int} {e : va_E} (hI : IR g ad me ct sk) (hb : 0 ≤ me2.toInt ∧ me2.toInt ≤ 16) (h : okk9 g ad me2 0 e) : IR g ad me2 (va_up ct 0 e) sk :=
  ⟨up9_pe hI.1 hb h, by rw [va_up_ne _ _ (by omega), va_up_ne _ _ (by omega)]; exact hI.2⟩
theorem cwf_le {c : Nat → Int32} {m : Nat} {D : Nat → Nat} (h0 : D 0 = 0) (hs : ∀ i, i < m → cstep c D m i) : ∀ i, i ≤ m → D i ≤ i := by
  intro i
  induction i with
  | zero => intro _; omega
  | succ i ih =>
    intro hi
    have h1 := ih (by omega)
    obtain ⟨-, h2⟩ := hs i (by omega)
    rcases h2 with ⟨-, h⟩ | ⟨-, -, h⟩ | ⟨-, -, -, h⟩ | ⟨-, -, h⟩ | ⟨-, -, h, -⟩ <;> omega
/-- what a tape tells: each of its first n bytes is one of the people -/
def zTp (e : va_E) (n : Int) (me : Int32) : Prop := ∀ (cA : ClassId) (f : Nat → Int32), e = .inl (cA, 200, .inl f) → ∀ j : Nat, (j : Int) < n → 0 ≤ (f j).toInt ∧ (f j).toInt < me.toInt
theorem zTp_0 {e : va_E} {n : Int} {me : Int32} (h : n ≤ 0) : zTp e n me := fun _ _ _ j hj => by omega
theorem zTp_step {g : ClassId} {f : Nat → Int32} {k y me : Int32} {n : Int} {e : va_E} (he : e = .inl (g, 200, .inl f)) (h : zTp e n me) (hk : k.toInt = n) (h0 : 0 ≤ n) (ey : y = f k.toNatClampNeg) (h1 : 0 ≤ y.toInt) (h2 : y.toInt < me.toInt) : zTp e (n + 1) me := fun cA f2 hf j hj => by
  rw [he] at hf
  cases hf
  by_cases hj2 : (j : Int) < n
  · exact h _ _ he j hj2
  · have h3 : k.toNatClampNeg = j := z_cl (by omega)
    rw [h3] at ey
    rw [← ey]
    exact ⟨h1, h2⟩
theorem zTp_use {g : ClassId} {f : Nat → Int32} {k y me : Int32} {n : Int} {e : va_E} (he : e = .inl (g, 200, .inl f)) (h : zTp e n me) (h0 : 0 ≤ k.toInt) (hk : k.toInt < n) (ey : y = f k.toNatClampNeg) : 0 ≤ y.toInt ∧ y.toInt < me.toInt := by
  rw [ey, z_cl (k := k.toInt.toNat) (by omega)]
  exact h _ _ he k.toInt.toNat (by omega)
