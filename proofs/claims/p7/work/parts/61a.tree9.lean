theorem zT_add (ad : Nat → Nat) (o a i : Nat) : zTr ad (o + a) i = zTr ad o (a + i) := by
  unfold zTr
  rw [Nat.add_assoc]
theorem zAsc_of {ad : Nat → Nat} {f : Nat → Int32} (hp : ∀ j : Nat, j < 128 → (fun x : Int32 => x.toInt = zTr ad 4000 j ∧ (x.toInt = -1 ∨ (16 ≤ x.toInt ∧ x.toInt ≤ 31 ∧ (j : Int) % 32 < x.toInt))) (f j)) {c : Nat} (hc : c < 4) : zAsc (zTr ad (4000 + 32 * c)) := fun i hi => by
  have h := hp (32 * c + i) (by omega)
  obtain ⟨h1, h2⟩ := h
  rw [zT_add, ← h1]
  rcases h2 with q | ⟨q1, q2, q3⟩
  · exact Or.inl q
  · right
    omega
def zwayP (T : Nat → Int) (nd v x : Int) : Prop := 0 ≤ nd → nd ≤ 31 → zway T nd.toNat v x
def zblP (T : Nat → Int) (nd v b : Int) : Prop := 0 ≤ nd → nd ≤ 32 → zbl T nd.toNat v = b
def zszP (T : Nat → Int) (nd k n : Int) : Prop := 0 ≤ nd → nd ≤ 32 → n = zblN T nd.toNat k.toNat
theorem zwayP_0 {T : Nat → Int} {nd v : Int} (h : 0 ≤ v) : zwayP T nd v v := fun _ _ => zway_0 h
theorem zwayP_st {T : Nat → Int} {nd v x y : Int} (hT : zAsc T) (h : zwayP T nd v x) (h0 : 0 ≤ x) (h1 : x ≤ 31) (hn : ¬ x = nd) (hy : T x.toNat = y) : zwayP T nd v y := fun q1 q2 => by
  rw [← hy]
  exact zway_st hT (h q1 q2) h0 h1 (by omega)
theorem zblP_yes {T : Nat → Int} {nd v x : Int} (hT : zAsc T) (h : zwayP T nd v x) (hx : x = nd) (hn : ¬ nd = 32) : zblP T nd v 1 := fun q1 q2 => by
  unfold zbl
  rw [if_neg (by omega)]
  refine zway_is hT (by omega) ?_
  have h3 := h q1 (by omega)
  rw [hx] at h3
  rw [Int.toNat_of_nonneg q1]
  exact h3
theorem zblP_no {T : Nat → Int} {nd v x : Int} (h : zwayP T nd v x) (hx : x = -1) (hn : ¬ nd = 32) : zblP T nd v 0 := fun q1 q2 => by
  unfold zbl
  rw [if_neg (by omega)]
  have h3 := h q1 (by omega)
  rw [hx] at h3
  exact zway_no h3
theorem zblP_all {T : Nat → Int} {nd v : Int} (hn : nd = 32) : zblP T nd v 1 := fun _ _ => by
  unfold zbl
  rw [if_pos (by omega)]
theorem zszP_0 {T : Nat → Int} {nd k n : Int} (hk : k = 0) (hn : n = 0) : zszP T nd k n := fun _ _ => by
  rw [hk, hn]
  rfl
theorem zszP_st {T : Nat → Int} {nd k n b k2 n2 : Int} (h : zszP T nd k n) (hb : zblP T nd k b) (h0 : 0 ≤ k) (hk : k2 = k + 1) (hn : n2 = n + b) : zszP T nd k2 n2 := fun q1 q2 => by
  have e1 := h q1 q2
  have e2 := hb q1 q2
  rw [hn, hk, show (k + 1).toNat = k.toNat + 1 by omega]
  show n + b = zblN T nd.toNat k.toNat + zbl T nd.toNat (k.toNat : Int)
  rw [Int.toNat_of_nonneg h0, ← e1, e2]
theorem ok9_gh {g : zG} {ad ad2 : Nat → Nat} {me : Int32} {k : Nat} {e : va_E} (hh : ∀ j, j < 1000 → ad j = ad2 j) (hk : k ≠ 1) (h : okk9 g ad me k e) : okk9 g ad2 me k e := by
  unfold okk9 at h ⊢
  split at h <;> first | exact absurd rfl hk | (simp only [hh 1 (by omega), hh 2 (by omega), hh 3 (by omega), hh 4 (by omega), hh 5 (by omega), hh 6 (by omega), hh 7 (by omega), hh 8 (by omega), hh 9 (by omega), hh 10 (by omega), hh 11 (by omega), hh 12 (by omega), hh 13 (by omega), hh 14 (by omega), hh 15 (by omega), hh 16 (by omega), hh 17 (by omega), hh 18 (by omega), hh 19 (by omega), hh 20 (by omega), hh 21 (by omega), hh 22 (by omega), hh 23 (by omega), hh 24 (by omega), hh 25 (by omega), hh 26 (by omega), hh 27 (by omega), hh 28 (by omega), hh 29 (by omega), hh 30 (by omega), hh 31 (by omega)] at h; exact h) | exact h
theorem IR_up {g : zG} {ad ad2 : Nat → Nat} {me : Int32} {ct : Nat → va_E} {f : Nat → Int32} (hI : IR g ad me ct) (hp : ∀ j : Nat, j < 128 → (fun x : Int32 => x.toInt = zTr ad 4000 j ∧ (x.toInt = -1 ∨ (16 ≤ x.toInt ∧ x.toInt ≤ 31 ∧ (j : Int) % 32 < x.toInt))) (f j)) {c nd up x : Int32} (hc : 0 ≤ c.toInt ∧ c.toInt ≤ 3) (hn : 0 ≤ nd.toInt ∧ nd.toInt ≤ 31) (hu : up.toInt = -1 ∨ (16 ≤ up.toInt ∧ up.toInt ≤ 31 ∧ nd.toInt < up.toInt)) (hx : x.toInt = 32 * c.toInt + nd.toInt) (had : ad2 = va_up ad (3 * (4000 + 32 * c.toInt.toNat + nd.toInt.toNat) + 1) (up.toInt + 1).toNat) : IR g ad2 me (va_up ct 1 (.inl (g.2 0, 128, .inl (upd f x.toNatClampNeg up)))) := by
  refine ⟨⟨hI.1.1, fun k hk => ?_⟩, by rw [va_up_ne _ _ (by omega), va_up_ne _ _ (by omega)]; exact hI.2⟩
  by_cases q : k = 1
  · subst q
    rw [va_up_self]
    refine i9_1 ⟨_, fun j hj => ?_, rfl⟩
    show (upd f x.toNatClampNeg up j).toInt = zTr ad2 4000 j ∧ _
    rw [z_cl (x := x) (k := 32 * c.toInt.toNat + nd.toInt.toNat) (by omega)]
    unfold upd zTr
    rw [had]
    by_cases q2 : j = 32 * c.toInt.toNat + nd.toInt.toNat
    · rw [if_pos q2, show 3 * (4000 + j) + 1 = 3 * (4000 + 32 * c.toInt.toNat + nd.toInt.toNat) + 1 by omega, va_up_self]
      refine ⟨by omega, ?_⟩
      rcases hu with w | ⟨w1, w2, w3⟩
      · exact Or.inl w
      · right
        omega
    · rw [if_neg q2, va_up_ne _ _ (by omega)]
      exact hp j hj
  · rw [va_up_ne _ _ q]
    exact ok9_gh (fun j hj => by rw [had, va_up_ne _ _ (by omega)]) q (hI.1.2 k hk)
