def kd (x : Int32) : Int := x.toInt / 1048576
def ar (x : Int32) : Int := x.toInt % 1048576
def isop (x : Int32) : Prop := 2 ≤ kd x ∧ kd x ≤ 6
def isj (x : Int32) : Prop := kd x = 11 ∨ kd x = 12
/-- of how many pending pieces the left value lies ready; how many are still to be noted -/
def nop (f : Nat → Int32) : Nat → Nat
  | 0 => 0
  | k + 1 => nop f k + (if 2 ≤ kd (f k) ∧ kd (f k) ≤ 6 then 1 else 0)
def npn (f : Nat → Int32) : Nat → Nat
  | 0 => 0
  | k + 1 => npn f k + (if (2 ≤ kd (f k) ∧ kd (f k) ≤ 6) ∨ kd (f k) = 10 then 1 else 0)
theorem nop_ext {f g : Nat → Int32} : ∀ {n : Nat}, (∀ k, k < n → f k = g k) → nop f n = nop g n := by
  intro n
  induction n with
  | zero => intro _; rfl
  | succ n ih =>
    intro h
    unfold nop
    rw [ih (fun k hk => h k (by omega)), h n (by omega)]
theorem npn_ext {f g : Nat → Int32} : ∀ {n : Nat}, (∀ k, k < n → f k = g k) → npn f n = npn g n := by
  intro n
  induction n with
  | zero => intro _; rfl
  | succ n ih =>
    intro h
    unfold npn
    rw [ih (fun k hk => h k (by omega)), h n (by omega)]
theorem nop_0 {f : Nat → Int32} : ∀ {n : Nat}, nop f n = 0 → ∀ k, k < n → ¬ (2 ≤ kd (f k) ∧ kd (f k) ≤ 6) := by
  intro n
  induction n with
  | zero => intro _ k hk; omega
  | succ n ih =>
    intro h k hk
    unfold nop at h
    by_cases q : k = n
    · subst q
      intro q2
      rw [if_pos q2] at h
      omega
    · exact ih (by omega) k (by omega)
theorem nop_of {f : Nat → Int32} : ∀ {n : Nat}, (∀ k, k < n → ¬ (2 ≤ kd (f k) ∧ kd (f k) ≤ 6)) → nop f n = 0 := by
  intro n
  induction n with
  | zero => intro _; rfl
  | succ n ih =>
    intro h
    unfold nop
    rw [ih (fun k hk => h k (by omega)), if_neg (h n (by omega))]
theorem upd_at {α : Type} {f : Nat → α} {k : Nat} {v : α} : va_up f k v k = v := va_up_self _ _ _
def kok (x : Int32) : Prop := 0 ≤ x.toInt ∧ ((2 ≤ kd x ∧ kd x ≤ 6) ∨ kd x = 10 ∨ kd x = 11 ∨ kd x = 12 ∨ kd x = 13 ∨ kd x = 14)
def pstep (c : Nat → Int32) (D : Nat → Nat) (C : Nat) (pend : Nat → Prop) (i : Nat) : Prop := 0 ≤ (c i).toInt ∧
  ((kd (c i) = 0 ∧ D (i + 1) = D i + 1) ∨
   (kd (c i) = 1 ∧ ar (c i) ≤ 6 ∧ D (i + 1) = D i + 1) ∨
   (2 ≤ kd (c i) ∧ kd (c i) ≤ 9 ∧ 2 ≤ D i ∧ D (i + 1) + 1 = D i) ∨
   (kd (c i) = 10 ∧ 1 ≤ D i ∧ D (i + 1) = D i) ∨
   ((kd (c i) = 11 ∨ kd (c i) = 12) ∧ 1 ≤ D i ∧ D (i + 1) + 1 = D i ∧ (pend i ∨ ((i : Int) < ar (c i) ∧ ar (c i) ≤ (C : Int) ∧ D (ar (c i)).toNat = D i))))
def pnd (fw : Nat → Int32) (W i : Nat) : Prop := ∃ k, k < W ∧ (kd (fw k) = 11 ∨ kd (fw k) = 12) ∧ ar (fw k) = (i : Int)
def GI (fs fw : Nat → Int32) (C W P x y : Nat) : Prop := 1 ≤ W ∧ W ≤ P + 1 ∧ C + npn fw W + y ≤ P ∧ kd (fw 0) = 13 ∧ (∀ k, k < W → kok (fw k)) ∧
  ∃ D : Nat → Nat, D 0 = 0 ∧ D C = nop fw W + x ∧ (∀ i, i < C → pstep fs D C (pnd fw W) i) ∧
    ∀ k, k < W → (kd (fw k) = 11 ∨ kd (fw k) = 12) → ∃ i : Nat, i < C ∧ ar (fw k) = (i : Int) ∧ (kd (fs i) = 11 ∨ kd (fs i) = 12) ∧ D i = nop fw k + 1
/-- one more piece of code -/
theorem GI_code {fs fw : Nat → Int32} {C W P x y : Nat} {v : Int32} {P2 W2 x2 y2 d : Nat} {fw2 : Nat → Int32} (h : GI fs fw C W P x y)
    (hW : 1 ≤ W2) (hP : W2 ≤ P2 + 1) (hn : C + 1 + npn fw2 W2 + y2 ≤ P2) (hk : ∀ k, k < W2 → kok (fw2 k)) (h0 : kd (fw2 0) = 13)
    (hd : d = nop fw2 W2 + x2)
    (hs : 0 ≤ v.toInt ∧ ((kd v = 0 ∧ d = nop fw W + x + 1) ∨ (kd v = 1 ∧ ar v ≤ 6 ∧ d = nop fw W + x + 1) ∨ (2 ≤ kd v ∧ kd v ≤ 9 ∧ 2 ≤ nop fw W + x ∧ d + 1 = nop fw W + x) ∨ (kd v = 10 ∧ 1 ≤ nop fw W + x ∧ d = nop fw W + x) ∨ ((kd v = 11 ∨ kd v = 12) ∧ 1 ≤ nop fw W + x ∧ d + 1 = nop fw W + x ∧ pnd fw2 W2 C)))
    (hpn : ∀ i, i < C → pnd fw W i → pnd fw2 W2 i)
    (hj : ∀ k, k < W2 → (kd (fw2 k) = 11 ∨ kd (fw2 k) = 12) → (k < W ∧ fw2 k = fw k ∧ nop fw2 k = nop fw k) ∨ (ar (fw2 k) = (C : Int) ∧ (kd v = 11 ∨ kd v = 12) ∧ nop fw W + x = nop fw2 k + 1)) :
    GI (upd fs C v) fw2 (C + 1) W2 P2 x2 y2 := by
  obtain ⟨g1, g2, g3, g4, g5, D, d0, dC, ds, dj⟩ := h
  have e1 : ∀ i, i ≤ C → va_up D (C + 1) d i = D i := fun i hi => va_up_ne _ _ (by omega)
  have e2 : ∀ i, i < C → upd fs C v i = fs i := fun i hi => by unfold upd; rw [if_neg (by omega)]
  have e3 : upd fs C v C = v := by unfold upd; rw [if_pos rfl]
  refine ⟨hW, hP, hn, h0, hk, va_up D (C + 1) d, by rw [e1 0 (by omega)]; exact d0, by rw [va_up_self]; exact hd, fun i hi => ?_, fun k hk2 hk3 => ?_⟩
  · by_cases q : i = C
    · subst q
      unfold pstep
      rw [e3, e1 i (Nat.le_refl _), va_up_self, dC]
      refine ⟨hs.1, ?_⟩
      rcases hs.2 with ⟨a, b⟩ | ⟨a, b, b2⟩ | ⟨a, b, b2, b3⟩ | ⟨a, b, b2⟩ | ⟨a, b, b2, b3⟩
      · exact Or.inl ⟨a, b⟩
      · exact Or.inr (Or.inl ⟨a, b, b2⟩)
      · exact Or.inr (Or.inr (Or.inl ⟨a, b, b2, b3⟩))
      · exact Or.inr (Or.inr (Or.inr (Or.inl ⟨a, b, b2⟩)))
      · exact Or.inr (Or.inr (Or.inr (Or.inr ⟨a, b, b2, Or.inl b3⟩)))
    · have hi2 : i < C := by omega
      have hp := ds i hi2
      unfold pstep at hp ⊢
      rw [e2 i hi2, e1 i (by omega), e1 (i + 1) (by omega)]
      refine ⟨hp.1, ?_⟩
      rcases hp.2 with a | a | a | a | ⟨a, b, b2, b3⟩
      · exact Or.inl a
      · exact Or.inr (Or.inl a)
      · exact Or.inr (Or.inr (Or.inl a))
      · exact Or.inr (Or.inr (Or.inr (Or.inl a)))
      · refine Or.inr (Or.inr (Or.inr (Or.inr ⟨a, b, b2, ?_⟩)))
        rcases b3 with b3 | ⟨b3, b4, b5⟩
        · exact Or.inl (hpn i hi2 b3)
        · exact Or.inr ⟨b3, by omega, by rw [e1 _ (by omega)]; exact b5⟩
  · rcases hj k hk2 hk3 with ⟨a, b, b2⟩ | ⟨a, b, b2⟩
    · rw [b] at hk3 ⊢
      obtain ⟨i, c1, c2, c3, c4⟩ := dj k a hk3
      exact ⟨i, by omega, c2, by rw [e2 i c1]; exact c3, by rw [e1 i (by omega), b2]; exact c4⟩
    · exact ⟨C, by omega, a, by rw [e3]; exact b, by rw [e1 C (Nat.le_refl _), dC]; exact b2⟩
/-- an operand -/
theorem GI_operand {fs fw : Nat → Int32} {C W P x y P2 : Nat} {v : Int32} (h : GI fs fw C W P x y) (hP : P + 1 ≤ P2) (hv : 0 ≤ v.toInt) (hk : kd v = 0 ∨ (kd v = 1 ∧ ar v ≤ 6)) : GI (upd fs C v) fw (C + 1) W P2 (x + 1) y := by
  obtain ⟨g1, g2, g3, g4, g5, -⟩ := id h
  refine GI_code h g1 (by omega) (by omega) g5 g4 (d := nop fw W + x + 1) (by omega) ⟨hv, ?_⟩ (fun _ _ q => q) (fun k hk2 hk3 => Or.inl ⟨hk2, rfl, rfl⟩)
  rcases hk with hk | hk
  · exact Or.inl ⟨hk, rfl⟩
  · exact Or.inr (Or.inl ⟨hk.1, hk.2, rfl⟩)
/-- the top of the waiting ones, an operation, is noted -/
theorem GI_op {fs fw : Nat → Int32} {C W P x y : Nat} {v : Int32} (h : GI fs fw C (W + 1) P (x + 1) y) (ht : 2 ≤ kd (fw W) ∧ kd (fw W) ≤ 6) (hv : 0 ≤ v.toInt) (hk : kd v = kd (fw W)) : GI (upd fs C v) fw (C + 1) W P (x + 1) y := by
  obtain ⟨g1, g2, g3, g4, g5, -⟩ := id h
  have hw : 1 ≤ W := by
    apply Classical.byContradiction
    intro q
    have : W = 0 := by omega
    subst this
    omega
  have n1 : nop fw (W + 1) = nop fw W + 1 := by
    show nop fw W + _ = _
    rw [if_pos ht]
  have n2 : npn fw (W + 1) = npn fw W + 1 := by
    show npn fw W + _ = _
    rw [if_pos (Or.inl ht)]
  refine GI_code h hw (by omega) (by omega) (fun k hk => g5 k (by omega)) g4 (d := nop fw W + (x + 1)) rfl ⟨hv, Or.inr (Or.inr (Or.inl ⟨by omega, by omega, by omega, by omega⟩))⟩ (fun i _ q => ?_) (fun k hk2 hk3 => Or.inl ⟨by omega, rfl, rfl⟩)
  obtain ⟨k, q1, q2, q3⟩ := q
  exact ⟨k, by (have : k ≠ W := fun q => by subst q; omega); omega, q2, q3⟩
/-- a comparison is noted -/
theorem GI_cmp {fs fw : Nat → Int32} {C W P x y : Nat} {v : Int32} (h : GI fs fw C W P (x + 2) (y + 1)) (hv : 0 ≤ v.toInt) (hk : 7 ≤ kd v ∧ kd v ≤ 9) : GI (upd fs C v) fw (C + 1) W P (x + 1) y := by
  obtain ⟨g1, g2, g3, g4, g5, -⟩ := id h
  exact GI_code h g1 (by omega) (by omega) g5 g4 (d := nop fw W + (x + 1)) rfl ⟨hv, Or.inr (Or.inr (Or.inl ⟨by omega, by omega, by omega, by omega⟩))⟩ (fun i _ q => q) (fun k hk2 hk3 => Or.inl ⟨by omega, rfl, rfl⟩)
/-- a NOT that waits is noted -/
theorem GI_not {fs fw : Nat → Int32} {C W P x y : Nat} {v : Int32} (h : GI fs fw C (W + 1) P (x + 1) y) (ht : kd (fw W) = 10) (hv : 0 ≤ v.toInt) (hk : kd v = 10) : GI (upd fs C v) fw (C + 1) W P (x + 1) y := by
  obtain ⟨g1, g2, g3, g4, g5, -⟩ := id h
  have hw : 1 ≤ W := by
    apply Classical.byContradiction
    intro q
    have : W = 0 := by omega
    subst this
    omega
  have n1 : nop fw (W + 1) = nop fw W := by
    show nop fw W + _ = _
    rw [if_neg (by omega)]
    rfl
  have n2 : npn fw (W + 1) = npn fw W + 1 := by
    show npn fw W + _ = _
    rw [if_pos (Or.inr ht)]
  refine GI_code h hw (by omega) (by omega) (fun k hk => g5 k (by omega)) g4 (d := nop fw W + (x + 1)) rfl ⟨hv, Or.inr (Or.inr (Or.inr (Or.inl ⟨hk, by omega, by omega⟩)))⟩ (fun i _ q => ?_) (fun k hk2 hk3 => Or.inl ⟨by omega, rfl, rfl⟩)
  obtain ⟨k, q1, q2, q3⟩ := q
  exact ⟨k, by (have : k ≠ W := fun q => by subst q; omega); omega, q2, q3⟩
/-- a jump: it waits, and is noted -/
theorem GI_jump {fs fw : Nat → Int32} {C W P y : Nat} {v w : Int32} (h : GI fs fw C W P 1 y) (hv : 0 ≤ v.toInt) (hk : kd v = 11 ∨ kd v = 12) (hw : 0 ≤ w.toInt) (hw2 : kd w = 11 ∨ kd w = 12) (hw3 : ar w = (C : Int)) : GI (upd fs C v) (upd fw W w) (C + 1) (W + 1) (P + 1) 0 y := by
  obtain ⟨g1, g2, g3, g4, g5, -⟩ := id h
  have e : ∀ k, k < W → upd fw W w k = fw k := fun k hk => by unfold upd; rw [if_neg (by omega)]
  have e2 : upd fw W w W = w := by unfold upd; rw [if_pos rfl]
  have n1 : nop (upd fw W w) (W + 1) = nop fw W := by
    show nop (upd fw W w) W + _ = _
    rw [e2, if_neg (by omega), nop_ext e]
    rfl
  have n2 : npn (upd fw W w) (W + 1) = npn fw W := by
    show npn (upd fw W w) W + _ = _
    rw [e2, if_neg (by omega), npn_ext e]
    rfl
  refine GI_code h (by omega) (by omega) (by omega) (fun k hk => ?_) (by rw [e 0 (by omega)]; exact g4) (d := nop fw W) (by omega) ⟨hv, Or.inr (Or.inr (Or.inr (Or.inr ⟨hk, by omega, by omega, W, by omega, by rw [e2]; exact hw2, by rw [e2]; exact hw3⟩)))⟩ (fun i _ q => ?_) (fun k hk2 hk3 => ?_)
  · by_cases q : k = W
    · subst q
      rw [e2]
      exact ⟨hw, by omega⟩
    · rw [e k (by omega)]
      exact g5 k (by omega)
  · obtain ⟨k, q1, q2, q3⟩ := q
    exact ⟨k, by omega, by rw [e k q1]; exact q2, by rw [e k q1]; exact q3⟩
  · by_cases q : k = W
    · subst q
      exact Or.inr ⟨by rw [e2]; exact hw3, hk, by rw [nop_ext (n := k) e]⟩
    · exact Or.inl ⟨by omega, e k (by omega), nop_ext fun j hj => e j (by omega)⟩
/-- something is put onto the waiting ones, or the place moves on -/
theorem GI_push {fs fw : Nat → Int32} {C W P x y x2 : Nat} {w : Int32} (h : GI fs fw C W P x y) (hw : 0 ≤ w.toInt) (hk : ((2 ≤ kd w ∧ kd w ≤ 6) ∧ x = x2 + 1) ∨ ((kd w = 10 ∨ kd w = 13 ∨ kd w = 14) ∧ x = x2)) : GI fs (upd fw W w) C (W + 1) (P + 1) x2 y := by
  obtain ⟨g1, g2, g3, g4, g5, D, d0, dC, ds, dj⟩ := h
  have e : ∀ k, k < W → upd fw W w k = fw k := fun k hk => by unfold upd; rw [if_neg (by omega)]
  have e2 : upd fw W w W = w := by unfold upd; rw [if_pos rfl]
  have n1 : nop (upd fw W w) (W + 1) + x2 = nop fw W + x := by
    show nop (upd fw W w) W + _ + x2 = _
    rw [e2, nop_ext e]
    rcases hk with hk | hk
    · rw [if_pos hk.1]; omega
    · rw [if_neg (by omega)]; omega
  have n2 : npn (upd fw W w) (W + 1) ≤ npn fw W + 1 := by
    show npn (upd fw W w) W + _ ≤ _
    rw [e2, npn_ext e]
    split <;> omega
  refine ⟨by omega, by omega, by omega, by rw [e 0 (by omega)]; exact g4, fun k hk2 => ?_, D, d0, by omega, fun i hi => ?_, fun k hk2 hk3 => ?_⟩
  · by_cases q : k = W
    · subst q
      rw [e2]
      exact ⟨hw, by omega⟩
    · rw [e k (by omega)]
      exact g5 k (by omega)
  · have hp := ds i hi
    refine ⟨hp.1, ?_⟩
    rcases hp.2 with a | a | a | a | ⟨a, b, b2, b3⟩
    · exact Or.inl a
    · exact Or.inr (Or.inl a)
    · exact Or.inr (Or.inr (Or.inl a))
    · exact Or.inr (Or.inr (Or.inr (Or.inl a)))
    · refine Or.inr (Or.inr (Or.inr (Or.inr ⟨a, b, b2, ?_⟩)))
      rcases b3 with ⟨k, q1, q2, q3⟩ | b3
      · exact Or.inl ⟨k, by omega, by rw [e k q1]; exact q2, by rw [e k q1]; exact q3⟩
      · exact Or.inr b3
  · by_cases q : k = W
    · subst q
      rw [e2] at hk3
      omega
    · rw [e k (by omega)] at hk3 ⊢
      obtain ⟨i, c1, c2, c3, c4⟩ := dj k (by omega) hk3
      exact ⟨i, c1, c2, c3, by rw [nop_ext (n := k) (fun j hj => e j (by omega))]; exact c4⟩
theorem GI_step {fs fw : Nat → Int32} {C W P x y P2 y2 : Nat} (h : GI fs fw C W P x y) (hP : P ≤ P2) (hy : y2 + P ≤ y + P2) : GI fs fw C W P2 x y2 := by
  obtain ⟨g1, g2, g3, g4, g5, g6⟩ := h
  exact ⟨g1, by omega, by omega, g4, g5, g6⟩
/-- a bracket is taken off -/
theorem GI_pop {fs fw : Nat → Int32} {C W P x y : Nat} (h : GI fs fw C (W + 1) P x y) (hw : 1 ≤ W) (hk : ¬ (2 ≤ kd (fw W) ∧ kd (fw W) ≤ 6)) (hj : ¬ (kd (fw W) = 11 ∨ kd (fw W) = 12)) : GI fs fw C W P x y := by
  obtain ⟨g1, g2, g3, g4, g5, D, d0, dC, ds, dj⟩ := h
  have n1 : nop fw (W + 1) = nop fw W := by
    show nop fw W + _ = _
    rw [if_neg hk]
    rfl
  have n2 : npn fw W ≤ npn fw (W + 1) := by
    show _ ≤ npn fw W + _
    omega
  refine ⟨hw, by omega, by omega, g4, fun k hk => g5 k (by omega), D, d0, by omega, fun i hi => ?_, fun k hk2 hk3 => dj k (by omega) hk3⟩
  have hp := ds i hi
  refine ⟨hp.1, ?_⟩
  rcases hp.2 with a | a | a | a | ⟨a, b, b2, b3⟩
  · exact Or.inl a
  · exact Or.inr (Or.inl a)
  · exact Or.inr (Or.inr (Or.inl a))
  · exact Or.inr (Or.inr (Or.inr (Or.inl a)))
  · refine Or.inr (Or.inr (Or.inr (Or.inr ⟨a, b, b2, ?_⟩)))
    rcases b3 with ⟨k, q1, q2, q3⟩ | b3
    · exact Or.inl ⟨k, by (have : k ≠ W := fun q => by subst q; exact hj q2); omega, q2, q3⟩
    · exact Or.inr b3
/-- a jump lands here -/
theorem GI_land {fs fw : Nat → Int32} {C W P y : Nat} {i : Nat} {v : Int32} (h : GI fs fw C (W + 1) P 1 y) (hj : kd (fw W) = 11 ∨ kd (fw W) = 12) (hi : ar (fw W) = (i : Int)) (hv : 0 ≤ v.toInt) (hk : kd v = kd (fs i)) (ha : ar v = (C : Int)) : GI (upd fs i v) fw C W P 1 y := by
  obtain ⟨g1, g2, g3, g4, g5, D, d0, dC, ds, dj⟩ := h
  have hw : 1 ≤ W := by
    apply Classical.byContradiction
    intro q
    have : W = 0 := by omega
    subst this
    omega
  have n1 : nop fw (W + 1) = nop fw W := by
    show nop fw W + _ = _
    rw [if_neg (by omega)]
    rfl
  have n2 : npn fw W ≤ npn fw (W + 1) := by
    show _ ≤ npn fw W + _
    omega
  obtain ⟨i2, c1, c2, c3, c4⟩ := dj W (by omega) hj
  have e0 : i2 = i := by omega
  subst e0
  have e : ∀ k, k ≠ i2 → upd fs i2 v k = fs k := fun k hk => by unfold upd; rw [if_neg hk]
  have e2 : upd fs i2 v i2 = v := by unfold upd; rw [if_pos rfl]
  refine ⟨hw, by omega, by omega, g4, fun k hk => g5 k (by omega), D, d0, by omega, fun j hj2 => ?_, fun k hk2 hk3 => ?_⟩
  · have hp := ds j hj2
    by_cases q : j = i2
    · subst q
      unfold pstep
      rw [e2]
      refine ⟨hv, Or.inr (Or.inr (Or.inr (Or.inr ⟨by rw [hk]; exact c3, by omega, ?_, Or.inr ⟨by omega, by omega, ?_⟩⟩)))⟩
      · rcases hp.2 with ⟨a, -⟩ | ⟨a, -⟩ | ⟨a, a2, -⟩ | ⟨a, -⟩ | ⟨a, b, b2, -⟩ <;> first | omega | exact b2
      · rw [ha]
        show D C = _
        omega
    · unfold pstep at hp ⊢
      rw [e j q]
      refine ⟨hp.1, ?_⟩
      rcases hp.2 with a | a | a | a | ⟨a, b, b2, b3⟩
      · exact Or.inl a
      · exact Or.inr (Or.inl a)
      · exact Or.inr (Or.inr (Or.inl a))
      · exact Or.inr (Or.inr (Or.inr (Or.inl a)))
      · refine Or.inr (Or.inr (Or.inr (Or.inr ⟨a, b, b2, ?_⟩)))
        rcases b3 with ⟨k, q1, q2, q3⟩ | b3
        · refine Or.inl ⟨k, ?_, q2, q3⟩
          have : k ≠ W := fun q4 => by subst q4; omega
          omega
        · exact Or.inr b3
  · obtain ⟨i3, b1, b2, b3, b4⟩ := dj k (by omega) hk3
    refine ⟨i3, b1, b2, ?_, b4⟩
    by_cases q : i3 = i2
    · subst q
      rw [e2, hk]
      exact b3
    · rw [e i3 q]
      exact b3
/-- all is said: the code is well made -/
theorem GI_done {fs fw : Nat → Int32} {C P x y : Nat} (h : GI fs fw C 1 P x y) : C ≤ P ∧ cwf fs C := by
  obtain ⟨g1, g2, g3, g4, g5, D, d0, dC, ds, dj⟩ := h
  refine ⟨by omega, D, d0, fun i hi => ?_⟩
  have hp := ds i hi
  unfold pstep kd ar at hp
  refine ⟨hp.1, ?_⟩
  rcases hp.2 with a | a | a | a | ⟨a, b, b2, b3⟩
  · exact Or.inl a
  · exact Or.inr (Or.inl a)
  · exact Or.inr (Or.inr (Or.inl a))
  · exact Or.inr (Or.inr (Or.inr (Or.inl a)))
  · refine Or.inr (Or.inr (Or.inr (Or.inr ⟨a, b, b2, ?_⟩)))
    rcases b3 with ⟨k, q1, q2, q3⟩ | b3
    · exfalso
      have : k = 0 := by omega
      subst this
      omega
    · exact b3
theorem GI_start {fs fw : Nat → Int32} {w : Int32} (hw : 0 ≤ w.toInt) (hk : kd w = 13) : GI fs (upd fw 0 w) 0 1 0 0 0 := by
  have e2 : upd fw 0 w 0 = w := by unfold upd; rw [if_pos rfl]
  have n1 : nop (upd fw 0 w) 1 = 0 := by
    show 0 + _ = _
    rw [e2, if_neg (by omega)]
  have n2 : npn (upd fw 0 w) 1 = 0 := by
    show 0 + _ = _
    rw [e2, if_neg (by omega)]
  refine ⟨by omega, by omega, by omega, by rw [e2]; exact hk, fun k hk2 => ?_, fun _ => 0, rfl, by show (0 : Nat) = nop (upd fw 0 w) 1 + 0; omega, fun i hi => by omega, fun k hk2 hk3 => ?_⟩
  · have : k = 0 := by omega
    subst this
    rw [e2]
    exact ⟨hw, by omega⟩
  · have : k = 0 := by omega
    subst this
    rw [e2] at hk3
    omega
