def zhv (e0 e11 : va_E) : Int32 := match e0 with
  | .inr (_, fs) => match e11 with
    | .inl (_, _, .inl f) => match (fs[17]? : Option Value) with
      | some (.int p) => match (fs[18]? : Option Value) with
        | some (.int n) => if p.toInt < n.toInt then f p.toNatClampNeg &&& 255 else -1
        | _ => -1
      | _ => -1
    | _ => -1
  | _ => -1
theorem zhv_of {e0 e11 : va_E} {ci : Nat} {fs : List Value} {p n : Int32} {cA : ClassId} {k : Nat} {f : Nat → Int32} (h0 : e0 = .inr (ci, fs)) (h1 : fs[17]? = some (.int p)) (h2 : fs[18]? = some (.int n)) (h11 : e11 = .inl (cA, k, .inl f)) : zhv e0 e11 = if p.toInt < n.toInt then f p.toNatClampNeg &&& 255 else -1 := by
  subst h0
  subst h11
  show (match (fs[17]? : Option Value) with
      | some (.int p) => match (fs[18]? : Option Value) with
        | some (.int n) => if p.toInt < n.toInt then f p.toNatClampNeg &&& 255 else -1
        | _ => -1
      | _ => (-1 : Int32)) = _
  rw [h1, h2]
/-- one place of an array is written -/
def wr (e e2 : va_E) (k val : Int) : Prop := ∀ (cA : ClassId) (n : Nat) (f : Nat → Int32), e = .inl (cA, n, .inl f) → ∃ x : Int32, e2 = .inl (cA, n, .inl (upd f k.toNat x)) ∧ x.toInt = val
def zk (e : va_E) (k : Int) (r : Int32) : Prop := ∀ (cA : ClassId) (n : Nat) (f : Nat → Int32), e = .inl (cA, n, .inl f) → 0 ≤ (f k.toNat).toInt → r.toInt = kd (f k.toNat)
def FLD (ct : Nat → va_E) (C W P : Nat) : Prop := zfi 21 (ct 0) = (C : Int) ∧ zfi 22 (ct 0) = (W : Int) ∧ zfi 17 (ct 0) = (P : Int) ∧ (P : Int) ≤ zfi 18 (ct 0) ∧ zfi 18 (ct 0) ≤ 100
def PS (gA : ClassId) (ct : Nat → va_E) (x y : Nat) (R : (Nat → Int32) → Nat → Prop) : Prop := ∃ (fs fw : Nat → Int32) (C W P : Nat), FLD ct C W P ∧ ct 12 = .inl (gA, 120, .inl fs) ∧ ct 13 = .inl (gA, 120, .inl fw) ∧ GI fs fw C W P x y ∧ R fw W
def R0 (fw : Nat → Int32) (W : Nat) : Prop := nop fw W = 0
def RB (base : Nat) (f0 : Nat → Int32) (fw : Nat → Int32) (W : Nat) : Prop := base ≤ W ∧ (∀ k, k < base → fw k = f0 k) ∧ ∀ k, base ≤ k → k < W → (2 ≤ kd (fw k) ∧ kd (fw k) ≤ 6) ∨ kd (fw k) = 14
theorem wr_id {e : va_E} {cA : ClassId} {n : Nat} {f : Nat → Int32} {k : Int} {i x : Int32} {val : Int} {e2 : va_E} (he : e = .inl (cA, n, .inl f)) (he2 : e2 = .inl (cA, n, .inl (upd f i.toNatClampNeg x))) (hi : i.toInt = k) (h0 : 0 ≤ k) (hx : x.toInt = val) : wr e e2 k val := fun cB m g h => by
  rw [he] at h
  cases h
  refine ⟨x, ?_, hx⟩
  rw [he2, z_cl (k := k.toNat) (by omega)]
theorem PS.bounds {gA : ClassId} {ct : Nat → va_E} {x y : Nat} {R : (Nat → Int32) → Nat → Prop} (h : PS gA ct x y R) : 0 ≤ zfi 21 (ct 0) ∧ 0 ≤ zfi 17 (ct 0) ∧ zfi 21 (ct 0) + y ≤ zfi 17 (ct 0) ∧ 1 ≤ zfi 22 (ct 0) ∧ zfi 22 (ct 0) ≤ zfi 17 (ct 0) + 1 ∧ zfi 17 (ct 0) ≤ zfi 18 (ct 0) ∧ zfi 18 (ct 0) ≤ 100 := by
  obtain ⟨fs, fw, C, W, P, ⟨a, b, c, d, e⟩, -, -, ⟨g1, g2, g3, -⟩, -⟩ := h
  omega
theorem PS.same {gA : ClassId} {ct ct2 : Nat → va_E} {x y y2 : Nat} {R R2 : (Nat → Int32) → Nat → Prop} (h : PS gA ct x y R) (hR : ∀ fw W, R fw W → R2 fw W) (h17 : zfi 17 (ct 0) ≤ zfi 17 (ct2 0)) (h18 : zfi 18 (ct2 0) = zfi 18 (ct 0)) (h17b : zfi 17 (ct2 0) ≤ zfi 18 (ct 0)) (h21 : zfi 21 (ct2 0) = zfi 21 (ct 0)) (h22 : zfi 22 (ct2 0) = zfi 22 (ct 0)) (h12 : ct2 12 = ct 12) (h13 : ct2 13 = ct 13) (hy : y2 + zfi 17 (ct 0) ≤ y + zfi 17 (ct2 0)) : PS gA ct2 x y2 R2 := by
  obtain ⟨fs, fw, C, W, P, ⟨a, b, c, d, e⟩, k12, k13, hG, hr⟩ := h
  exact ⟨fs, fw, C, W, (zfi 17 (ct2 0)).toNat, ⟨by omega, by omega, by omega, by omega, by omega⟩, h12.trans k12, h13.trans k13, GI_step hG (by omega) (by omega), hR _ _ hr⟩
theorem PS.operand {gA : ClassId} {ct ct2 : Nat → va_E} {x y : Nat} {R : (Nat → Int32) → Nat → Prop} {val : Int} (h : PS gA ct x y R) (h17 : zfi 17 (ct 0) + 1 ≤ zfi 17 (ct2 0)) (h18 : zfi 18 (ct2 0) = zfi 18 (ct 0)) (h17b : zfi 17 (ct2 0) ≤ zfi 18 (ct 0)) (h21 : zfi 21 (ct2 0) = zfi 21 (ct 0) + 1) (h22 : zfi 22 (ct2 0) = zfi 22 (ct 0)) (h12 : wr (ct 12) (ct2 12) (zfi 21 (ct 0)) val) (h13 : ct2 13 = ct 13) (hv : (0 ≤ val ∧ val < 1048576) ∨ (1048576 ≤ val ∧ val ≤ 1048582)) : PS gA ct2 (x + 1) y R := by
  obtain ⟨fs, fw, C, W, P, ⟨a, b, c, d, e⟩, k12, k13, hG, hr⟩ := h
  obtain ⟨v, hv2, hv3⟩ := h12 _ _ _ k12
  rw [a, Int.toNat_natCast] at hv2
  exact ⟨_, fw, C + 1, W, (zfi 17 (ct2 0)).toNat, ⟨by omega, by omega, by omega, by omega, by omega⟩, hv2, h13.trans k13, GI_operand hG (by omega) (by omega) (by unfold kd ar; omega), hr⟩
theorem PS.op {gA : ClassId} {ct ct2 : Nat → va_E} {x y : Nat} {R R2 : (Nat → Int32) → Nat → Prop} {r : Int32} (h : PS gA ct (x + 1) y R) (h17 : zfi 17 (ct2 0) = zfi 17 (ct 0)) (h18 : zfi 18 (ct2 0) = zfi 18 (ct 0)) (h21 : zfi 21 (ct2 0) = zfi 21 (ct 0) + 1) (h22 : zfi 22 (ct2 0) = zfi 22 (ct 0) - 1) (h12 : wr (ct 12) (ct2 12) (zfi 21 (ct 0)) (1048576 * r.toInt)) (h13 : ct2 13 = ct 13) (ht : zk (ct 13) (zfi 22 (ct 0) - 1) r) (hr1 : 2 ≤ r.toInt) (hr2 : r.toInt ≤ 6) (hR : ∀ fw W, R fw (W + 1) → (2 ≤ kd (fw W) ∧ kd (fw W) ≤ 6) → R2 fw W) : PS gA ct2 (x + 1) y R2 := by
  obtain ⟨fs, fw, C, W, P, ⟨a, b, c, d, e⟩, k12, k13, hG, hr⟩ := h
  obtain ⟨v, hv2, hv3⟩ := h12 _ _ _ k12
  rw [a, Int.toNat_natCast] at hv2
  have hW := hG.1
  obtain ⟨W1, rfl⟩ : ∃ n, W = n + 1 := ⟨W - 1, by omega⟩
  have hk := ht _ _ _ k13
  rw [b, show ((W1 + 1 : Nat) : Int) - 1 = (W1 : Int) by omega, Int.toNat_natCast] at hk
  have hk1 := hk (hG.2.2.2.2.1 W1 (by omega)).1
  exact ⟨_, fw, C + 1, W1, P, ⟨by omega, by omega, by omega, by omega, by omega⟩, hv2, h13.trans k13, GI_op hG (by omega) (by omega) (by unfold kd at *; omega), hR _ _ hr (by omega)⟩
theorem PS.not {gA : ClassId} {ct ct2 : Nat → va_E} {x y : Nat} {r : Int32} (h : PS gA ct (x + 1) y R0) (h17 : zfi 17 (ct2 0) = zfi 17 (ct 0)) (h18 : zfi 18 (ct2 0) = zfi 18 (ct 0)) (h21 : zfi 21 (ct2 0) = zfi 21 (ct 0) + 1) (h22 : zfi 22 (ct2 0) = zfi 22 (ct 0) - 1) (h12 : wr (ct 12) (ct2 12) (zfi 21 (ct 0)) 10485760) (h13 : ct2 13 = ct 13) (ht : zk (ct 13) (zfi 22 (ct 0) - 1) r) (hr1 : r.toInt = 10) : PS gA ct2 (x + 1) y R0 := by
  obtain ⟨fs, fw, C, W, P, ⟨a, b, c, d, e⟩, k12, k13, hG, hr⟩ := h
  obtain ⟨v, hv2, hv3⟩ := h12 _ _ _ k12
  rw [a, Int.toNat_natCast] at hv2
  have hW := hG.1
  obtain ⟨W1, rfl⟩ : ∃ n, W = n + 1 := ⟨W - 1, by omega⟩
  have hk := ht _ _ _ k13
  rw [b, show ((W1 + 1 : Nat) : Int) - 1 = (W1 : Int) by omega, Int.toNat_natCast] at hk
  have hk1 := hk (hG.2.2.2.2.1 W1 (by omega)).1
  refine ⟨_, fw, C + 1, W1, P, ⟨by omega, by omega, by omega, by omega, by omega⟩, hv2, h13.trans k13, GI_not hG (by omega) (by omega) (by unfold kd at *; omega), ?_⟩
  have hr3 : nop fw W1 + _ = 0 := hr
  exact Nat.eq_zero_of_add_eq_zero_right hr3
theorem PS.cmp {gA : ClassId} {ct ct2 : Nat → va_E} {x y : Nat} {R : (Nat → Int32) → Nat → Prop} {r : Int32} (h : PS gA ct (x + 2) (y + 1) R) (h17 : zfi 17 (ct2 0) = zfi 17 (ct 0)) (h18 : zfi 18 (ct2 0) = zfi 18 (ct 0)) (h21 : zfi 21 (ct2 0) = zfi 21 (ct 0) + 1) (h22 : zfi 22 (ct2 0) = zfi 22 (ct 0)) (h12 : wr (ct 12) (ct2 12) (zfi 21 (ct 0)) (1048576 * r.toInt)) (h13 : ct2 13 = ct 13) (hr1 : 7 ≤ r.toInt) (hr2 : r.toInt ≤ 9) : PS gA ct2 (x + 1) y R := by
  obtain ⟨fs, fw, C, W, P, ⟨a, b, c, d, e⟩, k12, k13, hG, hr⟩ := h
  obtain ⟨v, hv2, hv3⟩ := h12 _ _ _ k12
  rw [a, Int.toNat_natCast] at hv2
  exact ⟨_, fw, C + 1, W, P, ⟨by omega, by omega, by omega, by omega, by omega⟩, hv2, h13.trans k13, GI_cmp hG (by omega) (by unfold kd; omega), hr⟩
theorem PS.push {gA : ClassId} {ct ct2 : Nat → va_E} {x y x2 : Nat} {R R2 : (Nat → Int32) → Nat → Prop} {r : Int} (h : PS gA ct x y R) (h17 : zfi 17 (ct2 0) = zfi 17 (ct 0) + 1) (h18 : zfi 18 (ct2 0) = zfi 18 (ct 0)) (h17b : zfi 17 (ct2 0) ≤ zfi 18 (ct 0)) (h21 : zfi 21 (ct2 0) = zfi 21 (ct 0)) (h22 : zfi 22 (ct2 0) = zfi 22 (ct 0) + 1) (h12 : ct2 12 = ct 12) (h13 : wr (ct 13) (ct2 13) (zfi 22 (ct 0)) (1048576 * r)) (hk : (2 ≤ r ∧ r ≤ 6 ∧ x = x2 + 1) ∨ ((r = 10 ∨ r = 13 ∨ r = 14) ∧ x = x2)) (hR : ∀ fw W (w : Int32), R fw W → kd w = r → R2 (upd fw W w) (W + 1)) : PS gA ct2 x2 y R2 := by
  obtain ⟨fs, fw, C, W, P, ⟨a, b, c, d, e⟩, k12, k13, hG, hr⟩ := h
  obtain ⟨v, hv2, hv3⟩ := h13 _ _ _ k13
  rw [b, Int.toNat_natCast] at hv2
  have hkv : kd v = r := by unfold kd; omega
  exact ⟨fs, _, C, W + 1, P + 1, ⟨by omega, by omega, by omega, by omega, by omega⟩, h12.trans k12, hv2, GI_push hG (by omega) (by omega), hR _ _ _ hr hkv⟩
theorem PS.pop {gA : ClassId} {ct ct2 : Nat → va_E} {x y : Nat} {R R2 : (Nat → Int32) → Nat → Prop} (h : PS gA ct x y R) (h17 : zfi 17 (ct2 0) = zfi 17 (ct 0) + 1) (h18 : zfi 18 (ct2 0) = zfi 18 (ct 0)) (h17b : zfi 17 (ct2 0) ≤ zfi 18 (ct 0)) (h21 : zfi 21 (ct2 0) = zfi 21 (ct 0)) (h22 : zfi 22 (ct2 0) = zfi 22 (ct 0) - 1) (hw : 2 ≤ zfi 22 (ct 0)) (h12 : ct2 12 = ct 12) (h13 : ct2 13 = ct 13) (hR : ∀ fw W, R fw (W + 1) → 1 ≤ W → ¬ (2 ≤ kd (fw W) ∧ kd (fw W) ≤ 6) ∧ ¬ (kd (fw W) = 11 ∨ kd (fw W) = 12) ∧ R2 fw W) : PS gA ct2 x y R2 := by
  obtain ⟨fs, fw, C, W, P, ⟨a, b, c, d, e⟩, k12, k13, hG, hr⟩ := h
  have hW := hG.1
  obtain ⟨W1, rfl⟩ : ∃ n, W = n + 1 := ⟨W - 1, by omega⟩
  obtain ⟨q1, q2, q3⟩ := hR _ _ hr (by omega)
  exact ⟨fs, fw, C, W1, P + 1, ⟨by omega, by omega, by omega, by omega, by omega⟩, h12.trans k12, h13.trans k13, GI_step (GI_pop hG (by omega) q1 q2) (by omega) (by omega), q3⟩
theorem PS.jump {gA : ClassId} {ct ct2 : Nat → va_E} {y : Nat} {r : Int} (h : PS gA ct 1 y R0) (h17 : zfi 17 (ct2 0) = zfi 17 (ct 0) + 1) (h18 : zfi 18 (ct2 0) = zfi 18 (ct 0)) (h17b : zfi 17 (ct2 0) ≤ zfi 18 (ct 0)) (h21 : zfi 21 (ct2 0) = zfi 21 (ct 0) + 1) (h22 : zfi 22 (ct2 0) = zfi 22 (ct 0) + 1) (h12 : wr (ct 12) (ct2 12) (zfi 21 (ct 0)) (1048576 * r)) (h13 : wr (ct 13) (ct2 13) (zfi 22 (ct 0)) (1048576 * r + zfi 21 (ct 0))) (hk : r = 11 ∨ r = 12) : PS gA ct2 0 y R0 := by
  obtain ⟨fs, fw, C, W, P, ⟨a, b, c, d, e⟩, k12, k13, hG, hr⟩ := h
  obtain ⟨v, hv2, hv3⟩ := h12 _ _ _ k12
  obtain ⟨w, hw2, hw3⟩ := h13 _ _ _ k13
  rw [a, Int.toNat_natCast] at hv2
  rw [b, Int.toNat_natCast] at hw2
  have g3 := hG.2.2.1
  refine ⟨_, _, C + 1, W + 1, P + 1, ⟨by omega, by omega, by omega, by omega, by omega⟩, hv2, hw2, GI_jump hG (by omega) (by unfold kd; omega) (by omega) (by unfold kd; omega) (by unfold ar; omega), ?_⟩
  have e1 : ∀ k, k < W → upd fw W w k = fw k := fun k hk => by unfold upd; rw [if_neg (by omega)]
  have e2 : upd fw W w W = w := by unfold upd; rw [if_pos rfl]
  show nop (upd fw W w) W + _ = 0
  rw [e2, nop_ext e1, if_neg (by unfold kd; omega)]
  exact hr
theorem PS.land {gA : ClassId} {ct ct2 : Nat → va_E} {y : Nat} (h : PS gA ct 1 y R0) {i v : Int32} {fs fw : Nat → Int32} (k12 : ct 12 = .inl (gA, 120, .inl fs)) (k13 : ct 13 = .inl (gA, 120, .inl fw)) (h17 : zfi 17 (ct2 0) = zfi 17 (ct 0)) (h18 : zfi 18 (ct2 0) = zfi 18 (ct 0)) (h21 : zfi 21 (ct2 0) = zfi 21 (ct 0)) (h22 : zfi 22 (ct2 0) = zfi 22 (ct 0) - 1) (h12 : ct2 12 = .inl (gA, 120, .inl (upd fs i.toNatClampNeg v))) (h13 : ct2 13 = ct 13)
    (hj : kd (fw (zfi 22 (ct 0) - 1).toNat) = 11 ∨ kd (fw (zfi 22 (ct 0) - 1).toNat) = 12) (hi : i.toInt = ar (fw (zfi 22 (ct 0) - 1).toNat)) (hv : 0 ≤ (fs i.toNatClampNeg).toInt → v.toInt = 1048576 * kd (fs i.toNatClampNeg) + zfi 21 (ct 0)) : PS gA ct2 1 y R0 := by
  obtain ⟨fs', fw', C, W, P, ⟨a, b, c, d, e⟩, k12', k13', hG, hr⟩ := h
  rw [k12] at k12'
  rw [k13] at k13'
  cases k12'
  cases k13'
  have hW := hG.1
  obtain ⟨W1, rfl⟩ : ∃ n, W = n + 1 := ⟨W - 1, by omega⟩
  rw [b, show ((W1 + 1 : Nat) : Int) - 1 = (W1 : Int) by omega, Int.toNat_natCast] at hj hi
  have g3 := hG.2.2.1
  obtain ⟨-, -, -, -, -, D, -, -, ds, dj⟩ := id hG
  obtain ⟨j, c1, c2, c3, -⟩ := dj W1 (by omega) hj
  have hij : i.toNatClampNeg = j := z_cl (by omega)
  rw [hij] at hv h12
  have hv2 := hv (ds j c1).1
  refine ⟨_, fw, C, W1, P, ⟨by omega, by omega, by omega, by omega, by omega⟩, h12, h13.trans k13, GI_land hG hj c2 (by omega) (by unfold kd at *; omega) (by unfold ar; omega), ?_⟩
  have hr3 : nop fw W1 + _ = 0 := hr
  exact Nat.eq_zero_of_add_eq_zero_right hr3
/-- what lies at a pending jump's place -/
theorem PS.jat {gA : ClassId} {ct : Nat → va_E} {x y : Nat} {R : (Nat → Int32) → Nat → Prop} (h : PS gA ct x y R) {fs fw : Nat → Int32} (k12 : ct 12 = .inl (gA, 120, .inl fs)) (k13 : ct 13 = .inl (gA, 120, .inl fw)) (hj : kd (fw (zfi 22 (ct 0) - 1).toNat) = 11 ∨ kd (fw (zfi 22 (ct 0) - 1).toNat) = 12) : 0 ≤ (fw (zfi 22 (ct 0) - 1).toNat).toInt ∧ ar (fw (zfi 22 (ct 0) - 1).toNat) < zfi 21 (ct 0) ∧ 0 ≤ ar (fw (zfi 22 (ct 0) - 1).toNat) ∧ 0 ≤ (fs (ar (fw (zfi 22 (ct 0) - 1).toNat)).toNat).toInt ∧ kd (fs (ar (fw (zfi 22 (ct 0) - 1).toNat)).toNat) ≤ 12 := by
  obtain ⟨fs', fw', C, W, P, ⟨a, b, c, d, e⟩, k12', k13', hG, hr⟩ := h
  rw [k12] at k12'
  rw [k13] at k13'
  cases k12'
  cases k13'
  have hW := hG.1
  obtain ⟨W1, rfl⟩ : ∃ n, W = n + 1 := ⟨W - 1, by omega⟩
  rw [b, show ((W1 + 1 : Nat) : Int) - 1 = (W1 : Int) by omega, Int.toNat_natCast] at hj ⊢
  obtain ⟨-, -, -, -, g5, D, -, -, ds, dj⟩ := id hG
  obtain ⟨j, c1, c2, c3, -⟩ := dj W1 (by omega) hj
  rw [c2, Int.toNat_natCast]
  exact ⟨(g5 W1 (by omega)).1, by omega, by omega, (ds j c1).1, by omega⟩
theorem PS.top {gA : ClassId} {ct : Nat → va_E} {x y : Nat} {R : (Nat → Int32) → Nat → Prop} {r : Int32} (h : PS gA ct x y R) (ht : zk (ct 13) (zfi 22 (ct 0) - 1) r) : PS gA ct x y (fun fw W => R fw W ∧ 1 ≤ W ∧ kd (fw (W - 1)) = r.toInt) := by
  obtain ⟨fs, fw, C, W, P, ⟨a, b, c, d, e⟩, k12, k13, hG, hr⟩ := h
  have hW := hG.1
  obtain ⟨W1, rfl⟩ : ∃ n, W = n + 1 := ⟨W - 1, by omega⟩
  have hk := ht _ _ _ k13
  rw [b, show ((W1 + 1 : Nat) : Int) - 1 = (W1 : Int) by omega, Int.toNat_natCast] at hk
  have hk1 := hk (hG.2.2.2.2.1 W1 (by omega)).1
  exact ⟨fs, fw, C, W1 + 1, P, ⟨a, b, c, d, e⟩, k12, k13, hG, hr, by omega, by rw [Nat.add_sub_cancel]; omega⟩
theorem PS.start {gA : ClassId} {ct : Nat → va_E} {fs fw : Nat → Int32} {w : Int32} (h21 : zfi 21 (ct 0) = 0) (h22 : zfi 22 (ct 0) = 1) (h17 : zfi 17 (ct 0) = 0) (h18 : 0 ≤ zfi 18 (ct 0) ∧ zfi 18 (ct 0) ≤ 100) (h12 : ct 12 = .inl (gA, 120, .inl fs)) (h13 : ct 13 = .inl (gA, 120, .inl (upd fw 0 w))) (hw : w.toInt = 13631488) : PS gA ct 0 0 R0 := by
  refine ⟨fs, _, 0, 1, 0, ⟨by omega, by omega, by omega, by omega, by omega⟩, h12, h13, GI_start (by omega) (by unfold kd; omega), ?_⟩
  have e2 : upd fw 0 w 0 = w := by unfold upd; rw [if_pos rfl]
  show 0 + _ = 0
  rw [e2, if_neg (by unfold kd; omega)]
theorem wr_c {e e2 e0 e3 : va_E} {k v k0 v0 : Int} (h : wr e e2 k v) (he : e = e0) (h3 : e3 = e2) (hk : k = k0) (hv : v = v0) : wr e0 e3 k0 v0 := by
  subst he
  subst h3
  subst hk
  subst hv
  exact h
theorem zk_of {e : va_E} {cA : ClassId} {n : Nat} {f : Nat → Int32} {i y r : Int32} {k : Int} (he : e = .inl (cA, n, .inl f)) (hi : i.toInt = k) (h0 : 0 ≤ k) (ey : y = f i.toNatClampNeg) (er : r = y / 1048576) : zk e k r := fun cB m g h hp => by
  rw [he] at h
  cases h
  rw [z_cl (k := k.toNat) (by omega)] at ey
  rw [← ey] at hp ⊢
  rw [er]
  exact z_div rfl (by decide) hp (by decide)
def ztp (ct : Nat → va_E) : Int := match ct 13 with
  | .inl (_, _, .inl f) => kd (f (zfi 22 (ct 0) - 1).toNat)
  | _ => 0
theorem ztp_of {ct : Nat → va_E} {cA : ClassId} {n : Nat} {f : Nat → Int32} (h : ct 13 = .inl (cA, n, .inl f)) : ztp ct = kd (f (zfi 22 (ct 0) - 1).toNat) := by
  unfold ztp
  rw [h]
theorem PS.topv {gA : ClassId} {ct : Nat → va_E} {x y : Nat} {R : (Nat → Int32) → Nat → Prop} {r : Int32} (h : PS gA ct x y R) (ht : zk (ct 13) (zfi 22 (ct 0) - 1) r) : r.toInt = ztp ct := by
  obtain ⟨fs, fw, C, W, P, ⟨a, b, c, d, e⟩, k12, k13, hG, hr⟩ := h
  have hW := hG.1
  rw [ztp_of k13]
  refine ht _ _ _ k13 ?_
  rw [b, show (W : Int) - 1 = ((W - 1 : Nat) : Int) by omega, Int.toNat_natCast]
  exact (hG.2.2.2.2.1 (W - 1) (by omega)).1
theorem PS.topR {gA : ClassId} {ct : Nat → va_E} {x y : Nat} {R R2 : (Nat → Int32) → Nat → Prop} (h : PS gA ct x y R) (hR : ∀ fw W, R fw W → 1 ≤ W → kd (fw (W - 1)) = ztp ct → R2 fw W) : PS gA ct x y R2 := by
  obtain ⟨fs, fw, C, W, P, ⟨a, b, c, d, e⟩, k12, k13, hG, hr⟩ := h
  have hW := hG.1
  refine ⟨fs, fw, C, W, P, ⟨a, b, c, d, e⟩, k12, k13, hG, hR _ _ hr hW ?_⟩
  rw [ztp_of k13, b, show (W : Int) - 1 = ((W - 1 : Nat) : Int) by omega, Int.toNat_natCast]
def RC (f0 : Nat → Int32) (W0 : Nat) (fw : Nat → Int32) (W : Nat) : Prop := fw = f0 ∧ W ≤ W0 ∧ ∀ k, W ≤ k → k < W0 → 2 ≤ kd (f0 k) ∧ kd (f0 k) ≤ 6
theorem RC.pop {f0 fw : Nat → Int32} {W0 W : Nat} (h : RC f0 W0 fw (W + 1)) (ht : 2 ≤ kd (fw W) ∧ kd (fw W) ≤ 6) : RC f0 W0 fw W := by
  obtain ⟨a, b, c⟩ := h
  subst a
  refine ⟨rfl, by omega, fun k h1 h2 => ?_⟩
  by_cases q : k = W
  · subst q; exact ht
  · exact c k (by omega) h2
def RCa (al : Int) (f0 : Nat → Int32) (W0 : Nat) (fw : Nat → Int32) (W : Nat) : Prop := RC f0 W0 fw W ∧ 1 ≤ W ∧ (al = 1 → ¬ (2 ≤ kd (fw (W - 1)) ∧ kd (fw (W - 1)) ≤ 6))
theorem RCa.low {al : Int} {base W0 W : Nat} {f0 f1 fw : Nat → Int32} (h0 : nop f0 base = 0) (hb : RB base f0 f1 W0) (h : RCa al f1 W0 fw W) : RB base f0 fw W := by
  obtain ⟨⟨a, b, c⟩, d, -⟩ := h
  subst a
  obtain ⟨b1, b2, b3⟩ := hb
  refine ⟨?_, b2, fun k h1 h2 => b3 k h1 (by omega)⟩
  apply Classical.byContradiction
  intro q
  have h1 := c (base - 1) (by omega) (by omega)
  rw [b2 (base - 1) (by omega)] at h1
  exact nop_0 h0 (base - 1) (by omega) h1
theorem RCa.open14 {base W0 W : Nat} {f0 f1 fw : Nat → Int32} (hb : RB base f0 f1 W0) (h : RCa 1 f1 W0 fw W) (ho : ∃ k, base ≤ k ∧ k < W0 ∧ kd (f1 k) = 14) : base < W ∧ kd (fw (W - 1)) = 14 ∧ RB base f0 fw (W - 1) := by
  obtain ⟨⟨a, b, c⟩, d, e⟩ := h
  subst a
  obtain ⟨b1, b2, b3⟩ := hb
  obtain ⟨k, k1, k2, k3⟩ := ho
  have hk : k < W := by
    apply Classical.byContradiction
    intro q
    have := c k (by omega) k2
    omega
  have h1 := b3 (W - 1) (by omega) (by omega)
  have h2 := e rfl
  refine ⟨by omega, by omega, by omega, b2, fun j j1 j2 => b3 j j1 (by omega)⟩
theorem RCa.none {base W0 W : Nat} {f0 f1 fw : Nat → Int32} (h0 : nop f0 base = 0) (hb : RB base f0 f1 W0) (h : RCa 1 f1 W0 fw W) (ho : ∀ k, base ≤ k → k < W0 → kd (f1 k) ≠ 14) : R0 fw W := by
  obtain ⟨⟨a, b, c⟩, d, e⟩ := h
  subst a
  obtain ⟨b1, b2, b3⟩ := hb
  refine nop_of fun k hk => ?_
  by_cases q : k < base
  · rw [b2 k q]
    exact nop_0 h0 k q
  · exfalso
    have h1 := b3 (W - 1) (by omega) (by omega)
    have h2 := e rfl
    have h3 := ho (W - 1) (by omega) (by omega)
    omega
theorem RB.push {base W : Nat} {f0 fw : Nat → Int32} {w : Int32} (h : RB base f0 fw W) (hk : (2 ≤ kd w ∧ kd w ≤ 6) ∨ kd w = 14) : RB base f0 (upd fw W w) (W + 1) := by
  obtain ⟨a, b, c⟩ := h
  have e : ∀ k, k ≠ W → upd fw W w k = fw k := fun k hk => by unfold upd; rw [if_neg hk]
  have e2 : upd fw W w W = w := by unfold upd; rw [if_pos rfl]
  refine ⟨by omega, fun k hk2 => by rw [e k (by omega)]; exact b k hk2, fun k h1 h2 => ?_⟩
  by_cases q : k = W
  · subst q; rw [e2]; exact hk
  · rw [e k q]; exact c k h1 (by omega)
theorem R0.push {W : Nat} {fw : Nat → Int32} {w : Int32} (h : R0 fw W) (hk : ¬ (2 ≤ kd w ∧ kd w ≤ 6)) : R0 (upd fw W w) (W + 1) := by
  have e : ∀ k, k < W → upd fw W w k = fw k := fun k hk => by unfold upd; rw [if_neg (by omega)]
  have e2 : upd fw W w W = w := by unfold upd; rw [if_pos rfl]
  show nop (upd fw W w) W + _ = 0
  rw [e2, nop_ext e, if_neg hk]
  exact h
theorem R0.pop {W : Nat} {fw : Nat → Int32} (h : R0 fw (W + 1)) : R0 fw W ∧ ¬ (2 ≤ kd (fw W) ∧ kd (fw W) ≤ 6) := by
  refine ⟨?_, nop_0 h W (by omega)⟩
  have h3 : nop fw W + _ = 0 := h
  exact Nat.eq_zero_of_add_eq_zero_right h3
theorem PS.base {gA : ClassId} {ct : Nat → va_E} {x y : Nat} (h : PS gA ct x y R0) : ∃ f0, nop f0 (zfi 22 (ct 0)).toNat = 0 ∧ PS gA ct x y (RB (zfi 22 (ct 0)).toNat f0) := by
  obtain ⟨fs, fw, C, W, P, ⟨a, b, c, d, e⟩, k12, k13, hG, hr⟩ := h
  rw [b, Int.toNat_natCast]
  exact ⟨fw, hr, fs, fw, C, W, P, ⟨a, b, c, d, e⟩, k12, k13, hG, Nat.le_refl _, fun _ _ => rfl, fun k h1 h2 => by omega⟩
theorem PS.fix {gA : ClassId} {ct : Nat → va_E} {x y : Nat} {R : (Nat → Int32) → Nat → Prop} (h : PS gA ct x y R) : ∃ f1 W1, R f1 W1 ∧ zfi 22 (ct 0) = (W1 : Int) ∧ ct 13 = .inl (gA, 120, .inl f1) ∧ (∀ k, k < W1 → 0 ≤ (f1 k).toInt) ∧ PS gA ct x y (fun fw W => fw = f1 ∧ W = W1) := by
  obtain ⟨fs, fw, C, W, P, ⟨a, b, c, d, e⟩, k12, k13, hG, hr⟩ := h
  exact ⟨fw, W, hr, b, k13, fun k hk => (hG.2.2.2.2.1 k hk).1, fs, fw, C, W, P, ⟨a, b, c, d, e⟩, k12, k13, hG, rfl, rfl⟩
theorem PS.mono {gA : ClassId} {ct : Nat → va_E} {x y : Nat} {R R2 : (Nat → Int32) → Nat → Prop} (h : PS gA ct x y R) (hR : ∀ fw (W : Nat), zfi 22 (ct 0) = (W : Int) → R fw W → R2 fw W) : PS gA ct x y R2 := by
  obtain ⟨fs, fw, C, W, P, ⟨a, b, c, d, e⟩, k12, k13, hG, hr⟩ := h
  exact ⟨fs, fw, C, W, P, ⟨a, b, c, d, e⟩, k12, k13, hG, hR _ _ b hr⟩
theorem PS.get {gA : ClassId} {ct : Nat → va_E} {x y : Nat} {R : (Nat → Int32) → Nat → Prop} (h : PS gA ct x y R) {Z : Prop} (hR : ∀ fw (W : Nat), zfi 22 (ct 0) = (W : Int) → R fw W → Z) : Z := by
  obtain ⟨fs, fw, C, W, P, ⟨a, b, c, d, e⟩, k12, k13, hG, hr⟩ := h
  exact hR _ _ b hr
def zos (e : va_E) (a b : Int) : Prop := ∀ (cA : ClassId) (n : Nat) (f : Nat → Int32), e = .inl (cA, n, .inl f) → (∀ k : Nat, (k : Int) < b → 0 ≤ (f k).toInt) → ∃ k : Nat, a ≤ (k : Int) ∧ (k : Int) < b ∧ kd (f k) = 14
def zno (e : va_E) (a b c : Int) : Prop := ∀ (cA : ClassId) (n : Nat) (f : Nat → Int32), e = .inl (cA, n, .inl f) → (∀ k : Nat, (k : Int) < c → 0 ≤ (f k).toInt) → ∀ k : Nat, a ≤ (k : Int) → (k : Int) < b → kd (f k) ≠ 14
theorem zno_0 {e : va_E} {a b c : Int} (h : b ≤ a) : zno e a b c := fun _ _ _ _ _ k h1 h2 => by omega
theorem zno_step {e : va_E} {a b c : Int} {cA : ClassId} {n : Nat} {f : Nat → Int32} {i y q : Int32} (he : e = .inl (cA, n, .inl f)) (h : zno e a b c) (hi : i.toInt = b) (h0 : 0 ≤ b) (hc : b < c) (ey : y = f i.toNatClampNeg) (eq : q = y / 1048576) (hq : ¬ q.toInt = 14) : zno e a (b + 1) c := fun cB m g hg hp k h1 h2 => by
  by_cases hk : (k : Int) < b
  · exact h cB m g hg hp k h1 hk
  · rw [he] at hg
    cases hg
    rw [z_cl (k := k) (by omega)] at ey
    have h3 := hp k (by omega)
    rw [← ey] at h3 ⊢
    rw [eq, z_div (x := y) (y := (1048576 : Int32)) (b := 1048576) rfl (by decide) h3 (by decide)] at hq
    exact hq
theorem zos_at {e : va_E} {a b : Int} {cA : ClassId} {n : Nat} {f : Nat → Int32} {i y q : Int32} (he : e = .inl (cA, n, .inl f)) (h0 : 0 ≤ a) (h1 : a ≤ i.toInt) (h2 : i.toInt < b) (ey : y = f i.toNatClampNeg) (eq : q = y / 1048576) (hq : q.toInt = 14) : zos e a b := fun cB m g hg hp => by
  rw [he] at hg
  cases hg
  rw [z_cl (k := i.toInt.toNat) (by omega)] at ey
  have h3 := hp i.toInt.toNat (by omega)
  rw [← ey] at h3
  rw [eq, z_div (x := y) (y := (1048576 : Int32)) (b := 1048576) rfl (by decide) h3 (by decide)] at hq
  exact ⟨i.toInt.toNat, by omega, by omega, by rw [← ey]; exact hq⟩
/-- digits read so far and what they come to -/
def dgp (p p0 v : Int) : Prop := ∃ d : Nat, d ≤ 5 ∧ p = p0 + (d : Int) ∧ 0 ≤ v ∧ v < ((10 ^ d : Nat) : Int)
theorem dgp_0 {p p0 v : Int} (h : p = p0) (hv : v = 0) : dgp p p0 v := ⟨0, by omega, by omega, by omega, by rw [hv]; decide⟩
theorem dgp_c {d : Nat} (h : d ≤ 5) : 10 ^ d ≤ 100000 := Nat.pow_le_pow_right (n := 10) (by decide) h
theorem dgp_hi {p p0 v : Int} (h : dgp p p0 v) : 0 ≤ v ∧ v ≤ 99999 := by
  obtain ⟨d, h1, h2, h3, h4⟩ := h
  have := dgp_c h1
  omega
theorem dgp_le {p p0 v : Int} (h : dgp p p0 v) (hn : ¬ p = p0 + 5) : 0 ≤ v ∧ v ≤ 9999 ∧ p ≤ p0 + 4 := by
  obtain ⟨d, h1, h2, h3, h4⟩ := h
  have h5 : 10 ^ d ≤ 10 ^ 4 := Nat.pow_le_pow_right (n := 10) (by decide) (by omega)
  have h6 : (10 : Nat) ^ 4 = 10000 := by decide
  omega
theorem dgp_step {p p0 v c : Int} (h : dgp p p0 v) (hn : ¬ p = p0 + 5) (h1 : 48 ≤ c) (h2 : c ≤ 57) : dgp (p + 1) p0 (10 * v + c - 48) := by
  obtain ⟨d, d1, d2, d3, d4⟩ := h
  refine ⟨d + 1, by omega, by omega, by omega, ?_⟩
  rw [Nat.pow_succ]
  omega
def dhp (p p0 h : Int) : Prop := p0 < p ∨ (48 ≤ h ∧ h ≤ 57)
theorem dhp_use {p p0 h : Int} (q : dhp p p0 h) (hn : ¬ (48 ≤ h ∧ h ≤ 57)) : p0 < p := by
  rcases q with q | q
  · exact q
  · exact absurd q hn
def CW (gA : ClassId) (ct : Nat → va_E) : Prop := ∃ (fs : Nat → Int32) (C : Nat), ct 12 = .inl (gA, 120, .inl fs) ∧ zfi 21 (ct 0) = (C : Int) ∧ C ≤ 100 ∧ cwf fs C
theorem PS.done {gA : ClassId} {ct : Nat → va_E} {x y : Nat} {R : (Nat → Int32) → Nat → Prop} (h : PS gA ct x y R) (hw : zfi 22 (ct 0) = 1) : CW gA ct := by
  obtain ⟨fs, fw, C, W, P, ⟨a, b, c, d, e⟩, k12, k13, hG, hr⟩ := h
  have : W = 1 := by omega
  subst this
  obtain ⟨q1, q2⟩ := GI_done hG
  exact ⟨fs, C, k12, a, by omega, q2⟩
