-- who was found
def zfn (C B : Nat → Int32) (b : Int) : Nat → Int32
  | 0 => 0
  | i + 1 => if (C (8 * b.toNat + i)).toInt = 0 ∧ zpop (B i) 16 = 1 then zfn C B b i ||| (1 : Int32) <<< (nI i &&& 31) else zfn C B b i
theorem zfn_1 {C B : Nat → Int32} {b : Int} {i : Nat} {x y : Int32} (h : (C (8 * b.toNat + i)).toInt = 0 ∧ zpop (B i) 16 = 1) (hx : x = zfn C B b i) (hy : y.toInt = (i : Int)) : x ||| (1 : Int32) <<< (y &&& 31) = zfn C B b (i + 1) := by
  obtain rfl : y = nI i := z_nI hy
  rw [hx]
  show _ = (if _ then _ else _)
  rw [if_pos h]
theorem zfn_0 {C B : Nat → Int32} {b : Int} {i : Nat} {x : Int32} (h : ¬ ((C (8 * b.toNat + i)).toInt = 0 ∧ zpop (B i) 16 = 1)) (hx : x = zfn C B b i) : x = zfn C B b (i + 1) := by
  rw [hx]
  show _ = (if _ then _ else _)
  rw [if_neg h]
-- QUESTIONS
def zeb (E P : Nat → Int32) (set : Int32) (q : Int) : Int32 :=
  if (set &&& P q.toNat) = 0 ∨ (set &&& (P q.toNat ^^^ (-1))) = 0 then 1000000000
  else if (if E (set &&& (P q.toNat ^^^ (-1))).toNatClampNeg < E (set &&& P q.toNat).toNatClampNeg then E (set &&& P q.toNat).toNatClampNeg else E (set &&& (P q.toNat ^^^ (-1))).toNatClampNeg) = 1000000000 then 1000000000
  else (if E (set &&& (P q.toNat ^^^ (-1))).toNatClampNeg < E (set &&& P q.toNat).toNatClampNeg then E (set &&& P q.toNat).toNatClampNeg else E (set &&& (P q.toNat ^^^ (-1))).toNatClampNeg) + 1
theorem z_split {x y : Int32} (h : (x &&& y) = x) : (x &&& (y ^^^ (-1))) = 0 := by
  apply Int32.toBitVec_inj.mp
  apply BitVec.eq_of_getLsbD_eq
  intro i hi
  rw [show ((0 : Int32)).toBitVec = 0#32 by decide, BitVec.getLsbD_zero]
  cases hb : (x &&& (y ^^^ (-1))).toBitVec.getLsbD i with
  | false => rfl
  | true =>
    have hb2 : zb (x &&& (y ^^^ (-1))) i := hb
    rw [zb_and, zb_not hi] at hb2
    have hb3 : zb x i := hb2.1
    rw [← h, zb_and] at hb3
    exact absurd hb3.2 hb2.2
theorem z_split2 {x y : Int32} (h : (x &&& (y ^^^ (-1))) = x) : (x &&& y) = 0 := by
  apply Int32.toBitVec_inj.mp
  apply BitVec.eq_of_getLsbD_eq
  intro i hi
  rw [show ((0 : Int32)).toBitVec = 0#32 by decide, BitVec.getLsbD_zero]
  cases hb : (x &&& y).toBitVec.getLsbD i with
  | false => rfl
  | true =>
    have hb2 : zb (x &&& y) i := hb
    rw [zb_and] at hb2
    have hb3 : zb x i := hb2.1
    rw [← h, zb_and, zb_not hi] at hb3
    exact absurd hb2.2 hb3.2
theorem z_clinj {x y : Int32} (hx : 0 ≤ x.toInt) (hy : 0 ≤ y.toInt) (h : x.toNatClampNeg = y.toNatClampNeg) : x = y := by
  rw [z_cl (x := x) (k := x.toInt.toNat) (by omega), z_cl (x := y) (k := y.toInt.toNat) (by omega)] at h
  exact Int32.toInt_inj.mp (by omega)
theorem zeb_upd {E P : Nat → Int32} {set v : Int32} {q : Int} (h : 0 ≤ set.toInt) : zeb (upd E set.toNatClampNeg v) P set q = zeb E P set q := by
  unfold zeb
  by_cases h0 : (set &&& P q.toNat) = 0 ∨ (set &&& (P q.toNat ^^^ (-1))) = 0
  · rw [if_pos h0, if_pos h0]
  · rw [if_neg h0, if_neg h0]
    have b1 := z_andl (x := set) (y := P q.toNat) rfl h
    have b2 := z_andl (x := set) (y := P q.toNat ^^^ (-1)) rfl h
    have e1 : (set &&& P q.toNat).toNatClampNeg ≠ set.toNatClampNeg := fun e => h0 (Or.inr (z_split (z_clinj b1.1 h e)))
    have e2 : (set &&& (P q.toNat ^^^ (-1))).toNatClampNeg ≠ set.toNatClampNeg := fun e => h0 (Or.inl (z_split2 (z_clinj b2.1 h e)))
    rw [upd_other e1, upd_other e2]
/-- what is known of a set whose questions were tried up to q -/
def EQ (E P : Nat → Int32) (set : Int32) (q : Int) : Prop := E set.toNatClampNeg = 1000000000 ∨ ∃ k : Int, 0 ≤ k ∧ k < q ∧ zeb E P set k = E set.toNatClampNeg
theorem EQ_far {E P : Nat → Int32} {set v : Int32} {q : Int} (hv : v = 1000000000) : EQ (upd E set.toNatClampNeg v) P set q := Or.inl (by rw [upd_sm]; exact hv)
theorem EQ_keep {E P : Nat → Int32} {set v : Int32} {q : Int} (h0 : 0 ≤ set.toInt) (h : EQ E P set q) (hv : v = E set.toNatClampNeg) : EQ (upd E set.toNatClampNeg v) P set (q + 1) := by
  rcases h with h | ⟨k, k1, k2, k3⟩
  · exact Or.inl (by rw [upd_sm, hv]; exact h)
  · exact Or.inr ⟨k, k1, by omega, by rw [zeb_upd h0, upd_sm, hv]; exact k3⟩
theorem EQ_new {E P : Nat → Int32} {set v : Int32} {q : Int} (h0 : 0 ≤ set.toInt) (hq : 0 ≤ q) (hv : v = zeb E P set q) : EQ (upd E set.toNatClampNeg v) P set (q + 1) :=
  Or.inr ⟨q, hq, by omega, by rw [zeb_upd h0, upd_sm, hv]⟩
/-- the set ahead of this one is done -/
def EQL (E P : Nat → Int32) (x : Int) : Prop := x = 1 ∨ ∃ w : Int32, w.toInt = x - 1 ∧ (zpop w 16 ≤ 1 ∨ EQ E P w 128)
theorem EQL_use {E P : Nat → Int32} {x : Int} {w : Int32} (h : EQL E P x) (h1 : ¬ x = 1) (hw : w.toInt = x - 1) (h2 : 1 < zpop w 16) : EQ E P w 128 := by
  rcases h with h | ⟨u, u1, u2⟩
  · exact absurd h h1
  · obtain rfl : u = w := Int32.toInt_inj.mp (by omega)
    rcases u2 with u2 | u2
    · omega
    · exact u2
def EQX (E P : Nat → Int32) (set : Int32) (q : Int) : Prop := ∃ k : Int, q ≤ k ∧ k < 128 ∧ zeb E P set k = E set.toNatClampNeg
theorem EQX_start {E P : Nat → Int32} {set : Int32} (h : EQ E P set 128) (hf : ¬ E set.toNatClampNeg = 1000000000) : EQX E P set 0 := by
  rcases h with h | ⟨k, k1, k2, k3⟩
  · exact absurd h hf
  · exact ⟨k, k1, k2, k3⟩
theorem EQX_next {E P : Nat → Int32} {set : Int32} {q : Int} (h : EQX E P set q) (hn : ¬ zeb E P set q = E set.toNatClampNeg) : EQX E P set (q + 1) := by
  obtain ⟨k, k1, k2, k3⟩ := h
  refine ⟨k, ?_, k2, k3⟩
  have : k ≠ q := fun e => hn (by rw [← e]; exact k3)
  omega
theorem EQX_lt {E P : Nat → Int32} {set : Int32} {q : Int} (h : EQX E P set q) : q ≤ 127 := by
  obtain ⟨k, k1, k2, -⟩ := h
  omega
theorem zeb_of {E P : Nat → Int32} {set p x1 x3 y1 y2 : Int32} {q : Int} (hp : P q.toNat = p) (h1 : x1 = set &&& p) (h3 : x3 = set &&& (p ^^^ (-1))) (hy1 : y1 = E x1.toNatClampNeg) (hy2 : y2 = E x3.toNatClampNeg) : zeb E P set q = if x1 = 0 ∨ x3 = 0 then 1000000000 else if (if y2 < y1 then y1 else y2) = 1000000000 then 1000000000 else (if y2 < y1 then y1 else y2) + 1 := by
  unfold zeb
  rw [hp, ← h1, ← h3, ← hy1, ← hy2]
/-- the rest of a division is less -/
theorem zl_rem {x y : Int64} (hy : ¬ y = 0) : (((x - x / y * y).toInt.natAbs : Nat) : Int) < ((y.toInt.natAbs : Nat) : Int) := by
  have hy2 : y.toInt ≠ 0 := fun q => hy (Int64.toInt_inj.mp q)
  have h1 := Int64.toInt_lt x
  have h2 := Int64.le_toInt x
  have h3 := Int64.toInt_lt y
  have h4 := Int64.le_toInt y
  have hd := Int.tmod_add_mul_tdiv x.toInt y.toInt
  have hm := Int.natAbs_tmod x.toInt y.toInt
  have hlt : x.toInt.natAbs % y.toInt.natAbs < y.toInt.natAbs := Nat.mod_lt _ (by omega)
  have key : (x - x / y * y).toInt = x.toInt.tmod y.toInt := by
    rw [Int64.toInt_sub, Int64.toInt_mul, Int64.toInt_div]
    have e : x.toInt.tmod y.toInt = x.toInt - x.toInt.tdiv y.toInt * y.toInt := by
      rw [Int.mul_comm]
      omega
    have b1 : Int.bmod (x.toInt - Int.bmod (Int.bmod (x.toInt.tdiv y.toInt) (2 ^ 64) * y.toInt) (2 ^ 64)) (2 ^ 64) = Int.bmod (x.toInt.tmod y.toInt) (2 ^ 64) := by
      rw [e, Int.bmod_mul_bmod, Int.sub_bmod_bmod]
    rw [b1]
    exact Int.bmod_eq_of_le (by omega) (by omega)
  rw [key, hm]
  omega
-- codes of gossips
theorem cwf_ext {c c2 : Nat → Int32} {m : Nat} (h : ∀ i, i < m → c2 i = c i) (hw : cwf c m) : cwf c2 m := by
  obtain ⟨D, h0, hs⟩ := hw
  refine ⟨D, h0, fun i hi => ?_⟩
  have := hs i hi
  unfold cstep at this ⊢
  rw [h i hi]
  exact this
theorem cwf_0 {c : Nat → Int32} : cwf c 0 := ⟨fun _ => 0, rfl, fun i hi => by omega⟩
theorem cgood_z {e14 e15 : va_E} {h : Nat} (hg : cgood e14 e15 h) : ∃ m : Nat, m ≤ 120 ∧ (zar e15 h).toInt ≤ 120 * h + m ∧ cwf (fun i => zar e14 (120 * h + i)) m := by
  obtain ⟨cA, cB, c, t, e1, e2, e3⟩ := hg
  rw [zar_of e1, zar_of e2]
  rcases e3 with e3 | ⟨m, m1, m2, m3⟩
  · exact ⟨0, by omega, by omega, cwf_0⟩
  · exact ⟨m, m1, by omega, m3⟩
def CTI (D : Nat → Nat) (h m : Nat) (k n : Int) : Prop := ∃ i : Nat, i ≤ m ∧ k = 120 * (h : Int) + (i : Int) ∧ n = (D i : Int)
theorem CI_weak {sk : Int} {e14 e15 : va_E} (h : CI (-1) e14 e15) : CI sk e14 e15 := fun k hk _ => h k hk (by omega)
theorem upR14 {g : zG} {ad : Nat → Nat} {me : Int32} {ct : Nat → va_E} {sk : Int} {e : va_E} {cA : ClassId} {c : Nat → Int32} {i : Nat} {x : Int32} (hI : IR g ad me ct sk) (hc : ct 14 = .inl (cA, 960, .inl c)) (he : e = .inl (cA, 960, .inl (upd c i x))) (h1 : 120 * sk ≤ (i : Int)) (h2 : (i : Int) < 120 * sk + 120) (h : okk9 g ad me 14 e) : IR g ad me (va_up ct 14 e) sk := by
  refine ⟨up9 hI.1 h, fun k hk hne => ?_⟩
  rw [va_up_self, va_up_ne _ _ (by decide)]
  obtain ⟨cA', cB, c', t, e1, e2, e3⟩ := hI.2 k hk hne
  rw [hc] at e1
  cases e1
  refine ⟨cA, cB, _, t, he, e2, ?_⟩
  rcases e3 with e3 | ⟨m, m1, m2, m3⟩
  · exact Or.inl e3
  · exact Or.inr ⟨m, m1, m2, cwf_ext (fun j hj => upd_other (by omega)) m3⟩
theorem upR15 {g : zG} {ad : Nat → Nat} {me : Int32} {ct : Nat → va_E} {sk : Nat} {e : va_E} {cA cB : ClassId} {c t : Nat → Int32} {x : Int32} {m : Nat} (hI : IR g ad me ct (sk : Int)) (hc : ct 14 = .inl (cA, 960, .inl c)) (ht : ct 15 = .inl (cB, 8, .inl t)) {i : Nat} (hi : i = sk) (he : e = .inl (cB, 8, .inl (upd t i x))) (hx : x.toInt = 120 * (sk : Int) + (m : Int)) (hm : m ≤ 120) (hw : cwf (fun i => c (120 * sk + i)) m) (h : okk9 g ad me 15 e) : IR g ad me (va_up ct 15 e) := by
  subst hi
  refine ⟨up9 hI.1 h, fun k hk _ => ?_⟩
  rw [va_up_self, va_up_ne _ _ (by decide)]
  by_cases q : k = i
  · subst q
    exact ⟨cA, cB, c, _, hc, he, Or.inr ⟨m, hm, by rw [upd_sm]; exact hx, hw⟩⟩
  · obtain ⟨cA', cB', c', t', e1, e2, e3⟩ := hI.2 k hk (by omega)
    rw [hc] at e1
    cases e1
    rw [ht] at e2
    cases e2
    exact ⟨cA, cB, c, _, hc, he, by rw [upd_other q]; exact e3⟩
