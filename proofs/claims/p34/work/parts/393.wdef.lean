/-! weigh(): what lines' sets need, as a table of the sets in their order -/
def jn (F : Nat → Int32) (s : Nat) : Nat → Int32
  | 0 => 0
  | k + 1 => if s.testBit k = true then jn F s k ||| F k else jn F s k
def wSp (J st : Int32) : Int32 := bcf J - bcf st
def wLk (lk J st : Int32) : Int32 := if (wSp J st).toInt < 0 ∧ (lk.toInt = 0 ∨ (bcf st).toInt < (bcf lk).toInt) then st else lk
def wMi (sp st y : Int32) (i : Int) (M : Nat → Int32) (j : Nat) : Int32 := if sp.toInt = 0 ∧ (j : Int) < i ∧ ib st j = false then M j &&& (y ^^^ (-1)) else M j
def wSt (ln lv : Int32) (y st : Int32) (x : Int32 × (Nat → Int32)) : Int32 × (Nat → Int32) := if (st &&& (lv ^^^ (-1))).toInt = 0 then (wLk x.1 y st, wMi (wSp y st) st y ln.toInt x.2) else x
def wAll (ln lv : Int32) (F : Nat → Int32) : Nat → Int32 × (Nat → Int32)
  | 0 => (0, F)
  | s + 1 => if s = 0 then (0, F) else wSt ln lv (jn F s 8) (nI s) (wAll ln lv F s)
/-- what weigh() leaves: TOO FEW, and whom a line may be -/
def wLak (ln lv : Int32) (F : Nat → Int32) : Int32 := (wAll ln lv F (2 ^ ln.toInt.toNat)).1
def wMay (ln lv : Int32) (F : Nat → Int32) (j : Nat) : Int32 := if (wLak ln lv F).toInt = 0 then (wAll ln lv F (2 ^ ln.toInt.toNat)).2 j else 0
theorem wMi_0 {sp st y : Int32} {i : Int} {M : Nat → Int32} (h : i ≤ 0) (j : Nat) : wMi sp st y i M j = M j := by
  unfold wMi
  rw [if_neg (fun q => by have := q.2.1; omega)]
theorem wMi_sp {sp st y : Int32} {i : Int} {M : Nat → Int32} (h : ¬ sp.toInt = 0) (j : Nat) : wMi sp st y i M j = M j := by
  unfold wMi
  rw [if_neg (fun q => h q.1)]
theorem wMi_skip {sp st y : Int32} {i i2 : Int} {M : Nat → Int32} (hi : i2 = i + 1) (hb : ∀ k : Nat, (k : Int) = i → ib st k = true) (j : Nat) : wMi sp st y i2 M j = wMi sp st y i M j := by
  unfold wMi
  by_cases h : (j : Int) = i
  · rw [if_neg (fun q => by rw [hb j h] at q; exact absurd q.2.2 (by decide)), if_neg (fun q => by have := q.2.1; omega)]
  · by_cases c : sp.toInt = 0 ∧ (j : Int) < i ∧ ib st j = false
    · rw [if_pos c, if_pos ⟨c.1, by have := c.2.1; omega, c.2.2⟩]
    · rw [if_neg c, if_neg (fun q => c ⟨q.1, by have := q.2.1; omega, q.2.2⟩)]
theorem wMi_set {sp st y : Int32} {i i2 : Int} {M fN : Nat → Int32} {k : Nat} {v : Int32} (h : ∀ j, j < 8 → fN j = wMi sp st y i M j) (hi : i2 = i + 1) (hk : (k : Int) = i) (hk8 : k < 8) (hsp : sp.toInt = 0) (hb : ib st k = false) (hv : v = fN k &&& (y ^^^ (-1))) : ∀ j, j < 8 → upd fN k v j = wMi sp st y i2 M j := fun j hj => by
  by_cases e : j = k
  · subst e
    rw [upd_same, hv, h j hj]
    unfold wMi
    rw [if_neg (fun q => by have := q.2.1; omega), if_pos ⟨hsp, by omega, hb⟩]
  · rw [upd_other e, h j hj]
    unfold wMi
    by_cases c : sp.toInt = 0 ∧ (j : Int) < i ∧ ib st j = false
    · rw [if_pos c, if_pos ⟨c.1, by have := c.2.1; omega, c.2.2⟩]
    · rw [if_neg c, if_neg (fun q => c ⟨q.1, by have := q.2.1; omega, q.2.2⟩)]
theorem wMi_congr {sp st y : Int32} {i : Int} {M M2 : Nat → Int32} (h : ∀ j, j < 8 → M j = M2 j) (j : Nat) (hj : j < 8) : wMi sp st y i M j = wMi sp st y i M2 j := by
  unfold wMi
  rw [h j hj]
theorem zb_nI {s k : Nat} (hs : s < 2147483648) : zb (nI s) k ↔ s.testBit k = true := by
  have h := nI_toInt (n := s) hs
  rw [zb_iff (by omega), Nat.testBit_eq_decide_div_mod_eq, decide_eq_true_iff, show (nI s).toInt.toNat = s by omega]
theorem ib_nI {s k : Nat} (hs : s < 2147483648) : ib (nI s) k = s.testBit k := by
  rw [Bool.eq_iff_iff, ib_zb, zb_nI hs]
theorem z_orS : ∀ t, t < 8 → ∀ r, r < 2 ^ t → (nI r ||| ((1 : Int32) <<< (nI t &&& 31))) = nI (r + 2 ^ t) := by decide +kernel
theorem hb_top : ∀ t, t < 8 → ∀ s, s < 2 ^ (t + 1) → 2 ^ t ≤ s → s.testBit t = true := by decide +kernel
theorem hp_le : ∀ t, t < 9 → 2 ^ t ≤ 256 ∧ 1 ≤ 2 ^ t := by decide +kernel
theorem hp_succ (t : Nat) : 2 ^ (t + 1) = 2 ^ t + 2 ^ t := by rw [Nat.pow_succ]; omega
theorem jn_hi {F : Nat → Int32} {s t : Nat} : ∀ n, t ≤ n → (∀ k, t ≤ k → k < n → s.testBit k = false) → jn F s n = jn F s t
  | 0, h, _ => by rw [show t = 0 by omega]
  | n + 1, h, hb => by
    by_cases e : t = n + 1
    · rw [e]
    · show (if s.testBit n = true then _ else jn F s n) = _
      rw [if_neg (by rw [hb n (by omega) (by omega)]; decide)]
      exact jn_hi n (by omega) (fun k h1 h2 => hb k h1 (by omega))
theorem jn_same {F : Nat → Int32} {s r : Nat} : ∀ n, (∀ k, k < n → s.testBit k = r.testBit k) → jn F s n = jn F r n
  | 0, _ => rfl
  | n + 1, h => by
    show (if s.testBit n = true then _ else _) = (if r.testBit n = true then _ else _)
    rw [h n (by omega), jn_same n (fun k hk => h k (by omega))]
theorem jn_step {F : Nat → Int32} {t r : Nat} (ht : t < 8) (hr : r < 2 ^ t) : jn F (r + 2 ^ t) 8 = jn F r 8 ||| F t := by
  have hp := hp_le t (by omega)
  have hrt : ∀ k, k < 8 → t ≤ k → r.testBit k = false := fun k hk hkt => hb_out t (by omega) r hr k hk hkt
  obtain ⟨h1, h2⟩ := hb_add r (by omega) t ht (hrt t ht (Nat.le_refl _))
  rw [jn_hi (t := t + 1) 8 (by omega) (fun k a b => by rw [h2 k b, hrt k b (by omega)]; simp; omega), jn_hi (s := r) (t := t) 8 (by omega) (fun k a b => hrt k b a)]
  show (if (r + 2 ^ t).testBit t = true then _ else _) = _
  have e : jn F (r + 2 ^ t) t = jn F r t := jn_same t (fun k hk => by
    have h3 : (k == t) = false := by simp; omega
    rw [h2 k (by omega), h3, Bool.or_false])
  rw [if_pos (by rw [h2 t ht]; simp), e]
theorem wsub_iff {lv : Int32} {s : Nat} (hs : s < 256) : (nI s &&& (lv ^^^ (-1))).toInt = 0 ↔ ∀ k, k < 8 → s.testBit k = true → zb lv k := by
  have h0 := nI_toInt (n := s) (by omega)
  have h8 : ((2 ^ 8 : Nat) : Int) = 256 := by decide
  constructor
  · intro h k hk hb
    apply Classical.byContradiction
    intro q
    have h1 : zb (nI s &&& (lv ^^^ (-1))) k := zb_and.mpr ⟨(zb_nI (by omega)).mpr hb, (zb_not (by omega)).mpr q⟩
    rw [zb_iff (by omega), h] at h1
    simp at h1
  · intro h
    have h1 := z_andl (x := nI s) (y := lv ^^^ (-1)) rfl (by omega)
    refine zb_none (n := 8) h1.1 (by omega) (fun k hk hz => ?_)
    rw [zb_and, zb_not (by omega)] at hz
    exact hz.2 (h k hk ((zb_nI (by omega)).mp hz.1))
theorem wsub_rest {lv : Int32} {t r : Nat} (ht : t < 8) (hr : r < 2 ^ t) (h : (nI (r + 2 ^ t) &&& (lv ^^^ (-1))).toInt = 0) : (nI r &&& (lv ^^^ (-1))).toInt = 0 := by
  have hp := hp_le t (by omega)
  have hp1 := hp_le (t + 1) (by omega)
  rw [hp_succ] at hp1
  obtain ⟨h1, h2⟩ := hb_add r (by omega) t ht (hb_out t (by omega) r hr t ht (Nat.le_refl _))
  rw [wsub_iff (by omega)] at h ⊢
  exact fun k hk hb => h k hk (by rw [h2 k hk, hb]; rfl)
theorem wsub_dead {lv : Int32} {t s : Nat} (ht : t < 8) (hd : ib lv t = false) (h1 : 2 ^ t ≤ s) (h2 : s < 2 ^ (t + 1)) : ¬ (nI s &&& (lv ^^^ (-1))).toInt = 0 := fun h => by
  have hp := hp_le (t + 1) (by omega)
  rw [wsub_iff (by omega)] at h
  exact ib_no.mp hd (h t ht (hb_top t ht s h2 h1))
theorem wAll_dead {ln lv : Int32} {F : Nat → Int32} {t : Nat} (ht : t < 8) (hd : ib lv t = false) : ∀ n, 2 ^ t ≤ n → n ≤ 2 ^ (t + 1) → wAll ln lv F n = wAll ln lv F (2 ^ t) := by
  intro n
  induction n with
  | zero =>
    intro h _
    have := (hp_le t (by omega)).2
    omega
  | succ n ih =>
    intro h1 h2
    by_cases e : 2 ^ t = n + 1
    · rw [e]
    · have hp := (hp_le t (by omega)).2
      show (if n = 0 then _ else wSt ln lv (jn F n 8) (nI n) (wAll ln lv F n)) = _
      rw [if_neg (by omega)]
      unfold wSt
      rw [if_neg (wsub_dead ht hd (by omega) (by omega))]
      exact ih (by omega) (by omega)
theorem wAll_succ {ln lv : Int32} {F : Nat → Int32} {n : Nat} (h : 1 ≤ n) : wAll ln lv F (n + 1) = wSt ln lv (jn F n 8) (nI n) (wAll ln lv F n) := by
  show (if n = 0 then _ else _) = _
  rw [if_neg (by omega)]
/-- what weigh() keeps at the set n of the table: lacking, may, joint -/
def wInv (ln lv : Int32) (F : Nat → Int32) (n : Nat) (lk : Int32) (M J : Nat → Int32) : Prop :=
  lk = (wAll ln lv F n).1 ∧ (∀ j, j < 8 → M j = (wAll ln lv F n).2 j) ∧ ∀ s, s < n → (nI s &&& (lv ^^^ (-1))).toInt = 0 → J s = jn F s 8
theorem wInv_1 {ln lv : Int32} {F M J : Nat → Int32} (hM : ∀ j, j < 8 → M j = F j) (hJ : J 0 = 0) : wInv ln lv F 1 0 M J := ⟨rfl, hM, fun s hs _ => by
  have : s = 0 := by omega
  subst this
  rw [hJ]
  exact (jn_hi (F := F) (s := 0) (t := 0) 8 (by omega) (fun k _ _ => by simp)).symm⟩
theorem wInv_dead {ln lv : Int32} {F M J : Nat → Int32} {t : Nat} {lk : Int32} (h : wInv ln lv F (2 ^ t) lk M J) (ht : t < 8) (hd : ib lv t = false) : wInv ln lv F (2 ^ (t + 1)) lk M J := by
  have hp := hp_succ t
  have hp1 := (hp_le t (by omega)).2
  refine ⟨h.1.trans (congrArg Prod.fst (wAll_dead ht hd _ (by omega) (Nat.le_refl _)).symm), fun j hj => (h.2.1 j hj).trans (by rw [wAll_dead ht hd _ (by omega) (Nat.le_refl _)]), fun s hs hz => ?_⟩
  by_cases e : s < 2 ^ t
  · exact h.2.2 s e hz
  · exact absurd hz (wsub_dead ht hd (by omega) hs)
/-- one set more -/
theorem wInv_step {ln lv : Int32} {F M M2 J : Nat → Int32} {t r : Nat} {lk lk2 v x : Int32} (h : wInv ln lv F (2 ^ t + r) lk M J) (ht : t < 8) (hr : r < 2 ^ t) (hx : x = nI (r + 2 ^ t)) {k : Nat} (hk : k = 2 ^ t + r) (hv : v = J r ||| F t)
    (hl : lk2 = if (x &&& (lv ^^^ (-1))).toInt = 0 then wLk lk v x else lk) (hM : ∀ j, j < 8 → M2 j = if (x &&& (lv ^^^ (-1))).toInt = 0 then wMi (wSp v x) x v ln.toInt M j else M j) : wInv ln lv F (2 ^ t + (r + 1)) lk2 M2 (upd J k v) := by
  have hp := (hp_le t (by omega)).2
  have e1 : wAll ln lv F (2 ^ t + (r + 1)) = wSt ln lv (jn F (2 ^ t + r) 8) (nI (2 ^ t + r)) (wAll ln lv F (2 ^ t + r)) := wAll_succ (n := 2 ^ t + r) (by omega)
  have e2 : r + 2 ^ t = 2 ^ t + r := Nat.add_comm _ _
  have key : (x &&& (lv ^^^ (-1))).toInt = 0 → v = jn F (2 ^ t + r) 8 := fun hz => by
    rw [hx] at hz
    rw [hv, h.2.2 r (by omega) (wsub_rest ht hr hz), ← e2, jn_step ht hr]
  unfold wInv
  rw [e1]
  unfold wSt
  rw [← e2, ← hx]
  refine ⟨?_, fun j hj => ?_, fun s hs hz => ?_⟩
  · by_cases hz : (x &&& (lv ^^^ (-1))).toInt = 0
    · rw [if_pos hz, hl, if_pos hz, h.1, e2, key hz]
    · rw [if_neg hz, hl, if_neg hz, h.1, e2]
  · by_cases hz : (x &&& (lv ^^^ (-1))).toInt = 0
    · rw [if_pos hz, hM j hj, if_pos hz, e2, ← key hz]
      exact wMi_congr (fun j hj => h.2.1 j hj) j hj
    · rw [if_neg hz, hM j hj, if_neg hz, h.2.1 j hj, e2]
  · by_cases e : s = k
    · subst e
      rw [upd_same]
      rw [hk] at hz ⊢
      rw [← e2, ← hx] at hz
      exact key hz
    · rw [upd_other e]
      exact h.2.2 s (by omega) hz
/-! step by step -/
def fsA (found : Int32) (L : Nat → Int32) : Nat → Int32 × Int32 × Int32
  | 0 => (0, 0, 0)
  | i + 1 => if ib found i = false ∧ (bcf (L i)).toInt = 1 then ((fsA found L i).1 ||| L i, (fsA found L i).2.1 ||| ((fsA found L i).1 &&& L i), (fsA found L i).2.2 ||| ((1 : Int32) <<< (nI i &&& 31))) else fsA found L i
def fsB (x : Int32 × Int32 × Int32) (L : Nat → Int32) (j : Nat) : Int32 := if ib x.2.2 j = true ∧ (x.2.1 &&& L j).toInt = 0 then L j else L j &&& (x.1 ^^^ (-1))
def fsC (n : Nat) (x : Int32 × Int32 × Int32) (L : Nat → Int32) (j : Nat) : Int32 := if j < n then fsB x L j else L j
/-- found, left, whether there was a ROUND, how many -/
def stS (n : Nat) (F : Nat → Int32) : Nat → Int32 × (Nat → Int32) × Bool × Nat
  | 0 => (0, F, true, 0)
  | k + 1 => if (stS n F k).2.2.1 = true then ((stS n F k).1 ||| (fsA (stS n F k).1 (stS n F k).2.1 n).2.2, fsC n (fsA (stS n F k).1 (stS n F k).2.1 n) (stS n F k).2.1, decide ((fsA (stS n F k).1 (stS n F k).2.1 n).2.2.toInt ≠ 0), (stS n F k).2.2.2 + if (fsA (stS n F k).1 (stS n F k).2.1 n).2.2.toInt ≠ 0 then 1 else 0) else stS n F k
theorem fsA_congr {found : Int32} {L L2 : Nat → Int32} : ∀ i, (∀ j, j < i → L j = L2 j) → fsA found L i = fsA found L2 i
  | 0, _ => rfl
  | i + 1, h => by
    have e1 := fsA_congr (found := found) i (fun j hj => h j (by omega))
    have e2 := h i (by omega)
    show (if _ then _ else _) = (if _ then _ else _)
    rw [e1, e2]
theorem stS_stop {n : Nat} {F : Nat → Int32} {k : Nat} (h : (stS n F k).2.2.1 = false) : ∀ m, stS n F (k + m) = stS n F k
  | 0 => rfl
  | m + 1 => by
    have ih := stS_stop h m
    show (if (stS n F (k + m)).2.2.1 = true then _ else stS n F (k + m)) = _
    rw [ih, if_neg (by rw [h]; decide)]
theorem fsB_at {x : Int32 × Int32 × Int32} {L : Nat → Int32} {n j : Nat} (h : j < n) : fsC n x L j = fsB x L j := if_pos h
/-- one line more of the second pass -/
theorem fsC_step {x : Int32 × Int32 × Int32} {L fN : Nat → Int32} {i k : Nat} {v : Int32} (h : ∀ j, j < 8 → fN j = fsC i x L j) (hk : k = i) (hv : v = fsB x L i) : ∀ j, j < 8 → upd fN k v j = fsC (i + 1) x L j := fun j hj => by
  subst hk
  by_cases e : j = k
  · subst e
    rw [upd_same, hv]
    exact (if_pos (by omega)).symm
  · rw [upd_other e, h j hj]
    unfold fsC
    by_cases c : j < k
    · rw [if_pos c, if_pos (by omega)]
    · rw [if_neg c, if_neg (by omega)]
theorem fsC_stay {x : Int32 × Int32 × Int32} {L fN : Nat → Int32} {i : Nat} (h : ∀ j, j < 8 → fN j = fsC i x L j) (hv : fsB x L i = L i) : ∀ j, j < 8 → fN j = fsC (i + 1) x L j := fun j hj => by
  rw [h j hj]
  unfold fsC
  by_cases c : j < i
  · rw [if_pos c, if_pos (by omega)]
  · rw [if_neg c]
    by_cases e : j = i
    · subst e
      rw [if_pos (by omega), hv]
    · rw [if_neg (by omega)]
theorem stS_step {n : Nat} {F L : Nat → Int32} {k : Nat} {fd : Int32} {X : Int32 × Int32 × Int32} (hn : n ≤ 8) (hf : (stS n F k).2.2.1 = true) (hd : fd = (stS n F k).1) (hL : ∀ j, j < 8 → L j = (stS n F k).2.1 j) (hX : X = fsA fd L n) :
    (stS n F (k + 1)).1 = fd ||| X.2.2 ∧ (∀ j, j < 8 → (stS n F (k + 1)).2.1 j = fsC n X L j) ∧ (stS n F (k + 1)).2.2.1 = decide (X.2.2.toInt ≠ 0) ∧ (stS n F (k + 1)).2.2.2 = (stS n F k).2.2.2 + if X.2.2.toInt ≠ 0 then 1 else 0 := by
  have hX2 : X = fsA (stS n F k).1 (stS n F k).2.1 n := by rw [hX, ← hd]; exact fsA_congr n (fun j hj => hL j (by omega))
  have e : stS n F (k + 1) = ((stS n F k).1 ||| (fsA (stS n F k).1 (stS n F k).2.1 n).2.2, fsC n (fsA (stS n F k).1 (stS n F k).2.1 n) (stS n F k).2.1, decide ((fsA (stS n F k).1 (stS n F k).2.1 n).2.2.toInt ≠ 0), (stS n F k).2.2.2 + if (fsA (stS n F k).1 (stS n F k).2.1 n).2.2.toInt ≠ 0 then 1 else 0) := if_pos hf
  rw [e, ← hX2, hd]
  refine ⟨rfl, fun j hj => ?_, rfl, rfl⟩
  show fsC n X (stS n F k).2.1 j = fsC n X L j
  unfold fsC fsB
  rw [hL j hj]
def lowG (x : Int32) : Nat → Int32
  | 0 => -1
  | m + 1 => if ib x (31 - m) = true then nI (31 - m) else lowG x m
theorem lowG_at {x : Int32} {n : Nat} (hn : n < 32) : lowG x (32 - n) = if ib x n = true then nI n else lowG x (32 - (n + 1)) := by
  rw [show 32 - n = (31 - n) + 1 by omega]
  show (if ib x (31 - (31 - n)) = true then nI (31 - (31 - n)) else lowG x (31 - n)) = _
  rw [show 31 - (31 - n) = n by omega, show 32 - (n + 1) = 31 - n by omega]
theorem zb_asku {x y : Int32} {p : Nat} (hy : y.toInt = (p : Int)) (hp : p < 32) {r : Int32} (hr : r = z_ush x y &&& 1) : (r.toInt = 1 ∧ ib x p = true) ∨ (r.toInt = 0 ∧ ib x p = false) := by
  have e : (z_ush x y).toBitVec.toNat = x.toBitVec.toNat >>> p := z_Nush (by
    obtain rfl : y = nI p := z_nI hy
    have : ∀ j, j < 32 → ((nI j).toUInt32 &&& Int32.toUInt32 31).toNat % 32 = j := by decide +kernel
    exact this p hp)
  have h1 : (z_ush x y &&& 1).toBitVec.toNat = x.toBitVec.toNat / 2 ^ p % 2 := by
    rw [z_Nand, e, Nat.shiftRight_eq_div_pow]
    exact Nat.and_one_is_mod _
  have h5 := z_ofnat (y := z_ush x y &&& 1) (by omega)
  rw [h1] at h5
  rw [← hr] at h5
  have h6 : ib x p = decide (x.toBitVec.toNat / 2 ^ p % 2 = 1) := by
    unfold ib
    rw [BitVec.getLsbD, Nat.testBit_eq_decide_div_mod_eq]
  rw [h6]
  generalize x.toBitVec.toNat / 2 ^ p = q at h5
  by_cases h7 : q % 2 = 1
  · exact Or.inl ⟨by omega, by simp [h7]⟩
  · exact Or.inr ⟨by omega, by simp [h7]⟩
/-- THE LEAST GIVING: line by line -/
def lsS (ln lv : Int32) (F : Nat → Int32) : Nat → (Nat → Int32) × Int32
  | 0 => (F, -1)
  | i + 1 => if ib lv i = true then (upd (lsS ln lv F i).1 i (if (lowG (wMay ln lv (lsS ln lv F i).1 i) 32).toInt = -1 then 0 else (1 : Int32) <<< (lowG (wMay ln lv (lsS ln lv F i).1 i) 32 &&& 31)), lowG (wMay ln lv (lsS ln lv F i).1 i) 32) else lsS ln lv F i
theorem lowG_rg {x : Int32} (h0 : 0 ≤ x.toInt) (h1 : x.toInt ≤ 65535) : ∀ n, n ≤ 32 → -1 ≤ (lowG x n).toInt ∧ (lowG x n).toInt ≤ 15
  | 0, _ => by
    show -1 ≤ (-1 : Int32).toInt ∧ (-1 : Int32).toInt ≤ 15
    decide
  | m + 1, h => by
    show -1 ≤ (if ib x (31 - m) = true then nI (31 - m) else lowG x m).toInt ∧ (if ib x (31 - m) = true then nI (31 - m) else lowG x m).toInt ≤ 15
    have h2 := nI_toInt (n := 31 - m) (by omega)
    have h16 : ((2 ^ 16 : Nat) : Int) = 65536 := by decide
    by_cases c : ib x (31 - m) = true
    · have h3 := zb_lt (n := 16) h0 (by omega) (ib_zb.mp c)
      rw [if_pos c]
      omega
    · rw [if_neg c]
      exact lowG_rg h0 h1 m (by omega)
