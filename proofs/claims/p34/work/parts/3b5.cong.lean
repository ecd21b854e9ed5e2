/-! Matching's answers by who fits the lines alone -/
theorem jn_cF {F F2 : Nat → Int32} (h : ∀ k, k < 8 → F k = F2 k) {s : Nat} : ∀ n, n ≤ 8 → jn F s n = jn F2 s n
  | 0, _ => rfl
  | n + 1, hn => by
    show (if s.testBit n = true then jn F s n ||| F n else jn F s n) = (if s.testBit n = true then jn F2 s n ||| F2 n else jn F2 s n)
    rw [jn_cF h n (by omega), h n (by omega)]
theorem wAll_c {ln lv : Int32} {F F2 : Nat → Int32} (h : ∀ k, k < 8 → F k = F2 k) : ∀ n, (wAll ln lv F n).1 = (wAll ln lv F2 n).1 ∧ ∀ j, j < 8 → (wAll ln lv F n).2 j = (wAll ln lv F2 n).2 j
  | 0 => ⟨rfl, h⟩
  | n + 1 => by
    obtain ⟨a, b⟩ := wAll_c (ln := ln) (lv := lv) h n
    show (if n = 0 then ((0 : Int32), F) else wSt ln lv (jn F n 8) (nI n) (wAll ln lv F n)).1 = (if n = 0 then ((0 : Int32), F2) else wSt ln lv (jn F2 n 8) (nI n) (wAll ln lv F2 n)).1 ∧ ∀ j, j < 8 → (if n = 0 then ((0 : Int32), F) else wSt ln lv (jn F n 8) (nI n) (wAll ln lv F n)).2 j = (if n = 0 then ((0 : Int32), F2) else wSt ln lv (jn F2 n 8) (nI n) (wAll ln lv F2 n)).2 j
    by_cases e : n = 0
    · rw [if_pos e, if_pos e]
      exact ⟨rfl, h⟩
    · rw [if_neg e, if_neg e, jn_cF h 8 (Nat.le_refl _)]
      unfold wSt
      by_cases c : (nI n &&& (lv ^^^ (-1))).toInt = 0
      · rw [if_pos c, if_pos c, a]
        exact ⟨rfl, fun j hj => wMi_congr b j hj⟩
      · rw [if_neg c, if_neg c]
        exact ⟨a, b⟩
theorem wLak_c {ln lv : Int32} {F F2 : Nat → Int32} (h : ∀ k, k < 8 → F k = F2 k) : wLak ln lv F = wLak ln lv F2 := (wAll_c h _).1
theorem wMay_c {ln lv : Int32} {F F2 : Nat → Int32} (h : ∀ k, k < 8 → F k = F2 k) {j : Nat} (hj : j < 8) : wMay ln lv F j = wMay ln lv F2 j := by
  unfold wMay
  rw [wLak_c h, (wAll_c h _).2 j hj]
theorem gvI_c {fb fb2 : Nat → Bool} {t : Nat} {W : Nat → Nat} : ∀ i, (∀ k, k < i → fb k = fb2 k) → gvI fb t W i = gvI fb2 t W i
  | 0, _ => rfl
  | i + 1, h => by
    have e := gvI_c (t := t) (W := W) i (fun k hk => h k (by omega))
    show (fun s => if (fb i && !t.testBit i) = true ∧ s = t + 2 ^ i then gvI fb t W i s + gvI fb t W i t else gvI fb t W i s) = (fun s => if (fb2 i && !t.testBit i) = true ∧ s = t + 2 ^ i then gvI fb2 t W i s + gvI fb2 t W i t else gvI fb2 t W i s)
    rw [e, h i (by omega)]
theorem gvS_c {fb fb2 : Nat → Bool} {n : Nat} {W : Nat → Nat} (h : ∀ k, k < n → fb k = fb2 k) : ∀ k, gvS fb n W k = gvS fb2 n W k
  | 0 => rfl
  | k + 1 => by
    show gvI fb _ (gvS fb n W k) n = gvI fb2 _ (gvS fb2 n W k) n
    rw [gvS_c h k, gvI_c n h]
theorem gvP_c {F F2 : Nat → Nat → Bool} {n : Nat} (h : ∀ k, k < n → ∀ p, F k p = F2 k p) : ∀ p, gvP F n p = gvP F2 n p
  | 0 => rfl
  | p + 1 => by
    show gvS _ n (gvP F n p) _ = gvS _ n (gvP F2 n p) _
    rw [gvP_c h p]
    exact gvS_c (fun k hk => h k hk p) _
theorem stS_c {n : Nat} {F F2 : Nat → Int32} (hn : n ≤ 8) (h : ∀ k, k < 8 → F k = F2 k) : ∀ k, (stS n F k).1 = (stS n F2 k).1 ∧ (∀ j, j < 8 → (stS n F k).2.1 j = (stS n F2 k).2.1 j) ∧ (stS n F k).2.2.1 = (stS n F2 k).2.2.1 ∧ (stS n F k).2.2.2 = (stS n F2 k).2.2.2
  | 0 => ⟨rfl, h, rfl, rfl⟩
  | k + 1 => by
    obtain ⟨a, b, c, d⟩ := stS_c hn h k
    by_cases hf : (stS n F2 k).2.2.1 = true
    · obtain ⟨a1, b1, c1, d1⟩ := stS_step (F := F2) (L := (stS n F k).2.1) (fd := (stS n F k).1) hn hf a b rfl
      obtain ⟨a2, b2, c2, d2⟩ := stS_step (F := F) (L := (stS n F k).2.1) (fd := (stS n F k).1) hn (c.trans hf) rfl (fun _ _ => rfl) rfl
      exact ⟨a2.trans a1.symm, fun j hj => (b2 j hj).trans (b1 j hj).symm, c2.trans c1.symm, d2.trans (by rw [d1, d])⟩
    · have e1 : stS n F (k + 1) = stS n F k := if_neg (by rw [c]; exact hf)
      have e2 : stS n F2 (k + 1) = stS n F2 k := if_neg hf
      rw [e1, e2]
      exact ⟨a, b, c, d⟩
theorem lsS_c {ln lv : Int32} {F F2 : Nat → Int32} (h : ∀ k, k < 8 → F k = F2 k) : ∀ i, i ≤ 8 → (lsS ln lv F i).2 = (lsS ln lv F2 i).2 ∧ ∀ j, j < 8 → (lsS ln lv F i).1 j = (lsS ln lv F2 i).1 j
  | 0, _ => ⟨rfl, h⟩
  | i + 1, hi => by
    obtain ⟨a, b⟩ := lsS_c (ln := ln) (lv := lv) h i (by omega)
    have e := wMay_c (ln := ln) (lv := lv) b (j := i) (by omega)
    by_cases c : ib lv i = true
    · have e1 : lsS ln lv F (i + 1) = (upd (lsS ln lv F i).1 i (if (lowG (wMay ln lv (lsS ln lv F i).1 i) 32).toInt = -1 then 0 else (1 : Int32) <<< (lowG (wMay ln lv (lsS ln lv F i).1 i) 32 &&& 31)), lowG (wMay ln lv (lsS ln lv F i).1 i) 32) := if_pos c
      have e2 : lsS ln lv F2 (i + 1) = (upd (lsS ln lv F2 i).1 i (if (lowG (wMay ln lv (lsS ln lv F2 i).1 i) 32).toInt = -1 then 0 else (1 : Int32) <<< (lowG (wMay ln lv (lsS ln lv F2 i).1 i) 32 &&& 31)), lowG (wMay ln lv (lsS ln lv F2 i).1 i) 32) := if_pos c
      rw [e1, e2, e]
      refine ⟨rfl, fun j hj => ?_⟩
      show upd _ i _ j = upd _ i _ j
      unfold upd
      split
      · rfl
      · exact b j hj
    · have e1 : lsS ln lv F (i + 1) = lsS ln lv F i := if_neg c
      have e2 : lsS ln lv F2 (i + 1) = lsS ln lv F2 i := if_neg c
      rw [e1, e2]
      exact ⟨a, b⟩
/-! the questions about one BOOK, as functions of the clean cells -/
def gLn (ct : Nat → va_E) (b i kn x : Int32) : Int32 := if LIN ct b i = true ∧ 0 ≤ kn.toInt ∧ kn.toInt ≤ 255 then (if LIV ct b i = true then x else -2) else -1
def gBk (ct : Nat → va_E) (b kn x : Int32) : Int32 := if 0 ≤ b.toInt ∧ b.toInt < (bkF ct).toInt ∧ 0 ≤ kn.toInt ∧ kn.toInt ≤ 255 then x else -1
section QD
variable (l : Launch) (g : zG) (pe : Int32) (ct : Nat → va_E)
noncomputable def qMay (b kn : Int32) (j : Nat) : Int32 := wMay (lnF ct b.toInt.toNat) (lvF ct b.toInt.toNat) (FIT l g pe ct b kn) j
noncomputable def qWays (b kn : Int32) : Nat := gvP (fun i p => ib (FIT l g pe ct b kn i) p) (lnF ct b.toInt.toNat).toInt.toNat 16 (lvF ct b.toInt.toNat).toInt.toNat
noncomputable def qGiv (b kn : Int32) : Int64 := if 0 ≤ b.toInt ∧ b.toInt < (bkF ct).toInt ∧ 0 ≤ kn.toInt ∧ kn.toInt ≤ 255 then i64 (qWays l g pe ct b kn) else -1
noncomputable def qFits (b i kn : Int32) : Int32 := gLn ct b i kn (FIT l g pe ct b kn i.toInt.toNat)
noncomputable def qMust (b i p kn : Int32) : Int32 := if LIN ct b i = true ∧ (0 ≤ p.toInt ∧ p.toInt < pe.toInt) ∧ 0 ≤ kn.toInt ∧ kn.toInt ≤ 255 then (if LIV ct b i = true then (if ib (qMay l g pe ct b kn i.toInt.toNat) p.toInt.toNat = true then (if (bcf (qMay l g pe ct b kn i.toInt.toNat)).toInt = 1 then 2 else 1) else 0) else -2) else -1
noncomputable def qLst (b i kn : Int32) : Int32 := (lsS (lnF ct b.toInt.toNat) (lvF ct b.toInt.toNat) (FIT l g pe ct b kn) (min (i.toInt + 1) (lnF ct b.toInt.toNat).toInt).toNat).2
noncomputable def qGvg (b i kn : Int32) : Int32 := gLn ct b i kn (if (qLst l g pe ct b i kn).toInt = -1 then -2 else qLst l g pe ct b i kn)
noncomputable def qFew (b kn : Int32) : Int32 := gBk ct b kn (wLak (lnF ct b.toInt.toNat) (lvF ct b.toInt.toNat) (FIT l g pe ct b kn))
noncomputable def qSt (b kn : Int32) : Int32 × (Nat → Int32) × Bool × Nat := stS (lnF ct b.toInt.toNat).toInt.toNat (FIT l g pe ct b kn) 9
noncomputable def qStp (b kn w : Int32) : Int32 := if ¬ (0 ≤ b.toInt ∧ b.toInt < (bkF ct).toInt ∧ 0 ≤ kn.toInt ∧ kn.toInt ≤ 255) then -1 else if w.toInt = -1 then nI (qSt l g pe ct b kn).2.2.2 else if w.toInt = 8 then (qSt l g pe ct b kn).1 else if LIN ct b w = true then (if LIV ct b w = true then (qSt l g pe ct b kn).2.1 w.toInt.toNat else -2) else -1
end QD
theorem lvF_lt {g : zG} {pe : Int32} {ct : Nat → va_E} {b : Int32} (hI : Inv8 g idn pe ct) (hb : 0 ≤ b.toInt ∧ b.toInt ≤ 3) : (lvF ct b.toInt.toNat).toInt < ((2 ^ (lnF ct b.toInt.toNat).toInt.toNat : Nat) : Int) := by
  obtain ⟨lns, liv, shw, h1, h2, h3, h4, h5, h6, hs⟩ := a8_40 (kc := 0 + 55 + 11 * b.toInt.toNat) (by omega) hI
  unfold lvF lnF
  rw [hs]
  exact h6
