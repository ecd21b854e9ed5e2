/-! SAFE lines, searches, as functions of the clean cells -/
section SD
variable (l : Launch) (g : zG) (pe : Int32) (ct : Nat → va_E)
def wshF (o : Int32) : Int32 := if 0 ≤ o.toInt ∧ o.toInt < pe.toInt then zar (ct 2) o.toInt.toNat else 0
def mxI (k w : Int32) : Int32 := if k < w then w else k
noncomputable def slS (b k : Int32) (M : Nat → Int32) : Nat → Int32
  | 0 => 0
  | i + 1 => if LIV ct b (nI i) = true ∧ (mxI k (wshF pe ct (eOwner l g pe ct (0 + 55 + 11 * b.toInt.toNat) (nI i)))).toInt ≤ (bcf (M i)).toInt then slS b k M i ||| ((1 : Int32) <<< (nI i &&& 31)) else slS b k M i
noncomputable def SLF (b k : Int32) (F : Nat → Int32) : Int32 := slS l g pe ct b k (wMay (lnF ct b.toInt.toNat) (lvF ct b.toInt.toNat) F) 8
noncomputable def qSafe (b k kn : Int32) : Int32 := if 0 ≤ b.toInt ∧ b.toInt < (bkF ct).toInt ∧ 1 ≤ k.toInt ∧ k.toInt ≤ 16 ∧ 0 ≤ kn.toInt ∧ kn.toInt ≤ 255 then SLF l g pe ct b k (FIT l g pe ct b kn) else -1
def usS (b : Int32) : Nat → Int32
  | 0 => 0
  | n + 1 => if ¬ (zf 0 (ct (gix ct n))).toInt = 0 ∧ (zf 1 (ct (gix ct n))).toInt = b.toInt then usS b n ||| ((1 : Int32) <<< (nI n &&& 31)) else usS b n
noncomputable def bfS (b i : Int32) : Nat → Int32
  | 0 => -1
  | s + 1 => if ((bfS b i s).toInt = -1 ∨ (bcf (nI s)).toInt < (bcf (bfS b i s)).toInt) ∧ (nI s &&& (usS ct b 8 ^^^ (-1))).toInt = 0 ∧ (bcf (qMay l g pe ct b (nI s) i.toInt.toNat)).toInt = 1 then nI s else bfS b i s
noncomputable def qFst (b i wh : Int32) : Int32 := if LIN ct b i = true ∧ 0 ≤ wh.toInt ∧ wh.toInt ≤ 2 then (if LIV ct b i = true then (if (bfS l g pe ct b i 256).toInt = -1 then -2 else if wh.toInt = 0 then bcf (bfS l g pe ct b i 256) else if wh.toInt = 1 then bfS l g pe ct b i 256 else lowG (qMay l g pe ct b (bfS l g pe ct b i 256) i.toInt.toNat) 32) else -2) else -1
/-- the line that is bared first: a BOOK safe by itself, but not by the others -/
noncomputable def qBar (b k : Int32) : Int32 := if (SLF l g pe ct b k (FTL l g pe ct b 0 (LDF l g pe ct b ((1 : Int32) <<< (b &&& 31))))).toInt = (lvF ct b.toInt.toNat).toInt then lowG (lvF ct b.toInt.toNat &&& (SLF l g pe ct b k (FIT l g pe ct b 0) ^^^ (-1))) 32 else -1
noncomputable def tgS (k wh : Int32) : Nat → Int32
  | 0 => -2
  | m + 1 => if (if (zf 2 (ct (0 + 55 + 11 * ((bkF ct).toInt.toNat - (m + 1))))).toInt = 0 then (-1 : Int32) else qBar l g pe ct (nI ((bkF ct).toInt.toNat - (m + 1))) k).toInt = -1 then tgS k wh m else (if wh.toInt = 0 then nI ((bkF ct).toInt.toNat - (m + 1)) else if wh.toInt = 1 then qBar l g pe ct (nI ((bkF ct).toInt.toNat - (m + 1))) k else qMay l g pe ct (nI ((bkF ct).toInt.toNat - (m + 1))) 0 (qBar l g pe ct (nI ((bkF ct).toInt.toNat - (m + 1))) k).toInt.toNat)
noncomputable def qTog (k wh : Int32) : Int32 := if 1 ≤ k.toInt ∧ k.toInt ≤ 16 ∧ 0 ≤ wh.toInt ∧ wh.toInt ≤ 2 then tgS l g pe ct k wh (bkF ct).toInt.toNat else -1
end SD
section SO
variable {l : Launch} {g : zG} {pe : Int32} {ct ct2 : Nat → va_E}
theorem wshF_o (h : ∀ k, ¬ dIn pM k → ct2 k = ct k) {o : Int32} : wshF pe ct2 o = wshF pe ct o := by
  unfold wshF
  rw [h 2 (pM_no (by omega))]
theorem slS_o (h : ∀ k, ¬ dIn pM k → ct2 k = ct k) {b k : Int32} {M : Nat → Int32} : ∀ i, slS l g pe ct2 b k M i = slS l g pe ct b k M i
  | 0 => rfl
  | i + 1 => by
    show (if LIV ct2 b (nI i) = true ∧ (mxI k (wshF pe ct2 (eOwner l g pe ct2 (0 + 55 + 11 * b.toInt.toNat) (nI i)))).toInt ≤ (bcf (M i)).toInt then slS l g pe ct2 b k M i ||| ((1 : Int32) <<< (nI i &&& 31)) else slS l g pe ct2 b k M i) = (if LIV ct b (nI i) = true ∧ (mxI k (wshF pe ct (eOwner l g pe ct (0 + 55 + 11 * b.toInt.toNat) (nI i)))).toInt ≤ (bcf (M i)).toInt then slS l g pe ct b k M i ||| ((1 : Int32) <<< (nI i &&& 31)) else slS l g pe ct b k M i)
    rw [LIV_o h, eOwner_o h, wshF_o h, slS_o h i]
theorem slS_c {b k : Int32} {M M2 : Nat → Int32} (h : ∀ j, j < 8 → M j = M2 j) : ∀ i, i ≤ 8 → slS l g pe ct b k M i = slS l g pe ct b k M2 i
  | 0, _ => rfl
  | i + 1, hi => by
    show (if LIV ct b (nI i) = true ∧ (mxI k (wshF pe ct (eOwner l g pe ct (0 + 55 + 11 * b.toInt.toNat) (nI i)))).toInt ≤ (bcf (M i)).toInt then slS l g pe ct b k M i ||| ((1 : Int32) <<< (nI i &&& 31)) else slS l g pe ct b k M i) = (if LIV ct b (nI i) = true ∧ (mxI k (wshF pe ct (eOwner l g pe ct (0 + 55 + 11 * b.toInt.toNat) (nI i)))).toInt ≤ (bcf (M2 i)).toInt then slS l g pe ct b k M2 i ||| ((1 : Int32) <<< (nI i &&& 31)) else slS l g pe ct b k M2 i)
    rw [h i (by omega), slS_c h i (by omega)]
theorem SLF_o (h : ∀ k, ¬ dIn pM k → ct2 k = ct k) {b k : Int32} {F : Nat → Int32} : SLF l g pe ct2 b k F = SLF l g pe ct b k F := by
  unfold SLF
  rw [slS_o h, lnF_o h, lvF_o h]
theorem SLF_c {b k : Int32} {F F2 : Nat → Int32} (h : ∀ j, j < 8 → F j = F2 j) : SLF l g pe ct b k F = SLF l g pe ct b k F2 := slS_c (fun j hj => wMay_c h hj) 8 (Nat.le_refl _)
theorem qMay_o (h : ∀ k, ¬ dIn pM k → ct2 k = ct k) (hg : ∀ n, n < 8 → ¬ (10 ≤ gix ct n ∧ gix ct n < 17)) {b kn : Int32} {j : Nat} (hj : j < 8) : qMay l g pe ct2 b kn j = qMay l g pe ct b kn j := by
  unfold qMay
  rw [lnF_o h, lvF_o h]
  exact wMay_c (fun k _ => FIT_o h hg) hj
theorem bfS_rg {b i : Int32} : ∀ n, n ≤ 256 → -1 ≤ (bfS l g pe ct b i n).toInt ∧ (bfS l g pe ct b i n).toInt ≤ 255
  | 0, _ => show -1 ≤ (-1 : Int32).toInt ∧ (-1 : Int32).toInt ≤ 255 from by decide
  | s + 1, h => by
    show -1 ≤ (if _ then nI s else bfS l g pe ct b i s).toInt ∧ (if _ then nI s else bfS l g pe ct b i s).toInt ≤ 255
    have h1 := nI_toInt (n := s) (by omega)
    split
    · omega
    · exact bfS_rg s (by omega)
theorem qBar_o (h : ∀ k, ¬ dIn pM k → ct2 k = ct k) (hg : ∀ n, n < 8 → ¬ (10 ≤ gix ct n ∧ gix ct n < 17)) {b k : Int32} : qBar l g pe ct2 b k = qBar l g pe ct b k := by
  unfold qBar
  rw [SLF_o h, SLF_o h, lvF_o h, SLF_c (F := FTL l g pe ct2 b 0 _) (F2 := FTL l g pe ct b 0 (LDF l g pe ct b ((1 : Int32) <<< (b &&& 31)))) (fun j _ => (FTL_p h hg).trans (FTL_L (LDF_o h))), SLF_c (F := FIT l g pe ct2 b 0) (F2 := FIT l g pe ct b 0) (fun j _ => FIT_o h hg)]
theorem lowG_r7 {x : Int32} (h0 : 0 ≤ x.toInt) (h1 : x.toInt ≤ 255) : ∀ n, n ≤ 32 → -1 ≤ (lowG x n).toInt ∧ (lowG x n).toInt ≤ 7
  | 0, _ => by
    show -1 ≤ (-1 : Int32).toInt ∧ (-1 : Int32).toInt ≤ 7
    decide
  | m + 1, h => by
    show -1 ≤ (if ib x (31 - m) = true then nI (31 - m) else lowG x m).toInt ∧ (if ib x (31 - m) = true then nI (31 - m) else lowG x m).toInt ≤ 7
    have h2 := nI_toInt (n := 31 - m) (by omega)
    have h16 : ((2 ^ 8 : Nat) : Int) = 256 := by decide
    by_cases c : ib x (31 - m) = true
    · have h3 := zb_lt (n := 8) h0 (by omega) (ib_zb.mp c)
      rw [if_pos c]
      omega
    · rw [if_neg c]
      exact lowG_r7 h0 h1 m (by omega)
end SO
def gcS (a b : Int64) : Nat → Int64 × Int64
  | 0 => (a, b)
  | n + 1 => if (gcS a b n).2 = 0 then gcS a b n else ((gcS a b n).2, (gcS a b n).1 - (gcS a b n).1 / (gcS a b n).2 * (gcS a b n).2)
theorem gcS_stop {a b : Int64} {k : Nat} (h : (gcS a b k).2 = 0) : ∀ m, gcS a b (k + m) = gcS a b k
  | 0 => rfl
  | m + 1 => by
    show (if (gcS a b (k + m)).2 = 0 then gcS a b (k + m) else _) = _
    rw [gcS_stop h m, if_pos h]
section OD
variable (l : Launch) (g : zG) (pe : Int32) (ct : Nat → va_E)
noncomputable def qAbv (b i p kn : Int32) : Nat := gvP (fun j q => ib (upd (FIT l g pe ct b kn) i.toInt.toNat (FIT l g pe ct b kn i.toInt.toNat &&& ((1 : Int32) <<< (p &&& 31))) j) q) (lnF ct b.toInt.toNat).toInt.toNat 16 (lvF ct b.toInt.toNat).toInt.toNat
noncomputable def qOdd (b i p kn wh : Int32) : Int64 := if LIN ct b i = true ∧ (0 ≤ p.toInt ∧ p.toInt < pe.toInt) ∧ (0 ≤ kn.toInt ∧ kn.toInt ≤ 255) ∧ 0 ≤ wh.toInt ∧ wh.toInt ≤ 1 then (if LIV ct b i = true then (if i64 (qWays l g pe ct b kn) = 0 then -2 else if (gcS (i64 (qAbv l g pe ct b i p kn)) (i64 (qWays l g pe ct b kn)) 1000).1 = 0 then -2 else if wh.toInt = 0 then i64 (qAbv l g pe ct b i p kn) / (gcS (i64 (qAbv l g pe ct b i p kn)) (i64 (qWays l g pe ct b kn)) 1000).1 else i64 (qWays l g pe ct b kn) / (gcS (i64 (qAbv l g pe ct b i p kn)) (i64 (qWays l g pe ct b kn)) 1000).1) else -2) else -1
end OD
