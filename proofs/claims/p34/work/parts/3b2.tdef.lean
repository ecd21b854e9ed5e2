/-! the town's cells, as functions: books, lines, who fits -/
def zrf (e : va_E) : Nat → Option Nat := match e with
  | .inl (_, _, .inr (.inr (.inr (.inr f)))) => f
  | _ => fun _ => none
abbrev bkF (ct : Nat → va_E) : Int32 := zf 12 (ct 0)
abbrev lnF (ct : Nat → va_E) (b : Nat) : Int32 := zf 0 (ct (0 + 55 + 11 * b))
abbrev lvF (ct : Nat → va_E) (b : Nat) : Int32 := zf 1 (ct (0 + 55 + 11 * b))
def gix (ct : Nat → va_E) (n : Nat) : Nat := (zrf (ct 9) n).getD 0
def LIN (ct : Nat → va_E) (b i : Int32) : Bool := decide (0 ≤ b.toInt ∧ b.toInt < (bkF ct).toInt ∧ 0 ≤ i.toInt ∧ i.toInt < (lnF ct b.toInt.toNat).toInt)
def LIV (ct : Nat → va_E) (b i : Int32) : Bool := LIN ct b i && ib (lvF ct b.toInt.toNat) i.toInt.toNat
theorem LIN_iff {ct : Nat → va_E} {b i : Int32} : LIN ct b i = true ↔ 0 ≤ b.toInt ∧ b.toInt < (bkF ct).toInt ∧ 0 ≤ i.toInt ∧ i.toInt < (lnF ct b.toInt.toNat).toInt := decide_eq_true_iff
theorem LIN_no {ct : Nat → va_E} {b i : Int32} (h : ¬ (0 ≤ b.toInt ∧ b.toInt < (bkF ct).toInt ∧ 0 ≤ i.toInt ∧ i.toInt < (lnF ct b.toInt.toNat).toInt)) : LIN ct b i = false := decide_eq_false h
noncomputable def baS (l : Launch) (g : zG) (pe : Int32) (ct : Nat → va_E) (kb : Nat) (i : Int32) : Nat → Int32
  | 0 => eWho l g pe ct 35 (eNode l g pe ct kb i 0)
  | c + 1 => baS l g pe ct kb i c &&& eWho l g pe ct (0 + 35 + 5 * (c + 1)) (eNode l g pe ct kb i (nI (c + 1)))
noncomputable def gaS (l : Launch) (g : zG) (pe : Int32) (ct : Nat → va_E) (b i kn : Int32) : Nat → Int32
  | 0 => baS l g pe ct (0 + 55 + 11 * b.toInt.toNat) i 3
  | n + 1 => if ib kn n = true ∧ ¬ (eIsOf l g pe ct (gix ct n) b i).toInt = 0 then gaS l g pe ct b i kn n &&& zf 2 (ct (gix ct n)) else gaS l g pe ct b i kn n
/-- who fits a LINE alone -/
noncomputable def FAL (l : Launch) (g : zG) (pe : Int32) (ct : Nat → va_E) (b i kn : Int32) : Int32 := gaS l g pe ct b i kn 8
noncomputable def f1S (l : Launch) (g : zG) (pe : Int32) (ct : Nat → va_E) (la kn : Int32) (b : Nat) (w : Int32) : Nat → Int32
  | 0 => w
  | i + 1 => if ib la (8 * b + i) = true then f1S l g pe ct la kn b w i &&& FAL l g pe ct (nI b) (nI i) kn else f1S l g pe ct la kn b w i
noncomputable def f2S (l : Launch) (g : zG) (pe : Int32) (ct : Nat → va_E) (la kn : Int32) : Nat → Int32
  | 0 => ((1 : Int32) <<< (pe &&& 31)) - 1
  | b + 1 => f1S l g pe ct la kn b (f2S l g pe ct la kn b) (lnF ct b).toInt.toNat
/-- who fits all LINES of some places -/
noncomputable def FALL (l : Launch) (g : zG) (pe : Int32) (ct : Nat → va_E) (la kn : Int32) : Int32 := f2S l g pe ct la kn (bkF ct).toInt.toNat
def alS (ct : Nat → va_E) (op : Int32) : Nat → Int32
  | 0 => 0
  | x + 1 => if ib op x = true then alS ct op x ||| (lvF ct x <<< (nI (8 * x) &&& 31)) else alS ct op x
noncomputable def LDF (l : Launch) (g : zG) (pe : Int32) (ct : Nat → va_E) (b op : Int32) (j : Nat) : Int32 := if LIV ct b (nI j) = true then eReach l g pe ct (nI (8 * b.toInt.toNat + j)) (alS ct op (bkF ct).toInt.toNat) else 0
noncomputable def FTL (l : Launch) (g : zG) (pe : Int32) (ct : Nat → va_E) (b kn : Int32) (L : Nat → Int32) (j : Nat) : Int32 := if LIV ct b (nI j) = true then FALL l g pe ct (L j) kn else 0
/-- who fits the lines of a BOOK -/
noncomputable def FIT (l : Launch) (g : zG) (pe : Int32) (ct : Nat → va_E) (b kn : Int32) (j : Nat) : Int32 := FTL l g pe ct b kn (LDF l g pe ct b (eOpen l g pe ct b)) j
/-! they are the same where Matching alone differs -/
section TOff
variable {l : Launch} {g : zG} {pe : Int32} {ct ct2 : Nat → va_E}
theorem zf_o (h : ∀ k, ¬ dIn pM k → ct2 k = ct k) {k q : Nat} (hq : ¬ (10 ≤ q ∧ q < 17)) : zf k (ct2 q) = zf k (ct q) := by rw [h q (pM_no hq)]
theorem bkF_o (h : ∀ k, ¬ dIn pM k → ct2 k = ct k) : bkF ct2 = bkF ct := zf_o h (by omega)
theorem lnF_o (h : ∀ k, ¬ dIn pM k → ct2 k = ct k) {b : Nat} : lnF ct2 b = lnF ct b := zf_o h (by omega)
theorem lvF_o (h : ∀ k, ¬ dIn pM k → ct2 k = ct k) {b : Nat} : lvF ct2 b = lvF ct b := zf_o h (by omega)
theorem gix_o (h : ∀ k, ¬ dIn pM k → ct2 k = ct k) {n : Nat} : gix ct2 n = gix ct n := by
  unfold gix
  rw [h 9 (pM_no (by omega))]
theorem LIN_o (h : ∀ k, ¬ dIn pM k → ct2 k = ct k) {b i : Int32} : LIN ct2 b i = LIN ct b i := by
  unfold LIN
  rw [bkF_o h, lnF_o h]
theorem LIV_o (h : ∀ k, ¬ dIn pM k → ct2 k = ct k) {b i : Int32} : LIV ct2 b i = LIV ct b i := by
  unfold LIV
  rw [LIN_o h, lvF_o h]
theorem baS_o (h : ∀ k, ¬ dIn pM k → ct2 k = ct k) {kb : Nat} {i : Int32} : ∀ c, baS l g pe ct2 kb i c = baS l g pe ct kb i c
  | 0 => by
    show eWho _ _ _ _ _ _ = eWho _ _ _ _ _ _
    rw [eNode_o h, eWho_o h]
  | c + 1 => by
    show baS _ _ _ _ _ _ c &&& eWho _ _ _ _ _ _ = baS _ _ _ _ _ _ c &&& eWho _ _ _ _ _ _
    rw [eNode_o h, eWho_o h, baS_o h c]
/-- a GOSSIP's place is none of Matching's -/
theorem gaS_o (h : ∀ k, ¬ dIn pM k → ct2 k = ct k) {b i kn : Int32} (hg : ∀ n, n < 8 → ¬ (10 ≤ gix ct n ∧ gix ct n < 17)) : ∀ n, n ≤ 8 → gaS l g pe ct2 b i kn n = gaS l g pe ct b i kn n
  | 0, _ => baS_o h 3
  | n + 1, hn => by
    show (if ib kn n = true ∧ ¬ (eIsOf l g pe ct2 (gix ct2 n) b i).toInt = 0 then gaS l g pe ct2 b i kn n &&& zf 2 (ct2 (gix ct2 n)) else gaS l g pe ct2 b i kn n) = (if ib kn n = true ∧ ¬ (eIsOf l g pe ct (gix ct n) b i).toInt = 0 then gaS l g pe ct b i kn n &&& zf 2 (ct (gix ct n)) else gaS l g pe ct b i kn n)
    rw [gix_o h, eIsOf_o h, zf_o h (hg n (by omega)), gaS_o h hg n (by omega)]
theorem FAL_o (h : ∀ k, ¬ dIn pM k → ct2 k = ct k) {b i kn : Int32} (hg : ∀ n, n < 8 → ¬ (10 ≤ gix ct n ∧ gix ct n < 17)) : FAL l g pe ct2 b i kn = FAL l g pe ct b i kn := gaS_o h hg 8 (Nat.le_refl _)
theorem f1S_o (h : ∀ k, ¬ dIn pM k → ct2 k = ct k) {la kn w : Int32} {b : Nat} (hg : ∀ n, n < 8 → ¬ (10 ≤ gix ct n ∧ gix ct n < 17)) : ∀ i, f1S l g pe ct2 la kn b w i = f1S l g pe ct la kn b w i
  | 0 => rfl
  | i + 1 => by
    show (if ib la (8 * b + i) = true then f1S l g pe ct2 la kn b w i &&& FAL l g pe ct2 (nI b) (nI i) kn else f1S l g pe ct2 la kn b w i) = (if ib la (8 * b + i) = true then f1S l g pe ct la kn b w i &&& FAL l g pe ct (nI b) (nI i) kn else f1S l g pe ct la kn b w i)
    rw [f1S_o h hg i, FAL_o h hg]
theorem f2S_o (h : ∀ k, ¬ dIn pM k → ct2 k = ct k) {la kn : Int32} (hg : ∀ n, n < 8 → ¬ (10 ≤ gix ct n ∧ gix ct n < 17)) : ∀ b, f2S l g pe ct2 la kn b = f2S l g pe ct la kn b
  | 0 => rfl
  | b + 1 => by
    show f1S l g pe ct2 la kn b (f2S l g pe ct2 la kn b) (lnF ct2 b).toInt.toNat = f1S l g pe ct la kn b (f2S l g pe ct la kn b) (lnF ct b).toInt.toNat
    rw [f2S_o h hg b, lnF_o h, f1S_o h hg]
theorem gix_rg (hI : Inv8 g idn pe ct) : ∀ n, n < 8 → ¬ (10 ≤ gix ct n ∧ gix ct n < 17) := fun n hn => by
  obtain ⟨f, hf, h9⟩ := a8_9 hI
  obtain ⟨j, -, hj⟩ := hf n hn
  have e : gix ct n = 99 + 3 * j := by
    unfold gix
    rw [h9]
    show (f n).getD 0 = _
    rw [hj]
    rfl
  omega
theorem FALL_p (h : ∀ k, ¬ dIn pM k → ct2 k = ct k) {la kn : Int32} (hg : ∀ n, n < 8 → ¬ (10 ≤ gix ct n ∧ gix ct n < 17)) : FALL l g pe ct2 la kn = FALL l g pe ct la kn := by
  unfold FALL
  rw [f2S_o h hg, bkF_o h]
theorem alS_o (h : ∀ k, ¬ dIn pM k → ct2 k = ct k) {op : Int32} : ∀ x, alS ct2 op x = alS ct op x
  | 0 => rfl
  | x + 1 => by
    show (if ib op x = true then alS ct2 op x ||| (lvF ct2 x <<< (nI (8 * x) &&& 31)) else alS ct2 op x) = (if ib op x = true then alS ct op x ||| (lvF ct x <<< (nI (8 * x) &&& 31)) else alS ct op x)
    rw [alS_o h x, lvF_o h]
theorem LDF_o (h : ∀ k, ¬ dIn pM k → ct2 k = ct k) {b op : Int32} {j : Nat} : LDF l g pe ct2 b op j = LDF l g pe ct b op j := by
  unfold LDF
  rw [LIV_o h, alS_o h, bkF_o h, eReach_o h]
theorem FTL_p (h : ∀ k, ¬ dIn pM k → ct2 k = ct k) (hg : ∀ n, n < 8 → ¬ (10 ≤ gix ct n ∧ gix ct n < 17)) {b kn : Int32} {L : Nat → Int32} {j : Nat} : FTL l g pe ct2 b kn L j = FTL l g pe ct b kn L j := by
  unfold FTL
  rw [LIV_o h, FALL_p h hg]
theorem FTL_L {b kn : Int32} {L L2 : Nat → Int32} {j : Nat} (h : L j = L2 j) : FTL l g pe ct b kn L j = FTL l g pe ct b kn L2 j := by
  unfold FTL
  rw [h]
theorem FIT_o (h : ∀ k, ¬ dIn pM k → ct2 k = ct k) (hg : ∀ n, n < 8 → ¬ (10 ≤ gix ct n ∧ gix ct n < 17)) {b kn : Int32} {j : Nat} : FIT l g pe ct2 b kn j = FIT l g pe ct b kn j := by
  unfold FIT
  rw [FTL_p h hg]
  exact FTL_L (by rw [eOpen_o h, LDF_o h])
end TOff
