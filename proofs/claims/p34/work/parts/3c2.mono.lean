/-! what the law asks of the questions, told of their functions -/
theorem wAll_rg {ln lv : Int32} {F : Nat → Int32} {j : Nat} (h : 0 ≤ (F j).toInt ∧ (F j).toInt ≤ 65535) : ∀ k, 0 ≤ ((wAll ln lv F k).2 j).toInt ∧ ((wAll ln lv F k).2 j).toInt ≤ 65535
  | 0 => h
  | k + 1 => by
    have ih := wAll_rg (ln := ln) (lv := lv) h k
    show 0 ≤ ((if k = 0 then ((0 : Int32), F) else wSt ln lv (jn F k 8) (nI k) (wAll ln lv F k)).2 j).toInt ∧ ((if k = 0 then ((0 : Int32), F) else wSt ln lv (jn F k 8) (nI k) (wAll ln lv F k)).2 j).toInt ≤ 65535
    by_cases e : k = 0
    · rw [if_pos e]
      exact h
    · rw [if_neg e]
      unfold wSt
      split
      · show 0 ≤ (wMi _ _ _ _ (wAll ln lv F k).2 j).toInt ∧ (wMi _ _ _ _ (wAll ln lv F k).2 j).toInt ≤ 65535
        unfold wMi
        split
        · have t := z_andl (x := (wAll ln lv F k).2 j) (y := jn F k 8 ^^^ (-1)) rfl ih.1
          omega
        · exact ih
      · exact ih
theorem wMay_rg {ln lv : Int32} {F : Nat → Int32} {j : Nat} (h : 0 ≤ (F j).toInt ∧ (F j).toInt ≤ 65535) : 0 ≤ (wMay ln lv F j).toInt ∧ (wMay ln lv F j).toInt ≤ 65535 := by
  unfold wMay
  split
  · exact wAll_rg h _
  · have : (0 : Int32).toInt = 0 := by decide
    omega
def zsub (x y : Int32) : Prop := ∀ p, zb x p → zb y p
theorem zsub_and {x y z : Int32} (h : zsub x y) : zsub (x &&& z) y := fun p hp => h p (zb_and.mp hp).1
theorem zsub_and2 {x y z w : Int32} (h : zsub x y) (h2 : zsub z w) : zsub (x &&& z) (y &&& w) := fun p hp => zb_and.mpr ⟨h p (zb_and.mp hp).1, h2 p (zb_and.mp hp).2⟩
theorem zsub_r (x : Int32) : zsub x x := fun _ h => h
theorem zb_32 {x : Int32} {p : Nat} (h : zb x p) : p < 32 := by
  apply Classical.byContradiction
  intro q
  unfold zb at h
  rw [BitVec.getLsbD_of_ge _ _ (by omega)] at h
  exact absurd h (by decide)
theorem zsub_0 {x y : Int32} (h : zsub x y) : (x &&& (y ^^^ (-1))).toInt = 0 := zb_zero (fun p hp => by
  have h1 := zb_and.mp hp
  exact (zb_not (zb_32 h1.1)).mp h1.2 (h p h1.1))
section MON
variable {l : Launch} {g : zG} {pe : Int32} {ct : Nat → va_E}
theorem gaS_0 {b i : Int32} : ∀ n, gaS l g pe ct b i 0 n = gaS l g pe ct b i 0 0
  | 0 => rfl
  | n + 1 => by
    have h : ib (0 : Int32) n = false := ib_no.mpr zb_0
    show (if ib (0 : Int32) n = true ∧ _ then _ else gaS l g pe ct b i 0 n) = _
    rw [if_neg (fun q => by have q1 := q.1; rw [h] at q1; exact absurd q1 (by decide)), gaS_0 n]
theorem gaS_sub {b i kn : Int32} : ∀ n, zsub (gaS l g pe ct b i kn n) (gaS l g pe ct b i 0 0)
  | 0 => zsub_r _
  | n + 1 => by
    show zsub (if ib kn n = true ∧ ¬ (eIsOf l g pe ct (gix ct n) b i).toInt = 0 then gaS l g pe ct b i kn n &&& zf 2 (ct (gix ct n)) else gaS l g pe ct b i kn n) _
    split
    · exact zsub_and (gaS_sub n)
    · exact gaS_sub n
theorem FAL_sub {b i kn : Int32} : zsub (FAL l g pe ct b i kn) (FAL l g pe ct b i 0) := by
  have e : FAL l g pe ct b i 0 = gaS l g pe ct b i 0 0 := gaS_0 8
  rw [e]
  exact gaS_sub 8
theorem f1S_sub {la kn w w2 : Int32} {b : Nat} (h : zsub w w2) : ∀ i, zsub (f1S l g pe ct la kn b w i) (f1S l g pe ct la 0 b w2 i)
  | 0 => h
  | i + 1 => by
    show zsub (if ib la (8 * b + i) = true then f1S l g pe ct la kn b w i &&& FAL l g pe ct (nI b) (nI i) kn else f1S l g pe ct la kn b w i) (if ib la (8 * b + i) = true then f1S l g pe ct la 0 b w2 i &&& FAL l g pe ct (nI b) (nI i) 0 else f1S l g pe ct la 0 b w2 i)
    split
    · exact zsub_and2 (f1S_sub h i) FAL_sub
    · exact f1S_sub h i
theorem f2S_sub {la kn : Int32} : ∀ b, zsub (f2S l g pe ct la kn b) (f2S l g pe ct la 0 b)
  | 0 => zsub_r _
  | b + 1 => f1S_sub (f2S_sub b) _
theorem FIT_sub {b kn : Int32} {j : Nat} : zsub (FIT l g pe ct b kn j) (FIT l g pe ct b 0 j) := by
  unfold FIT FTL
  split
  · exact f2S_sub _
  · exact zsub_r _
theorem f1S_rg {la kn w : Int32} {b : Nat} {B : Int} (h : 0 ≤ w.toInt ∧ w.toInt < B) : ∀ i, 0 ≤ (f1S l g pe ct la kn b w i).toInt ∧ (f1S l g pe ct la kn b w i).toInt < B
  | 0 => h
  | i + 1 => by
    have ih := f1S_rg (la := la) (kn := kn) (b := b) h i
    show 0 ≤ (if ib la (8 * b + i) = true then f1S l g pe ct la kn b w i &&& FAL l g pe ct (nI b) (nI i) kn else f1S l g pe ct la kn b w i).toInt ∧ (if ib la (8 * b + i) = true then f1S l g pe ct la kn b w i &&& FAL l g pe ct (nI b) (nI i) kn else f1S l g pe ct la kn b w i).toInt < B
    split
    · have t := z_andl (x := f1S l g pe ct la kn b w i) (y := FAL l g pe ct (nI b) (nI i) kn) rfl ih.1
      omega
    · exact ih
theorem f2S_rg (hp : 0 ≤ pe.toInt ∧ pe.toInt ≤ 16) {la kn : Int32} : ∀ b, 0 ≤ (f2S l g pe ct la kn b).toInt ∧ (f2S l g pe ct la kn b).toInt < ((2 ^ pe.toInt.toNat : Nat) : Int)
  | 0 => by
    have h := z_shl1e (y := pe) hp.1 hp.2
    have e : (((1 : Int32) <<< (pe &&& 31)) - 1).toInt = ((1 : Int32) <<< (pe &&& 31)).toInt - 1 := z_sub rfl (by decide : (1 : Int32).toInt = 1) (by omega) (by omega)
    show 0 ≤ (((1 : Int32) <<< (pe &&& 31)) - 1).toInt ∧ (((1 : Int32) <<< (pe &&& 31)) - 1).toInt < _
    rw [e, ← h.1]
    omega
  | b + 1 => f1S_rg (f2S_rg hp b) _
theorem FIT_lt (hp : 0 ≤ pe.toInt ∧ pe.toInt ≤ 16) {b kn : Int32} {j : Nat} : 0 ≤ (FIT l g pe ct b kn j).toInt ∧ (FIT l g pe ct b kn j).toInt < ((2 ^ pe.toInt.toNat : Nat) : Int) := by
  unfold FIT FTL
  split
  · exact f2S_rg hp _
  · have h := Nat.two_pow_pos pe.toInt.toNat
    have : (0 : Int32).toInt = 0 := by decide
    omega
theorem FIT_rg (hp : 0 ≤ pe.toInt ∧ pe.toInt ≤ 16) {b kn : Int32} {j : Nat} : 0 ≤ (FIT l g pe ct b kn j).toInt ∧ (FIT l g pe ct b kn j).toInt ≤ 65535 := by
  have h := FIT_lt (l := l) (g := g) (ct := ct) hp (b := b) (kn := kn) (j := j)
  have h2 : 2 ^ pe.toInt.toNat ≤ 2 ^ 16 := Nat.pow_le_pow_right (by decide) (by omega)
  have h3 : 2 ^ 16 = 65536 := by decide
  omega
theorem FIT_dead {b kn : Int32} (hlv : 0 ≤ (lvF ct b.toInt.toNat).toInt) {j : Nat} (hj : j < 8) (hd : j ∉ tL (lnF ct b.toInt.toNat).toInt.toNat (lvF ct b.toInt.toNat).toInt.toNat) : ∀ p, ¬ zb (FIT l g pe ct b kn j) p := by
  intro p
  unfold FIT FTL
  by_cases c : LIV ct b (nI j) = true
  · exfalso
    unfold LIV at c
    rw [Bool.and_eq_true, LIN_iff] at c
    have hn := nI_toInt (n := j) (by omega)
    have hk : (nI j).toInt.toNat = j := by omega
    rw [hk] at c
    exact hd (tL_mem.mpr ⟨by omega, (tie_lv hlv).mp c.2⟩)
  · rw [if_neg c]
    exact zb_0
/-- a book's lines and which of them live -/
theorem q_bk (hI : Inv8 g idn pe ct) {b : Int32} (hb : 0 ≤ b.toInt ∧ b.toInt ≤ 3) : (0 ≤ (lnF ct b.toInt.toNat).toInt ∧ (lnF ct b.toInt.toNat).toInt ≤ 8) ∧ 0 ≤ (lvF ct b.toInt.toNat).toInt := by
  obtain ⟨lns, liv, shw, h1, h2, h3, h4, h5, h6, hs⟩ := a8_40 (kc := 0 + 55 + 11 * b.toInt.toNat) (by omega) hI
  unfold lvF lnF
  rw [hs]
  exact ⟨⟨by assumption, by assumption⟩, by assumption⟩
theorem q_few (hI : Inv8 g idn pe ct) {b kn : Int32} (hb : 0 ≤ b.toInt ∧ b.toInt ≤ 3) (hb2 : b.toInt < (bkF ct).toInt) (hk : 0 ≤ kn.toInt ∧ kn.toInt ≤ 255) : (qFew l g pe ct b kn).toInt = 0 ↔ 0 < (qGiv l g pe ct b kn).toInt := by
  obtain ⟨h1, h2⟩ := q_bk hI hb
  have h3 := lvF_lt hI hb
  unfold qFew gBk qGiv
  rw [if_pos ⟨hb.1, hb2, hk.1, hk.2⟩, if_pos ⟨hb.1, hb2, hk.1, hk.2⟩, tie_lak (fun j _ => FIT_rg hI.1) h1 h2]
  unfold qWays
  rw [i64_toInt (gvP_lt (by omega) (by omega) _ (by omega))]
  have h4 := tMat_pos (F := FIT l g pe ct b kn) (n := (lnF ct b.toInt.toNat).toInt.toNat) (v := (lvF ct b.toInt.toNat).toInt.toNat) (by omega) (by omega)
  rw [← h4]
  omega
theorem q_fits {b i kn : Int32} (hk : 0 ≤ kn.toInt ∧ kn.toInt ≤ 255) (h : 0 ≤ (qFits l g pe ct b i 0).toInt) : (qFits l g pe ct b i kn &&& (qFits l g pe ct b i 0 ^^^ (-1))).toInt = 0 := by
  have z0 : (0 : Int32).toInt = 0 := by decide
  have z1 : (-1 : Int32).toInt = -1 := by decide
  have z2 : (-2 : Int32).toInt = -2 := by decide
  unfold qFits gLn at h ⊢
  by_cases c : LIN ct b i = true
  · rw [if_pos ⟨c, by omega, by omega⟩] at h
    rw [if_pos (⟨c, hk.1, hk.2⟩ : LIN ct b i = true ∧ 0 ≤ kn.toInt ∧ kn.toInt ≤ 255), if_pos (⟨c, by omega, by omega⟩ : LIN ct b i = true ∧ 0 ≤ (0 : Int32).toInt ∧ (0 : Int32).toInt ≤ 255)]
    by_cases d : LIV ct b i = true
    · rw [if_pos d, if_pos d]
      exact zsub_0 FIT_sub
    · rw [if_neg d] at h
      omega
  · rw [if_neg (fun q => c q.1)] at h
    omega
theorem slS_sub {b k k2 : Int32} (hk : k.toInt ≤ k2.toInt) {M : Nat → Int32} : ∀ i, zsub (slS l g pe ct b k2 M i) (slS l g pe ct b k M i)
  | 0 => zsub_r _
  | i + 1 => by
    have ih := slS_sub (b := b) hk (M := M) i
    show zsub (if LIV ct b (nI i) = true ∧ (mxI k2 (wshF pe ct (eOwner l g pe ct (0 + 55 + 11 * b.toInt.toNat) (nI i)))).toInt ≤ (bcf (M i)).toInt then slS l g pe ct b k2 M i ||| ((1 : Int32) <<< (nI i &&& 31)) else slS l g pe ct b k2 M i) (if LIV ct b (nI i) = true ∧ (mxI k (wshF pe ct (eOwner l g pe ct (0 + 55 + 11 * b.toInt.toNat) (nI i)))).toInt ≤ (bcf (M i)).toInt then slS l g pe ct b k M i ||| ((1 : Int32) <<< (nI i &&& 31)) else slS l g pe ct b k M i)
    have mx : ∀ w : Int32, (mxI k w).toInt ≤ (mxI k2 w).toInt := fun w => by
      unfold mxI
      have e1 : k < w ↔ k.toInt < w.toInt := Int32.lt_iff_toInt_lt
      have e2 : k2 < w ↔ k2.toInt < w.toInt := Int32.lt_iff_toInt_lt
      by_cases a : k < w
      · rw [if_pos a]
        by_cases b2 : k2 < w
        · rw [if_pos b2]
          try omega
        · rw [if_neg b2]
          have := mt e2.mpr b2
          omega
      · rw [if_neg a]
        have := mt e1.mpr a
        by_cases b2 : k2 < w
        · rw [if_pos b2]
          have := e2.mp b2
          omega
        · rw [if_neg b2]
          exact hk
    by_cases c : LIV ct b (nI i) = true ∧ (mxI k2 (wshF pe ct (eOwner l g pe ct (0 + 55 + 11 * b.toInt.toNat) (nI i)))).toInt ≤ (bcf (M i)).toInt
    · rw [if_pos c, if_pos ⟨c.1, Int.le_trans (mx _) c.2⟩]
      intro p hp
      rcases zb_or.mp hp with q | q
      · exact zb_or.mpr (Or.inl (ih p q))
      · exact zb_or.mpr (Or.inr q)
    · rw [if_neg c]
      split
      · exact fun p hp => zb_or.mpr (Or.inl (ih p hp))
      · exact ih
theorem q_safe {b k k2 kn : Int32} (hk : k.toInt ≤ k2.toInt) (h1 : 1 ≤ k.toInt) (h2 : k2.toInt ≤ 16) : (qSafe l g pe ct b k2 kn &&& (qSafe l g pe ct b k kn ^^^ (-1))).toInt = 0 := by
  unfold qSafe
  by_cases c : 0 ≤ b.toInt ∧ b.toInt < (bkF ct).toInt ∧ 1 ≤ k.toInt ∧ k.toInt ≤ 16 ∧ 0 ≤ kn.toInt ∧ kn.toInt ≤ 255
  · rw [if_pos c, if_pos ⟨c.1, c.2.1, by omega, by omega, c.2.2.2.2⟩]
    exact zsub_0 (slS_sub hk 8)
  · rw [if_neg c, if_neg (fun q => c ⟨q.1, q.2.1, by omega, by omega, q.2.2.2.2⟩)]
    exact zsub_0 (zsub_r _)
/-- a line that is found must be who is left of it -/
theorem q_found (hI : Inv8 g idn pe ct) {b kn : Int32} {i : Nat} (hb : 0 ≤ b.toInt ∧ b.toInt ≤ 3) (hb2 : b.toInt < (bkF ct).toInt) (hk : 0 ≤ kn.toInt ∧ kn.toInt ≤ 255) (hi : i < 8) (hs : 0 < (qGiv l g pe ct b kn).toInt) (hw : 0 ≤ (qStp l g pe ct b kn (nI i)).toInt) (hf : ib (qStp l g pe ct b kn 8) i = true) : ∃ q, q < 16 ∧ qStp l g pe ct b kn (nI i) = (1 : Int32) <<< (nI q &&& 31) ∧ qMust l g pe ct b (nI i) (nI q) kn = 2 := by
  obtain ⟨h1, h2⟩ := q_bk hI hb
  have h0 := (q_few hI hb hb2 hk).mpr hs
  unfold qFew gBk at h0
  rw [if_pos ⟨hb.1, hb2, hk.1, hk.2⟩] at h0
  have hni := nI_toInt (n := i) (by omega)
  have hnn : (nI i).toInt.toNat = i := by omega
  have z8 : (8 : Int32).toInt = 8 := by decide
  have z1 : (-1 : Int32).toInt = -1 := by decide
  have z2 : (-2 : Int32).toInt = -2 := by decide
  have ok : ¬ ¬ (0 ≤ b.toInt ∧ b.toInt < (bkF ct).toInt ∧ 0 ≤ kn.toInt ∧ kn.toInt ≤ 255) := fun q => q ⟨hb.1, hb2, hk.1, hk.2⟩
  unfold qStp at hf
  rw [if_neg ok, if_neg (by omega), if_pos z8] at hf
  have e : qStp l g pe ct b kn (nI i) = if LIN ct b (nI i) = true then (if LIV ct b (nI i) = true then (qSt l g pe ct b kn).2.1 i else -2) else -1 := by
    unfold qStp
    rw [if_neg ok, if_neg (by omega), if_neg (by omega), hnn]
  rw [e] at hw ⊢
  by_cases c : LIN ct b (nI i) = true
  · by_cases d : LIV ct b (nI i) = true
    · rw [if_pos c, if_pos d]
      obtain ⟨q, q1, q2, q3⟩ := tie_found (F := FIT l g pe ct b kn) (fun j _ => FIT_rg hI.1) h1 h2 (fun j hj hd => FIT_dead h2 hj hd) h0 hi hf
      refine ⟨q, q1, q2, ?_⟩
      have hm := wMay_rg (ln := lnF ct b.toInt.toNat) (lv := lvF ct b.toInt.toNat) (FIT_rg (l := l) (g := g) (ct := ct) hI.1 (b := b) (kn := kn) (j := i))
      have hnq := nI_toInt (n := q) (by omega)
      have hqq : (nI q).toInt.toNat = q := by omega
      have hin : i ∈ tL (lnF ct b.toInt.toNat).toInt.toNat (lvF ct b.toInt.toNat).toInt.toNat := by
        apply Classical.byContradiction
        intro z
        have := (q3 q q1).mpr rfl
        obtain ⟨m, hm2⟩ := (tie_lak (F := FIT l g pe ct b kn) (fun j _ => FIT_rg hI.1) h1 h2).mp h0
        have hs2 := stS_sound (F := FIT l g pe ct b kn) (fun j _ => FIT_rg hI.1) (by omega) (fun j hj hd => FIT_dead h2 hj hd) hm2 9
        exact z (hs2.2.2.2 i hi hf).1
      have hfb : zb (FIT l g pe ct b kn i) q := by
        obtain ⟨m, hm2, rfl⟩ := (tie_may (F := FIT l g pe ct b kn) (fun j _ => FIT_rg hI.1) h1 h2 h0 hin q1).mp ((q3 q q1).mpr rfl)
        exact (hm2.1 i hin).2
      have hlt := FIT_lt (l := l) (g := g) (ct := ct) hI.1 (b := b) (kn := kn) (j := i)
      have hqp := zb_lt hlt.1 hlt.2 hfb
      unfold qMust
      rw [if_pos ⟨c, ⟨by omega, by omega⟩, hk.1, hk.2⟩, if_pos d, hnn, hqq]
      unfold qMay
      rw [if_pos (show ib (wMay _ _ _ i) q = true from (q3 q q1).mpr rfl), if_pos (tie_one hm.1 hm.2 q1 q3)]
    · rw [if_pos c, if_neg d] at hw
      omega
  · rw [if_neg c] at hw
    omega
end MON
