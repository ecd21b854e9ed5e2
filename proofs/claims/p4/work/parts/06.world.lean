-- worlds by number: n cells, their addresses, what they hold
abbrev zw (n : Nat) (ad : Nat → Nat) (ct : Nat → va_E) : va_W := (List.range n).map (fun k => (ad k, ct k))
theorem zw_at {n : Nat} {ad : Nat → Nat} {ct : Nat → va_E} {k : Nat} (h : k < n) {e : va_E} (he : ct k = e) : (zw n ad ct)[k]? = some (ad k, e) := by
  rw [List.getElem?_map, List.getElem?_range h]
  simp [he]
theorem zw_set {n : Nat} {ad : Nat → Nat} {ct : Nat → va_E} {k : Nat} (h : k < n) {e : va_E} : (zw n ad ct).set k (ad k, e) = zw n ad (va_up ct k e) := by
  apply List.ext_getElem?
  intro i
  by_cases hi : i = k
  · subst hi
    rw [List.getElem?_set_self (by simp [h]), zw_at h (va_up_self _ _ _)]
  · rw [List.getElem?_set_ne (Ne.symm hi)]
    by_cases hn : i < n
    · rw [zw_at hn rfl, zw_at hn (va_up_ne _ _ hi)]
    · rw [List.getElem?_eq_none (by simp; omega), List.getElem?_eq_none (by simp; omega)]
/-- a new cell in the place of the k-th -/
theorem zw_newP {g : zG} {n : Nat} {ad : Nat → Nat} {ct : Nat → va_E} {k q : Nat} {e : va_E} {H : Heap} (hP : zP g (zw n ad ct ++ [(q, e)]) H) : zP g (zw n (va_up ad k q) (va_up ct k e)) H := by
  intro i x hx
  rw [List.getElem?_map] at hx
  by_cases hi : i < n
  · rw [List.getElem?_range hi] at hx
    cases hx
    show va_at g.1 vwCl (va_up ad k q i, va_up ct k e i) H
    by_cases hk : i = k
    · subst hk
      rw [va_up_self, va_up_self]
      exact hP n _ (by rw [List.getElem?_append_right (by simp)]; simp)
    · rw [va_up_ne _ _ hk, va_up_ne _ _ hk]
      exact hP i _ (by rw [List.getElem?_append_left (by simp [hi])]; exact zw_at hi rfl)
  · rw [List.getElem?_eq_none (by simp; omega)] at hx
    cases hx
theorem zw_newD {A : Nat → Prop} {n : Nat} {ad : Nat → Nat} {ct : Nat → va_E} {k q : Nat} {e : va_E} (hD : va_D A (zw n ad ct ++ [(q, e)])) : va_D A (zw n (va_up ad k q) (va_up ct k e)) := by
  have hq : (zw n ad ct ++ [(q, e)])[n]? = some (q, e) := by rw [List.getElem?_append_right (by simp)]; simp
  have ho : ∀ i, i < n → (zw n ad ct ++ [(q, e)])[i]? = some (ad i, ct i) := fun i hi => by rw [List.getElem?_append_left (by simp [hi])]; exact zw_at hi rfl
  have key : ∀ (i : Nat) (x : Nat × va_E), (zw n (va_up ad k q) (va_up ct k e))[i]? = some x → i < n ∧ ((i = k ∧ x = (q, e)) ∨ (i ≠ k ∧ x = (ad i, ct i))) := fun i x hx => by
    rw [List.getElem?_map] at hx
    by_cases hi : i < n
    · rw [List.getElem?_range hi] at hx
      cases hx
      by_cases hk : i = k
      · subst hk
        exact ⟨hi, Or.inl ⟨rfl, by show (va_up ad i q i, va_up ct i e i) = _; rw [va_up_self, va_up_self]⟩⟩
      · exact ⟨hi, Or.inr ⟨hk, by show (va_up ad k q i, va_up ct k e i) = _; rw [va_up_ne _ _ hk, va_up_ne _ _ hk]⟩⟩
    · rw [List.getElem?_eq_none (by simp; omega)] at hx
      cases hx
  refine ⟨fun i j x y hx hy hxy => ?_, fun i x hx => ?_⟩
  · obtain ⟨hi, h1⟩ := key i x hx
    obtain ⟨hj, h2⟩ := key j y hy
    rcases h1 with ⟨a1, rfl⟩ | ⟨a1, rfl⟩ <;> rcases h2 with ⟨a2, rfl⟩ | ⟨a2, rfl⟩
    · exact a1.trans a2.symm
    · have := hD.1 n j _ _ hq (ho j hj) hxy
      omega
    · have := hD.1 i n _ _ (ho i hi) hq hxy
      omega
    · exact hD.1 i j _ _ (ho i hi) (ho j hj) hxy
  · obtain ⟨hi, h1⟩ := key i x hx
    rcases h1 with ⟨a1, rfl⟩ | ⟨a1, rfl⟩
    · exact hD.2 n _ hq
    · exact hD.2 i _ (ho i hi)
theorem zw_free {A0 : Nat → Prop} {ws : va_W} {H0 H : Heap} {locs : List Loc} (hD : va_D A0 ws) (hS : va_S A0 H0 H locs) (hA : ∀ q, H0.size ≤ q → A0 q) : ∀ q, va_A ws H.size q → A0 q := by
  intro q h
  rcases h with ⟨k, e, h⟩ | h
  · exact hD.2 k _ h
  · exact hA q (Nat.le_trans hS.1 h)
/-- a call over the first of two worlds -/
theorem z_two {g : zG} {A : Nat → Prop} {w1 w2 w3 : va_W} {H H1 : Heap} (hP : zP g (w1 ++ w2) H) (hD : va_D A (w1 ++ w2)) (hk : ∀ q : Nat, q < H.size → ¬ va_A w1 H.size q → H1[q]? = H[q]?) (hF : ∀ q, va_A w1 H.size q → A q) (hP1 : zP g w3 H1) (hD1 : va_D (va_A w1 H.size) w3) : zP g (w3 ++ w2) H1 ∧ va_D A (w3 ++ w2) := by
  have ap : ∀ (k : Nat) (x : Nat × va_E), w2[k]? = some x → x.1 < H.size ∧ ¬ va_A w1 H.size x.1 := fun k x hx => by
    have hx2 : (w1 ++ w2)[w1.length + k]? = some x := by rw [List.getElem?_append_right (by omega)]; rw [show w1.length + k - w1.length = k by omega]; exact hx
    have hl := (hP _ x hx2).lt
    refine ⟨hl, fun h => ?_⟩
    rcases h with ⟨j, e, h⟩ | h
    · have hj : j < w1.length := (List.getElem?_eq_some_iff.mp h).1
      have h2 : (w1 ++ w2)[j]? = some (x.1, e) := by rw [List.getElem?_append_left hj]; exact h
      have := hD.1 _ _ _ _ hx2 h2 rfl
      omega
    · omega
  have hw2 : zP g w2 H := fun k x hx => hP (w1.length + k) x (by rw [List.getElem?_append_right (by omega)]; rw [show w1.length + k - w1.length = k by omega]; exact hx)
  have hD2 : va_D A w2 := ⟨fun i j x y hx hy hxy => by
    have := hD.1 (w1.length + i) (w1.length + j) x y (by rw [List.getElem?_append_right (by omega)]; rw [show w1.length + i - w1.length = i by omega]; exact hx) (by rw [List.getElem?_append_right (by omega)]; rw [show w1.length + j - w1.length = j by omega]; exact hy) hxy
    omega, fun k x hx => hD.2 (w1.length + k) x (by rw [List.getElem?_append_right (by omega)]; rw [show w1.length + k - w1.length = k by omega]; exact hx)⟩
  refine ⟨hP1.app (fun k x hx => (hw2 k x hx).kept (hk _ (ap k x hx).1 (ap k x hx).2)), va_D.app (hD1.weaken (fun _ _ _ h => hF _ h)) hD2 (fun i j x y hx hy hxy => ?_)⟩
  exact (ap j y hy).2 (by rw [← hxy]; exact hD1.2 i x hx)

def zF1 (ad : Nat → Nat) (b : Nat) : Nat → Option Nat := fun i => if i < 4 then some (ad (b + 35 + 5 * i)) else none
theorem zF1_at {ad : Nat → Nat} {b : Nat} {x : Int32} (h0 : 0 ≤ x.toInt) (h : x.toInt < 4) : va_rf (zF1 ad b x.toNatClampNeg) = .ref (ad (b + 35 + 5 * x.toInt.toNat)) := by
  rw [z_cl (k := x.toInt.toNat) (by omega)]
  unfold zF1
  rw [if_pos (by omega)]
  rfl
def zF5 (ad : Nat → Nat) (b : Nat) : Nat → Option Nat := fun i => if i < 4 then some (ad (b + 55 + 11 * i)) else none
theorem zF5_at {ad : Nat → Nat} {b : Nat} {x : Int32} (h0 : 0 ≤ x.toInt) (h : x.toInt < 4) : va_rf (zF5 ad b x.toNatClampNeg) = .ref (ad (b + 55 + 11 * x.toInt.toNat)) := by
  rw [z_cl (k := x.toInt.toNat) (by omega)]
  unfold zF5
  rw [if_pos (by omega)]
  rfl
def zF22 (ad : Nat → Nat) (b : Nat) : Nat → Option Nat := fun i => if i < 4 then some (ad (b + 26 + 1 * i)) else none
theorem zF22_at {ad : Nat → Nat} {b : Nat} {x : Int32} (h0 : 0 ≤ x.toInt) (h : x.toInt < 4) : va_rf (zF22 ad b x.toNatClampNeg) = .ref (ad (b + 26 + 1 * x.toInt.toNat)) := by
  rw [z_cl (k := x.toInt.toNat) (by omega)]
  unfold zF22
  rw [if_pos (by omega)]
  rfl
def zF23 (ad : Nat → Nat) (b : Nat) : Nat → Option Nat := fun i => if i < 4 then some (ad (b + 30 + 1 * i)) else none
theorem zF23_at {ad : Nat → Nat} {b : Nat} {x : Int32} (h0 : 0 ≤ x.toInt) (h : x.toInt < 4) : va_rf (zF23 ad b x.toNatClampNeg) = .ref (ad (b + 30 + 1 * x.toInt.toNat)) := by
  rw [z_cl (k := x.toInt.toNat) (by omega)]
  unfold zF23
  rw [if_pos (by omega)]
  rfl
def zF42 (ad : Nat → Nat) (b : Nat) : Nat → Option Nat := fun i => if i < 8 then some (ad (b + 1 + 1 * i)) else none
theorem zF42_at {ad : Nat → Nat} {b : Nat} {x : Int32} (h0 : 0 ≤ x.toInt) (h : x.toInt < 8) : va_rf (zF42 ad b x.toNatClampNeg) = .ref (ad (b + 1 + 1 * x.toInt.toNat)) := by
  rw [z_cl (k := x.toInt.toNat) (by omega)]
  unfold zF42
  rw [if_pos (by omega)]
  rfl
def kd8 (k : Nat) : Nat := if k < 35 then (if 26 ≤ k ∧ k < 34 then 26 else k) else if k < 55 then 35 + (k - 35) % 5 else if k < 99 then (if (k - 55) % 11 < 3 then 40 + (k - 55) % 11 else 43) else 44 + (k - 99) % 3
def okk8 (g : zG) (ad : Nat → Nat) (pe : Int32) (kd k : Nat) (e : va_E) : Prop := match kd with
  | 0 => ∃ (bk : Int32) (dr : Nat), (dr < 9) ∧ (0 ≤ bk.toInt) ∧ (bk.toInt ≤ 4) ∧ e = .inr (8, [.ref (ad (1)), .ref (ad (2)), .ref (ad (3)), .ref (ad (5)), .ref (ad (6)), .ref (ad (9)), .ref (ad (10)), .ref (ad (17)), .ref (ad (21)), .ref (ad (34)), .ref (ad (99 + 3 * dr)), .int pe, .int bk])
  | 1 => e = .inl (g.2 4, 4, .inr (.inr (.inr (.inr (zF1 ad 0)))))
  | 2 => ∃ (f : Nat → Int32), e = .inl (g.2 0, 16, .inl f)
  | 3 => ∃ (len : Int32), (0 ≤ len.toInt) ∧ (len.toInt ≤ 200) ∧ e = .inr (7, [.int len, .ref (ad (4))])
  | 4 => ∃ (f : Nat → Int32), e = .inl (g.2 0, 200, .inl f)
  | 5 => e = .inl (g.2 5, 4, .inr (.inr (.inr (.inr (zF5 ad 0)))))
  | 6 => ∃ (num : Int32), (0 ≤ num.toInt) ∧ (num.toInt ≤ 40) ∧ e = .inr (5, [.int num, .ref (ad (7)), .ref (ad (8))])
  | 7 => ∃ (f : Nat → Int32), e = .inl (g.2 0, 40, .inl f)
  | 8 => ∃ (f : Nat → Int32), e = .inl (g.2 0, 40, .inl f)
  | 9 => ∃ (f : Nat → Option Nat), (∀ i, i < 8 → ∃ j, j < 9 ∧ f i = some (ad (99 + 3 * j))) ∧ e = .inl (g.2 6, 8, .inr (.inr (.inr (.inr f))))
  | 10 => ∃ (lns : Int32) (liv : Int32) (lak : Int32) (fnd : Int32), (0 ≤ lns.toInt) ∧ (lns.toInt ≤ 8) ∧ (0 ≤ liv.toInt) ∧ (liv.toInt ≤ 255) ∧ e = .inr (6, [.int lns, .int liv, .int lak, .int fnd, .ref (ad (11)), .ref (ad (12)), .ref (ad (13)), .ref (ad (14)), .ref (ad (15)), .ref (ad (16))])
  | 11 => ∃ (f : Nat → Int32), e = .inl (g.2 0, 8, .inl f)
  | 12 => ∃ (f : Nat → Int32), (∀ j : Nat, j < 8 → (fun x : Int32 => 0 ≤ x.toInt ∧ x.toInt ≤ 65535) (f j)) ∧ e = .inl (g.2 0, 8, .inl f)
  | 13 => ∃ (f : Nat → Int32), (∀ j : Nat, j < 8 → (fun x : Int32 => 0 ≤ x.toInt ∧ x.toInt ≤ 65535) (f j)) ∧ e = .inl (g.2 0, 8, .inl f)
  | 14 => ∃ (f : Nat → Int32), e = .inl (g.2 0, 256, .inl f)
  | 15 => ∃ (f : Nat → Int64), e = .inl (g.2 1, 256, .inr (.inl f))
  | 16 => ∃ (f : Nat → Int32), e = .inl (g.2 0, 8, .inl f)
  | 17 => ∃ (spc : Int32) (tim : Int32), (0 ≤ spc.toInt) ∧ (spc.toInt ≤ 128) ∧ e = .inr (0, [.ref (ad (18)), .int spc, .ref (ad (19)), .ref (ad (20)), .int tim])
  | 18 => ∃ (f : Nat → Int32), e = .inl (g.2 0, 128, .inl f)
  | 19 => ∃ (f : Nat → Int32), e = .inl (g.2 0, 17, .inl f)
  | 20 => ∃ (n : Nat) (f : Nat → Int32), (1 ≤ n) ∧ (n ≤ 131072) ∧ e = .inl (g.2 0, n, .inl f)
  | 21 => ∃ (lst : Int32) (lrw : Int32) (lct : Int32), (0 ≤ lrw.toInt) ∧ (lrw.toInt ≤ 624) ∧ e = .inr (1, [.int lst, .int lrw, .int lct, .ref (ad (22)), .ref (ad (23)), .ref (ad (24)), .ref (ad (25))])
  | 22 => e = .inl (g.2 7, 4, .inr (.inr (.inr (.inr (zF22 ad 0)))))
  | 23 => e = .inl (g.2 7, 4, .inr (.inr (.inr (.inr (zF23 ad 0)))))
  | 24 => ∃ (f : Nat → Int32), e = .inl (g.2 0, 4, .inl f)
  | 25 => ∃ (f : Nat → Int32), (∀ j : Nat, j < 4 → (fun x : Int32 => 0 ≤ x.toInt ∧ x.toInt ≤ 4) (f j)) ∧ e = .inl (g.2 0, 4, .inl f)
  | 26 => ∃ (f : Nat → Int32), e = .inl (g.2 0, 40, .inl f)
  | 34 => ∃ (f : Nat → Int32), e = .inl (g.2 0, 7, .inl f)
  | 35 => ∃ (we : Int32) (se : Int32), (0 ≤ se.toInt) ∧ (se.toInt ≤ 16) ∧ e = .inr (3, [.int we, .ref (ad (k + 1)), .ref (ad (k + 2)), .ref (ad (k + 3)), .ref (ad (k + 4)), .int se])
  | 36 => ∃ (f : Nat → Int32), e = .inl (g.2 0, 32, .inl f)
  | 37 => ∃ (f : Nat → Int32), e = .inl (g.2 0, 33, .inl f)
  | 38 => ∃ (f : Nat → Int32), e = .inl (g.2 0, 33, .inl f)
  | 39 => ∃ (f : Nat → Int32), e = .inl (g.2 0, 16, .inl f)
  | 40 => ∃ (lns : Int32) (liv : Int32) (shw : Int32), (0 ≤ lns.toInt) ∧ (lns.toInt ≤ 8) ∧ (0 ≤ liv.toInt) ∧ (liv.toInt ≤ 255) ∧ ((shw = 0 ∨ shw = 1)) ∧ e = .inr (2, [.int lns, .int liv, .int shw, .ref (ad (k + 1)), .ref (ad (k + 2))])
  | 41 => ∃ (f : Nat → Int32), e = .inl (g.2 0, 8, .inl f)
  | 42 => e = .inl (g.2 7, 8, .inr (.inr (.inr (.inr (zF42 ad k)))))
  | 43 => ∃ (f : Nat → Int32), e = .inl (g.2 0, 4, .inl f)
  | 44 => ∃ (tld : Int32) (ofb : Int32) (hol : Int32) (flt : Int32) (fla : Int32) (ofl : Int32) (len : Int32) (atx : Int32) (ref : Int32), ((tld = 0 ∨ tld = 1)) ∧ (0 ≤ len.toInt) ∧ (len.toInt ≤ 100) ∧ (0 ≤ atx.toInt) ∧ (atx.toInt ≤ 100) ∧ ((ref = 0 ∨ ref = 1)) ∧ e = .inr (4, [.int tld, .int ofb, .int hol, .int flt, .int fla, .int ofl, .ref (ad (k + 1)), .ref (ad (k + 2)), .int len, .int atx, .int ref])
  | 45 => ∃ (f : Nat → Int32), e = .inl (g.2 0, 7, .inl f)
  | 46 => ∃ (f : Nat → Int32), e = .inl (g.2 0, 100, .inl f)
  | _ => False
def ok8 (g : zG) (ad : Nat → Nat) (pe : Int32) (k : Nat) (e : va_E) : Prop := okk8 g ad pe (kd8 k) k e
def Inv8 (g : zG) (ad : Nat → Nat) (pe : Int32) (ct : Nat → va_E) : Prop := (0 ≤ pe.toInt ∧ pe.toInt ≤ 16) ∧ ∀ k, k < 126 → ok8 g ad pe k (ct k)
theorem up8 {g : zG} {ad : Nat → Nat} {pe : Int32} {ct : Nat → va_E} {k : Nat} {e : va_E} (hI : Inv8 g ad pe ct) (h : ok8 g ad pe k e) : Inv8 g ad pe (va_up ct k e) := ⟨hI.1, fun j hj => by
  by_cases hk : j = k
  · subst hk
    rw [va_up_self]
    exact h
  · rw [va_up_ne _ _ hk]
    exact hI.2 j hj⟩
theorem a8_0 {g : zG} {ad : Nat → Nat} {pe : Int32} {ct : Nat → va_E} (hI : Inv8 g ad pe ct) : ∃ (bk : Int32) (dr : Nat), (dr < 9) ∧ (0 ≤ bk.toInt) ∧ (bk.toInt ≤ 4) ∧ ct 0 = .inr (8, [.ref (ad (1)), .ref (ad (2)), .ref (ad (3)), .ref (ad (5)), .ref (ad (6)), .ref (ad (9)), .ref (ad (10)), .ref (ad (17)), .ref (ad (21)), .ref (ad (34)), .ref (ad (99 + 3 * dr)), .int pe, .int bk]) := hI.2 0 (by omega)
theorem i8_0 {g : zG} {ad : Nat → Nat} {pe : Int32} {e : va_E} (h : ∃ (bk : Int32) (dr : Nat), (dr < 9) ∧ (0 ≤ bk.toInt) ∧ (bk.toInt ≤ 4) ∧ e = .inr (8, [.ref (ad (1)), .ref (ad (2)), .ref (ad (3)), .ref (ad (5)), .ref (ad (6)), .ref (ad (9)), .ref (ad (10)), .ref (ad (17)), .ref (ad (21)), .ref (ad (34)), .ref (ad (99 + 3 * dr)), .int pe, .int bk])) : ok8 g ad pe 0 e := h
theorem a8_1 {g : zG} {ad : Nat → Nat} {pe : Int32} {ct : Nat → va_E} (hI : Inv8 g ad pe ct) : ct 1 = .inl (g.2 4, 4, .inr (.inr (.inr (.inr (zF1 ad 0))))) := hI.2 1 (by omega)
theorem i8_1 {g : zG} {ad : Nat → Nat} {pe : Int32} {e : va_E} (h : e = .inl (g.2 4, 4, .inr (.inr (.inr (.inr (zF1 ad 0)))))) : ok8 g ad pe 1 e := h
theorem a8_2 {g : zG} {ad : Nat → Nat} {pe : Int32} {ct : Nat → va_E} (hI : Inv8 g ad pe ct) : ∃ (f : Nat → Int32), ct 2 = .inl (g.2 0, 16, .inl f) := hI.2 2 (by omega)
theorem i8_2 {g : zG} {ad : Nat → Nat} {pe : Int32} {e : va_E} (h : ∃ (f : Nat → Int32), e = .inl (g.2 0, 16, .inl f)) : ok8 g ad pe 2 e := h
theorem a8_3 {g : zG} {ad : Nat → Nat} {pe : Int32} {ct : Nat → va_E} (hI : Inv8 g ad pe ct) : ∃ (len : Int32), (0 ≤ len.toInt) ∧ (len.toInt ≤ 200) ∧ ct 3 = .inr (7, [.int len, .ref (ad (4))]) := hI.2 3 (by omega)
theorem i8_3 {g : zG} {ad : Nat → Nat} {pe : Int32} {e : va_E} (h : ∃ (len : Int32), (0 ≤ len.toInt) ∧ (len.toInt ≤ 200) ∧ e = .inr (7, [.int len, .ref (ad (4))])) : ok8 g ad pe 3 e := h
theorem a8_4 {g : zG} {ad : Nat → Nat} {pe : Int32} {ct : Nat → va_E} (hI : Inv8 g ad pe ct) : ∃ (f : Nat → Int32), ct 4 = .inl (g.2 0, 200, .inl f) := hI.2 4 (by omega)
theorem i8_4 {g : zG} {ad : Nat → Nat} {pe : Int32} {e : va_E} (h : ∃ (f : Nat → Int32), e = .inl (g.2 0, 200, .inl f)) : ok8 g ad pe 4 e := h
theorem a8_5 {g : zG} {ad : Nat → Nat} {pe : Int32} {ct : Nat → va_E} (hI : Inv8 g ad pe ct) : ct 5 = .inl (g.2 5, 4, .inr (.inr (.inr (.inr (zF5 ad 0))))) := hI.2 5 (by omega)
theorem i8_5 {g : zG} {ad : Nat → Nat} {pe : Int32} {e : va_E} (h : e = .inl (g.2 5, 4, .inr (.inr (.inr (.inr (zF5 ad 0)))))) : ok8 g ad pe 5 e := h
theorem a8_6 {g : zG} {ad : Nat → Nat} {pe : Int32} {ct : Nat → va_E} (hI : Inv8 g ad pe ct) : ∃ (num : Int32), (0 ≤ num.toInt) ∧ (num.toInt ≤ 40) ∧ ct 6 = .inr (5, [.int num, .ref (ad (7)), .ref (ad (8))]) := hI.2 6 (by omega)
theorem i8_6 {g : zG} {ad : Nat → Nat} {pe : Int32} {e : va_E} (h : ∃ (num : Int32), (0 ≤ num.toInt) ∧ (num.toInt ≤ 40) ∧ e = .inr (5, [.int num, .ref (ad (7)), .ref (ad (8))])) : ok8 g ad pe 6 e := h
theorem a8_7 {g : zG} {ad : Nat → Nat} {pe : Int32} {ct : Nat → va_E} (hI : Inv8 g ad pe ct) : ∃ (f : Nat → Int32), ct 7 = .inl (g.2 0, 40, .inl f) := hI.2 7 (by omega)
theorem i8_7 {g : zG} {ad : Nat → Nat} {pe : Int32} {e : va_E} (h : ∃ (f : Nat → Int32), e = .inl (g.2 0, 40, .inl f)) : ok8 g ad pe 7 e := h
theorem a8_8 {g : zG} {ad : Nat → Nat} {pe : Int32} {ct : Nat → va_E} (hI : Inv8 g ad pe ct) : ∃ (f : Nat → Int32), ct 8 = .inl (g.2 0, 40, .inl f) := hI.2 8 (by omega)
theorem i8_8 {g : zG} {ad : Nat → Nat} {pe : Int32} {e : va_E} (h : ∃ (f : Nat → Int32), e = .inl (g.2 0, 40, .inl f)) : ok8 g ad pe 8 e := h
theorem a8_9 {g : zG} {ad : Nat → Nat} {pe : Int32} {ct : Nat → va_E} (hI : Inv8 g ad pe ct) : ∃ (f : Nat → Option Nat), (∀ i, i < 8 → ∃ j, j < 9 ∧ f i = some (ad (99 + 3 * j))) ∧ ct 9 = .inl (g.2 6, 8, .inr (.inr (.inr (.inr f)))) := hI.2 9 (by omega)
theorem i8_9 {g : zG} {ad : Nat → Nat} {pe : Int32} {e : va_E} (h : ∃ (f : Nat → Option Nat), (∀ i, i < 8 → ∃ j, j < 9 ∧ f i = some (ad (99 + 3 * j))) ∧ e = .inl (g.2 6, 8, .inr (.inr (.inr (.inr f))))) : ok8 g ad pe 9 e := h
theorem a8_10 {g : zG} {ad : Nat → Nat} {pe : Int32} {ct : Nat → va_E} (hI : Inv8 g ad pe ct) : ∃ (lns : Int32) (liv : Int32) (lak : Int32) (fnd : Int32), (0 ≤ lns.toInt) ∧ (lns.toInt ≤ 8) ∧ (0 ≤ liv.toInt) ∧ (liv.toInt ≤ 255) ∧ ct 10 = .inr (6, [.int lns, .int liv, .int lak, .int fnd, .ref (ad (11)), .ref (ad (12)), .ref (ad (13)), .ref (ad (14)), .ref (ad (15)), .ref (ad (16))]) := hI.2 10 (by omega)
theorem i8_10 {g : zG} {ad : Nat → Nat} {pe : Int32} {e : va_E} (h : ∃ (lns : Int32) (liv : Int32) (lak : Int32) (fnd : Int32), (0 ≤ lns.toInt) ∧ (lns.toInt ≤ 8) ∧ (0 ≤ liv.toInt) ∧ (liv.toInt ≤ 255) ∧ e = .inr (6, [.int lns, .int liv, .int lak, .int fnd, .ref (ad (11)), .ref (ad (12)), .ref (ad (13)), .ref (ad (14)), .ref (ad (15)), .ref (ad (16))])) : ok8 g ad pe 10 e := h
theorem a8_11 {g : zG} {ad : Nat → Nat} {pe : Int32} {ct : Nat → va_E} (hI : Inv8 g ad pe ct) : ∃ (f : Nat → Int32), ct 11 = .inl (g.2 0, 8, .inl f) := hI.2 11 (by omega)
theorem i8_11 {g : zG} {ad : Nat → Nat} {pe : Int32} {e : va_E} (h : ∃ (f : Nat → Int32), e = .inl (g.2 0, 8, .inl f)) : ok8 g ad pe 11 e := h
theorem a8_12 {g : zG} {ad : Nat → Nat} {pe : Int32} {ct : Nat → va_E} (hI : Inv8 g ad pe ct) : ∃ (f : Nat → Int32), (∀ j : Nat, j < 8 → (fun x : Int32 => 0 ≤ x.toInt ∧ x.toInt ≤ 65535) (f j)) ∧ ct 12 = .inl (g.2 0, 8, .inl f) := hI.2 12 (by omega)
theorem i8_12 {g : zG} {ad : Nat → Nat} {pe : Int32} {e : va_E} (h : ∃ (f : Nat → Int32), (∀ j : Nat, j < 8 → (fun x : Int32 => 0 ≤ x.toInt ∧ x.toInt ≤ 65535) (f j)) ∧ e = .inl (g.2 0, 8, .inl f)) : ok8 g ad pe 12 e := h
theorem a8_13 {g : zG} {ad : Nat → Nat} {pe : Int32} {ct : Nat → va_E} (hI : Inv8 g ad pe ct) : ∃ (f : Nat → Int32), (∀ j : Nat, j < 8 → (fun x : Int32 => 0 ≤ x.toInt ∧ x.toInt ≤ 65535) (f j)) ∧ ct 13 = .inl (g.2 0, 8, .inl f) := hI.2 13 (by omega)
theorem i8_13 {g : zG} {ad : Nat → Nat} {pe : Int32} {e : va_E} (h : ∃ (f : Nat → Int32), (∀ j : Nat, j < 8 → (fun x : Int32 => 0 ≤ x.toInt ∧ x.toInt ≤ 65535) (f j)) ∧ e = .inl (g.2 0, 8, .inl f)) : ok8 g ad pe 13 e := h
theorem a8_14 {g : zG} {ad : Nat → Nat} {pe : Int32} {ct : Nat → va_E} (hI : Inv8 g ad pe ct) : ∃ (f : Nat → Int32), ct 14 = .inl (g.2 0, 256, .inl f) := hI.2 14 (by omega)
theorem i8_14 {g : zG} {ad : Nat → Nat} {pe : Int32} {e : va_E} (h : ∃ (f : Nat → Int32), e = .inl (g.2 0, 256, .inl f)) : ok8 g ad pe 14 e := h
theorem a8_15 {g : zG} {ad : Nat → Nat} {pe : Int32} {ct : Nat → va_E} (hI : Inv8 g ad pe ct) : ∃ (f : Nat → Int64), ct 15 = .inl (g.2 1, 256, .inr (.inl f)) := hI.2 15 (by omega)
theorem i8_15 {g : zG} {ad : Nat → Nat} {pe : Int32} {e : va_E} (h : ∃ (f : Nat → Int64), e = .inl (g.2 1, 256, .inr (.inl f))) : ok8 g ad pe 15 e := h
theorem a8_16 {g : zG} {ad : Nat → Nat} {pe : Int32} {ct : Nat → va_E} (hI : Inv8 g ad pe ct) : ∃ (f : Nat → Int32), ct 16 = .inl (g.2 0, 8, .inl f) := hI.2 16 (by omega)
theorem i8_16 {g : zG} {ad : Nat → Nat} {pe : Int32} {e : va_E} (h : ∃ (f : Nat → Int32), e = .inl (g.2 0, 8, .inl f)) : ok8 g ad pe 16 e := h
theorem a8_17 {g : zG} {ad : Nat → Nat} {pe : Int32} {ct : Nat → va_E} (hI : Inv8 g ad pe ct) : ∃ (spc : Int32) (tim : Int32), (0 ≤ spc.toInt) ∧ (spc.toInt ≤ 128) ∧ ct 17 = .inr (0, [.ref (ad (18)), .int spc, .ref (ad (19)), .ref (ad (20)), .int tim]) := hI.2 17 (by omega)
theorem i8_17 {g : zG} {ad : Nat → Nat} {pe : Int32} {e : va_E} (h : ∃ (spc : Int32) (tim : Int32), (0 ≤ spc.toInt) ∧ (spc.toInt ≤ 128) ∧ e = .inr (0, [.ref (ad (18)), .int spc, .ref (ad (19)), .ref (ad (20)), .int tim])) : ok8 g ad pe 17 e := h
theorem a8_18 {g : zG} {ad : Nat → Nat} {pe : Int32} {ct : Nat → va_E} (hI : Inv8 g ad pe ct) : ∃ (f : Nat → Int32), ct 18 = .inl (g.2 0, 128, .inl f) := hI.2 18 (by omega)
theorem i8_18 {g : zG} {ad : Nat → Nat} {pe : Int32} {e : va_E} (h : ∃ (f : Nat → Int32), e = .inl (g.2 0, 128, .inl f)) : ok8 g ad pe 18 e := h
theorem a8_19 {g : zG} {ad : Nat → Nat} {pe : Int32} {ct : Nat → va_E} (hI : Inv8 g ad pe ct) : ∃ (f : Nat → Int32), ct 19 = .inl (g.2 0, 17, .inl f) := hI.2 19 (by omega)
theorem i8_19 {g : zG} {ad : Nat → Nat} {pe : Int32} {e : va_E} (h : ∃ (f : Nat → Int32), e = .inl (g.2 0, 17, .inl f)) : ok8 g ad pe 19 e := h
theorem a8_20 {g : zG} {ad : Nat → Nat} {pe : Int32} {ct : Nat → va_E} (hI : Inv8 g ad pe ct) : ∃ (n : Nat) (f : Nat → Int32), (1 ≤ n) ∧ (n ≤ 131072) ∧ ct 20 = .inl (g.2 0, n, .inl f) := hI.2 20 (by omega)
theorem i8_20 {g : zG} {ad : Nat → Nat} {pe : Int32} {e : va_E} (h : ∃ (n : Nat) (f : Nat → Int32), (1 ≤ n) ∧ (n ≤ 131072) ∧ e = .inl (g.2 0, n, .inl f)) : ok8 g ad pe 20 e := h
theorem a8_21 {g : zG} {ad : Nat → Nat} {pe : Int32} {ct : Nat → va_E} (hI : Inv8 g ad pe ct) : ∃ (lst : Int32) (lrw : Int32) (lct : Int32), (0 ≤ lrw.toInt) ∧ (lrw.toInt ≤ 624) ∧ ct 21 = .inr (1, [.int lst, .int lrw, .int lct, .ref (ad (22)), .ref (ad (23)), .ref (ad (24)), .ref (ad (25))]) := hI.2 21 (by omega)
theorem i8_21 {g : zG} {ad : Nat → Nat} {pe : Int32} {e : va_E} (h : ∃ (lst : Int32) (lrw : Int32) (lct : Int32), (0 ≤ lrw.toInt) ∧ (lrw.toInt ≤ 624) ∧ e = .inr (1, [.int lst, .int lrw, .int lct, .ref (ad (22)), .ref (ad (23)), .ref (ad (24)), .ref (ad (25))])) : ok8 g ad pe 21 e := h
theorem a8_22 {g : zG} {ad : Nat → Nat} {pe : Int32} {ct : Nat → va_E} (hI : Inv8 g ad pe ct) : ct 22 = .inl (g.2 7, 4, .inr (.inr (.inr (.inr (zF22 ad 0))))) := hI.2 22 (by omega)
theorem i8_22 {g : zG} {ad : Nat → Nat} {pe : Int32} {e : va_E} (h : e = .inl (g.2 7, 4, .inr (.inr (.inr (.inr (zF22 ad 0)))))) : ok8 g ad pe 22 e := h
theorem a8_23 {g : zG} {ad : Nat → Nat} {pe : Int32} {ct : Nat → va_E} (hI : Inv8 g ad pe ct) : ct 23 = .inl (g.2 7, 4, .inr (.inr (.inr (.inr (zF23 ad 0))))) := hI.2 23 (by omega)
theorem i8_23 {g : zG} {ad : Nat → Nat} {pe : Int32} {e : va_E} (h : e = .inl (g.2 7, 4, .inr (.inr (.inr (.inr (zF23 ad 0)))))) : ok8 g ad pe 23 e := h
theorem a8_24 {g : zG} {ad : Nat → Nat} {pe : Int32} {ct : Nat → va_E} (hI : Inv8 g ad pe ct) : ∃ (f : Nat → Int32), ct 24 = .inl (g.2 0, 4, .inl f) := hI.2 24 (by omega)
theorem i8_24 {g : zG} {ad : Nat → Nat} {pe : Int32} {e : va_E} (h : ∃ (f : Nat → Int32), e = .inl (g.2 0, 4, .inl f)) : ok8 g ad pe 24 e := h
theorem a8_25 {g : zG} {ad : Nat → Nat} {pe : Int32} {ct : Nat → va_E} (hI : Inv8 g ad pe ct) : ∃ (f : Nat → Int32), (∀ j : Nat, j < 4 → (fun x : Int32 => 0 ≤ x.toInt ∧ x.toInt ≤ 4) (f j)) ∧ ct 25 = .inl (g.2 0, 4, .inl f) := hI.2 25 (by omega)
theorem i8_25 {g : zG} {ad : Nat → Nat} {pe : Int32} {e : va_E} (h : ∃ (f : Nat → Int32), (∀ j : Nat, j < 4 → (fun x : Int32 => 0 ≤ x.toInt ∧ x.toInt ≤ 4) (f j)) ∧ e = .inl (g.2 0, 4, .inl f)) : ok8 g ad pe 25 e := h
theorem kd8_26 {kc : Nat} (hc : 26 ≤ kc ∧ kc < 34) : kd8 (kc) = 26 := by unfold kd8; rw [if_pos (by omega), if_pos (by omega)]
theorem a8_26 {g : zG} {ad : Nat → Nat} {pe : Int32} {ct : Nat → va_E} {kc : Nat} (hc : 26 ≤ kc ∧ kc < 34) (hI : Inv8 g ad pe ct) : ∃ (f : Nat → Int32), ct (kc) = .inl (g.2 0, 40, .inl f) := by
  have q := hI.2 (kc) (by omega)
  unfold ok8 at q
  rw [kd8_26 hc] at q
  exact q
theorem i8_26 {g : zG} {ad : Nat → Nat} {pe : Int32} {e : va_E} {kc : Nat} (hc : 26 ≤ kc ∧ kc < 34) (h : ∃ (f : Nat → Int32), e = .inl (g.2 0, 40, .inl f)) : ok8 g ad pe (kc) e := by
  unfold ok8
  rw [kd8_26 hc]
  exact h
theorem a8_34 {g : zG} {ad : Nat → Nat} {pe : Int32} {ct : Nat → va_E} (hI : Inv8 g ad pe ct) : ∃ (f : Nat → Int32), ct 34 = .inl (g.2 0, 7, .inl f) := hI.2 34 (by omega)
theorem i8_34 {g : zG} {ad : Nat → Nat} {pe : Int32} {e : va_E} (h : ∃ (f : Nat → Int32), e = .inl (g.2 0, 7, .inl f)) : ok8 g ad pe 34 e := h
theorem kd8_35 {kc : Nat} (hc : 35 ≤ kc ∧ kc < 55 ∧ (kc - 35) % 5 = 0) : kd8 (kc) = 35 := by unfold kd8; rw [if_neg (by omega), if_pos (by omega)]; omega
theorem a8_35 {g : zG} {ad : Nat → Nat} {pe : Int32} {ct : Nat → va_E} {kc : Nat} (hc : 35 ≤ kc ∧ kc < 55 ∧ (kc - 35) % 5 = 0) (hI : Inv8 g ad pe ct) : ∃ (we : Int32) (se : Int32), (0 ≤ se.toInt) ∧ (se.toInt ≤ 16) ∧ ct (kc) = .inr (3, [.int we, .ref (ad (kc + 1)), .ref (ad (kc + 2)), .ref (ad (kc + 3)), .ref (ad (kc + 4)), .int se]) := by
  have q := hI.2 (kc) (by omega)
  unfold ok8 at q
  rw [kd8_35 hc] at q
  exact q
theorem i8_35 {g : zG} {ad : Nat → Nat} {pe : Int32} {e : va_E} {kc : Nat} (hc : 35 ≤ kc ∧ kc < 55 ∧ (kc - 35) % 5 = 0) (h : ∃ (we : Int32) (se : Int32), (0 ≤ se.toInt) ∧ (se.toInt ≤ 16) ∧ e = .inr (3, [.int we, .ref (ad (kc + 1)), .ref (ad (kc + 2)), .ref (ad (kc + 3)), .ref (ad (kc + 4)), .int se])) : ok8 g ad pe (kc) e := by
  unfold ok8
  rw [kd8_35 hc]
  exact h
theorem kd8_36 {kc : Nat} (hc : 35 ≤ kc ∧ kc < 55 ∧ (kc - 35) % 5 = 0) : kd8 (kc + 1) = 36 := by unfold kd8; rw [if_neg (by omega), if_pos (by omega)]; omega
theorem a8_36 {g : zG} {ad : Nat → Nat} {pe : Int32} {ct : Nat → va_E} {kc : Nat} (hc : 35 ≤ kc ∧ kc < 55 ∧ (kc - 35) % 5 = 0) (hI : Inv8 g ad pe ct) : ∃ (f : Nat → Int32), ct (kc + 1) = .inl (g.2 0, 32, .inl f) := by
  have q := hI.2 (kc + 1) (by omega)
  unfold ok8 at q
  rw [kd8_36 hc] at q
  exact q
theorem i8_36 {g : zG} {ad : Nat → Nat} {pe : Int32} {e : va_E} {kc : Nat} (hc : 35 ≤ kc ∧ kc < 55 ∧ (kc - 35) % 5 = 0) (h : ∃ (f : Nat → Int32), e = .inl (g.2 0, 32, .inl f)) : ok8 g ad pe (kc + 1) e := by
  unfold ok8
  rw [kd8_36 hc]
  exact h
theorem kd8_37 {kc : Nat} (hc : 35 ≤ kc ∧ kc < 55 ∧ (kc - 35) % 5 = 0) : kd8 (kc + 2) = 37 := by unfold kd8; rw [if_neg (by omega), if_pos (by omega)]; omega
theorem a8_37 {g : zG} {ad : Nat → Nat} {pe : Int32} {ct : Nat → va_E} {kc : Nat} (hc : 35 ≤ kc ∧ kc < 55 ∧ (kc - 35) % 5 = 0) (hI : Inv8 g ad pe ct) : ∃ (f : Nat → Int32), ct (kc + 2) = .inl (g.2 0, 33, .inl f) := by
  have q := hI.2 (kc + 2) (by omega)
  unfold ok8 at q
  rw [kd8_37 hc] at q
  exact q
theorem i8_37 {g : zG} {ad : Nat → Nat} {pe : Int32} {e : va_E} {kc : Nat} (hc : 35 ≤ kc ∧ kc < 55 ∧ (kc - 35) % 5 = 0) (h : ∃ (f : Nat → Int32), e = .inl (g.2 0, 33, .inl f)) : ok8 g ad pe (kc + 2) e := by
  unfold ok8
  rw [kd8_37 hc]
  exact h
theorem kd8_38 {kc : Nat} (hc : 35 ≤ kc ∧ kc < 55 ∧ (kc - 35) % 5 = 0) : kd8 (kc + 3) = 38 := by unfold kd8; rw [if_neg (by omega), if_pos (by omega)]; omega
theorem a8_38 {g : zG} {ad : Nat → Nat} {pe : Int32} {ct : Nat → va_E} {kc : Nat} (hc : 35 ≤ kc ∧ kc < 55 ∧ (kc - 35) % 5 = 0) (hI : Inv8 g ad pe ct) : ∃ (f : Nat → Int32), ct (kc + 3) = .inl (g.2 0, 33, .inl f) := by
  have q := hI.2 (kc + 3) (by omega)
  unfold ok8 at q
  rw [kd8_38 hc] at q
  exact q
theorem i8_38 {g : zG} {ad : Nat → Nat} {pe : Int32} {e : va_E} {kc : Nat} (hc : 35 ≤ kc ∧ kc < 55 ∧ (kc - 35) % 5 = 0) (h : ∃ (f : Nat → Int32), e = .inl (g.2 0, 33, .inl f)) : ok8 g ad pe (kc + 3) e := by
  unfold ok8
  rw [kd8_38 hc]
  exact h
theorem kd8_39 {kc : Nat} (hc : 35 ≤ kc ∧ kc < 55 ∧ (kc - 35) % 5 = 0) : kd8 (kc + 4) = 39 := by unfold kd8; rw [if_neg (by omega), if_pos (by omega)]; omega
theorem a8_39 {g : zG} {ad : Nat → Nat} {pe : Int32} {ct : Nat → va_E} {kc : Nat} (hc : 35 ≤ kc ∧ kc < 55 ∧ (kc - 35) % 5 = 0) (hI : Inv8 g ad pe ct) : ∃ (f : Nat → Int32), ct (kc + 4) = .inl (g.2 0, 16, .inl f) := by
  have q := hI.2 (kc + 4) (by omega)
  unfold ok8 at q
  rw [kd8_39 hc] at q
  exact q
theorem i8_39 {g : zG} {ad : Nat → Nat} {pe : Int32} {e : va_E} {kc : Nat} (hc : 35 ≤ kc ∧ kc < 55 ∧ (kc - 35) % 5 = 0) (h : ∃ (f : Nat → Int32), e = .inl (g.2 0, 16, .inl f)) : ok8 g ad pe (kc + 4) e := by
  unfold ok8
  rw [kd8_39 hc]
  exact h
theorem kd8_40 {kc : Nat} (hc : 55 ≤ kc ∧ kc < 99 ∧ (kc - 55) % 11 = 0) : kd8 (kc) = 40 := by unfold kd8; rw [if_neg (by omega), if_neg (by omega), if_pos (by omega), if_pos (by omega)]; omega
theorem a8_40 {g : zG} {ad : Nat → Nat} {pe : Int32} {ct : Nat → va_E} {kc : Nat} (hc : 55 ≤ kc ∧ kc < 99 ∧ (kc - 55) % 11 = 0) (hI : Inv8 g ad pe ct) : ∃ (lns : Int32) (liv : Int32) (shw : Int32), (0 ≤ lns.toInt) ∧ (lns.toInt ≤ 8) ∧ (0 ≤ liv.toInt) ∧ (liv.toInt ≤ 255) ∧ ((shw = 0 ∨ shw = 1)) ∧ ct (kc) = .inr (2, [.int lns, .int liv, .int shw, .ref (ad (kc + 1)), .ref (ad (kc + 2))]) := by
  have q := hI.2 (kc) (by omega)
  unfold ok8 at q
  rw [kd8_40 hc] at q
  exact q
theorem i8_40 {g : zG} {ad : Nat → Nat} {pe : Int32} {e : va_E} {kc : Nat} (hc : 55 ≤ kc ∧ kc < 99 ∧ (kc - 55) % 11 = 0) (h : ∃ (lns : Int32) (liv : Int32) (shw : Int32), (0 ≤ lns.toInt) ∧ (lns.toInt ≤ 8) ∧ (0 ≤ liv.toInt) ∧ (liv.toInt ≤ 255) ∧ ((shw = 0 ∨ shw = 1)) ∧ e = .inr (2, [.int lns, .int liv, .int shw, .ref (ad (kc + 1)), .ref (ad (kc + 2))])) : ok8 g ad pe (kc) e := by
  unfold ok8
  rw [kd8_40 hc]
  exact h
theorem kd8_41 {kc : Nat} (hc : 55 ≤ kc ∧ kc < 99 ∧ (kc - 55) % 11 = 0) : kd8 (kc + 1) = 41 := by unfold kd8; rw [if_neg (by omega), if_neg (by omega), if_pos (by omega), if_pos (by omega)]; omega
theorem a8_41 {g : zG} {ad : Nat → Nat} {pe : Int32} {ct : Nat → va_E} {kc : Nat} (hc : 55 ≤ kc ∧ kc < 99 ∧ (kc - 55) % 11 = 0) (hI : Inv8 g ad pe ct) : ∃ (f : Nat → Int32), ct (kc + 1) = .inl (g.2 0, 8, .inl f) := by
  have q := hI.2 (kc + 1) (by omega)
  unfold ok8 at q
  rw [kd8_41 hc] at q
  exact q
theorem i8_41 {g : zG} {ad : Nat → Nat} {pe : Int32} {e : va_E} {kc : Nat} (hc : 55 ≤ kc ∧ kc < 99 ∧ (kc - 55) % 11 = 0) (h : ∃ (f : Nat → Int32), e = .inl (g.2 0, 8, .inl f)) : ok8 g ad pe (kc + 1) e := by
  unfold ok8
  rw [kd8_41 hc]
  exact h
theorem kd8_42 {kc : Nat} (hc : 55 ≤ kc ∧ kc < 99 ∧ (kc - 55) % 11 = 0) : kd8 (kc + 2) = 42 := by unfold kd8; rw [if_neg (by omega), if_neg (by omega), if_pos (by omega), if_pos (by omega)]; omega
theorem a8_42 {g : zG} {ad : Nat → Nat} {pe : Int32} {ct : Nat → va_E} {kc : Nat} (hc : 55 ≤ kc ∧ kc < 99 ∧ (kc - 55) % 11 = 0) (hI : Inv8 g ad pe ct) : ct (kc + 2) = .inl (g.2 7, 8, .inr (.inr (.inr (.inr (zF42 ad (kc + 2)))))) := by
  have q := hI.2 (kc + 2) (by omega)
  unfold ok8 at q
  rw [kd8_42 hc] at q
  exact q
theorem i8_42 {g : zG} {ad : Nat → Nat} {pe : Int32} {e : va_E} {kc : Nat} (hc : 55 ≤ kc ∧ kc < 99 ∧ (kc - 55) % 11 = 0) (h : e = .inl (g.2 7, 8, .inr (.inr (.inr (.inr (zF42 ad (kc + 2))))))) : ok8 g ad pe (kc + 2) e := by
  unfold ok8
  rw [kd8_42 hc]
  exact h
theorem kd8_43 {kc : Nat} (hc : 55 ≤ kc ∧ kc < 99 ∧ 3 ≤ (kc - 55) % 11) : kd8 (kc) = 43 := by unfold kd8; rw [if_neg (by omega), if_neg (by omega), if_pos (by omega), if_neg (by omega)]
theorem a8_43 {g : zG} {ad : Nat → Nat} {pe : Int32} {ct : Nat → va_E} {kc : Nat} (hc : 55 ≤ kc ∧ kc < 99 ∧ 3 ≤ (kc - 55) % 11) (hI : Inv8 g ad pe ct) : ∃ (f : Nat → Int32), ct (kc) = .inl (g.2 0, 4, .inl f) := by
  have q := hI.2 (kc) (by omega)
  unfold ok8 at q
  rw [kd8_43 hc] at q
  exact q
theorem i8_43 {g : zG} {ad : Nat → Nat} {pe : Int32} {e : va_E} {kc : Nat} (hc : 55 ≤ kc ∧ kc < 99 ∧ 3 ≤ (kc - 55) % 11) (h : ∃ (f : Nat → Int32), e = .inl (g.2 0, 4, .inl f)) : ok8 g ad pe (kc) e := by
  unfold ok8
  rw [kd8_43 hc]
  exact h
theorem kd8_44 {kc : Nat} (hc : 99 ≤ kc ∧ kc < 126 ∧ (kc - 99) % 3 = 0) : kd8 (kc) = 44 := by unfold kd8; rw [if_neg (by omega), if_neg (by omega), if_neg (by omega)]; omega
theorem a8_44 {g : zG} {ad : Nat → Nat} {pe : Int32} {ct : Nat → va_E} {kc : Nat} (hc : 99 ≤ kc ∧ kc < 126 ∧ (kc - 99) % 3 = 0) (hI : Inv8 g ad pe ct) : ∃ (tld : Int32) (ofb : Int32) (hol : Int32) (flt : Int32) (fla : Int32) (ofl : Int32) (len : Int32) (atx : Int32) (ref : Int32), ((tld = 0 ∨ tld = 1)) ∧ (0 ≤ len.toInt) ∧ (len.toInt ≤ 100) ∧ (0 ≤ atx.toInt) ∧ (atx.toInt ≤ 100) ∧ ((ref = 0 ∨ ref = 1)) ∧ ct (kc) = .inr (4, [.int tld, .int ofb, .int hol, .int flt, .int fla, .int ofl, .ref (ad (kc + 1)), .ref (ad (kc + 2)), .int len, .int atx, .int ref]) := by
  have q := hI.2 (kc) (by omega)
  unfold ok8 at q
  rw [kd8_44 hc] at q
  exact q
theorem i8_44 {g : zG} {ad : Nat → Nat} {pe : Int32} {e : va_E} {kc : Nat} (hc : 99 ≤ kc ∧ kc < 126 ∧ (kc - 99) % 3 = 0) (h : ∃ (tld : Int32) (ofb : Int32) (hol : Int32) (flt : Int32) (fla : Int32) (ofl : Int32) (len : Int32) (atx : Int32) (ref : Int32), ((tld = 0 ∨ tld = 1)) ∧ (0 ≤ len.toInt) ∧ (len.toInt ≤ 100) ∧ (0 ≤ atx.toInt) ∧ (atx.toInt ≤ 100) ∧ ((ref = 0 ∨ ref = 1)) ∧ e = .inr (4, [.int tld, .int ofb, .int hol, .int flt, .int fla, .int ofl, .ref (ad (kc + 1)), .ref (ad (kc + 2)), .int len, .int atx, .int ref])) : ok8 g ad pe (kc) e := by
  unfold ok8
  rw [kd8_44 hc]
  exact h
theorem kd8_45 {kc : Nat} (hc : 99 ≤ kc ∧ kc < 126 ∧ (kc - 99) % 3 = 0) : kd8 (kc + 1) = 45 := by unfold kd8; rw [if_neg (by omega), if_neg (by omega), if_neg (by omega)]; omega
theorem a8_45 {g : zG} {ad : Nat → Nat} {pe : Int32} {ct : Nat → va_E} {kc : Nat} (hc : 99 ≤ kc ∧ kc < 126 ∧ (kc - 99) % 3 = 0) (hI : Inv8 g ad pe ct) : ∃ (f : Nat → Int32), ct (kc + 1) = .inl (g.2 0, 7, .inl f) := by
  have q := hI.2 (kc + 1) (by omega)
  unfold ok8 at q
  rw [kd8_45 hc] at q
  exact q
theorem i8_45 {g : zG} {ad : Nat → Nat} {pe : Int32} {e : va_E} {kc : Nat} (hc : 99 ≤ kc ∧ kc < 126 ∧ (kc - 99) % 3 = 0) (h : ∃ (f : Nat → Int32), e = .inl (g.2 0, 7, .inl f)) : ok8 g ad pe (kc + 1) e := by
  unfold ok8
  rw [kd8_45 hc]
  exact h
theorem kd8_46 {kc : Nat} (hc : 99 ≤ kc ∧ kc < 126 ∧ (kc - 99) % 3 = 0) : kd8 (kc + 2) = 46 := by unfold kd8; rw [if_neg (by omega), if_neg (by omega), if_neg (by omega)]; omega
theorem a8_46 {g : zG} {ad : Nat → Nat} {pe : Int32} {ct : Nat → va_E} {kc : Nat} (hc : 99 ≤ kc ∧ kc < 126 ∧ (kc - 99) % 3 = 0) (hI : Inv8 g ad pe ct) : ∃ (f : Nat → Int32), ct (kc + 2) = .inl (g.2 0, 100, .inl f) := by
  have q := hI.2 (kc + 2) (by omega)
  unfold ok8 at q
  rw [kd8_46 hc] at q
  exact q
theorem i8_46 {g : zG} {ad : Nat → Nat} {pe : Int32} {e : va_E} {kc : Nat} (hc : 99 ≤ kc ∧ kc < 126 ∧ (kc - 99) % 3 = 0) (h : ∃ (f : Nat → Int32), e = .inl (g.2 0, 100, .inl f)) : ok8 g ad pe (kc + 2) e := by
  unfold ok8
  rw [kd8_46 hc]
  exact h
def okk9 (g : zG) (ad : Nat → Nat) (me : Int32) (k : Nat) (e : va_E) : Prop := match k with
  | 0 => ∃ (bks : Int32) (lks : Int32) (gos : Int32) (shn : Int32) (tpd : Int32) (pl0 : Int32) (ln0 : Int32) (flt : Int32) (opn : Int32) (cmy : Int32) (wtg : Int32) (nm0 : Int32) (mst : Int32) (sus : Int32) (cut : Int32), (0 ≤ bks.toInt) ∧ (bks.toInt ≤ 4) ∧ (0 ≤ lks.toInt) ∧ (lks.toInt ≤ 40) ∧ (0 ≤ gos.toInt) ∧ (gos.toInt ≤ 255) ∧ (0 ≤ shn.toInt) ∧ (shn.toInt ≤ 15) ∧ (0 ≤ tpd.toInt) ∧ (tpd.toInt ≤ 200) ∧ (0 ≤ pl0.toInt) ∧ (pl0.toInt ≤ 200) ∧ (0 ≤ ln0.toInt) ∧ (ln0.toInt ≤ 200) ∧ (0 ≤ cmy.toInt) ∧ (cmy.toInt ≤ 120) ∧ (0 ≤ wtg.toInt) ∧ (wtg.toInt ≤ 120) ∧ (0 ≤ sus.toInt) ∧ (sus.toInt ≤ 16) ∧ e = .inr (9, [.int me, .ref (ad (1)), .ref (ad (2)), .ref (ad (3)), .ref (ad (4)), .int bks, .int lks, .int gos, .int shn, .ref (ad (5)), .ref (ad (6)), .ref (ad (7)), .ref (ad (8)), .ref (ad (9)), .ref (ad (10)), .ref (ad (11)), .int tpd, .int pl0, .int ln0, .int flt, .int opn, .int cmy, .int wtg, .int nm0, .ref (ad (12)), .ref (ad (13)), .ref (ad (14)), .ref (ad (15)), .ref (ad (16)), .ref (ad (17)), .ref (ad (18)), .ref (ad (19)), .ref (ad (20)), .ref (ad (21)), .ref (ad (22)), .ref (ad (23)), .ref (ad (24)), .ref (ad (25)), .ref (ad (26)), .ref (ad (27)), .int mst, .int sus, .ref (ad (28)), .ref (ad (29)), .ref (ad (30)), .ref (ad (31)), .int cut])
  | 1 => ∃ (f : Nat → Int32), (∀ j : Nat, j < 128 → (fun x : Int32 => x.toInt = -1 ∨ (16 ≤ x.toInt ∧ x.toInt ≤ 31 ∧ (j : Int) % 32 < x.toInt)) (f j)) ∧ e = .inl (g.2 0, 128, .inl f)
  | 2 => ∃ (f : Nat → Int32), e = .inl (g.2 0, 4, .inl f)
  | 3 => ∃ (f : Nat → Int32), (∀ j : Nat, j < 64 → (fun x : Int32 => 0 ≤ x.toInt ∧ x.toInt ≤ 15) (f j)) ∧ e = .inl (g.2 0, 64, .inl f)
  | 4 => ∃ (f : Nat → Int32), e = .inl (g.2 0, 16, .inl f)
  | 5 => ∃ (f : Nat → Int32), (∀ j : Nat, j < 4 → (fun x : Int32 => 0 ≤ x.toInt ∧ x.toInt ≤ 8) (f j)) ∧ e = .inl (g.2 0, 4, .inl f)
  | 6 => ∃ (f : Nat → Int32), (∀ j : Nat, j < 32 → (fun x : Int32 => 0 ≤ x.toInt ∧ x.toInt ≤ 15) (f j)) ∧ e = .inl (g.2 0, 32, .inl f)
  | 7 => ∃ (f : Nat → Int32), (∀ j : Nat, j < 128 → (fun x : Int32 => 0 ≤ x.toInt ∧ x.toInt ≤ 32) (f j)) ∧ e = .inl (g.2 0, 128, .inl f)
  | 8 => ∃ (f : Nat → Int32), (∀ j : Nat, j < 40 → (fun x : Int32 => 0 ≤ x.toInt ∧ x.toInt ≤ 31) (f j)) ∧ e = .inl (g.2 0, 40, .inl f)
  | 9 => ∃ (f : Nat → Int32), (∀ j : Nat, j < 40 → (fun x : Int32 => 0 ≤ x.toInt ∧ x.toInt ≤ 31) (f j)) ∧ e = .inl (g.2 0, 40, .inl f)
  | 10 => ∃ (f : Nat → Int32), (∀ j : Nat, j < 32 → (fun x : Int32 => x = 0 ∨ x = 1) (f j)) ∧ e = .inl (g.2 3, 32, .inl f)
  | 11 => ∃ (f : Nat → Int32), e = .inl (g.2 2, 200, .inl f)
  | 12 => ∃ (f : Nat → Int32), e = .inl (g.2 0, 120, .inl f)
  | 13 => ∃ (f : Nat → Int32), e = .inl (g.2 0, 120, .inl f)
  | 14 => ∃ (f : Nat → Int32), e = .inl (g.2 0, 960, .inl f)
  | 15 => ∃ (f : Nat → Int32), e = .inl (g.2 0, 8, .inl f)
  | 16 => ∃ (f : Nat → Int32), (∀ j : Nat, j < 8 → (fun x : Int32 => 0 ≤ x.toInt ∧ x.toInt ≤ 31) (f j)) ∧ e = .inl (g.2 0, 8, .inl f)
  | 17 => ∃ (f : Nat → Int32), e = .inl (g.2 0, 120, .inl f)
  | 18 => ∃ (f : Nat → Int32), e = .inl (g.2 0, 7, .inl f)
  | 19 => ∃ (f : Nat → Int32), (∀ j : Nat, j < 32 → (fun x : Int32 => x = 0 ∨ x = 1) (f j)) ∧ e = .inl (g.2 3, 32, .inl f)
  | 20 => ∃ (f : Nat → Int32), (∀ j : Nat, j < 8 → (fun x : Int32 => 0 ≤ x.toInt ∧ x.toInt ≤ 65535) (f j)) ∧ e = .inl (g.2 0, 8, .inl f)
  | 21 => ∃ (f : Nat → Int64), e = .inl (g.2 1, 65536, .inr (.inl f))
  | 22 => ∃ (f : Nat → Int32), e = .inl (g.2 0, 65536, .inl f)
  | 23 => ∃ (f : Nat → Int32), (∀ j : Nat, j < 8 → (fun x : Int32 => (-1) ≤ x.toInt ∧ x.toInt ≤ 15) (f j)) ∧ e = .inl (g.2 0, 8, .inl f)
  | 24 => ∃ (f : Nat → Int32), (∀ j : Nat, j < 16 → (fun x : Int32 => (-1) ≤ x.toInt ∧ x.toInt ≤ 7) (f j)) ∧ e = .inl (g.2 0, 16, .inl f)
  | 25 => ∃ (f : Nat → Int32), (∀ j : Nat, j < 16 → (fun x : Int32 => 0 ≤ x.toInt ∧ x.toInt ≤ 7) (f j)) ∧ e = .inl (g.2 0, 16, .inl f)
  | 26 => ∃ (f : Nat → Int32), (∀ j : Nat, j < 16 → (fun x : Int32 => 0 ≤ x.toInt ∧ x.toInt ≤ 7) (f j)) ∧ e = .inl (g.2 0, 16, .inl f)
  | 27 => ∃ (f : Nat → Int32), e = .inl (g.2 0, 8, .inl f)
  | 28 => ∃ (f : Nat → Int32), (∀ j : Nat, j < 16 → (fun x : Int32 => 0 ≤ x.toInt ∧ x.toInt ≤ 15) (f j)) ∧ e = .inl (g.2 0, 16, .inl f)
  | 29 => ∃ (f : Nat → Int32), e = .inl (g.2 0, 128, .inl f)
  | 30 => ∃ (f : Nat → Int32), e = .inl (g.2 0, 65536, .inl f)
  | 31 => ∃ (f : Nat → Int32), (∀ j : Nat, j < 4 → (fun x : Int32 => 0 ≤ x.toInt ∧ x.toInt ≤ 32) (f j)) ∧ e = .inl (g.2 0, 4, .inl f)
  | _ => False
def Inv9 (g : zG) (ad : Nat → Nat) (me : Int32) (ct : Nat → va_E) : Prop := (0 ≤ me.toInt ∧ me.toInt ≤ 16) ∧ ∀ k, k < 32 → okk9 g ad me k (ct k)
theorem up9 {g : zG} {ad : Nat → Nat} {me : Int32} {ct : Nat → va_E} {k : Nat} {e : va_E} (hI : Inv9 g ad me ct) (h : okk9 g ad me k e) : Inv9 g ad me (va_up ct k e) := ⟨hI.1, fun j hj => by
  by_cases hk : j = k
  · subst hk
    rw [va_up_self]
    exact h
  · rw [va_up_ne _ _ hk]
    exact hI.2 j hj⟩
theorem ok9_pe {g : zG} {ad : Nat → Nat} {me me2 : Int32} {k : Nat} {e : va_E} (hk : k ≠ 0) (h : okk9 g ad me k e) : okk9 g ad me2 k e := by
  unfold okk9 at h ⊢
  split at h <;> first | exact absurd rfl hk | exact h
theorem up9_pe {g : zG} {ad : Nat → Nat} {me me2 : Int32} {ct : Nat → va_E} {e : va_E} (hI : Inv9 g ad me ct) (hb : 0 ≤ me2.toInt ∧ me2.toInt ≤ 16) (h : okk9 g ad me2 0 e) : Inv9 g ad me2 (va_up ct 0 e) := ⟨hb, fun j hj => by
  by_cases hk : j = 0
  · subst hk
    rw [va_up_self]
    exact h
  · rw [va_up_ne _ _ hk]
    exact ok9_pe hk (hI.2 j hj)⟩
theorem a9_0 {g : zG} {ad : Nat → Nat} {me : Int32} {ct : Nat → va_E} (hI : Inv9 g ad me ct) : ∃ (bks : Int32) (lks : Int32) (gos : Int32) (shn : Int32) (tpd : Int32) (pl0 : Int32) (ln0 : Int32) (flt : Int32) (opn : Int32) (cmy : Int32) (wtg : Int32) (nm0 : Int32) (mst : Int32) (sus : Int32) (cut : Int32), (0 ≤ bks.toInt) ∧ (bks.toInt ≤ 4) ∧ (0 ≤ lks.toInt) ∧ (lks.toInt ≤ 40) ∧ (0 ≤ gos.toInt) ∧ (gos.toInt ≤ 255) ∧ (0 ≤ shn.toInt) ∧ (shn.toInt ≤ 15) ∧ (0 ≤ tpd.toInt) ∧ (tpd.toInt ≤ 200) ∧ (0 ≤ pl0.toInt) ∧ (pl0.toInt ≤ 200) ∧ (0 ≤ ln0.toInt) ∧ (ln0.toInt ≤ 200) ∧ (0 ≤ cmy.toInt) ∧ (cmy.toInt ≤ 120) ∧ (0 ≤ wtg.toInt) ∧ (wtg.toInt ≤ 120) ∧ (0 ≤ sus.toInt) ∧ (sus.toInt ≤ 16) ∧ ct 0 = .inr (9, [.int me, .ref (ad (1)), .ref (ad (2)), .ref (ad (3)), .ref (ad (4)), .int bks, .int lks, .int gos, .int shn, .ref (ad (5)), .ref (ad (6)), .ref (ad (7)), .ref (ad (8)), .ref (ad (9)), .ref (ad (10)), .ref (ad (11)), .int tpd, .int pl0, .int ln0, .int flt, .int opn, .int cmy, .int wtg, .int nm0, .ref (ad (12)), .ref (ad (13)), .ref (ad (14)), .ref (ad (15)), .ref (ad (16)), .ref (ad (17)), .ref (ad (18)), .ref (ad (19)), .ref (ad (20)), .ref (ad (21)), .ref (ad (22)), .ref (ad (23)), .ref (ad (24)), .ref (ad (25)), .ref (ad (26)), .ref (ad (27)), .int mst, .int sus, .ref (ad (28)), .ref (ad (29)), .ref (ad (30)), .ref (ad (31)), .int cut]) := hI.2 0 (by omega)
theorem i9_0 {g : zG} {ad : Nat → Nat} {me : Int32} {e : va_E} (h : ∃ (bks : Int32) (lks : Int32) (gos : Int32) (shn : Int32) (tpd : Int32) (pl0 : Int32) (ln0 : Int32) (flt : Int32) (opn : Int32) (cmy : Int32) (wtg : Int32) (nm0 : Int32) (mst : Int32) (sus : Int32) (cut : Int32), (0 ≤ bks.toInt) ∧ (bks.toInt ≤ 4) ∧ (0 ≤ lks.toInt) ∧ (lks.toInt ≤ 40) ∧ (0 ≤ gos.toInt) ∧ (gos.toInt ≤ 255) ∧ (0 ≤ shn.toInt) ∧ (shn.toInt ≤ 15) ∧ (0 ≤ tpd.toInt) ∧ (tpd.toInt ≤ 200) ∧ (0 ≤ pl0.toInt) ∧ (pl0.toInt ≤ 200) ∧ (0 ≤ ln0.toInt) ∧ (ln0.toInt ≤ 200) ∧ (0 ≤ cmy.toInt) ∧ (cmy.toInt ≤ 120) ∧ (0 ≤ wtg.toInt) ∧ (wtg.toInt ≤ 120) ∧ (0 ≤ sus.toInt) ∧ (sus.toInt ≤ 16) ∧ e = .inr (9, [.int me, .ref (ad (1)), .ref (ad (2)), .ref (ad (3)), .ref (ad (4)), .int bks, .int lks, .int gos, .int shn, .ref (ad (5)), .ref (ad (6)), .ref (ad (7)), .ref (ad (8)), .ref (ad (9)), .ref (ad (10)), .ref (ad (11)), .int tpd, .int pl0, .int ln0, .int flt, .int opn, .int cmy, .int wtg, .int nm0, .ref (ad (12)), .ref (ad (13)), .ref (ad (14)), .ref (ad (15)), .ref (ad (16)), .ref (ad (17)), .ref (ad (18)), .ref (ad (19)), .ref (ad (20)), .ref (ad (21)), .ref (ad (22)), .ref (ad (23)), .ref (ad (24)), .ref (ad (25)), .ref (ad (26)), .ref (ad (27)), .int mst, .int sus, .ref (ad (28)), .ref (ad (29)), .ref (ad (30)), .ref (ad (31)), .int cut])) : okk9 g ad me 0 e := h
theorem a9_1 {g : zG} {ad : Nat → Nat} {me : Int32} {ct : Nat → va_E} (hI : Inv9 g ad me ct) : ∃ (f : Nat → Int32), (∀ j : Nat, j < 128 → (fun x : Int32 => x.toInt = -1 ∨ (16 ≤ x.toInt ∧ x.toInt ≤ 31 ∧ (j : Int) % 32 < x.toInt)) (f j)) ∧ ct 1 = .inl (g.2 0, 128, .inl f) := hI.2 1 (by omega)
theorem i9_1 {g : zG} {ad : Nat → Nat} {me : Int32} {e : va_E} (h : ∃ (f : Nat → Int32), (∀ j : Nat, j < 128 → (fun x : Int32 => x.toInt = -1 ∨ (16 ≤ x.toInt ∧ x.toInt ≤ 31 ∧ (j : Int) % 32 < x.toInt)) (f j)) ∧ e = .inl (g.2 0, 128, .inl f)) : okk9 g ad me 1 e := h
theorem a9_2 {g : zG} {ad : Nat → Nat} {me : Int32} {ct : Nat → va_E} (hI : Inv9 g ad me ct) : ∃ (f : Nat → Int32), ct 2 = .inl (g.2 0, 4, .inl f) := hI.2 2 (by omega)
theorem i9_2 {g : zG} {ad : Nat → Nat} {me : Int32} {e : va_E} (h : ∃ (f : Nat → Int32), e = .inl (g.2 0, 4, .inl f)) : okk9 g ad me 2 e := h
theorem a9_3 {g : zG} {ad : Nat → Nat} {me : Int32} {ct : Nat → va_E} (hI : Inv9 g ad me ct) : ∃ (f : Nat → Int32), (∀ j : Nat, j < 64 → (fun x : Int32 => 0 ≤ x.toInt ∧ x.toInt ≤ 15) (f j)) ∧ ct 3 = .inl (g.2 0, 64, .inl f) := hI.2 3 (by omega)
theorem i9_3 {g : zG} {ad : Nat → Nat} {me : Int32} {e : va_E} (h : ∃ (f : Nat → Int32), (∀ j : Nat, j < 64 → (fun x : Int32 => 0 ≤ x.toInt ∧ x.toInt ≤ 15) (f j)) ∧ e = .inl (g.2 0, 64, .inl f)) : okk9 g ad me 3 e := h
theorem a9_4 {g : zG} {ad : Nat → Nat} {me : Int32} {ct : Nat → va_E} (hI : Inv9 g ad me ct) : ∃ (f : Nat → Int32), ct 4 = .inl (g.2 0, 16, .inl f) := hI.2 4 (by omega)
theorem i9_4 {g : zG} {ad : Nat → Nat} {me : Int32} {e : va_E} (h : ∃ (f : Nat → Int32), e = .inl (g.2 0, 16, .inl f)) : okk9 g ad me 4 e := h
theorem a9_5 {g : zG} {ad : Nat → Nat} {me : Int32} {ct : Nat → va_E} (hI : Inv9 g ad me ct) : ∃ (f : Nat → Int32), (∀ j : Nat, j < 4 → (fun x : Int32 => 0 ≤ x.toInt ∧ x.toInt ≤ 8) (f j)) ∧ ct 5 = .inl (g.2 0, 4, .inl f) := hI.2 5 (by omega)
theorem i9_5 {g : zG} {ad : Nat → Nat} {me : Int32} {e : va_E} (h : ∃ (f : Nat → Int32), (∀ j : Nat, j < 4 → (fun x : Int32 => 0 ≤ x.toInt ∧ x.toInt ≤ 8) (f j)) ∧ e = .inl (g.2 0, 4, .inl f)) : okk9 g ad me 5 e := h
theorem a9_6 {g : zG} {ad : Nat → Nat} {me : Int32} {ct : Nat → va_E} (hI : Inv9 g ad me ct) : ∃ (f : Nat → Int32), (∀ j : Nat, j < 32 → (fun x : Int32 => 0 ≤ x.toInt ∧ x.toInt ≤ 15) (f j)) ∧ ct 6 = .inl (g.2 0, 32, .inl f) := hI.2 6 (by omega)
theorem i9_6 {g : zG} {ad : Nat → Nat} {me : Int32} {e : va_E} (h : ∃ (f : Nat → Int32), (∀ j : Nat, j < 32 → (fun x : Int32 => 0 ≤ x.toInt ∧ x.toInt ≤ 15) (f j)) ∧ e = .inl (g.2 0, 32, .inl f)) : okk9 g ad me 6 e := h
theorem a9_7 {g : zG} {ad : Nat → Nat} {me : Int32} {ct : Nat → va_E} (hI : Inv9 g ad me ct) : ∃ (f : Nat → Int32), (∀ j : Nat, j < 128 → (fun x : Int32 => 0 ≤ x.toInt ∧ x.toInt ≤ 32) (f j)) ∧ ct 7 = .inl (g.2 0, 128, .inl f) := hI.2 7 (by omega)
theorem i9_7 {g : zG} {ad : Nat → Nat} {me : Int32} {e : va_E} (h : ∃ (f : Nat → Int32), (∀ j : Nat, j < 128 → (fun x : Int32 => 0 ≤ x.toInt ∧ x.toInt ≤ 32) (f j)) ∧ e = .inl (g.2 0, 128, .inl f)) : okk9 g ad me 7 e := h
theorem a9_8 {g : zG} {ad : Nat → Nat} {me : Int32} {ct : Nat → va_E} (hI : Inv9 g ad me ct) : ∃ (f : Nat → Int32), (∀ j : Nat, j < 40 → (fun x : Int32 => 0 ≤ x.toInt ∧ x.toInt ≤ 31) (f j)) ∧ ct 8 = .inl (g.2 0, 40, .inl f) := hI.2 8 (by omega)
theorem i9_8 {g : zG} {ad : Nat → Nat} {me : Int32} {e : va_E} (h : ∃ (f : Nat → Int32), (∀ j : Nat, j < 40 → (fun x : Int32 => 0 ≤ x.toInt ∧ x.toInt ≤ 31) (f j)) ∧ e = .inl (g.2 0, 40, .inl f)) : okk9 g ad me 8 e := h
theorem a9_9 {g : zG} {ad : Nat → Nat} {me : Int32} {ct : Nat → va_E} (hI : Inv9 g ad me ct) : ∃ (f : Nat → Int32), (∀ j : Nat, j < 40 → (fun x : Int32 => 0 ≤ x.toInt ∧ x.toInt ≤ 31) (f j)) ∧ ct 9 = .inl (g.2 0, 40, .inl f) := hI.2 9 (by omega)
theorem i9_9 {g : zG} {ad : Nat → Nat} {me : Int32} {e : va_E} (h : ∃ (f : Nat → Int32), (∀ j : Nat, j < 40 → (fun x : Int32 => 0 ≤ x.toInt ∧ x.toInt ≤ 31) (f j)) ∧ e = .inl (g.2 0, 40, .inl f)) : okk9 g ad me 9 e := h
theorem a9_10 {g : zG} {ad : Nat → Nat} {me : Int32} {ct : Nat → va_E} (hI : Inv9 g ad me ct) : ∃ (f : Nat → Int32), (∀ j : Nat, j < 32 → (fun x : Int32 => x = 0 ∨ x = 1) (f j)) ∧ ct 10 = .inl (g.2 3, 32, .inl f) := hI.2 10 (by omega)
theorem i9_10 {g : zG} {ad : Nat → Nat} {me : Int32} {e : va_E} (h : ∃ (f : Nat → Int32), (∀ j : Nat, j < 32 → (fun x : Int32 => x = 0 ∨ x = 1) (f j)) ∧ e = .inl (g.2 3, 32, .inl f)) : okk9 g ad me 10 e := h
theorem a9_11 {g : zG} {ad : Nat → Nat} {me : Int32} {ct : Nat → va_E} (hI : Inv9 g ad me ct) : ∃ (f : Nat → Int32), ct 11 = .inl (g.2 2, 200, .inl f) := hI.2 11 (by omega)
theorem i9_11 {g : zG} {ad : Nat → Nat} {me : Int32} {e : va_E} (h : ∃ (f : Nat → Int32), e = .inl (g.2 2, 200, .inl f)) : okk9 g ad me 11 e := h
theorem a9_12 {g : zG} {ad : Nat → Nat} {me : Int32} {ct : Nat → va_E} (hI : Inv9 g ad me ct) : ∃ (f : Nat → Int32), ct 12 = .inl (g.2 0, 120, .inl f) := hI.2 12 (by omega)
theorem i9_12 {g : zG} {ad : Nat → Nat} {me : Int32} {e : va_E} (h : ∃ (f : Nat → Int32), e = .inl (g.2 0, 120, .inl f)) : okk9 g ad me 12 e := h
theorem a9_13 {g : zG} {ad : Nat → Nat} {me : Int32} {ct : Nat → va_E} (hI : Inv9 g ad me ct) : ∃ (f : Nat → Int32), ct 13 = .inl (g.2 0, 120, .inl f) := hI.2 13 (by omega)
theorem i9_13 {g : zG} {ad : Nat → Nat} {me : Int32} {e : va_E} (h : ∃ (f : Nat → Int32), e = .inl (g.2 0, 120, .inl f)) : okk9 g ad me 13 e := h
theorem a9_14 {g : zG} {ad : Nat → Nat} {me : Int32} {ct : Nat → va_E} (hI : Inv9 g ad me ct) : ∃ (f : Nat → Int32), ct 14 = .inl (g.2 0, 960, .inl f) := hI.2 14 (by omega)
theorem i9_14 {g : zG} {ad : Nat → Nat} {me : Int32} {e : va_E} (h : ∃ (f : Nat → Int32), e = .inl (g.2 0, 960, .inl f)) : okk9 g ad me 14 e := h
theorem a9_15 {g : zG} {ad : Nat → Nat} {me : Int32} {ct : Nat → va_E} (hI : Inv9 g ad me ct) : ∃ (f : Nat → Int32), ct 15 = .inl (g.2 0, 8, .inl f) := hI.2 15 (by omega)
theorem i9_15 {g : zG} {ad : Nat → Nat} {me : Int32} {e : va_E} (h : ∃ (f : Nat → Int32), e = .inl (g.2 0, 8, .inl f)) : okk9 g ad me 15 e := h
theorem a9_16 {g : zG} {ad : Nat → Nat} {me : Int32} {ct : Nat → va_E} (hI : Inv9 g ad me ct) : ∃ (f : Nat → Int32), (∀ j : Nat, j < 8 → (fun x : Int32 => 0 ≤ x.toInt ∧ x.toInt ≤ 31) (f j)) ∧ ct 16 = .inl (g.2 0, 8, .inl f) := hI.2 16 (by omega)
theorem i9_16 {g : zG} {ad : Nat → Nat} {me : Int32} {e : va_E} (h : ∃ (f : Nat → Int32), (∀ j : Nat, j < 8 → (fun x : Int32 => 0 ≤ x.toInt ∧ x.toInt ≤ 31) (f j)) ∧ e = .inl (g.2 0, 8, .inl f)) : okk9 g ad me 16 e := h
theorem a9_17 {g : zG} {ad : Nat → Nat} {me : Int32} {ct : Nat → va_E} (hI : Inv9 g ad me ct) : ∃ (f : Nat → Int32), ct 17 = .inl (g.2 0, 120, .inl f) := hI.2 17 (by omega)
theorem i9_17 {g : zG} {ad : Nat → Nat} {me : Int32} {e : va_E} (h : ∃ (f : Nat → Int32), e = .inl (g.2 0, 120, .inl f)) : okk9 g ad me 17 e := h
theorem a9_18 {g : zG} {ad : Nat → Nat} {me : Int32} {ct : Nat → va_E} (hI : Inv9 g ad me ct) : ∃ (f : Nat → Int32), ct 18 = .inl (g.2 0, 7, .inl f) := hI.2 18 (by omega)
theorem i9_18 {g : zG} {ad : Nat → Nat} {me : Int32} {e : va_E} (h : ∃ (f : Nat → Int32), e = .inl (g.2 0, 7, .inl f)) : okk9 g ad me 18 e := h
theorem a9_19 {g : zG} {ad : Nat → Nat} {me : Int32} {ct : Nat → va_E} (hI : Inv9 g ad me ct) : ∃ (f : Nat → Int32), (∀ j : Nat, j < 32 → (fun x : Int32 => x = 0 ∨ x = 1) (f j)) ∧ ct 19 = .inl (g.2 3, 32, .inl f) := hI.2 19 (by omega)
theorem i9_19 {g : zG} {ad : Nat → Nat} {me : Int32} {e : va_E} (h : ∃ (f : Nat → Int32), (∀ j : Nat, j < 32 → (fun x : Int32 => x = 0 ∨ x = 1) (f j)) ∧ e = .inl (g.2 3, 32, .inl f)) : okk9 g ad me 19 e := h
theorem a9_20 {g : zG} {ad : Nat → Nat} {me : Int32} {ct : Nat → va_E} (hI : Inv9 g ad me ct) : ∃ (f : Nat → Int32), (∀ j : Nat, j < 8 → (fun x : Int32 => 0 ≤ x.toInt ∧ x.toInt ≤ 65535) (f j)) ∧ ct 20 = .inl (g.2 0, 8, .inl f) := hI.2 20 (by omega)
theorem i9_20 {g : zG} {ad : Nat → Nat} {me : Int32} {e : va_E} (h : ∃ (f : Nat → Int32), (∀ j : Nat, j < 8 → (fun x : Int32 => 0 ≤ x.toInt ∧ x.toInt ≤ 65535) (f j)) ∧ e = .inl (g.2 0, 8, .inl f)) : okk9 g ad me 20 e := h
theorem a9_21 {g : zG} {ad : Nat → Nat} {me : Int32} {ct : Nat → va_E} (hI : Inv9 g ad me ct) : ∃ (f : Nat → Int64), ct 21 = .inl (g.2 1, 65536, .inr (.inl f)) := hI.2 21 (by omega)
theorem i9_21 {g : zG} {ad : Nat → Nat} {me : Int32} {e : va_E} (h : ∃ (f : Nat → Int64), e = .inl (g.2 1, 65536, .inr (.inl f))) : okk9 g ad me 21 e := h
theorem a9_22 {g : zG} {ad : Nat → Nat} {me : Int32} {ct : Nat → va_E} (hI : Inv9 g ad me ct) : ∃ (f : Nat → Int32), ct 22 = .inl (g.2 0, 65536, .inl f) := hI.2 22 (by omega)
theorem i9_22 {g : zG} {ad : Nat → Nat} {me : Int32} {e : va_E} (h : ∃ (f : Nat → Int32), e = .inl (g.2 0, 65536, .inl f)) : okk9 g ad me 22 e := h
theorem a9_23 {g : zG} {ad : Nat → Nat} {me : Int32} {ct : Nat → va_E} (hI : Inv9 g ad me ct) : ∃ (f : Nat → Int32), (∀ j : Nat, j < 8 → (fun x : Int32 => (-1) ≤ x.toInt ∧ x.toInt ≤ 15) (f j)) ∧ ct 23 = .inl (g.2 0, 8, .inl f) := hI.2 23 (by omega)
theorem i9_23 {g : zG} {ad : Nat → Nat} {me : Int32} {e : va_E} (h : ∃ (f : Nat → Int32), (∀ j : Nat, j < 8 → (fun x : Int32 => (-1) ≤ x.toInt ∧ x.toInt ≤ 15) (f j)) ∧ e = .inl (g.2 0, 8, .inl f)) : okk9 g ad me 23 e := h
theorem a9_24 {g : zG} {ad : Nat → Nat} {me : Int32} {ct : Nat → va_E} (hI : Inv9 g ad me ct) : ∃ (f : Nat → Int32), (∀ j : Nat, j < 16 → (fun x : Int32 => (-1) ≤ x.toInt ∧ x.toInt ≤ 7) (f j)) ∧ ct 24 = .inl (g.2 0, 16, .inl f) := hI.2 24 (by omega)
theorem i9_24 {g : zG} {ad : Nat → Nat} {me : Int32} {e : va_E} (h : ∃ (f : Nat → Int32), (∀ j : Nat, j < 16 → (fun x : Int32 => (-1) ≤ x.toInt ∧ x.toInt ≤ 7) (f j)) ∧ e = .inl (g.2 0, 16, .inl f)) : okk9 g ad me 24 e := h
theorem a9_25 {g : zG} {ad : Nat → Nat} {me : Int32} {ct : Nat → va_E} (hI : Inv9 g ad me ct) : ∃ (f : Nat → Int32), (∀ j : Nat, j < 16 → (fun x : Int32 => 0 ≤ x.toInt ∧ x.toInt ≤ 7) (f j)) ∧ ct 25 = .inl (g.2 0, 16, .inl f) := hI.2 25 (by omega)
theorem i9_25 {g : zG} {ad : Nat → Nat} {me : Int32} {e : va_E} (h : ∃ (f : Nat → Int32), (∀ j : Nat, j < 16 → (fun x : Int32 => 0 ≤ x.toInt ∧ x.toInt ≤ 7) (f j)) ∧ e = .inl (g.2 0, 16, .inl f)) : okk9 g ad me 25 e := h
theorem a9_26 {g : zG} {ad : Nat → Nat} {me : Int32} {ct : Nat → va_E} (hI : Inv9 g ad me ct) : ∃ (f : Nat → Int32), (∀ j : Nat, j < 16 → (fun x : Int32 => 0 ≤ x.toInt ∧ x.toInt ≤ 7) (f j)) ∧ ct 26 = .inl (g.2 0, 16, .inl f) := hI.2 26 (by omega)
theorem i9_26 {g : zG} {ad : Nat → Nat} {me : Int32} {e : va_E} (h : ∃ (f : Nat → Int32), (∀ j : Nat, j < 16 → (fun x : Int32 => 0 ≤ x.toInt ∧ x.toInt ≤ 7) (f j)) ∧ e = .inl (g.2 0, 16, .inl f)) : okk9 g ad me 26 e := h
theorem a9_27 {g : zG} {ad : Nat → Nat} {me : Int32} {ct : Nat → va_E} (hI : Inv9 g ad me ct) : ∃ (f : Nat → Int32), ct 27 = .inl (g.2 0, 8, .inl f) := hI.2 27 (by omega)
theorem i9_27 {g : zG} {ad : Nat → Nat} {me : Int32} {e : va_E} (h : ∃ (f : Nat → Int32), e = .inl (g.2 0, 8, .inl f)) : okk9 g ad me 27 e := h
theorem a9_28 {g : zG} {ad : Nat → Nat} {me : Int32} {ct : Nat → va_E} (hI : Inv9 g ad me ct) : ∃ (f : Nat → Int32), (∀ j : Nat, j < 16 → (fun x : Int32 => 0 ≤ x.toInt ∧ x.toInt ≤ 15) (f j)) ∧ ct 28 = .inl (g.2 0, 16, .inl f) := hI.2 28 (by omega)
theorem i9_28 {g : zG} {ad : Nat → Nat} {me : Int32} {e : va_E} (h : ∃ (f : Nat → Int32), (∀ j : Nat, j < 16 → (fun x : Int32 => 0 ≤ x.toInt ∧ x.toInt ≤ 15) (f j)) ∧ e = .inl (g.2 0, 16, .inl f)) : okk9 g ad me 28 e := h
theorem a9_29 {g : zG} {ad : Nat → Nat} {me : Int32} {ct : Nat → va_E} (hI : Inv9 g ad me ct) : ∃ (f : Nat → Int32), ct 29 = .inl (g.2 0, 128, .inl f) := hI.2 29 (by omega)
theorem i9_29 {g : zG} {ad : Nat → Nat} {me : Int32} {e : va_E} (h : ∃ (f : Nat → Int32), e = .inl (g.2 0, 128, .inl f)) : okk9 g ad me 29 e := h
theorem a9_30 {g : zG} {ad : Nat → Nat} {me : Int32} {ct : Nat → va_E} (hI : Inv9 g ad me ct) : ∃ (f : Nat → Int32), ct 30 = .inl (g.2 0, 65536, .inl f) := hI.2 30 (by omega)
theorem i9_30 {g : zG} {ad : Nat → Nat} {me : Int32} {e : va_E} (h : ∃ (f : Nat → Int32), e = .inl (g.2 0, 65536, .inl f)) : okk9 g ad me 30 e := h
theorem a9_31 {g : zG} {ad : Nat → Nat} {me : Int32} {ct : Nat → va_E} (hI : Inv9 g ad me ct) : ∃ (f : Nat → Int32), (∀ j : Nat, j < 4 → (fun x : Int32 => 0 ≤ x.toInt ∧ x.toInt ≤ 32) (f j)) ∧ ct 31 = .inl (g.2 0, 4, .inl f) := hI.2 31 (by omega)
theorem i9_31 {g : zG} {ad : Nat → Nat} {me : Int32} {e : va_E} (h : ∃ (f : Nat → Int32), (∀ j : Nat, j < 4 → (fun x : Int32 => 0 ≤ x.toInt ∧ x.toInt ≤ 32) (f j)) ∧ e = .inl (g.2 0, 4, .inl f)) : okk9 g ad me 31 e := h
def zlen (e : va_E) : Nat := match e with | .inl (_, n, _) => n | _ => 0
