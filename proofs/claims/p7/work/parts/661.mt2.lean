-- who is given whom: lines have people (H), people lines (G), F who fits
def okp (F : Nat → Int32) (pe : Int) (tk : Int32) (l p : Nat) : Prop := (p : Int) < pe ∧ zb (F l) p ∧ ¬ zb tk p
def MIh (F H G : Nat → Int32) (pe : Int) (tk : Int32) : Prop := ∀ l, l < 8 → (H l).toInt = -1 ∨ ∃ p : Nat, p < 16 ∧ (H l).toInt = (p : Int) ∧ (G p).toInt = (l : Int) ∧ okp F pe tk l p
def MI (F H G : Nat → Int32) (pe : Int) (tk : Int32) : Prop := MIh F H G pe tk ∧ ∀ p, p < 16 → (G p).toInt = -1 ∨ ∃ l : Nat, l < 8 ∧ (G p).toInt = (l : Int) ∧ (H l).toInt = (p : Int)
def DM (H H2 : Nat → Int32) (line : Nat) : Prop := ∀ l, l < 8 → ((H2 l).toInt = -1 ↔ (H l).toInt = -1 ∧ l ≠ line)
def DS (H H2 : Nat → Int32) : Prop := ∀ l, l < 8 → ((H2 l).toInt = -1 ↔ (H l).toInt = -1)
def WI (W : Nat → Int32) (line many : Nat) : Prop := (W 0).toInt = (line : Int) ∧ (∀ j, j < many → 0 ≤ (W j).toInt ∧ (W j).toInt < 8) ∧ ∀ i j, i < j → j < many → (W i).toInt ≠ (W j).toInt
def CH (F H A W : Nat → Int32) (pe : Int) (tk : Int32) (j : Nat) : Prop := ∃ p : Nat, p < 16 ∧ (H (W j).toInt.toNat).toInt = (p : Int) ∧ ∃ i, i < j ∧ (A p).toInt = (W i).toInt ∧ okp F pe tk (W i).toInt.toNat p
def CB (F H G A W : Nat → Int32) (pe : Int) (tk : Int32) (line many q k : Nat) : Prop :=
  (q < 16 ∧ k < many ∧ line < 8 ∧ (A q).toInt = (W k).toInt ∧ okp F pe tk (W k).toInt.toNat q) ∧
  (∀ l, l < 8 → (H l).toInt ≠ (q : Int)) ∧ MIh F H G pe tk ∧
  (∀ p, p < 16 → p ≠ q → (G p).toInt = -1 ∨ ∃ l : Nat, l < 8 ∧ (G p).toInt = (l : Int) ∧ (H l).toInt = (p : Int)) ∧
  (H line).toInt = -1 ∧ WI W line many ∧ ∀ j, 1 ≤ j → j ≤ k → CH F H A W pe tk j
theorem CB_mih {F H G : Nat → Int32} {pe : Int} {tk : Int32} {q a : Nat} {xa xq : Int32} (hxa : xa.toInt = (a : Int)) (hxq : xq.toInt = (q : Int)) (hq : q < 16) (hok : okp F pe tk a q) (h6 : ∀ l, l < 8 → (H l).toInt ≠ (q : Int)) (h7 : MIh F H G pe tk) : MIh F (upd H a xq) (upd G q xa) pe tk := fun l hl => by
  by_cases e : l = a
  · subst e
    exact Or.inr ⟨q, hq, by rw [upd_sm]; exact hxq, by rw [upd_sm]; exact hxa, hok⟩
  · rw [upd_other e]
    rcases h7 l hl with h | ⟨p, p1, p2, p3, p4⟩
    · exact Or.inl h
    · have hpq : p ≠ q := fun e2 => h6 l hl (by rw [p2, e2])
      exact Or.inr ⟨p, p1, p2, by rw [upd_other hpq]; exact p3, p4⟩
theorem CB_step {F H G A W : Nat → Int32} {pe : Int} {tk : Int32} {line many q k a : Nat} {xa xq : Int32} (h : CB F H G A W pe tk line many q k) (ha : (A q).toInt = (a : Int)) (hxa : xa.toInt = (a : Int)) (hxq : xq.toInt = (q : Int)) :
    (a = line ∧ MI F (upd H a xq) (upd G q xa) pe tk ∧ DM H (upd H a xq) line) ∨ (a ≠ line ∧ ∃ p i : Nat, p < 16 ∧ (H a).toInt = (p : Int) ∧ i < k ∧ CB F (upd H a xq) (upd G q xa) A W pe tk line many p i ∧ DS H (upd H a xq)) := by
  obtain ⟨⟨h1, h2, h3, h4, h5⟩, h6, h7, h8, h9, hW, h13⟩ := h
  obtain ⟨w0, wb, wi⟩ := hW
  have hwk : (W k).toInt = (a : Int) := by omega
  have hwn : (W k).toInt.toNat = a := by omega
  rw [hwn] at h5
  have ha8 : a < 8 := by have := wb k h2; omega
  have hm := CB_mih hxa hxq h1 h5 h6 h7
  have eq1 : (upd H a xq a).toInt = (q : Int) := by rw [upd_sm]; exact hxq
  have eg1 : (upd G q xa q).toInt = (a : Int) := by rw [upd_sm]; exact hxa
  by_cases e : a = line
  · refine Or.inl ⟨e, ⟨hm, fun p hp => ?_⟩, fun l hl => ?_⟩
    · by_cases e2 : p = q
      · subst e2
        exact Or.inr ⟨a, ha8, eg1, eq1⟩
      · rw [upd_other e2]
        rcases h8 p hp e2 with g | ⟨l, l1, l2, l3⟩
        · exact Or.inl g
        · have : l ≠ a := fun e3 => by subst e3; subst e; omega
          exact Or.inr ⟨l, l1, l2, by rw [upd_other this]; exact l3⟩
    · by_cases e2 : l = a
      · subst e2
        constructor
        · intro g; omega
        · intro g; exact absurd e g.2
      · rw [upd_other e2]
        constructor
        · intro g; exact ⟨g, fun e3 => e2 (by omega)⟩
        · intro g; exact g.1
  · have hk0 : k ≠ 0 := fun e2 => by subst e2; omega
    obtain ⟨p, p1, p2, i, i1, i2, i3⟩ := h13 k (by omega) (Nat.le_refl _)
    rw [hwn] at p2
    have hpq : p ≠ q := fun e2 => h6 a ha8 (by rw [p2, e2])
    have hga : (G p).toInt = (a : Int) := by
      rcases h7 a ha8 with g | ⟨p', q1, q2, q3, q4⟩
      · omega
      · have : p' = p := by omega
        subst this
        exact q3
    refine Or.inr ⟨e, p, i, p1, p2, i1, ⟨⟨p1, by omega, h3, i2, i3⟩, fun l hl => ?_, hm, fun p' hp' hne => ?_, ?_, ⟨w0, wb, wi⟩, fun j j1 j2 => ?_⟩, fun l hl => ?_⟩
    · by_cases e2 : l = a
      · subst e2; omega
      · rw [upd_other e2]
        intro g
        rcases h7 l hl with g2 | ⟨p', q1, q2, q3, q4⟩
        · omega
        · have : p' = p := by omega
          subst this
          omega
    · by_cases e2 : p' = q
      · subst e2
        exact Or.inr ⟨a, ha8, eg1, eq1⟩
      · rw [upd_other e2]
        rcases h8 p' hp' e2 with g | ⟨l, l1, l2, l3⟩
        · exact Or.inl g
        · have : l ≠ a := fun e3 => by subst e3; omega
          exact Or.inr ⟨l, l1, l2, by rw [upd_other this]; exact l3⟩
    · rw [upd_other (Ne.symm e)]
      exact h9
    · obtain ⟨p', q1, q2, i', r1, r2, r3⟩ := h13 j j1 (by omega)
      have hne : (W j).toInt.toNat ≠ a := by
        have := wi j k (by omega) h2
        have := wb j (by omega)
        omega
      exact ⟨p', q1, by rw [upd_other hne]; exact q2, i', r1, r2, r3⟩
    · by_cases e2 : l = a
      · subst e2
        constructor
        · intro g; omega
        · intro g; omega
      · rw [upd_other e2]
def CBL (F H0 H G A W : Nat → Int32) (pe : Int) (tk : Int32) (line many : Nat) (more q : Int) : Prop :=
  (more = 1 ∧ DS H0 H ∧ ∃ qn k : Nat, q = (qn : Int) ∧ CB F H G A W pe tk line many qn k) ∨ (more = 0 ∧ MI F H G pe tk ∧ DM H0 H line)
def zcm (A W : Nat → Int32) (many : Nat) (more q : Int) : Nat := if more = 1 then zix W (A q.toNat).toInt many + 1 else 0
theorem CBL_rg {F H0 H G A W : Nat → Int32} {pe : Int} {tk : Int32} {line many : Nat} {more q : Int} (h : CBL F H0 H G A W pe tk line many more q) (hm : ¬ more = 0) : more = 1 ∧ 0 ≤ q ∧ q ≤ 15 := by
  rcases h with ⟨h1, -, qn, k, h2, h3⟩ | ⟨h1, -⟩
  · have := h3.1.1
    omega
  · omega
theorem CBL_end {F H0 H G A W : Nat → Int32} {pe : Int} {tk : Int32} {line many : Nat} {more q : Int} (h : CBL F H0 H G A W pe tk line many more q) (hm : more = 0) : MI F H G pe tk ∧ DM H0 H line := by
  rcases h with ⟨h1, -⟩ | ⟨-, h2⟩
  · omega
  · exact h2
theorem CBL_step {F H0 H G A W : Nat → Int32} {pe : Int} {tk : Int32} {line many : Nat} {q : Int} {xa xq xw : Int32} (h : CBL F H0 H G A W pe tk line many 1 q) (hq : xq.toInt = q) (ha : xa = A xq.toNatClampNeg) (hw : xw = H xa.toNatClampNeg) (hb : 0 ≤ xa.toInt) :
    (xa.toInt = (line : Int) → CBL F H0 (upd H xa.toNatClampNeg xq) (upd G xq.toNatClampNeg xa) A W pe tk line many 0 xw.toInt) ∧
    (¬ xa.toInt = (line : Int) → CBL F H0 (upd H xa.toNatClampNeg xq) (upd G xq.toNatClampNeg xa) A W pe tk line many 1 xw.toInt ∧ zcm A W many 1 xw.toInt < zcm A W many 1 q) := by
  rcases h with ⟨-, hds, qn, k, h2, h3⟩ | ⟨h1, -⟩
  · have e1 : xq.toNatClampNeg = qn := z_cl (by omega)
    have e2 : xa.toNatClampNeg = xa.toInt.toNat := z_cl (by omega)
    rw [e1] at ha ⊢
    rw [e2] at hw ⊢
    have hs := CB_step (a := xa.toInt.toNat) (xa := xa) (xq := xq) h3 (by rw [← ha]; omega) (by omega) (by omega)
    refine ⟨fun hl => ?_, fun hl => ?_⟩
    · rcases hs with ⟨-, s2, s3⟩ | ⟨s1, -⟩
      · refine Or.inr ⟨rfl, s2, fun l hl2 => ?_⟩
        rw [s3 l hl2, hds l hl2]
      · omega
    · rcases hs with ⟨s1, -⟩ | ⟨s1, p, i, s2, s3, s4, s5, s6⟩
      · omega
      · have hwp : xw.toInt = (p : Int) := by rw [hw]; exact s3
        refine ⟨Or.inl ⟨rfl, fun l hl2 => by rw [s6 l hl2, hds l hl2], p, i, hwp, s5⟩, ?_⟩
        obtain ⟨⟨-, k1, -, k2, -⟩, -, -, -, -, ⟨-, -, wi⟩, -⟩ := h3
        obtain ⟨⟨-, m1, -, m2, -⟩, -⟩ := s5
        unfold zcm
        rw [if_pos rfl, if_pos rfl, hwp, h2, Int.toNat_natCast, Int.toNat_natCast, m2, k2, zix_at wi m1, zix_at wi k1]
        omega
  · exact absurd h1 (by decide)
-- a search
def BT (F H G A W : Nat → Int32) (pe : Int) (tk seen : Int32) (line : Nat) (many k pp : Int) : Prop :=
  (line < 8 ∧ (H line).toInt = -1 ∧ 1 ≤ many ∧ WI W line many.toNat) ∧
  (∀ j : Nat, 1 ≤ j → (j : Int) < many → ∃ p : Nat, p < 16 ∧ (H (W j).toInt.toNat).toInt = (p : Int) ∧ zb seen p ∧ ∃ i, i < j ∧ (A p).toInt = (W i).toInt ∧ okp F pe tk (W i).toInt.toNat p) ∧
  (∀ p : Nat, p < 16 → zb tk p → zb seen p) ∧
  (∀ p : Nat, p < 16 → zb seen p → ¬ zb tk p → ∃ j : Nat, 1 ≤ j ∧ (j : Int) < many ∧ (G p).toInt = (W j).toInt) ∧
  (∀ j : Nat, (j : Int) < k → ∀ p : Nat, p < 16 → okp F pe tk (W j).toInt.toNat p → zb seen p) ∧
  (∀ p : Nat, (p : Int) < pp → p < 16 → okp F pe tk (W k.toNat).toInt.toNat p → zb seen p)
theorem BT_start {F H G A W : Nat → Int32} {pe : Int} {tk xl : Int32} {line : Nat} {i0 : Nat} (hl : line < 8) (hH : (H line).toInt = -1) (hx : xl.toInt = (line : Int)) (hi : i0 = 0) : BT F H G A (upd W i0 xl) pe tk tk line 1 0 0 := by
  subst hi
  refine ⟨⟨hl, hH, by omega, by rw [upd_sm]; exact hx, fun j hj => ?_, fun i j h1 h2 => ?_⟩, fun j h1 h2 => ?_, fun _ _ h => h, fun p _ h1 h2 => absurd h1 h2, fun j hj => ?_, fun p hp => ?_⟩
  · have : j = 0 := by simp at hj; exact hj
    subst this
    rw [upd_sm]
    omega
  · simp at h2; omega
  · omega
  · omega
  · omega
theorem BT_le {F H G A W : Nat → Int32} {pe : Int} {tk seen : Int32} {line : Nat} {many k pp : Int} (h : BT F H G A W pe tk seen line many k pp) : many ≤ 8 := by
  obtain ⟨⟨-, -, h1, -, wb, wi⟩, -⟩ := h
  apply Classical.byContradiction
  intro q
  refine pig 8 (fun i => (W i).toInt.toNat) (fun i hi => ?_) (fun i j hij hj => ?_)
  · have := wb i (by omega)
    show (W i).toInt.toNat < 8
    omega
  · have h2 := wi i j hij (by omega)
    have h3 := wb i (by omega)
    have h4 := wb j (by omega)
    show (W i).toInt.toNat ≠ (W j).toInt.toNat
    omega
theorem BT_skip {F H G A W : Nat → Int32} {pe : Int} {tk seen : Int32} {line : Nat} {many k pp : Int} {p : Nat} (h : BT F H G A W pe tk seen line many k pp) (hp : pp = (p : Int)) (hs : ¬ (zb (F (W k.toNat).toInt.toNat) p ∧ ¬ zb seen p)) : BT F H G A W pe tk seen line many k (pp + 1) := by
  obtain ⟨h1, h2, h3, h4, h5, h6⟩ := h
  refine ⟨h1, h2, h3, h4, h5, fun p' h7 h8 h9 => ?_⟩
  by_cases e : p' = p
  · subst e
    exact Classical.byContradiction fun q => hs ⟨h9.2.1, q⟩
  · exact h6 p' (by omega) h8 h9
theorem BT_nextk {F H G A W : Nat → Int32} {pe : Int} {tk seen : Int32} {line : Nat} {many k pp : Int} (h : BT F H G A W pe tk seen line many k pp) (hk : 0 ≤ k) (hp : pe ≤ pp) : BT F H G A W pe tk seen line many (k + 1) 0 := by
  obtain ⟨h1, h2, h3, h4, h5, h6⟩ := h
  refine ⟨h1, h2, h3, h4, fun j hj p hp2 ho => ?_, fun p hp2 => ?_⟩
  · by_cases e : (j : Int) = k
    · have e2 : k.toNat = j := by omega
      rw [e2] at h6
      exact h6 p (by have := ho.1; omega) hp2 ho
    · exact h5 j (by omega) p hp2 ho
  · omega
theorem BT_add {F H G A W : Nat → Int32} {pe : Int} {tk seen : Int32} {line : Nat} {many k pp : Int} {p : Nat} {xk xg s2 : Int32} {im ip : Nat} (h : BT F H G A W pe tk seen line many k pp) (hm : MI F H G pe tk) (hp : pp = (p : Int)) (hp16 : p < 16) (hpe : (p : Int) < pe) (hk : 0 ≤ k) (hkm : k < many) (hb : zb (F (W k.toNat).toInt.toNat) p) (hs : ¬ zb seen p) (hxk : xk.toInt = (W k.toNat).toInt) (hxg : xg.toInt = (G p).toInt) (hg : ¬ xg.toInt = -1) (hs2 : ∀ j, zb s2 j ↔ zb seen j ∨ j = p) (him : (im : Int) = many) (hip : ip = p) :
    BT F H G (upd A ip xk) (upd W im xg) pe tk s2 line (many + 1) k (pp + 1) := by
  subst hip
  obtain ⟨⟨a1, a2, a3, w0, wb, wi⟩, h2, h3, h4, h5, h6⟩ := h
  have hmn : many.toNat = im := by omega
  have hmn1 : (many + 1).toNat = im + 1 := by omega
  rw [hmn] at wb wi
  have hgl : ∃ l : Nat, l < 8 ∧ (G ip).toInt = (l : Int) ∧ (H l).toInt = (ip : Int) := by
    rcases hm.2 ip hp16 with g | g
    · omega
    · exact g
  obtain ⟨gl, g1, g2, g3⟩ := hgl
  have hntk : ¬ zb tk ip := fun q => hs (h3 ip hp16 q)
  have hok : okp F pe tk (W k.toNat).toInt.toNat ip := ⟨hpe, hb, hntk⟩
  have eW : ∀ j, j < im → upd W im xg j = W j := fun j hj => upd_other (by omega)
  have eWm : upd W im xg im = xg := upd_sm
  have ek : upd W im xg k.toNat = W k.toNat := eW _ (by omega)
  have eA : ∀ j, j ≠ ip → upd A ip xk j = A j := fun j hj => upd_other hj
  have hnew : ∀ i, i < im → (W i).toInt ≠ xg.toInt := fun i hi e => by
    by_cases e0 : i = 0
    · subst e0
      have : gl = line := by omega
      subst this
      omega
    · obtain ⟨p', q1, q2, q3, -⟩ := h2 i (by omega) (by omega)
      have e1 : (W i).toInt.toNat = gl := by omega
      rw [e1] at q2
      have : p' = ip := by omega
      subst this
      exact hs q3
  refine ⟨⟨a1, a2, by omega, by rw [eW 0 (by omega)]; exact w0, fun j hj => ?_, fun i j h7 h8 => ?_⟩, fun j j1 j2 => ?_, fun p' q1 q2 => (hs2 p').mpr (Or.inl (h3 p' q1 q2)), fun p' q1 q2 q3 => ?_, fun j hj p' q1 q2 => ?_, fun p' q1 q2 q3 => ?_⟩
  · rw [hmn1] at hj
    by_cases e : j = im
    · subst e
      rw [eWm]
      omega
    · rw [eW j (by omega)]
      exact wb j (by omega)
  · rw [hmn1] at h8
    rw [eW i (by omega)]
    by_cases e : j = im
    · subst e
      rw [eWm]
      exact hnew i (by omega)
    · rw [eW j (by omega)]
      exact wi i j h7 (by omega)
  · by_cases e : j = im
    · subst e
      rw [eWm]
      have e3 : xg.toInt.toNat = gl := by omega
      rw [e3]
      exact ⟨ip, hp16, g3, (hs2 ip).mpr (Or.inr rfl), k.toNat, by omega, by rw [upd_sm, ek]; exact hxk, by rw [ek]; exact hok⟩
    · rw [eW j (by omega)]
      obtain ⟨p', q1, q2, q3, i, i1, i2, i3⟩ := h2 j j1 (by omega)
      have hne : p' ≠ ip := fun e2 => hs (by rw [← e2]; exact q3)
      exact ⟨p', q1, q2, (hs2 p').mpr (Or.inl q3), i, i1, by rw [eA p' hne, eW i (by omega)]; exact i2, by rw [eW i (by omega)]; exact i3⟩
  · by_cases e : p' = ip
    · subst e
      exact ⟨im, by omega, by omega, by rw [eWm]; omega⟩
    · rcases (hs2 p').mp q2 with q4 | q4
      · obtain ⟨j, j1, j2, j3⟩ := h4 p' q1 q4 q3
        exact ⟨j, j1, by omega, by rw [eW j (by omega)]; exact j3⟩
      · exact absurd q4 e
  · rw [eW j (by omega)] at q2
    exact (hs2 p').mpr (Or.inl (h5 j hj p' q1 q2))
  · rw [ek] at q3
    by_cases e : p' = ip
    · exact (hs2 p').mpr (Or.inr e)
    · exact (hs2 p').mpr (Or.inl (h6 p' (by omega) q2 q3))
theorem BT_found {F H G A W : Nat → Int32} {pe : Int} {tk seen : Int32} {line : Nat} {many k pp : Int} {p : Nat} {xk : Int32} {ip : Nat} (h : BT F H G A W pe tk seen line many k pp) (hm : MI F H G pe tk) (hp : pp = (p : Int)) (hp16 : p < 16) (hpe : (p : Int) < pe) (hk : 0 ≤ k) (hkm : k < many) (hb : zb (F (W k.toNat).toInt.toNat) p) (hs : ¬ zb seen p) (hxk : xk.toInt = (W k.toNat).toInt) (hg : (G p).toInt = -1) (hip : ip = p) :
    CBL F H H G (upd A ip xk) W pe tk line many.toNat 1 pp := by
  subst hip
  obtain ⟨⟨a1, a2, a3, w0, wb, wi⟩, h2, h3, h4, h5, h6⟩ := h
  have hntk : ¬ zb tk ip := fun q => hs (h3 ip hp16 q)
  have eA : ∀ j, j ≠ ip → upd A ip xk j = A j := fun j hj => upd_other hj
  refine Or.inl ⟨rfl, fun _ _ => Iff.rfl, ip, k.toNat, hp, ⟨⟨hp16, by omega, a1, by rw [upd_sm]; exact hxk, hpe, hb, hntk⟩, fun l hl e => ?_, hm.1, fun p' q1 _ => hm.2 p' q1, a2, ⟨w0, wb, wi⟩, fun j j1 j2 => ?_⟩⟩
  · rcases hm.1 l hl with g | ⟨p', q1, q2, q3, -⟩
    · omega
    · have : p' = ip := by omega
      subst this
      omega
  · obtain ⟨p', q1, q2, q3, i, i1, i2, i3⟩ := h2 j j1 (by omega)
    have hne : p' ≠ ip := fun e2 => hs (by rw [← e2]; exact q3)
    exact ⟨p', q1, q2, i, i1, by rw [eA p' hne]; exact i2, i3⟩
def NM (F H : Nat → Int32) (pe : Int) (tk : Int32) (line : Nat) : Prop := ∀ m : Nat → Nat, (∀ l, l < 8 → (l = line ∨ ¬ (H l).toInt = -1) → okp F pe tk l (m l)) → (∀ l l2, l < 8 → l2 < 8 → (l = line ∨ ¬ (H l).toInt = -1) → (l2 = line ∨ ¬ (H l2).toInt = -1) → m l = m l2 → l = l2) → False
theorem BT_fail {F H G A W : Nat → Int32} {pe : Int} {tk seen : Int32} {line : Nat} {many k pp : Int} (h : BT F H G A W pe tk seen line many k pp) (hm : MI F H G pe tk) (hpe : pe ≤ 16) (hk : many ≤ k) : NM F H pe tk line := by
  intro m hok hinj
  obtain ⟨⟨a1, a2, a3, w0, wb, wi⟩, h2, h3, h4, h5, h6⟩ := h
  obtain ⟨n, hn⟩ : ∃ n : Nat, many = ((n + 1 : Nat) : Int) := ⟨(many - 1).toNat, by omega⟩
  have hmn : many.toNat = n + 1 := by omega
  rw [hmn] at wb wi
  have hdom : ∀ j, j ≤ n → (W j).toInt.toNat = line ∨ ¬ (H (W j).toInt.toNat).toInt = -1 := fun j hj => by
    by_cases e : j = 0
    · subst e
      left
      omega
    · obtain ⟨p', q1, q2, -⟩ := h2 j (by omega) (by omega)
      right
      omega
  have h8 : ∀ j, j ≤ n → (W j).toInt.toNat < 8 := fun j hj => by have := wb j (by omega); omega
  have hG : ∀ j, j ≤ n → ∃ i : Nat, 1 ≤ i ∧ i ≤ n ∧ (G (m (W j).toInt.toNat)).toInt = (W i).toInt := fun j hj => by
    have ho := hok _ (h8 j hj) (hdom j hj)
    have hp := ho.1
    have hs := h5 j (by omega) (m (W j).toInt.toNat) (by omega) ho
    obtain ⟨i, i1, i2, i3⟩ := h4 _ (by omega) hs ho.2.2
    exact ⟨i, i1, by omega, i3⟩
  have hz : ∀ j, j ≤ n → ∃ i : Nat, 1 ≤ i ∧ i ≤ n ∧ (G (m (W j).toInt.toNat)).toInt = (W i).toInt ∧ zix W (G (m (W j).toInt.toNat)).toInt (n + 1) = i := fun j hj => by
    obtain ⟨i, i1, i2, i3⟩ := hG j hj
    exact ⟨i, i1, i2, i3, by rw [i3]; exact zix_at wi (by omega)⟩
  refine pig n (fun j => zix W (G (m (W j).toInt.toNat)).toInt (n + 1) - 1) (fun j hj => ?_) (fun i j hij hj => ?_)
  · obtain ⟨i, i1, i2, -, i4⟩ := hz j hj
    show zix W (G (m (W j).toInt.toNat)).toInt (n + 1) - 1 < n
    omega
  · obtain ⟨x, x1, x2, x3, x4⟩ := hz i (by omega)
    obtain ⟨y, y1, y2, y3, y4⟩ := hz j hj
    show zix W (G (m (W i).toInt.toNat)).toInt (n + 1) - 1 ≠ zix W (G (m (W j).toInt.toNat)).toInt (n + 1) - 1
    intro e
    have hxy : x = y := by omega
    subst hxy
    have oi := hok _ (h8 i (by omega)) (hdom i (by omega))
    have oj := hok _ (h8 j hj) (hdom j hj)
    have o1 := oi.1
    have o2 := oj.1
    have wx := wb x (by omega)
    have hpq : m (W i).toInt.toNat = m (W j).toInt.toNat := by
      rcases hm.2 (m (W i).toInt.toNat) (by omega) with g | ⟨l, l1, l2, l3⟩
      · omega
      · rcases hm.2 (m (W j).toInt.toNat) (by omega) with g | ⟨l', l1', l2', l3'⟩
        · omega
        · have : l = l' := by omega
          subst this
          omega
    have hl := hinj _ _ (h8 i (by omega)) (h8 j hj) (hdom i (by omega)) (hdom j hj) hpq
    have w1 := wb i (by omega)
    have w2 := wb j (by omega)
    exact wi i j hij (by omega) (by omega)
-- all lines
def ztk (told person : Int32) : Int32 := if told.toInt = -1 then 0 else (1 : Int32) <<< (person &&& 31)
def zlive (C : Nat → Int32) (b : Int) (l : Nat) : Prop := (C (8 * b.toNat + l)).toInt = 0
def CA (F H G C : Nat → Int32) (pe b : Int) (told person : Int32) (i : Int) : Prop := MI F H G pe (ztk told person) ∧ ∀ l : Nat, l < 8 → (¬ (H l).toInt = -1 ↔ (l : Int) < i ∧ zlive C b l ∧ ¬ (l : Int) = told.toInt)
def MTx (F C : Nat → Int32) (n b pe : Int) (told person : Int32) (m : Nat → Nat) : Prop := (told.toInt = -1 ∨ zb (F told.toInt.toNat) person.toInt.toNat) ∧
  (∀ l : Nat, (l : Int) < n → zlive C b l → ¬ (l : Int) = told.toInt → okp F pe (ztk told person) l (m l)) ∧
  ∀ l l2 : Nat, (l : Int) < n → (l2 : Int) < n → zlive C b l → zlive C b l2 → ¬ (l : Int) = told.toInt → ¬ (l2 : Int) = told.toInt → m l = m l2 → l = l2
theorem CA_start {F H G C : Nat → Int32} {pe b : Int} {told person : Int32} (hG : ∀ j : Nat, (j : Int) < 16 → (G j).toInt = -1) (hH : ∀ j : Nat, (j : Int) < 8 → (H j).toInt = -1) : CA F H G C pe b told person 0 :=
  ⟨⟨fun l hl => Or.inl (hH l (by omega)), fun p hp => Or.inl (hG p (by omega))⟩, fun l hl => ⟨fun q => absurd (hH l (by omega)) q, fun q => by omega⟩⟩
theorem CA_skip {F H G C : Nat → Int32} {pe b : Int} {told person : Int32} {i : Int} (h : CA F H G C pe b told person i) (hi : 0 ≤ i) (hs : ¬ zlive C b i.toNat ∨ i = told.toInt) : CA F H G C pe b told person (i + 1) := by
  refine ⟨h.1, fun l hl => ⟨fun q => ?_, fun q => ?_⟩⟩
  · obtain ⟨a, b, c⟩ := (h.2 l hl).mp q
    exact ⟨by omega, b, c⟩
  · obtain ⟨a, b, c⟩ := q
    have : ¬ (l : Int) = i := fun e => by
      have e2 : i.toNat = l := by omega
      rw [e2] at hs
      rcases hs with hs | hs
      · exact hs b
      · omega
    exact (h.2 l hl).mpr ⟨by omega, b, c⟩
theorem CA_pre {F H G C : Nat → Int32} {pe b : Int} {told person tk : Int32} {i : Int} (h : CA F H G C pe b told person i) (hi : 0 ≤ i) (hi8 : i < 8) (htk : ztk told person = tk) : MI F H G pe tk ∧ (H i.toNat).toInt = -1 := by
  refine ⟨by rw [← htk]; exact h.1, ?_⟩
  apply Classical.byContradiction
  intro q
  have := ((h.2 i.toNat (by omega)).mp q).1
  omega
theorem CA_next {F H G H2 G2 C : Nat → Int32} {pe b : Int} {told person tk : Int32} {i : Int} (h : CA F H G C pe b told person i) (hi : 0 ≤ i) (htk : ztk told person = tk) (hm : MI F H2 G2 pe tk) (hd : DM H H2 i.toNat) (hl : zlive C b i.toNat) (ht : ¬ i = told.toInt) : CA F H2 G2 C pe b told person (i + 1) := by
  refine ⟨by rw [htk]; exact hm, fun l hl2 => ?_⟩
  have h1 := hd l hl2
  have h2 := h.2 l hl2
  by_cases e : l = i.toNat
  · subst e
    refine ⟨fun _ => ⟨by omega, hl, by omega⟩, fun _ q => ?_⟩
    exact (h1.mp q).2 rfl
  · refine ⟨fun q => ?_, fun q => ?_⟩
    · obtain ⟨a, b, c⟩ := h2.mp (fun q2 => q (h1.mpr ⟨q2, e⟩))
      exact ⟨by omega, b, c⟩
    · intro q2
      exact h2.mpr ⟨by omega, q.2.1, q.2.2⟩ (h1.mp q2).1
theorem CA_done {F H G C : Nat → Int32} {pe b n : Int} {told person : Int32} {i : Int} (h : CA F H G C pe b told person i) (hn : n ≤ i) (hn8 : n ≤ 8) (ht : told.toInt = -1 ∨ zb (F told.toInt.toNat) person.toInt.toNat) : ∃ m, MTx F C n b pe told person m := by
  refine ⟨fun l => (H l).toInt.toNat, ht, fun l l1 l2 l3 => ?_, fun l l' h1 h2 h3 h4 h5 h6 e => ?_⟩
  · have hd := (h.2 l (by omega)).mpr ⟨by omega, l2, l3⟩
    rcases h.1.1 l (by omega) with g | ⟨p, p1, p2, p3, p4⟩
    · exact absurd g hd
    · show okp F pe (ztk told person) l (H l).toInt.toNat
      have : (H l).toInt.toNat = p := by omega
      rw [this]
      exact p4
  · have d1 := (h.2 l (by omega)).mpr ⟨by omega, h3, h5⟩
    have d2 := (h.2 l' (by omega)).mpr ⟨by omega, h4, h6⟩
    rcases h.1.1 l (by omega) with g | ⟨p, p1, p2, p3, p4⟩
    · exact absurd g d1
    · rcases h.1.1 l' (by omega) with g | ⟨p', q1, q2, q3, q4⟩
      · exact absurd g d2
      · have e2 : (H l).toInt.toNat = (H l').toInt.toNat := e
        have : p = p' := by omega
        subst this
        omega
theorem CA_fail {F H G C : Nat → Int32} {pe b n : Int} {told person tk : Int32} {i : Int} (h : CA F H G C pe b told person i) (hi : 0 ≤ i) (hin : i < n) (hn8 : n ≤ 8) (htk : ztk told person = tk) (hf : NM F H pe tk i.toNat) (hl : zlive C b i.toNat) (ht : ¬ i = told.toInt) : ∀ m, ¬ MTx F C n b pe told person m := by
  intro m hm
  have hx : ∀ l, l < 8 → (l = i.toNat ∨ ¬ (H l).toInt = -1) → (l : Int) < n ∧ zlive C b l ∧ ¬ (l : Int) = told.toInt := fun l hl2 q => by
    rcases q with q | q
    · subst q
      exact ⟨by omega, hl, by omega⟩
    · obtain ⟨a, b, c⟩ := (h.2 l hl2).mp q
      exact ⟨by omega, b, c⟩
  refine hf m (fun l hl2 q => ?_) (fun l l2 h1 h2 q1 q2 e => ?_)
  · obtain ⟨a, b, c⟩ := hx l hl2 q
    rw [← htk]
    exact hm.2.1 l a b c
  · obtain ⟨a, b, c⟩ := hx l h1 q1
    obtain ⟨a', b', c'⟩ := hx l2 h2 q2
    exact hm.2.2 l l2 a a' b b' c c' e
theorem MTx_not {F C : Nat → Int32} {n b pe : Int} {told person : Int32} (h1 : ¬ told.toInt = -1) (h2 : ¬ zb (F told.toInt.toNat) person.toInt.toNat) : ∀ m, ¬ MTx F C n b pe told person m := fun m h => by
  rcases h.1 with q | q
  · exact h1 q
  · exact h2 q
-- THE LEAST GIVING
def GV (F C : Nat → Int32) (n b pe : Int) : Prop := ∃ m, MTx F C n b pe (-1) 0 m
def GVp (F C : Nat → Int32) (n b pe j p : Int) : Prop := ∃ m : Nat → Nat, MTx F C n b pe (-1) 0 m ∧ p ≤ (m j.toNat : Int)
theorem GVp_lt {F C : Nat → Int32} {n b pe j p : Int} (h : GVp F C n b pe j p) (h0 : 0 ≤ j) (hj : j < n) (hl : zlive C b j.toNat) : p < pe := by
  obtain ⟨m, h1, h2⟩ := h
  have := (h1.2.1 j.toNat (by omega) hl (by show ¬ ((j.toNat : Nat) : Int) = (-1 : Int32).toInt; rw [show ((-1 : Int32)).toInt = -1 by decide]; omega)).1
  omega
theorem z_m1 : ((-1 : Int32)).toInt = -1 := by decide
theorem GVp_next {F C : Nat → Int32} {n b pe j p : Int} {xj xp : Int32} (h : GVp F C n b pe j p) (h0 : 0 ≤ j) (hj : j < n) (hl : zlive C b j.toNat) (hp : 0 ≤ p) (hpe : pe ≤ 16) (hxj : xj.toInt = j) (hxp : xp.toInt = p) (hn : ∀ m, ¬ MTx F C n b pe xj xp m) : GVp F C n b pe j (p + 1) := by
  have hlt := GVp_lt h h0 hj hl
  obtain ⟨m, h1, h2⟩ := h
  refine ⟨m, h1, ?_⟩
  apply Classical.byContradiction
  intro q
  have e : m j.toNat = p.toNat := by omega
  have nm : ∀ l : Nat, ¬ (l : Int) = ((-1 : Int32)).toInt := fun l => by rw [z_m1]; omega
  have hz0 : ztk (-1) 0 = 0 := if_pos z_m1
  have hzj : ztk xj xp = (1 : Int32) <<< (xp &&& 31) := if_neg (by omega)
  refine hn m ⟨Or.inr ?_, fun l l1 l2 l3 => ?_, fun l l2 a1 a2 a3 a4 a5 a6 a7 => h1.2.2 l l2 a1 a2 a3 a4 (nm _) (nm _) a7⟩
  · have := (h1.2.1 j.toNat (by omega) hl (nm _)).2.1
    rw [hxj, hxp, ← e]
    exact this
  · obtain ⟨q1, q2, q3⟩ := h1.2.1 l l1 l2 (nm _)
    refine ⟨q1, q2, ?_⟩
    rw [hzj, zb_shl (p := p.toNat) (by omega) (by omega)]
    intro e2
    have := h1.2.2 l j.toNat l1 (by omega) l2 hl (nm _) (nm _) (by omega)
    omega
theorem GV_set {F C : Nat → Int32} {n b pe j p : Int} {xj xp v : Int32} {ij : Nat} (hj0 : 0 ≤ j) (hj : j < n) (hp : 0 ≤ p) (hpe : p < pe) (hpe2 : pe ≤ 16) (hxj : xj.toInt = j) (hxp : xp.toInt = p) (hv : v = (1 : Int32) <<< (xp &&& 31)) (hij : (ij : Int) = j) (h : ∃ m, MTx F C n b pe xj xp m) : GV (upd F ij v) C n b pe := by
  obtain ⟨m, h1, h2, h3⟩ := h
  have nm : ∀ l : Nat, ¬ (l : Int) = ((-1 : Int32)).toInt := fun l => by rw [z_m1]; omega
  have hz0 : ztk (-1) 0 = 0 := if_pos z_m1
  have hzj : ztk xj xp = (1 : Int32) <<< (xp &&& 31) := if_neg (by omega)
  have hbit : ∀ k, zb v k ↔ k = p.toNat := fun k => by rw [hv]; exact zb_shl (by omega) (by omega)
  refine ⟨fun l => if l = ij then p.toNat else m l, Or.inl z_m1, fun l l1 l2 _ => ?_, fun l l' a1 a2 a3 a4 _ _ a7 => ?_⟩
  · rw [hz0]
    show okp (upd F ij v) pe 0 l (if l = ij then p.toNat else m l)
    by_cases e : l = ij
    · rw [if_pos e]
      subst e
      exact ⟨by omega, by rw [upd_sm]; exact (hbit _).mpr rfl, zb_0⟩
    · rw [if_neg e]
      obtain ⟨q1, q2, q3⟩ := h2 l l1 l2 (by omega)
      exact ⟨q1, by rw [upd_other e]; exact q2, zb_0⟩
  · have a8 : (if l = ij then p.toNat else m l) = (if l' = ij then p.toNat else m l') := a7
    have key : ∀ l : Nat, (l : Int) < n → zlive C b l → l ≠ ij → m l ≠ p.toNat := fun l l1 l2 l3 e => by
      obtain ⟨q1, q2, q3⟩ := h2 l l1 l2 (by omega)
      rw [hzj, ← hv] at q3
      exact q3 ((hbit _).mpr e)
    by_cases e : l = ij
    · by_cases e' : l' = ij
      · omega
      · rw [if_pos e, if_neg e'] at a8
        exact absurd a8.symm (key l' a2 a4 e')
    · by_cases e' : l' = ij
      · rw [if_neg e, if_pos e'] at a8
        exact absurd a8 (key l a1 a3 e)
      · rw [if_neg e, if_neg e'] at a8
        exact h3 l l' a1 a2 a3 a4 (by omega) (by omega) a8
