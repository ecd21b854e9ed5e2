/-! who is found step by step is so in every way of giving -/
def sNew (fd : Int32) (L : Nat → Int32) (i : Nat) : Prop := ib fd i = false ∧ (bcf (L i)).toInt = 1
theorem fsA_s {fd : Int32} {L : Nat → Int32} {n : Nat} : fsA fd L (n + 1) = if ib fd n = false ∧ (bcf (L n)).toInt = 1 then ((fsA fd L n).1 ||| L n, (fsA fd L n).2.1 ||| ((fsA fd L n).1 &&& L n), (fsA fd L n).2.2 ||| ((1 : Int32) <<< (nI n &&& 31))) else fsA fd L n := rfl
theorem fsA_1 {fd : Int32} {L : Nat → Int32} {p : Nat} : ∀ n, zb (fsA fd L n).1 p ↔ ∃ i, i < n ∧ sNew fd L i ∧ zb (L i) p
  | 0 => ⟨fun h => absurd h zb_0, fun ⟨_, h, _⟩ => absurd h (Nat.not_lt_zero _)⟩
  | n + 1 => by
    rw [fsA_s]
    by_cases c : ib fd n = false ∧ (bcf (L n)).toInt = 1
    · rw [if_pos c]
      show zb ((fsA fd L n).1 ||| L n) p ↔ _
      rw [zb_or, fsA_1 n]
      constructor
      · rintro (⟨i, h1, h2, h3⟩ | h)
        · exact ⟨i, by omega, h2, h3⟩
        · exact ⟨n, by omega, c, h⟩
      · rintro ⟨i, h1, h2, h3⟩
        by_cases e : i = n
        · subst e
          exact Or.inr h3
        · exact Or.inl ⟨i, by omega, h2, h3⟩
    · rw [if_neg c, fsA_1 n]
      constructor
      · rintro ⟨i, h1, h2, h3⟩
        exact ⟨i, by omega, h2, h3⟩
      · rintro ⟨i, h1, h2, h3⟩
        have e : i ≠ n := fun e => by
          subst e
          exact c h2
        exact ⟨i, by omega, h2, h3⟩
theorem fsA_2 {fd : Int32} {L : Nat → Int32} {p : Nat} : ∀ n, zb (fsA fd L n).2.1 p → ∃ i j, i < j ∧ j < n ∧ sNew fd L i ∧ sNew fd L j ∧ zb (L i) p ∧ zb (L j) p
  | 0, h => absurd h zb_0
  | n + 1, h => by
    rw [fsA_s] at h
    by_cases c : ib fd n = false ∧ (bcf (L n)).toInt = 1
    · rw [if_pos c] at h
      have h : zb ((fsA fd L n).2.1 ||| ((fsA fd L n).1 &&& L n)) p := h
      rw [zb_or, zb_and] at h
      rcases h with h | ⟨h1, h2⟩
      · obtain ⟨i, j, a, b, r⟩ := fsA_2 n h
        exact ⟨i, j, a, by omega, r⟩
      · obtain ⟨i, a, b, d⟩ := (fsA_1 n).mp h1
        exact ⟨i, n, a, by omega, b, c, d, h2⟩
    · rw [if_neg c] at h
      obtain ⟨i, j, a, b, r⟩ := fsA_2 n h
      exact ⟨i, j, a, by omega, r⟩
theorem fsA_3 {fd : Int32} {L : Nat → Int32} {k : Nat} : ∀ n, n ≤ 8 → (zb (fsA fd L n).2.2 k ↔ k < n ∧ sNew fd L k)
  | 0, _ => ⟨fun h => absurd h zb_0, fun h => absurd h.1 (Nat.not_lt_zero _)⟩
  | n + 1, hn => by
    have ih := fsA_3 (fd := fd) (L := L) (k := k) n (by omega)
    rw [fsA_s]
    by_cases c : ib fd n = false ∧ (bcf (L n)).toInt = 1
    · rw [if_pos c]
      show zb ((fsA fd L n).2.2 ||| ((1 : Int32) <<< (nI n &&& 31))) k ↔ _
      rw [zb_or, zb_shl (p := n) (nI_toInt (by omega)) (by omega), ih]
      constructor
      · rintro (⟨h1, h2⟩ | h)
        · exact ⟨by omega, h2⟩
        · subst h
          exact ⟨by omega, c⟩
      · rintro ⟨h1, h2⟩
        by_cases e : k = n
        · exact Or.inr e
        · exact Or.inl ⟨by omega, h2⟩
    · rw [if_neg c, ih]
      constructor
      · rintro ⟨h1, h2⟩
        exact ⟨by omega, h2⟩
      · rintro ⟨h1, h2⟩
        have e : k ≠ n := fun e => by
          subst e
          exact c h2
        exact ⟨by omega, h2⟩
theorem tU_one {a : Nat → Bool} (h : tU.countP a ≤ 1) {p q : Nat} (hp : p < 16) (hq : q < 16) (ap : a p = true) (aq : a q = true) : p = q := by
  apply Classical.byContradiction
  intro ne
  have e1 := hcount_split tU (fun x => x == p) (fun x => x == q)
  have e2 : 0 < tU.countP (fun x => x == p) := List.countP_pos_iff.mpr ⟨p, tU_mem.mpr hp, beq_self_eq_true p⟩
  have e3 : 0 < tU.countP (fun x => !(x == p) && (x == q)) := List.countP_pos_iff.mpr ⟨q, tU_mem.mpr hq, by
    have : (q == p) = false := beq_eq_false_iff_ne.mpr (fun z => ne z.symm)
    rw [this, beq_self_eq_true]
    rfl⟩
  have e4 := hcount_le tU (fun x => x == p || x == q) a (fun x _ hx => by
    rcases (Bool.or_eq_true _ _).mp hx with z | z
    · rw [eq_of_beq z]
      exact ap
    · rw [eq_of_beq z]
      exact aq)
  omega
theorem zb_zero {x : Int32} (h : ∀ k, ¬ zb x k) : x.toInt = 0 := by
  have hz : x.toBitVec = 0#32 := by
    apply BitVec.eq_of_getLsbD_eq
    intro i hi
    rw [BitVec.getLsbD_zero]
    cases hb : x.toBitVec.getLsbD i with
    | false => rfl
    | true => exact absurd hb (h i)
  show x.toBitVec.toInt = 0
  rw [hz]
  rfl
def SInv (F : Nat → Int32) (n v : Nat) (m : Nat → Nat) (L : Nat → Int32) (fd : Int32) : Prop := (∀ j, j < 8 → 0 ≤ (L j).toInt ∧ (L j).toInt ≤ 65535) ∧ (∀ j, j < 8 → ∀ p, zb (L j) p → zb (F j) p) ∧ (∀ j, j ∈ tL n v → zb (L j) (m j)) ∧ ∀ j, j < 8 → ib fd j = true → j ∈ tL n v ∧ ∀ p q, zb (L j) p → zb (L j) q → p = q
theorem SInv.step {F : Nat → Int32} {n v : Nat} {m : Nat → Nat} {L : Nat → Int32} {fd : Int32} (hn : n ≤ 8) (hd : ∀ j, j < 8 → j ∉ tL n v → ∀ p, ¬ zb (F j) p) (hm : tMat F n v m) (h : SInv F n v m L fd) : SInv F n v m (fsC n (fsA fd L n) L) (fd ||| (fsA fd L n).2.2) := by
  obtain ⟨h1, h2, h3, h4⟩ := h
  have h16 : ∀ j, j < 8 → ∀ p, zb (L j) p → p < 16 := fun j hj p hp => zb_lt (n := 16) (h1 j hj).1 (by
    have : ((2 ^ 16 : Nat) : Int) = 65536 := by decide
    have := (h1 j hj).2
    omega) hp
  have new : ∀ j, j < 8 → sNew fd L j → j ∈ tL n v ∧ ∀ p q, zb (L j) p → zb (L j) q → p = q := fun j hj hw => by
    have hc := tie_cnt (h1 j hj).1 (h1 j hj).2
    have hw2 := hw.2
    have h0 : 0 < tU.countP (fun k => ib (L j) k) := by omega
    obtain ⟨p, -, hp⟩ := List.countP_pos_iff.mp h0
    refine ⟨?_, fun p q hp hq => tU_one (a := fun k => ib (L j) k) (by omega) (h16 j hj p hp) (h16 j hj q hq) hp hq⟩
    apply Classical.byContradiction
    intro c
    exact hd j hj c p (h2 j hj p hp)
  have is : ∀ j, j < 8 → sNew fd L j → ∀ p, zb (L j) p → p = m j := fun j hj hw p hp => (new j hj hw).2 p (m j) hp (h3 j (new j hj hw).1)
  have sub : ∀ j, ∀ p, zb (fsC n (fsA fd L n) L j) p → zb (L j) p := fun j p hp => by
    unfold fsC fsB at hp
    split at hp
    · split at hp
      · exact hp
      · exact (zb_and.mp hp).1
    · exact hp
  refine ⟨fun j hj => ?_, fun j hj p hp => h2 j hj p (sub j p hp), fun j hj => ?_, fun j hj hf => ?_⟩
  · have b := h1 j hj
    unfold fsC fsB
    split
    · split
      · exact b
      · have t := z_andl (x := L j) (y := (fsA fd L n).1 ^^^ (-1)) rfl (by omega)
        omega
    · exact b
  · have a := tL_mem.mp hj
    have hm16 := tU_mem.mp (hm.1 j hj).1
    unfold fsC
    rw [if_pos a.1]
    unfold fsB
    by_cases c : sNew fd L j
    · have q1 : ib (fsA fd L n).2.2 j = true := (fsA_3 n hn).mpr ⟨a.1, c⟩
      have q2 : ((fsA fd L n).2.1 &&& L j).toInt = 0 := zb_zero (fun k hk => by
        rw [zb_and] at hk
        obtain ⟨i, i2, g1, g2, g3, g4, g5, g6⟩ := fsA_2 n hk.1
        have e1 := is i (by omega) g3 k g5
        have e2 := is i2 (by omega) g4 k g6
        have := hm.2 i (new i (by omega) g3).1 i2 (new i2 (by omega) g4).1 (e1.symm.trans e2)
        omega)
      rw [if_pos ⟨q1, q2⟩]
      exact h3 j hj
    · rw [if_neg (fun z => c ((fsA_3 n hn).mp z.1).2), zb_and, zb_not (by omega)]
      refine ⟨h3 j hj, fun z => ?_⟩
      obtain ⟨i, g1, g2, g3⟩ := (fsA_1 n).mp z
      have e1 := is i (by omega) g2 (m j) g3
      have e2 := hm.2 j hj i (new i (by omega) g2).1 e1
      rw [e2] at c
      exact c g2
  · have hf : zb (fd ||| (fsA fd L n).2.2) j := hf
    rcases zb_or.mp hf with q | q
    · obtain ⟨g1, g2⟩ := h4 j hj q
      exact ⟨g1, fun p p2 hp hp2 => g2 p p2 (sub j p hp) (sub j p2 hp2)⟩
    · obtain ⟨g1, g2⟩ := new j hj ((fsA_3 n hn).mp q).2
      exact ⟨g1, fun p p2 hp hp2 => g2 p p2 (sub j p hp) (sub j p2 hp2)⟩
theorem stS_sound {F : Nat → Int32} {n v : Nat} {m : Nat → Nat} (hF : ∀ j, j < 8 → 0 ≤ (F j).toInt ∧ (F j).toInt ≤ 65535) (hn : n ≤ 8) (hd : ∀ j, j < 8 → j ∉ tL n v → ∀ p, ¬ zb (F j) p) (hm : tMat F n v m) : ∀ k, SInv F n v m (stS n F k).2.1 (stS n F k).1
  | 0 => ⟨hF, fun _ _ _ h => h, fun j hj => (hm.1 j hj).2, fun j _ h => absurd h zb_0⟩
  | k + 1 => by
    have ih := stS_sound hF hn hd hm k
    by_cases hf : (stS n F k).2.2.1 = true
    · have e : stS n F (k + 1) = ((stS n F k).1 ||| (fsA (stS n F k).1 (stS n F k).2.1 n).2.2, fsC n (fsA (stS n F k).1 (stS n F k).2.1 n) (stS n F k).2.1, decide ((fsA (stS n F k).1 (stS n F k).2.1 n).2.2.toInt ≠ 0), (stS n F k).2.2.2 + if (fsA (stS n F k).1 (stS n F k).2.1 n).2.2.toInt ≠ 0 then 1 else 0) := if_pos hf
      rw [e]
      exact ih.step hn hd hm
    · have e : stS n F (k + 1) = stS n F k := if_neg hf
      rw [e]
      exact ih
/-- a line that is found: who is left of it is who it must be -/
theorem tie_found {ln lv : Int32} {F : Nat → Int32} (hF : ∀ j, j < 8 → 0 ≤ (F j).toInt ∧ (F j).toInt ≤ 65535) (hln : 0 ≤ ln.toInt ∧ ln.toInt ≤ 8) (hlv : 0 ≤ lv.toInt) (hd : ∀ j, j < 8 → j ∉ tL ln.toInt.toNat lv.toInt.toNat → ∀ p, ¬ zb (F j) p) (h0 : (wLak ln lv F).toInt = 0) {i : Nat} (hi : i < 8) (hfd : ib (stS ln.toInt.toNat F 9).1 i = true) : ∃ q, q < 16 ∧ (stS ln.toInt.toNat F 9).2.1 i = (1 : Int32) <<< (nI q &&& 31) ∧ ∀ p, p < 16 → (zb (wMay ln lv F i) p ↔ p = q) := by
  obtain ⟨m, hm⟩ := (tie_lak hF hln hlv).mp h0
  obtain ⟨a, b, c, d⟩ := stS_sound hF (by omega) hd hm 9
  obtain ⟨hiL, hu⟩ := d i hi hfd
  have hq := tU_mem.mp (hm.1 i hiL).1
  have hb : ∀ p, zb ((stS ln.toInt.toNat F 9).2.1 i) p ↔ p = m i := fun p => ⟨fun h => hu p (m i) h (c i hiL), fun h => by
    rw [h]
    exact c i hiL⟩
  have hs := z_shl1 (y := nI (m i)) rfl (by rw [nI_toInt (by omega)]; omega) (k := 15) (by decide) (by rw [nI_toInt (by omega)]; omega)
  refine ⟨m i, hq, zb_ext (a i hi) (by omega) (fun k hk => ?_), fun p hp => ?_⟩
  · rw [hb, zb_shl (p := m i) (nI_toInt (by omega)) (by omega)]
  · rw [tie_may hF hln hlv h0 hiL hp]
    constructor
    · rintro ⟨m2, hm2, rfl⟩
      exact hu _ _ ((stS_sound hF (by omega) hd hm2 9).2.2.1 i hiL) (c i hiL)
    · rintro rfl
      exact ⟨m, hm, rfl⟩
theorem tie_one {x : Int32} {q : Nat} (h0 : 0 ≤ x.toInt) (h1 : x.toInt ≤ 65535) (hq : q < 16) (h : ∀ p, p < 16 → (zb x p ↔ p = q)) : (bcf x).toInt = 1 := by
  rw [tie_cnt h0 h1]
  have e : tU.countP (fun k => ib x k) = tU.countP (fun k => k == q) := hcount_congr _ _ _ (fun p hp => by
    rw [Bool.eq_iff_iff, ib_zb, h p (tU_mem.mp hp), beq_iff_eq])
  have : ∀ q, q < 16 → tU.countP (fun k => k == q) = 1 := by decide +kernel
  rw [e, this q hq]
  rfl
