/-! what ties weigh()'s and stepByStep()'s answers to ways of giving lines -/
def tU : List Nat := List.range 16
def tL (n v : Nat) : List Nat := (List.range n).filter (fun i => v.testBit i)
def tN (F : Nat → Int32) (i p : Nat) : Bool := ib (F i) p
def tSub (v s : Nat) : Prop := ∀ k, k < 8 → s.testBit k = true → v.testBit k = true
theorem tL_mem {n v i : Nat} : i ∈ tL n v ↔ i < n ∧ v.testBit i = true := by
  unfold tL
  rw [List.mem_filter, List.mem_range]
theorem tL_nd {n v : Nat} : (tL n v).Nodup := List.Pairwise.filter _ List.nodup_range
theorem tU_nd : tU.Nodup := List.nodup_range
theorem tU_mem {p : Nat} : p ∈ tU ↔ p < 16 := List.mem_range
theorem jn_iff {F : Nat → Int32} {s p : Nat} : ∀ n, zb (jn F s n) p ↔ ∃ i, i < n ∧ s.testBit i = true ∧ zb (F i) p
  | 0 => ⟨fun h => absurd h zb_0, fun ⟨_, h, _⟩ => absurd h (Nat.not_lt_zero _)⟩
  | n + 1 => by
    show zb (if s.testBit n = true then jn F s n ||| F n else jn F s n) p ↔ _
    by_cases c : s.testBit n = true
    · rw [if_pos c, zb_or, jn_iff n]
      constructor
      · rintro (⟨i, h1, h2, h3⟩ | h)
        · exact ⟨i, by omega, h2, h3⟩
        · exact ⟨n, by omega, c, h⟩
      · rintro ⟨i, h1, h2, h3⟩
        by_cases e : i = n
        · subst e
          exact Or.inr h3
        · exact Or.inl ⟨i, by omega, h2, h3⟩
    · rw [if_neg c, jn_iff n]
      constructor
      · rintro ⟨i, h1, h2, h3⟩
        exact ⟨i, by omega, h2, h3⟩
      · rintro ⟨i, h1, h2, h3⟩
        have e : i ≠ n := fun e => by
          subst e
          exact c h2
        exact ⟨i, by omega, h2, h3⟩
theorem jn_rg {F : Nat → Int32} (hF : ∀ j, j < 8 → 0 ≤ (F j).toInt ∧ (F j).toInt ≤ 65535) {s : Nat} : ∀ n, n ≤ 8 → 0 ≤ (jn F s n).toInt ∧ (jn F s n).toInt ≤ 65535
  | 0, _ => by
    show 0 ≤ (0 : Int32).toInt ∧ (0 : Int32).toInt ≤ 65535
    decide
  | n + 1, h => by
    have a := jn_rg hF (s := s) n (by omega)
    have b := hF n (by omega)
    show 0 ≤ (if s.testBit n = true then jn F s n ||| F n else jn F s n).toInt ∧ (if s.testBit n = true then jn F s n ||| F n else jn F s n).toInt ≤ 65535
    by_cases c : s.testBit n = true
    · rw [if_pos c]
      have t := z_or (x := jn F s n) (y := F n) rfl rfl (k := 16) (N := 65536) (by decide) (by decide) (by omega) (by omega) (by omega) (by omega)
      omega
    · rw [if_neg c]
      exact a
theorem pcn_count (n : Nat) : pcn n = tU.countP (fun k => n.testBit k) := by
  have hb : ∀ k, (if n.testBit k = true then 1 else 0) = n / 2 ^ k % 2 := fun k => by
    rw [Nat.testBit_eq_decide_div_mod_eq]
    have h2 : n / 2 ^ k % 2 < 2 := Nat.mod_lt _ (by decide)
    by_cases c : n / 2 ^ k % 2 = 1
    · rw [c]
      rfl
    · rw [if_neg (by rw [decide_eq_true_iff]; exact c)]
      omega
  have e : tU = [0, 1, 2, 3, 4, 5, 6, 7, 8, 9, 10, 11, 12, 13, 14, 15] := rfl
  rw [e]
  simp only [List.countP_cons, List.countP_nil, hb]
  unfold pcn
  simp only [Nat.zero_add, Nat.add_assoc, Nat.add_comm, Nat.add_left_comm]
theorem tU_le (a : Nat → Bool) : tU.countP a ≤ 16 := List.countP_le_length
theorem tie_cnt {x : Int32} (h0 : 0 ≤ x.toInt) (h1 : x.toInt ≤ 65535) : (bcf x).toInt = ((tU.countP (fun k => ib x k) : Nat) : Int) := by
  rw [bcf_pcn h0 h1, pcn_count]
  rfl
theorem tie_set (c : Nat → Bool) : ∀ n, ∃ s, s < 2 ^ n ∧ ∀ i, i < n → s.testBit i = c i
  | 0 => ⟨0, by decide, fun _ h => absurd h (Nat.not_lt_zero _)⟩
  | n + 1 => by
    obtain ⟨s, h1, h2⟩ := tie_set c n
    have hs := hp_succ n
    have hf : s.testBit n = false := Nat.testBit_lt_two_pow h1
    cases hc : c n with
    | false => exact ⟨s, by omega, fun i hi => by
        by_cases e : i = n
        · subst e
          rw [hf, hc]
        · exact h2 i (by omega)⟩
    | true => exact ⟨2 ^ n + s, by omega, fun i hi => by
        by_cases e : i = n
        · subst e
          rw [Nat.testBit_two_pow_add_eq, hf, hc]
          rfl
        · rw [Nat.testBit_two_pow_add_gt (by omega)]
          exact h2 i (by omega)⟩
theorem tie_lv {lv : Int32} (h : 0 ≤ lv.toInt) {k : Nat} : zb lv k ↔ lv.toInt.toNat.testBit k = true := by
  rw [zb_iff h, Nat.testBit_eq_decide_div_mod_eq, decide_eq_true_iff]
theorem tie_sub {lv : Int32} (h : 0 ≤ lv.toInt) {s : Nat} (hs : s < 256) : (nI s &&& (lv ^^^ (-1))).toInt = 0 ↔ tSub lv.toInt.toNat s := by
  rw [wsub_iff hs]
  exact ⟨fun q k hk hb => (tie_lv h).mp (q k hk hb), fun q k hk hb => (tie_lv h).mpr (q k hk hb)⟩
theorem tie_rng : ∀ n, n < 9 → ∀ s, s < 2 ^ n → tU.countP (fun k => s.testBit k) = (List.range n).countP (fun k => s.testBit k) := by decide +kernel
theorem tie_nb {F : Nat → Int32} {n v s : Nat} (hn : n < 9) (hs : s < 2 ^ n) (hv : tSub v s) (p : Nat) : ib (jn F s 8) p = hNb (tN F) (tL n v) (fun k => s.testBit k) p := by
  rw [Bool.eq_iff_iff, ib_zb, jn_iff, hNb_iff]
  constructor
  · rintro ⟨i, h1, h2, h3⟩
    have h4 : i < n := by
      apply Classical.byContradiction
      intro q
      have := hb_out n hn s hs i h1 (by omega)
      rw [this] at h2
      exact absurd h2 (by decide)
    exact ⟨i, tL_mem.mpr ⟨h4, hv i h1 h2⟩, h2, h3⟩
  · rintro ⟨i, h1, h2, h3⟩
    have := (tL_mem.mp h1).1
    exact ⟨i, by omega, h2, h3⟩
theorem tie_lc {n v s : Nat} (hn : n < 9) (hs : s < 2 ^ n) (hv : tSub v s) : tU.countP (fun k => s.testBit k) = (tL n v).countP (fun k => s.testBit k) := by
  rw [tie_rng n hn s hs]
  unfold tL
  rw [hcount_filter]
  refine hcount_congr _ _ _ (fun x hx => ?_)
  have hx8 := List.mem_range.mp hx
  cases h : s.testBit x with
  | false => rw [Bool.and_false]
  | true => rw [hv x (by omega) h]; rfl
section TIE
variable {ln lv : Int32} {F : Nat → Int32} {n v : Nat}
theorem tie_sp (hF : ∀ j, j < 8 → 0 ≤ (F j).toInt ∧ (F j).toInt ≤ 65535) (hn : n < 9) {s : Nat} (hs : s < 2 ^ n) (hv : tSub v s) : (wSp (jn F s 8) (nI s)).toInt = ((tU.countP (hNb (tN F) (tL n v) (fun k => s.testBit k)) : Nat) : Int) - (((tL n v).countP (fun k => s.testBit k) : Nat) : Int) := by
  have h1 := jn_rg hF (s := s) 8 (Nat.le_refl _)
  have h256 := hb_lt n hn
  have h2 := nI_toInt (n := s) (by omega)
  have c1 := tie_cnt h1.1 h1.2
  have c2 := tie_cnt (x := nI s) (by omega) (by omega)
  have b1 := tU_le (fun k => ib (jn F s 8) k)
  have b2 := tU_le (fun k => ib (nI s) k)
  have e1 : tU.countP (fun k => ib (jn F s 8) k) = tU.countP (hNb (tN F) (tL n v) (fun k => s.testBit k)) := hcount_congr _ _ _ (fun x _ => tie_nb hn hs hv x)
  have e2 : tU.countP (fun k => ib (nI s) k) = (tL n v).countP (fun k => s.testBit k) := (hcount_congr _ _ _ (fun x _ => ib_nI (by omega))).trans (tie_lc hn hs hv)
  unfold wSp
  rw [z_sub c1 c2 (by omega) (by omega), e1, e2]
theorem tie_lk (hlv : 0 ≤ lv.toInt) : ∀ k, k ≤ 256 → ((wAll ln lv F k).1.toInt = 0 ↔ ∀ s, 1 ≤ s → s < k → tSub lv.toInt.toNat s → 0 ≤ (wSp (jn F s 8) (nI s)).toInt)
  | 0, _ => ⟨fun _ s _ h => absurd h (Nat.not_lt_zero _), fun _ => by
      show (0 : Int32).toInt = 0
      decide⟩
  | k + 1, hk => by
    have ih := tie_lk hlv k (by omega)
    show (if k = 0 then ((0 : Int32), F) else wSt ln lv (jn F k 8) (nI k) (wAll ln lv F k)).1.toInt = 0 ↔ _
    by_cases e : k = 0
    · rw [if_pos e]
      refine ⟨fun _ s h1 h2 => by omega, fun _ => ?_⟩
      show (0 : Int32).toInt = 0
      decide
    · rw [if_neg e]
      have hnk := nI_toInt (n := k) (by omega)
      unfold wSt
      by_cases c : (nI k &&& (lv ^^^ (-1))).toInt = 0
      · rw [if_pos c]
        have hs := (tie_sub hlv (by omega)).mp c
        show (wLk (wAll ln lv F k).1 (jn F k 8) (nI k)).toInt = 0 ↔ _
        unfold wLk
        by_cases sp : (wSp (jn F k 8) (nI k)).toInt < 0
        · refine ⟨fun q => ?_, fun q => ?_⟩
          · exfalso
            by_cases d : (wAll ln lv F k).1.toInt = 0 ∨ (bcf (nI k)).toInt < (bcf (wAll ln lv F k).1).toInt
            · rw [if_pos ⟨sp, d⟩] at q
              omega
            · rw [if_neg (fun z => d z.2)] at q
              exact d (Or.inl q)
          · have := q k (by omega) (by omega) hs
            omega
        · rw [if_neg (fun z => sp z.1), ih]
          refine ⟨fun q s h1 h2 h3 => ?_, fun q s h1 h2 h3 => q s h1 (by omega) h3⟩
          by_cases es : s = k
          · subst es
            omega
          · exact q s h1 (by omega) h3
      · rw [if_neg c, ih]
        refine ⟨fun q s h1 h2 h3 => ?_, fun q s h1 h2 h3 => q s h1 (by omega) h3⟩
        by_cases es : s = k
        · subst es
          exact absurd ((tie_sub hlv (by omega)).mpr h3) c
        · exact q s h1 (by omega) h3
theorem tie_my (hlv : 0 ≤ lv.toInt) {j p : Nat} (hj : j < 8) (hjn : (j : Int) < ln.toInt) (hp : p < 16) : ∀ k, k ≤ 256 → (zb ((wAll ln lv F k).2 j) p ↔ zb (F j) p ∧ ∀ s, 1 ≤ s → s < k → tSub lv.toInt.toNat s → (wSp (jn F s 8) (nI s)).toInt = 0 → s.testBit j = false → ¬ zb (jn F s 8) p)
  | 0, _ => ⟨fun h => ⟨h, fun s _ h => absurd h (Nat.not_lt_zero _)⟩, fun h => h.1⟩
  | k + 1, hk => by
    have ih := tie_my hlv hj hjn hp k (by omega)
    show zb ((if k = 0 then ((0 : Int32), F) else wSt ln lv (jn F k 8) (nI k) (wAll ln lv F k)).2 j) p ↔ _
    by_cases e : k = 0
    · rw [if_pos e]
      exact ⟨fun h => ⟨h, fun s h1 h2 => by omega⟩, fun h => h.1⟩
    · rw [if_neg e]
      unfold wSt
      have skip : (tSub lv.toInt.toNat k → (wSp (jn F k 8) (nI k)).toInt = 0 → k.testBit j = false → ¬ zb (jn F k 8) p) → (zb ((wAll ln lv F k).2 j) p ↔ zb (F j) p ∧ ∀ s, 1 ≤ s → s < k + 1 → tSub lv.toInt.toNat s → (wSp (jn F s 8) (nI s)).toInt = 0 → s.testBit j = false → ¬ zb (jn F s 8) p) := fun hk0 => by
        rw [ih]
        refine ⟨fun q => ⟨q.1, fun s h1 h2 h3 h4 h5 => ?_⟩, fun q => ⟨q.1, fun s h1 h2 h3 h4 h5 => q.2 s h1 (by omega) h3 h4 h5⟩⟩
        by_cases es : s = k
        · subst es
          exact hk0 h3 h4 h5
        · exact q.2 s h1 (by omega) h3 h4 h5
      by_cases c : (nI k &&& (lv ^^^ (-1))).toInt = 0
      · rw [if_pos c]
        have hs := (tie_sub hlv (by omega)).mp c
        show zb (wMi (wSp (jn F k 8) (nI k)) (nI k) (jn F k 8) ln.toInt (wAll ln lv F k).2 j) p ↔ _
        unfold wMi
        by_cases d : (wSp (jn F k 8) (nI k)).toInt = 0 ∧ (j : Int) < ln.toInt ∧ ib (nI k) j = false
        · rw [if_pos d, zb_and, zb_not (by omega), ih]
          have hbj : k.testBit j = false := by
            rw [← ib_nI (by omega)]
            exact d.2.2
          refine ⟨fun q => ⟨q.1.1, fun s h1 h2 h3 h4 h5 => ?_⟩, fun q => ⟨⟨q.1, fun s h1 h2 h3 h4 h5 => q.2 s h1 (by omega) h3 h4 h5⟩, q.2 k (by omega) (by omega) hs d.1 hbj⟩⟩
          by_cases es : s = k
          · subst es
            exact q.2
          · exact q.1.2 s h1 (by omega) h3 h4 h5
        · rw [if_neg d]
          exact skip (fun _ h4 h5 => absurd ⟨h4, hjn, by rw [ib_nI (by omega)]; exact h5⟩ d)
      · rw [if_neg c]
        exact skip (fun h3 => absurd ((tie_sub hlv (by omega)).mpr h3) c)
/-- a way of giving all lines -/
def tMat (F : Nat → Int32) (n v : Nat) (m : Nat → Nat) : Prop := hMat tU (tL n v) (tN F) m
theorem tMat_pos (hn : n < 9) (hv : v < 2 ^ n) : 0 < gvP (fun i p => ib (F i) p) n 16 v ↔ ∃ m, tMat F n v m := by
  rw [gvP_pos hn 16 v hv]
  constructor
  · rintro ⟨m, h1, h2⟩
    refine ⟨m, fun i hi => ?_, fun i hi j hj e => ?_⟩
    · have h := tL_mem.mp hi
      exact ⟨tU_mem.mpr (h1 i h.1 h.2).1, (h1 i h.1 h.2).2⟩
    · have a := tL_mem.mp hi
      have b := tL_mem.mp hj
      exact h2 i j a.1 b.1 a.2 b.2 e
  · rintro ⟨m, h1, h2⟩
    refine ⟨m, fun i hi hb => ?_, fun i j hi hj hbi hbj e => ?_⟩
    · have h := h1 i (tL_mem.mpr ⟨hi, hb⟩)
      exact ⟨tU_mem.mp h.1, h.2⟩
    · exact h2 i (tL_mem.mpr ⟨hi, hbi⟩) j (tL_mem.mpr ⟨hj, hbj⟩) e
theorem tie_hall (hF : ∀ j, j < 8 → 0 ≤ (F j).toInt ∧ (F j).toInt ≤ 65535) (hn : n < 9) (h : ∀ s, 1 ≤ s → s < 2 ^ n → tSub v s → 0 ≤ (wSp (jn F s 8) (nI s)).toInt) (c : Nat → Bool) : ∃ s, s < 2 ^ n ∧ tSub v s ∧ (tL n v).countP c = (tL n v).countP (fun k => s.testBit k) ∧ (∀ p, hNb (tN F) (tL n v) c p = hNb (tN F) (tL n v) (fun k => s.testBit k) p) ∧ (∀ i, i < n → s.testBit i = (c i && v.testBit i)) ∧ (tL n v).countP c ≤ tU.countP (hNb (tN F) (tL n v) c) := by
  obtain ⟨s, h1, h2⟩ := tie_set (fun i => c i && v.testBit i) n
  have hL : ∀ i, i ∈ tL n v → c i = s.testBit i := fun i hi => by
    have a := tL_mem.mp hi
    rw [h2 i a.1, a.2, Bool.and_true]
  have hsub : tSub v s := fun k hk hb => by
    by_cases q : k < n
    · rw [h2 k q, Bool.and_eq_true] at hb
      exact hb.2
    · rw [hb_out n hn s h1 k hk (by omega)] at hb
      exact absurd hb (by decide)
  have e1 : (tL n v).countP c = (tL n v).countP (fun k => s.testBit k) := hcount_congr _ _ _ hL
  have e2 : ∀ p, hNb (tN F) (tL n v) c p = hNb (tN F) (tL n v) (fun k => s.testBit k) p := fun p => by
    rw [Bool.eq_iff_iff, hNb_iff, hNb_iff]
    constructor
    · rintro ⟨i, a, b, d⟩
      exact ⟨i, a, (hL i a).symm.trans b, d⟩
    · rintro ⟨i, a, b, d⟩
      exact ⟨i, a, (hL i a).trans b, d⟩
  refine ⟨s, h1, hsub, e1, e2, h2, ?_⟩
  rw [e1, hcount_congr tU _ _ (fun p _ => e2 p)]
  by_cases h0 : s = 0
  · subst h0
    have z : (tL n v).countP (fun k => (0 : Nat).testBit k) = 0 := by
      rw [List.countP_eq_zero]
      intro x _
      rw [Nat.zero_testBit]
      decide
    rw [z]
    exact Nat.zero_le _
  · have := h s (by omega) h1 hsub
    rw [tie_sp hF hn h1 hsub] at this
    omega
/-- no set of lines has too few just if all can be given -/
theorem tie_lak (hF : ∀ j, j < 8 → 0 ≤ (F j).toInt ∧ (F j).toInt ≤ 65535) (hln : 0 ≤ ln.toInt ∧ ln.toInt ≤ 8) (hlv : 0 ≤ lv.toInt) : (wLak ln lv F).toInt = 0 ↔ ∃ m, tMat F ln.toInt.toNat lv.toInt.toNat m := by
  have h256 := hb_lt ln.toInt.toNat (by omega)
  unfold wLak
  rw [tie_lk hlv _ h256]
  constructor
  · intro h
    exact hall tU_nd (tL ln.toInt.toNat lv.toInt.toNat).length _ _ (Nat.le_refl _) tL_nd (fun c => by
      obtain ⟨s, -, -, -, -, -, h6⟩ := tie_hall hF (by omega) h c
      exact h6)
  · rintro ⟨m, hm⟩ s h1 h2 h3
    rw [tie_sp hF (by omega) h2 h3]
    have := hmat_hall tL_nd hm (fun k => s.testBit k)
    omega
theorem tie_may (hF : ∀ j, j < 8 → 0 ≤ (F j).toInt ∧ (F j).toInt ≤ 65535) (hln : 0 ≤ ln.toInt ∧ ln.toInt ≤ 8) (hlv : 0 ≤ lv.toInt) (h0 : (wLak ln lv F).toInt = 0) {i p : Nat} (hi : i ∈ tL ln.toInt.toNat lv.toInt.toNat) (hp : p < 16) : zb (wMay ln lv F i) p ↔ ∃ m, tMat F ln.toInt.toNat lv.toInt.toNat m ∧ m i = p := by
  have h256 := hb_lt ln.toInt.toNat (by omega)
  have hin := tL_mem.mp hi
  have hH := h0
  unfold wLak at hH
  rw [tie_lk hlv _ h256] at hH
  unfold wMay
  rw [if_pos h0, tie_my hlv (by omega) (by omega) hp _ h256]
  constructor
  · rintro ⟨q1, q2⟩
    refine hmay tU_nd tL_nd (fun c => ?_) hi (tU_mem.mpr hp) q1 (fun c hc ht => ?_)
    · obtain ⟨s, -, -, -, -, -, h6⟩ := tie_hall hF (by omega) hH c
      exact h6
    · obtain ⟨s, g1, g2, g3, g4, g5, g6⟩ := tie_hall hF (by omega) hH c
      rw [g4]
      rw [g3, hcount_congr tU _ _ (fun x _ => g4 x)] at ht
      have hnb := tie_nb (F := F) (by omega) g1 g2 p
      rw [← hnb]
      by_cases z : s = 0
      · subst z
        cases hz : ib (jn F 0 8) p with
        | false => rfl
        | true =>
          obtain ⟨k, -, k2, -⟩ := (jn_iff 8).mp hz
          rw [Nat.zero_testBit] at k2
          exact absurd k2 (by decide)
      · have := q2 s (by omega) g1 g2 (by rw [tie_sp hF (by omega) g1 g2]; omega) (by rw [g5 i hin.1, hc]; rfl)
        cases hz : ib (jn F s 8) p with
        | false => rfl
        | true => exact absurd hz this
  · rintro ⟨m, hm, rfl⟩
    refine ⟨(hm.1 i hi).2, fun s g1 g2 g3 g4 g5 => ?_⟩
    rw [tie_sp hF (by omega) g2 g3] at g4
    have := hmay_of tL_nd hm hi (fun k => s.testBit k) g5 (by omega)
    rw [← tie_nb (F := F) (by omega) g2 g3] at this
    exact ib_no.mp this
end TIE
