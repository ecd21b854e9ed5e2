/-! givings: lines L, people U, N i p: p fits i; sets of lines are Bool functions -/
def hNb (N : Nat → Nat → Bool) (L : List Nat) (c : Nat → Bool) (p : Nat) : Bool := L.any (fun i => c i && N i p)
def hMat (U L : List Nat) (N : Nat → Nat → Bool) (m : Nat → Nat) : Prop := (∀ i ∈ L, m i ∈ U ∧ N i (m i) = true) ∧ ∀ i ∈ L, ∀ j ∈ L, m i = m j → i = j
theorem hNb_iff {N : Nat → Nat → Bool} {L : List Nat} {c : Nat → Bool} {p : Nat} : hNb N L c p = true ↔ ∃ i, i ∈ L ∧ c i = true ∧ N i p = true := by
  unfold hNb
  rw [List.any_eq_true]
  constructor
  · rintro ⟨i, h1, h2⟩
    rw [Bool.and_eq_true] at h2
    exact ⟨i, h1, h2.1, h2.2⟩
  · rintro ⟨i, h1, h2, h3⟩
    exact ⟨i, h1, by rw [h2, h3]; rfl⟩
theorem hcount_split (l : List Nat) (a b : Nat → Bool) : l.countP (fun x => a x || b x) = l.countP a + l.countP (fun x => !a x && b x) := by
  induction l with
  | nil => rfl
  | cons x l ih =>
    simp only [List.countP_cons, ih]
    cases a x <;> cases b x <;> simp <;> omega
theorem hcount_le (l : List Nat) (a b : Nat → Bool) (h : ∀ x ∈ l, a x = true → b x = true) : l.countP a ≤ l.countP b := List.countP_mono_left h
theorem hcount_congr (l : List Nat) (a b : Nat → Bool) (h : ∀ x ∈ l, a x = b x) : l.countP a = l.countP b := by
  induction l with
  | nil => rfl
  | cons x l ih =>
    rw [List.countP_cons, List.countP_cons, ih (fun y hy => h y (List.mem_cons_of_mem _ hy)), h x List.mem_cons_self]
theorem hcount_filter (l : List Nat) (c a : Nat → Bool) : (l.filter c).countP a = l.countP (fun x => c x && a x) := by
  induction l with
  | nil => rfl
  | cons x l ih =>
    rw [List.filter_cons, List.countP_cons]
    cases hc : c x
    · simp [ih]
    · simp [List.countP_cons, ih]
theorem hcount_one (l : List Nat) (hl : l.Nodup) (p0 : Nat) (a : Nat → Bool) : l.countP a ≤ l.countP (fun x => a x && x != p0) + 1 := by
  induction l with
  | nil => simp
  | cons x l ih =>
    rw [List.nodup_cons] at hl
    rw [List.countP_cons, List.countP_cons]
    by_cases hx : x = p0
    · subst hx
      have : l.countP (fun y => a y && y != x) = l.countP a := hcount_congr l _ _ (fun y hy => by
        have : y ≠ x := fun e => hl.1 (e ▸ hy)
        simp [this])
      rw [this]
      cases a x <;> simp
    · have := ih hl.2
      have e : (a x && x != p0) = a x := by simp [hx]
      rw [e]
      omega
/-- as many from a list without twins as from another that has them all -/
theorem hcount_inj (U : List Nat) : ∀ (l : List Nat), l.Nodup → (∀ x ∈ l, x ∈ U) → l.length ≤ U.length := by
  induction U with
  | nil =>
    intro l _ h
    cases l with
    | nil => exact Nat.le_refl _
    | cons x l => exact absurd (h x List.mem_cons_self) List.not_mem_nil
  | cons u U ih =>
    intro l hl h
    have h1 := ih (l.filter (fun x => x != u)) (hl.filter _) (fun x hx => by
      rw [List.mem_filter] at hx
      rcases List.mem_cons.mp (h x hx.1) with e | e
      · simp [e] at hx
      · exact e)
    have h2 := hcount_one l hl u (fun _ => true)
    simp only [Bool.true_and] at h2
    rw [List.countP_eq_length.mpr (fun _ _ => rfl)] at h2
    rw [List.countP_eq_length_filter] at h2
    rw [List.length_cons]
    omega
theorem hmat_hall {U L : List Nat} {N : Nat → Nat → Bool} {m : Nat → Nat} (hL : L.Nodup) (hm : hMat U L N m) (c : Nat → Bool) : L.countP c ≤ U.countP (hNb N L c) := by
  have h := hcount_inj (U.filter (hNb N L c)) ((L.filter c).map m) ?_ ?_
  · rw [List.length_map] at h
    rw [List.countP_eq_length_filter, List.countP_eq_length_filter]
    exact h
  · rw [List.nodup_iff_pairwise_ne, List.pairwise_map]
    have hp : (L.filter c).Pairwise (· ≠ ·) := (hL.filter c)
    refine List.Pairwise.imp_of_mem ?_ hp
    intro a b ha hb hab e
    exact hab (hm.2 a (List.mem_filter.mp ha).1 b (List.mem_filter.mp hb).1 e)
  · intro x hx
    obtain ⟨i, hi, rfl⟩ := List.mem_map.mp hx
    rw [List.mem_filter] at hi
    rw [List.mem_filter]
    exact ⟨(hm.1 i hi.1).1, hNb_iff.mpr ⟨i, hi.1, hi.2, (hm.1 i hi.1).2⟩⟩
theorem hall {U : List Nat} (hU : U.Nodup) : ∀ (n : Nat) (L : List Nat) (N : Nat → Nat → Bool), L.length ≤ n → L.Nodup → (∀ c : Nat → Bool, L.countP c ≤ U.countP (hNb N L c)) → ∃ m, hMat U L N m := by
  intro n
  induction n with
  | zero =>
    intro L N hn _ _
    have : L = [] := List.length_eq_zero_iff.mp (by omega)
    subst this
    exact ⟨fun _ => 0, fun i hi => absurd hi List.not_mem_nil, fun i hi => absurd hi List.not_mem_nil⟩
  | succ n ih =>
    intro L N hn hL hH
    by_cases ht : ∃ c : Nat → Bool, 0 < L.countP c ∧ L.countP c < L.length ∧ U.countP (hNb N L c) = L.countP c
    · obtain ⟨c, h1, h2, h3⟩ := ht
      have l1 : (L.filter c).length = L.countP c := (List.countP_eq_length_filter).symm
      have l2 : (L.filter (fun i => !c i)).length + L.countP c = L.length := by
        have := hcount_split L c (fun _ => true)
        simp only [Bool.or_true, Bool.and_true] at this
        rw [List.countP_eq_length.mpr (fun _ _ => rfl)] at this
        rw [List.countP_eq_length_filter (p := fun i => !c i)] at this
        omega
      obtain ⟨m1, a1, b1⟩ := ih (L.filter c) N (by omega) (hL.filter _) (fun c' => by
        rw [hcount_filter]
        refine Nat.le_trans (hH _) (hcount_le U _ _ (fun p _ hp => ?_))
        obtain ⟨i, hi, hc, hn⟩ := hNb_iff.mp hp
        rw [Bool.and_eq_true] at hc
        exact hNb_iff.mpr ⟨i, List.mem_filter.mpr ⟨hi, hc.1⟩, hc.2, hn⟩)
      obtain ⟨m2, a2, b2⟩ := ih (L.filter (fun i => !c i)) (fun i p => N i p && !hNb N L c p) (by omega) (hL.filter _) (fun c' => by
        rw [hcount_filter]
        have e1 := hcount_split L c (fun i => !c i && c' i)
        have e2 := hH (fun i => c i || (!c i && c' i))
        have e3 : U.countP (hNb N L (fun i => c i || (!c i && c' i))) = U.countP (fun p => hNb N L c p || hNb N L (fun i => !c i && c' i) p) := hcount_congr U _ _ (fun p _ => by
          rw [Bool.eq_iff_iff, Bool.or_eq_true, hNb_iff, hNb_iff, hNb_iff]
          constructor
          · rintro ⟨i, hi, hc, hn⟩
            rw [Bool.or_eq_true] at hc
            rcases hc with hc | hc
            · exact Or.inl ⟨i, hi, hc, hn⟩
            · exact Or.inr ⟨i, hi, hc, hn⟩
          · rintro (⟨i, hi, hc, hn⟩ | ⟨i, hi, hc, hn⟩)
            · exact ⟨i, hi, by rw [hc]; rfl, hn⟩
            · exact ⟨i, hi, by rw [hc, Bool.or_true], hn⟩)
        rw [hcount_split] at e3
        have e4 : L.countP (fun x => !c x && (!c x && c' x)) = L.countP (fun x => !c x && c' x) := hcount_congr L _ _ (fun i _ => by cases c i <;> simp)
        have e5 : U.countP (fun x => !hNb N L c x && hNb N L (fun i => !c i && c' i) x) ≤ U.countP (hNb (fun i p => N i p && !hNb N L c p) (L.filter (fun i => !c i)) c') := hcount_le U _ _ (fun p _ hp => by
          rw [Bool.and_eq_true] at hp
          obtain ⟨i, hi, hc, hn⟩ := hNb_iff.mp hp.2
          rw [Bool.and_eq_true] at hc
          exact hNb_iff.mpr ⟨i, List.mem_filter.mpr ⟨hi, hc.1⟩, hc.2, by show (N i p && !hNb N L c p) = true; rw [hn, hp.1]; rfl⟩)
        omega)
      refine ⟨fun i => if c i = true then m1 i else m2 i, fun i hi => ?_, fun i hi j hj e => ?_⟩
      · show (if c i = true then m1 i else m2 i) ∈ U ∧ N i (if c i = true then m1 i else m2 i) = true
        by_cases hc : c i = true
        · rw [if_pos hc]
          exact a1 i (List.mem_filter.mpr ⟨hi, hc⟩)
        · rw [if_neg hc]
          have := a2 i (List.mem_filter.mpr ⟨hi, by simp [hc]⟩)
          rw [Bool.and_eq_true] at this
          exact ⟨this.1, this.2.1⟩
      · have x1 : ∀ i j, i ∈ L → j ∈ L → c i = true → ¬ c j = true → m1 i ≠ m2 j := fun i j hi hj ci cj e => by
          have q1 := a1 i (List.mem_filter.mpr ⟨hi, ci⟩)
          have q2 := a2 j (List.mem_filter.mpr ⟨hj, by simp [cj]⟩)
          rw [Bool.and_eq_true] at q2
          have q3 : hNb N L c (m1 i) = true := hNb_iff.mpr ⟨i, hi, ci, q1.2⟩
          rw [← e, q3] at q2
          exact absurd q2.2.2 (by decide)
        by_cases ci : c i = true <;> by_cases cj : c j = true
        · simp only [ci, cj, if_true] at e
          exact b1 i (List.mem_filter.mpr ⟨hi, ci⟩) j (List.mem_filter.mpr ⟨hj, cj⟩) e
        · simp only [ci, cj, if_true, if_false] at e
          exact absurd e (x1 i j hi hj ci cj)
        · simp only [ci, cj, if_true, if_false] at e
          exact absurd e.symm (x1 j i hj hi cj ci)
        · simp only [ci, cj, if_false] at e
          exact b2 i (List.mem_filter.mpr ⟨hi, by simp [ci]⟩) j (List.mem_filter.mpr ⟨hj, by simp [cj]⟩) e
    · cases L with
      | nil => exact ⟨fun _ => 0, fun i hi => absurd hi List.not_mem_nil, fun i hi => absurd hi List.not_mem_nil⟩
      | cons i0 L =>
        rw [List.nodup_cons] at hL
        have h1 := hH (fun i => i == i0)
        have h2 : 0 < (i0 :: L).countP (fun i => i == i0) := List.countP_pos_iff.mpr ⟨i0, List.mem_cons_self, by simp⟩
        obtain ⟨p0, hp0, hq⟩ := List.countP_pos_iff.mp (Nat.lt_of_lt_of_le h2 h1)
        obtain ⟨i1, -, hi1, hn0⟩ := hNb_iff.mp hq
        have hi1 : i1 = i0 := by simpa using hi1
        subst hi1
        obtain ⟨m, a, b⟩ := ih L (fun i p => N i p && p != p0) (by rw [List.length_cons] at hn; omega) hL.2 (fun c' => by
          by_cases hz : L.countP c' = 0
          · omega
          have e1 : (i1 :: L).countP (fun i => c' i && i != i1) = L.countP c' := by
            rw [List.countP_cons]
            have : L.countP (fun i => c' i && i != i1) = L.countP c' := hcount_congr L _ _ (fun i hi => by
              have : i ≠ i1 := fun e => hL.1 (e ▸ hi)
              simp [this])
            rw [this]
            simp
          have e2 : L.countP c' ≤ L.length := List.countP_le_length
          have e3 : (i1 :: L).countP (fun i => c' i && i != i1) < U.countP (hNb N (i1 :: L) (fun i => c' i && i != i1)) := by
            refine Nat.lt_of_le_of_ne (hH _) (fun e => ht ⟨_, ?_, ?_, e.symm⟩)
            · omega
            · rw [List.length_cons]; omega
          have e4 := hcount_one U hU p0 (hNb N (i1 :: L) (fun i => c' i && i != i1))
          have e5 : U.countP (fun p => hNb N (i1 :: L) (fun i => c' i && i != i1) p && p != p0) ≤ U.countP (hNb (fun i p => N i p && p != p0) L c') := hcount_le U _ _ (fun p _ hp => by
            rw [Bool.and_eq_true] at hp
            obtain ⟨i, hi, hc, hn⟩ := hNb_iff.mp hp.1
            rw [Bool.and_eq_true] at hc
            rcases List.mem_cons.mp hi with e | e
            · subst e
              simp at hc
            · exact hNb_iff.mpr ⟨i, e, hc.1, by show (N i p && p != p0) = true; rw [hn, hp.2]; rfl⟩)
          omega)
        refine ⟨fun i => if i = i1 then p0 else m i, fun i hi => ?_, fun i hi j hj e => ?_⟩
        · by_cases e : i = i1
          · subst e
            simp only [if_true]
            exact ⟨hp0, hn0⟩
          · simp only [e, if_false]
            have := a i ((List.mem_cons.mp hi).resolve_left e)
            rw [Bool.and_eq_true] at this
            exact ⟨this.1, this.2.1⟩
        · have x : ∀ j, j ∈ i1 :: L → j ≠ i1 → m j ≠ p0 := fun j hj hne e => by
            have := a j ((List.mem_cons.mp hj).resolve_left hne)
            rw [Bool.and_eq_true] at this
            simp [e] at this
          by_cases ei : i = i1 <;> by_cases ej : j = i1
          · rw [ei, ej]
          · simp only [ei, ej, if_true, if_false] at e
            exact absurd e.symm (x j hj ej)
          · simp only [ei, ej, if_true, if_false] at e
            exact absurd e (x i hi ei)
          · simp only [ei, ej, if_false] at e
            exact b i ((List.mem_cons.mp hi).resolve_left ei) j ((List.mem_cons.mp hj).resolve_left ej) e
/-- who may be of a line: no set without it, of as many people as lines, needs them -/
theorem hmay {U L : List Nat} (hU : U.Nodup) (hL : L.Nodup) {N : Nat → Nat → Bool} (hH : ∀ c : Nat → Bool, L.countP c ≤ U.countP (hNb N L c)) {i p : Nat} (hi : i ∈ L) (hp : p ∈ U) (hn : N i p = true)
    (ht : ∀ c : Nat → Bool, c i = false → U.countP (hNb N L c) = L.countP c → hNb N L c p = false) : ∃ m, hMat U L N m ∧ m i = p := by
  obtain ⟨m, a, b⟩ := hall hU L.length (L.filter (fun j => j != i)) (fun j q => N j q && q != p) (List.length_filter_le _ _) (hL.filter _) (fun c' => by
    rw [hcount_filter]
    have e1 := hH (fun j => j != i && c' j)
    have e5 : U.countP (fun q => hNb N L (fun j => j != i && c' j) q && q != p) ≤ U.countP (hNb (fun j q => N j q && q != p) (L.filter (fun j => j != i)) c') := hcount_le U _ _ (fun q _ hq => by
      rw [Bool.and_eq_true] at hq
      obtain ⟨j, hj, hc, hn⟩ := hNb_iff.mp hq.1
      rw [Bool.and_eq_true] at hc
      exact hNb_iff.mpr ⟨j, List.mem_filter.mpr ⟨hj, hc.1⟩, hc.2, by show (N j q && q != p) = true; rw [hn, hq.2]; rfl⟩)
    have e4 := hcount_one U hU p (hNb N L (fun j => j != i && c' j))
    by_cases h : U.countP (hNb N L (fun j => j != i && c' j)) = L.countP (fun j => j != i && c' j)
    · have h2 := ht (fun j => j != i && c' j) (by simp) h
      have e6 : U.countP (fun q => hNb N L (fun j => j != i && c' j) q && q != p) = U.countP (hNb N L (fun j => j != i && c' j)) := hcount_congr U _ _ (fun q _ => by
        by_cases e : q = p
        · subst e
          rw [h2]
          rfl
        · simp [e])
      omega
    · omega)
  refine ⟨fun j => if j = i then p else m j, ⟨fun j hj => ?_, fun j hj k hk e => ?_⟩, by simp⟩
  · by_cases e : j = i
    · subst e
      simp only [if_true]
      exact ⟨hp, hn⟩
    · simp only [e, if_false]
      have := a j (List.mem_filter.mpr ⟨hj, by simp [e]⟩)
      rw [Bool.and_eq_true] at this
      exact ⟨this.1, this.2.1⟩
  · have x : ∀ j, j ∈ L → j ≠ i → m j ≠ p := fun j hj hne e => by
      have := a j (List.mem_filter.mpr ⟨hj, by simp [hne]⟩)
      rw [Bool.and_eq_true] at this
      simp [e] at this
    by_cases ej : j = i <;> by_cases ek : k = i
    · rw [ej, ek]
    · simp only [ej, ek, if_true, if_false] at e
      exact absurd e.symm (x k hk ek)
    · simp only [ej, ek, if_true, if_false] at e
      exact absurd e (x j hj ej)
    · simp only [ej, ek, if_false] at e
      exact b j (List.mem_filter.mpr ⟨hj, by simp [ej]⟩) k (List.mem_filter.mpr ⟨hk, by simp [ek]⟩) e
/-- and nobody who is given a line is needed by such a set -/
theorem hmay_of {U L : List Nat} (hL : L.Nodup) {N : Nat → Nat → Bool} {m : Nat → Nat} (hm : hMat U L N m) {i : Nat} (hi : i ∈ L) (c : Nat → Bool) (hc : c i = false) (ht : U.countP (hNb N L c) = L.countP c) : hNb N L c (m i) = false := by
  cases h : hNb N L c (m i) with
  | false => rfl
  | true =>
    exfalso
    have h1 := hcount_inj (U.filter (hNb N L c)) ((i :: L.filter c).map m) ?_ ?_
    · rw [List.length_map, List.length_cons, ← List.countP_eq_length_filter, ← List.countP_eq_length_filter, ht] at h1
      omega
    · rw [List.map_cons, List.nodup_cons]
      refine ⟨fun hx => ?_, ?_⟩
      · obtain ⟨j, hj, e⟩ := List.mem_map.mp hx
        rw [List.mem_filter] at hj
        have := hm.2 j hj.1 i hi e
        subst this
        rw [hc] at hj
        exact absurd hj.2 (by decide)
      · rw [List.nodup_iff_pairwise_ne, List.pairwise_map]
        have hp : (L.filter c).Pairwise (· ≠ ·) := (hL.filter c)
        refine List.Pairwise.imp_of_mem ?_ hp
        intro a b ha hb hab e
        exact hab (hm.2 a (List.mem_filter.mp ha).1 b (List.mem_filter.mp hb).1 e)
    · intro x hx
      obtain ⟨j, hj, rfl⟩ := List.mem_map.mp hx
      rw [List.mem_filter]
      rcases List.mem_cons.mp hj with e | e
      · subst e
        exact ⟨(hm.1 j hi).1, h⟩
      · rw [List.mem_filter] at e
        exact ⟨(hm.1 j e.1).1, hNb_iff.mpr ⟨j, e.1, e.2, (hm.1 j e.1).2⟩⟩
