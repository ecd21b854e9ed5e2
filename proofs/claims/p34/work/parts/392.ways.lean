/-! in how many ways lines can be given: one of the people after the other, to a line or to none -/
theorem hb_sub : ∀ s, s < 256 → ∀ i, i < 8 → s.testBit i = true → 2 ^ i ≤ s ∧ ∀ k, k < 8 → (s - 2 ^ i).testBit k = (s.testBit k && k != i) := by decide +kernel
theorem hb_add : ∀ t, t < 256 → ∀ j, j < 8 → t.testBit j = false → t + 2 ^ j < 256 ∧ ∀ k, k < 8 → (t + 2 ^ j).testBit k = (t.testBit k || k == j) := by decide +kernel
theorem hb_pow : ∀ i, i < 8 → ∀ j, j < 8 → 2 ^ i = 2 ^ j → i = j := by decide +kernel
theorem hb_0 : ∀ s, s < 256 → (∀ k, k < 8 → s.testBit k = false) → s = 0 := by decide +kernel
theorem hb_lt : ∀ n, n < 9 → 2 ^ n ≤ 256 := by decide +kernel
theorem hb_out : ∀ n, n < 9 → ∀ s, s < 2 ^ n → ∀ k, k < 8 → n ≤ k → s.testBit k = false := by decide +kernel
def gvI (fb : Nat → Bool) (t : Nat) (W : Nat → Nat) : Nat → Nat → Nat
  | 0 => W
  | i + 1 => fun s => if (fb i && !t.testBit i) = true ∧ s = t + 2 ^ i then gvI fb t W i s + gvI fb t W i t else gvI fb t W i s
theorem gvI_t (fb : Nat → Bool) (t : Nat) (W : Nat → Nat) : ∀ i, gvI fb t W i t = W t
  | 0 => rfl
  | i + 1 => by
    have : t ≠ t + 2 ^ i := by
      have := Nat.two_pow_pos i
      omega
    show (if _ ∧ t = t + 2 ^ i then _ else _) = _
    rw [if_neg (fun h => this h.2)]
    exact gvI_t fb t W i
theorem gvI_no (fb : Nat → Bool) (t : Nat) (W : Nat → Nat) (s : Nat) : ∀ i, (∀ k, k < i → (fb k && !t.testBit k) = true → s ≠ t + 2 ^ k) → gvI fb t W i s = W s
  | 0, _ => rfl
  | i + 1, h => by
    show (if _ ∧ s = t + 2 ^ i then _ else _) = _
    rw [if_neg (fun q => h i (by omega) q.1 q.2)]
    exact gvI_no fb t W s i (fun k hk => h k (by omega))
theorem gvI_yes (fb : Nat → Bool) (t : Nat) (W : Nat → Nat) (s j : Nat) (hj : j < 8) (hf : (fb j && !t.testBit j) = true) (hs : s = t + 2 ^ j) : ∀ i, i ≤ 8 → j < i → gvI fb t W i s = W s + W t
  | 0, _, h => absurd h (Nat.not_lt_zero _)
  | i + 1, h8, h => by
    show (if _ ∧ s = t + 2 ^ i then _ else _) = _
    by_cases e : i = j
    · subst e
      rw [if_pos ⟨hf, hs⟩, gvI_t, gvI_no fb t W s i (fun k hk _ q => by
        have := hb_pow k (by omega) i (by omega) (by omega)
        omega)]
    · rw [if_neg (fun q => e (hb_pow i (by omega) j hj (by have := q.2; omega)))]
      exact gvI_yes fb t W s j hj hf hs i (by omega) (by omega)
def gvS (fb : Nat → Bool) (n : Nat) (W : Nat → Nat) : Nat → Nat → Nat
  | 0 => W
  | k + 1 => gvI fb (2 ^ n - 1 - k) (gvS fb n W k) n
def hsumR : Nat → (Nat → Nat) → Nat
  | 0, _ => 0
  | n + 1, f => hsumR n f + f n
theorem hsumR_congr {f g : Nat → Nat} : ∀ {n : Nat}, (∀ i, i < n → f i = g i) → hsumR n f = hsumR n g
  | 0, _ => rfl
  | n + 1, h => by
    show hsumR n f + f n = hsumR n g + g n
    rw [hsumR_congr (fun i hi => h i (by omega)), h n (by omega)]
theorem hsumR_one {f g : Nat → Nat} {w j : Nat} (hf : f j = g j + w) : ∀ {n : Nat}, j < n → (∀ i, i < n → i ≠ j → f i = g i) → hsumR n f = hsumR n g + w
  | 0, h, _ => absurd h (Nat.not_lt_zero _)
  | n + 1, h, hn => by
    show hsumR n f + f n = hsumR n g + g n + w
    by_cases e : n = j
    · subst e
      rw [hsumR_congr (fun i hi => hn i (by omega) (by omega)), hf]
      omega
    · rw [hsumR_one hf (by omega) (fun i hi => hn i (by omega)), hn n (by omega) e]
      omega
theorem hsumR_0 {f : Nat → Nat} : ∀ {n : Nat}, (∀ i, i < n → f i = 0) → hsumR n f = 0
  | 0, _ => rfl
  | n + 1, h => by
    show hsumR n f + f n = 0
    rw [hsumR_0 (fun i hi => h i (by omega)), h n (by omega)]
theorem hsumR_le {f : Nat → Nat} {B : Nat} : ∀ {n : Nat}, (∀ i, i < n → f i ≤ B) → hsumR n f ≤ n * B
  | 0, _ => by simp [hsumR]
  | n + 1, h => by
    show hsumR n f + f n ≤ (n + 1) * B
    have h1 := hsumR_le (n := n) (fun i hi => h i (by omega))
    have h2 := h n (by omega)
    rw [Nat.succ_mul]
    omega
theorem hsumR_pos {f : Nat → Nat} : ∀ {n : Nat}, 0 < hsumR n f ↔ ∃ i, i < n ∧ 0 < f i
  | 0 => by simp [hsumR]
  | n + 1 => by
    show 0 < hsumR n f + f n ↔ _
    have ih := hsumR_pos (f := f) (n := n)
    constructor
    · intro h
      by_cases h1 : 0 < hsumR n f
      · obtain ⟨i, hi, hf⟩ := ih.mp h1
        exact ⟨i, by omega, hf⟩
      · exact ⟨n, by omega, by omega⟩
    · rintro ⟨i, hi, hf⟩
      by_cases e : i = n
      · subst e
        omega
      · have := ih.mpr ⟨i, by omega, hf⟩
        omega
def hterm (fb : Nat → Bool) (n : Nat) (W : Nat → Nat) (k s i : Nat) : Nat := if (fb i && s.testBit i) = true ∧ 2 ^ n ≤ s - 2 ^ i + k then W (s - 2 ^ i) else 0
theorem gvS_eq {fb : Nat → Bool} {n : Nat} (hn : n < 9) {W : Nat → Nat} : ∀ k, k ≤ 2 ^ n → ∀ s, s < 2 ^ n → gvS fb n W k s = W s + hsumR n (hterm fb n W k s)
  | 0, _, s, hs => by
    rw [hsumR_0 (f := hterm fb n W 0 s) (fun i _ => by unfold hterm; exact if_neg (fun h => by have h1 := h.2; have h2 := Nat.two_pow_pos i; omega))]
    rfl
  | k + 1, hk, s, hs => by
    have h8 := hb_lt n hn
    have ih := gvS_eq (fb := fb) hn (W := W) k (by omega)
    show gvI fb (2 ^ n - 1 - k) (gvS fb n W k) n s = _
    generalize ht : 2 ^ n - 1 - k = t
    have hVt : gvS fb n W k t = W t := by
      rw [ih t (by omega), hsumR_0 (f := hterm fb n W k t) (fun i hi => ?_)]
      · rfl
      · unfold hterm
        refine if_neg (fun h => ?_)
        have h1 := h.1
        rw [Bool.and_eq_true] at h1
        have h2 := (hb_sub t (by omega) i (by omega) h1.2).1
        have h3 := h.2
        have := Nat.two_pow_pos i
        omega
    by_cases hj : ∃ j, j < n ∧ (fb j && !t.testBit j) = true ∧ s = t + 2 ^ j
    · obtain ⟨j, hjn, hf, hs2⟩ := hj
      rw [gvI_yes fb t _ s j (by omega) hf hs2 n (by omega) hjn, ih s hs, hVt]
      have hf2 := hf
      rw [Bool.and_eq_true] at hf2
      have htb : t.testBit j = false := by simpa using hf2.2
      have hsb : s.testBit j = true := by
        rw [hs2, (hb_add t (by omega) j (by omega) htb).2 j (by omega)]
        simp
      have e1 : hterm fb n W (k + 1) s j = hterm fb n W k s j + W t := by
        unfold hterm
        rw [if_pos ⟨by rw [hf2.1, hsb]; rfl, by omega⟩, if_neg (fun h => by have := h.2; omega), show s - 2 ^ j = t by omega, Nat.zero_add]
      rw [hsumR_one e1 hjn (fun i hi hne => ?_)]
      · omega
      · unfold hterm
        by_cases hc : (fb i && s.testBit i) = true
        · have hc2 := hc
          rw [Bool.and_eq_true] at hc2
          have h2 := (hb_sub s (by omega) i (by omega) hc2.2).1
          have h3 : s - 2 ^ i ≠ t := fun q => hne (hb_pow i (by omega) j (by omega) (by omega))
          by_cases hd : 2 ^ n ≤ s - 2 ^ i + k
          · rw [if_pos ⟨hc, by omega⟩, if_pos ⟨hc, hd⟩]
          · rw [if_neg (fun q => by have := q.2; omega), if_neg (fun q => hd q.2)]
        · rw [if_neg (fun q => hc q.1), if_neg (fun q => hc q.1)]
    · rw [gvI_no fb t _ s n (fun j hjn hf q => hj ⟨j, hjn, hf, q⟩), ih s hs]
      refine congrArg (W s + ·) (hsumR_congr (fun i hi => ?_))
      unfold hterm
      by_cases hc : (fb i && s.testBit i) = true
      · have hc2 := hc
        rw [Bool.and_eq_true] at hc2
        obtain ⟨h2, h4⟩ := hb_sub s (by omega) i (by omega) hc2.2
        have h3 : s - 2 ^ i ≠ t := fun q => hj ⟨i, hi, by
          have := h4 i (by omega)
          rw [q] at this
          rw [hc2.1, this]
          simp, by omega⟩
        by_cases hd : 2 ^ n ≤ s - 2 ^ i + k
        · rw [if_pos ⟨hc, hd⟩, if_pos ⟨hc, by omega⟩]
        · rw [if_neg (fun q => hd q.2), if_neg (fun q => by have := q.2; omega)]
      · rw [if_neg (fun q => hc q.1), if_neg (fun q => hc q.1)]
def gvP (F : Nat → Nat → Bool) (n : Nat) : Nat → Nat → Nat
  | 0 => fun s => if s = 0 then 1 else 0
  | p + 1 => gvS (fun i => F i p) n (gvP F n p) (2 ^ n)
theorem gvP_eq {F : Nat → Nat → Bool} {n : Nat} (hn : n < 9) (p s : Nat) (hs : s < 2 ^ n) : gvP F n (p + 1) s = gvP F n p s + hsumR n (fun i => if (F i p && s.testBit i) = true then gvP F n p (s - 2 ^ i) else 0) := by
  show gvS (fun i => F i p) n (gvP F n p) (2 ^ n) s = _
  rw [gvS_eq hn (2 ^ n) (Nat.le_refl _) s hs]
  refine congrArg (_ + ·) (hsumR_congr (fun i hi => ?_))
  unfold hterm
  by_cases h : (F i p && s.testBit i) = true
  · rw [if_pos h, if_pos ⟨h, by omega⟩]
  · rw [if_neg h, if_neg (fun q => h q.1)]
theorem gvP_le {F : Nat → Nat → Bool} {n : Nat} (hn : n < 9) : ∀ p s, s < 2 ^ n → gvP F n p s ≤ 9 ^ p
  | 0, s, _ => by
    show (if s = 0 then 1 else 0) ≤ 1
    split <;> omega
  | p + 1, s, hs => by
    rw [gvP_eq hn p s hs]
    have h1 := gvP_le (F := F) hn p s hs
    have h2 : hsumR n (fun i => if (F i p && s.testBit i) = true then gvP F n p (s - 2 ^ i) else 0) ≤ n * 9 ^ p := hsumR_le (fun i hi => by
      show (if _ then _ else _) ≤ _
      have h9 := Nat.two_pow_pos i
      split
      · exact gvP_le hn p _ (by omega)
      · exact Nat.zero_le _)
    have h3 : n * 9 ^ p ≤ 8 * 9 ^ p := Nat.mul_le_mul_right _ (by omega)
    rw [Nat.pow_succ]
    omega
/-- there is a way just if there is a giving -/
theorem gvP_pos {F : Nat → Nat → Bool} {n : Nat} (hn : n < 9) : ∀ p s, s < 2 ^ n → (0 < gvP F n p s ↔ ∃ m : Nat → Nat, (∀ i, i < n → s.testBit i = true → m i < p ∧ F i (m i) = true) ∧ ∀ i j, i < n → j < n → s.testBit i = true → s.testBit j = true → m i = m j → i = j)
  | 0, s, hs => by
    have h8 := hb_lt n hn
    show 0 < (if s = 0 then 1 else 0) ↔ _
    constructor
    · intro h
      have : s = 0 := by
        by_cases e : s = 0
        · exact e
        · rw [if_neg e] at h
          omega
      subst this
      exact ⟨fun _ => 0, fun i _ h => by simp at h, fun i j _ _ h => by simp at h⟩
    · rintro ⟨m, a, -⟩
      have : s = 0 := hb_0 s (by omega) (fun k hk => by
        by_cases hkn : k < n
        · cases h : s.testBit k with
          | false => rfl
          | true => exact absurd (a k hkn h).1 (Nat.not_lt_zero _)
        · exact hb_out n hn s hs k hk (by omega))
      rw [if_pos this]
      omega
  | p + 1, s, hs => by
    have h8 := hb_lt n hn
    rw [gvP_eq hn p s hs]
    have ih := gvP_pos (F := F) hn p
    have key : 0 < hsumR n (fun i => if (F i p && s.testBit i) = true then gvP F n p (s - 2 ^ i) else 0) ↔ ∃ i, i < n ∧ F i p = true ∧ s.testBit i = true ∧ 0 < gvP F n p (s - 2 ^ i) := by
      rw [hsumR_pos]
      constructor
      · rintro ⟨i, hi, h⟩
        by_cases hc : (F i p && s.testBit i) = true
        · rw [if_pos hc] at h
          rw [Bool.and_eq_true] at hc
          exact ⟨i, hi, hc.1, hc.2, h⟩
        · rw [if_neg hc] at h
          omega
      · rintro ⟨i, hi, h1, h2, h3⟩
        exact ⟨i, hi, by rw [if_pos (by rw [h1, h2]; rfl)]; exact h3⟩
    constructor
    · intro h
      by_cases h1 : 0 < gvP F n p s
      · obtain ⟨m, a, b⟩ := (ih s hs).mp h1
        exact ⟨m, fun i hi hb => ⟨by have := (a i hi hb).1; omega, (a i hi hb).2⟩, b⟩
      · obtain ⟨i0, hi0, hf, hb0, hw⟩ := key.mp (by omega)
        have h9 := Nat.two_pow_pos i0
        obtain ⟨h2, h4⟩ := hb_sub s (by omega) i0 (by omega) hb0
        obtain ⟨m, a, b⟩ := (ih (s - 2 ^ i0) (by omega)).mp hw
        have bit : ∀ i, i < n → s.testBit i = true → i ≠ i0 → (s - 2 ^ i0).testBit i = true := fun i hi hb hne => by
          rw [h4 i (by omega), hb]
          simp [hne]
        refine ⟨fun i => if i = i0 then p else m i, fun i hi hb => ?_, fun i j hi hj hbi hbj e => ?_⟩
        · by_cases e : i = i0
          · subst e
            simp only [if_true]
            exact ⟨by omega, hf⟩
          · simp only [e, if_false]
            have := a i hi (bit i hi hb e)
            exact ⟨by omega, this.2⟩
        · by_cases ei : i = i0 <;> by_cases ej : j = i0
          · rw [ei, ej]
          · simp only [ei, ej, if_true, if_false] at e
            have := (a j hj (bit j hj hbj ej)).1
            omega
          · simp only [ei, ej, if_true, if_false] at e
            have := (a i hi (bit i hi hbi ei)).1
            omega
          · simp only [ei, ej, if_false] at e
            exact b i j hi hj (bit i hi hbi ei) (bit j hj hbj ej) e
    · rintro ⟨m, a, b⟩
      by_cases hx : ∃ i, i < n ∧ s.testBit i = true ∧ m i = p
      · obtain ⟨i0, hi0, hb0, hm0⟩ := hx
        have h9 := Nat.two_pow_pos i0
        obtain ⟨h2, h4⟩ := hb_sub s (by omega) i0 (by omega) hb0
        have bit : ∀ i, i < n → (s - 2 ^ i0).testBit i = true → s.testBit i = true ∧ i ≠ i0 := fun i hi hb => by
          rw [h4 i (by omega), Bool.and_eq_true] at hb
          exact ⟨hb.1, by simpa using hb.2⟩
        have := key.mpr ⟨i0, hi0, by have := (a i0 hi0 hb0).2; rw [hm0] at this; exact this, hb0, (ih (s - 2 ^ i0) (by omega)).mpr ⟨m, fun i hi hb => by
          obtain ⟨q1, q2⟩ := bit i hi hb
          have q3 := a i hi q1
          have q4 : m i ≠ p := fun e => q2 (b i i0 hi hi0 q1 hb0 (e.trans hm0.symm))
          exact ⟨by omega, q3.2⟩, fun i j hi hj hbi hbj e => b i j hi hj (bit i hi hbi).1 (bit j hj hbj).1 e⟩⟩
        omega
      · have := (ih s hs).mpr ⟨m, fun i hi hb => by
          have q3 := a i hi hb
          have q4 : m i ≠ p := fun e => hx ⟨i, hi, hb, e⟩
          exact ⟨by omega, q3.2⟩, b⟩
        omega
def i64 (n : Nat) : Int64 := Int64.ofNat n
theorem i64_add (a b : Nat) : i64 (a + b) = i64 a + i64 b := Int64.ofNat_add a b
theorem i64_toInt {n : Nat} (h : n < 9223372036854775808) : (i64 n).toInt = (n : Int) := by
  have h2 : 2 ^ 63 = 9223372036854775808 := by decide
  exact lg_ofNat_toInt (by omega)
theorem i64_0 {n : Nat} (h : n < 9223372036854775808) (h0 : i64 n = 0) : n = 0 := by
  have h1 := i64_toInt h
  rw [h0] at h1
  have h2 : (0 : Int64).toInt = 0 := by decide
  omega
theorem gvI_zero {fb : Nat → Bool} {t : Nat} {W : Nat → Nat} (h : W t = 0) (s : Nat) : ∀ i, gvI fb t W i s = W s
  | 0 => rfl
  | i + 1 => by
    show (if _ ∧ s = t + 2 ^ i then _ else _) = _
    rw [gvI_t, h, gvI_zero h s i]
    split <;> rfl
theorem gvS_le {fb : Nat → Bool} {n : Nat} (hn : n < 9) {W : Nat → Nat} {B : Nat} (hW : ∀ s, s < 2 ^ n → W s ≤ B) (k : Nat) (hk : k ≤ 2 ^ n) (s : Nat) (hs : s < 2 ^ n) : gvS fb n W k s ≤ 9 * B := by
  rw [gvS_eq hn k hk s hs]
  have h1 := hW s hs
  have h2 : hsumR n (hterm fb n W k s) ≤ n * B := hsumR_le (fun i hi => by
    unfold hterm
    have h9 := Nat.two_pow_pos i
    split
    · exact hW _ (by omega)
    · exact Nat.zero_le _)
  have h3 : n * B ≤ 8 * B := Nat.mul_le_mul_right _ (by omega)
  omega
theorem hp9 : 9 ^ 16 * 9 < 9223372036854775808 := by decide +kernel
theorem gvS_lt {F : Nat → Nat → Bool} {n : Nat} (hn : n < 9) {p : Nat} (hp : p ≤ 16) {fb : Nat → Bool} (k : Nat) (hk : k ≤ 2 ^ n) (s : Nat) (hs : s < 2 ^ n) : gvS fb n (gvP F n p) k s < 9223372036854775808 := by
  have h1 := gvS_le (fb := fb) hn (fun s hs => gvP_le (F := F) hn p s hs) k hk s hs
  have h2 : 9 ^ p ≤ 9 ^ 16 := Nat.pow_le_pow_right (by decide) hp
  have h3 := hp9
  omega
theorem gvP_lt {F : Nat → Nat → Bool} {n : Nat} (hn : n < 9) {p : Nat} (hp : p ≤ 16) (s : Nat) (hs : s < 2 ^ n) : gvP F n p s < 9223372036854775808 := by
  have h1 := gvP_le (F := F) hn p s hs
  have h2 : 9 ^ p ≤ 9 ^ 16 := Nat.pow_le_pow_right (by decide) hp
  have h3 := hp9
  omega
theorem z_orB : ∀ i, i < 8 → ∀ t, t < 256 → t.testBit i = false → (nI t ||| ((1 : Int32) <<< (nI i &&& 31))) = nI (t + 2 ^ i) := by decide +kernel
theorem hb_addlt : ∀ n, n < 9 → ∀ t, t < 2 ^ n → ∀ i, i < n → t.testBit i = false → t + 2 ^ i < 2 ^ n := by decide +kernel
theorem updL_same {f : Nat → Int64} {k : Nat} {v : Int64} : vp_updL f k v k = v := by
  unfold vp_updL
  rw [if_pos rfl]
theorem updL_other {f : Nat → Int64} {k i : Nat} {v : Int64} (h : i ≠ k) : vp_updL f k v i = f i := by
  unfold vp_updL
  rw [if_neg h]
/-- one line more for one PERSON: skipped, or given -/
theorem gvI_skip {fb : Nat → Bool} {t i : Nat} {W : Nat → Nat} (h : fb i = false ∨ t.testBit i = true) (s : Nat) : gvI fb t W (i + 1) s = gvI fb t W i s := by
  show (if _ ∧ s = t + 2 ^ i then _ else _) = _
  rw [if_neg (fun q => by
    have q1 := q.1
    rcases h with h | h <;> rw [h] at q1 <;> simp at q1)]
theorem gvI_give {fb : Nat → Bool} {t i n : Nat} {W : Nat → Nat} {f : Nat → Int64} {a b : Int64} {k : Nat} (hf : ∀ s, s < 2 ^ n → f s = i64 (gvI fb t W i s)) (h1 : fb i = true) (h2 : t.testBit i = false) (ht : t < 2 ^ n) (hk : k = t + 2 ^ i) (hkn : k < 2 ^ n) (ha : a = f k) (hb : b = f t) : ∀ s, s < 2 ^ n → vp_updL f k (a + b) s = i64 (gvI fb t W (i + 1) s) := fun s hs => by
  show _ = i64 (if (fb i && !t.testBit i) = true ∧ s = t + 2 ^ i then gvI fb t W i s + gvI fb t W i t else gvI fb t W i s)
  by_cases e : s = k
  · subst e
    rw [updL_same, if_pos ⟨by rw [h1, h2]; rfl, hk⟩, i64_add, ha, hb, hf _ hs, hf _ ht]
  · rw [updL_other e, if_neg (fun q => e (q.2.trans hk.symm)), hf s hs]
