theorem nr20r {m : Nat} (h : m ≠ 20) : nr20 (.ref m) = true := bne_iff_ne.mpr h
theorem nr20i {x : Int32} : nr20 (.int x) = true := rfl
theorem no20 {g : zG} {pe : Int32} {ct : Nat → va_E} (hI : Inv8 g idn pe ct) {k : Nat} (hk : k < 126) (h17 : k ≠ 17) {ad ad2 : Nat → Nat} (h : ∀ j, j ≠ 20 → ad2 j = ad j) : ∀ (a : Nat) (H : Heap), va_at g.1 vwCl (a, ce ad (ct k)) H → va_at g.1 vwCl (a, ce ad2 (ct k)) H := by
  intro a H hh
  by_cases a1 : k < 26
  · rcases (show k = 0 ∨ k = 1 ∨ k = 2 ∨ k = 3 ∨ k = 4 ∨ k = 5 ∨ k = 6 ∨ k = 7 ∨ k = 8 ∨ k = 9 ∨ k = 10 ∨ k = 11 ∨ k = 12 ∨ k = 13 ∨ k = 14 ∨ k = 15 ∨ k = 16 ∨ k = 18 ∨ k = 19 ∨ k = 20 ∨ k = 21 ∨ k = 22 ∨ k = 23 ∨ k = 24 ∨ k = 25 by omega) with q | q | q | q | q | q | q | q | q | q | q | q | q | q | q | q | q | q | q | q | q | q | q | q | q
    · subst q
      obtain ⟨x0, x1, hd, -, -, e1⟩ := a8_0 hI
      rw [e1] at hh ⊢
      exact va_o20 h (by simp only [List.all_cons, List.all_nil, nr20i, nr20r (show idn (1) ≠ 20 by decide), nr20r (show idn (2) ≠ 20 by decide), nr20r (show idn (3) ≠ 20 by decide), nr20r (show idn (5) ≠ 20 by decide), nr20r (show idn (6) ≠ 20 by decide), nr20r (show idn (9) ≠ 20 by decide), nr20r (show idn (10) ≠ 20 by decide), nr20r (show idn (17) ≠ 20 by decide), nr20r (show idn (21) ≠ 20 by decide), nr20r (show idn (34) ≠ 20 by decide), nr20r (show idn (99 + 3 * x1) ≠ 20 by unfold idn; omega), Bool.and_self]) hh
    · subst q
      have e1 := a8_1 hI
      rw [e1] at hh ⊢
      exact va_r20 (fun j hj => by
        unfold zF1
        rw [if_pos (by omega)]
        exact congrArg some (h _ (by show ¬ (_ : Nat) = 20; simp only [idn]; omega))) hh
    · subst q
      obtain ⟨x0, e1⟩ := a8_2 hI
      rw [e1] at hh ⊢
      exact hh
    · subst q
      obtain ⟨x0, -, -, e1⟩ := a8_3 hI
      rw [e1] at hh ⊢
      exact va_o20 h (by simp only [List.all_cons, List.all_nil, nr20i, nr20r (show idn (4) ≠ 20 by decide), Bool.and_self]) hh
    · subst q
      obtain ⟨x0, e1⟩ := a8_4 hI
      rw [e1] at hh ⊢
      exact hh
    · subst q
      have e1 := a8_5 hI
      rw [e1] at hh ⊢
      exact va_r20 (fun j hj => by
        unfold zF5
        rw [if_pos (by omega)]
        exact congrArg some (h _ (by show ¬ (_ : Nat) = 20; simp only [idn]; omega))) hh
    · subst q
      obtain ⟨x0, -, -, e1⟩ := a8_6 hI
      rw [e1] at hh ⊢
      exact va_o20 h (by simp only [List.all_cons, List.all_nil, nr20i, nr20r (show idn (7) ≠ 20 by decide), nr20r (show idn (8) ≠ 20 by decide), Bool.and_self]) hh
    · subst q
      obtain ⟨x0, e1⟩ := a8_7 hI
      rw [e1] at hh ⊢
      exact hh
    · subst q
      obtain ⟨x0, e1⟩ := a8_8 hI
      rw [e1] at hh ⊢
      exact hh
    · subst q
      obtain ⟨x0, hf, e1⟩ := a8_9 hI
      rw [e1] at hh ⊢
      exact va_r20 (fun j hj => by
        obtain ⟨q, hq, hq2⟩ := hf j hj
        rw [hq2]
        show some (ad2 (99 + 3 * q)) = some (ad (99 + 3 * q))
        rw [h (99 + 3 * q) (by omega)]) hh
    · subst q
      obtain ⟨x0, x1, x2, x3, -, -, -, -, e1⟩ := a8_10 hI
      rw [e1] at hh ⊢
      exact va_o20 h (by simp only [List.all_cons, List.all_nil, nr20i, nr20r (show idn (11) ≠ 20 by decide), nr20r (show idn (12) ≠ 20 by decide), nr20r (show idn (13) ≠ 20 by decide), nr20r (show idn (14) ≠ 20 by decide), nr20r (show idn (15) ≠ 20 by decide), nr20r (show idn (16) ≠ 20 by decide), Bool.and_self]) hh
    · subst q
      obtain ⟨x0, e1⟩ := a8_11 hI
      rw [e1] at hh ⊢
      exact hh
    · subst q
      obtain ⟨x0, -, e1⟩ := a8_12 hI
      rw [e1] at hh ⊢
      exact hh
    · subst q
      obtain ⟨x0, -, e1⟩ := a8_13 hI
      rw [e1] at hh ⊢
      exact hh
    · subst q
      obtain ⟨x0, -, e1⟩ := a8_14 hI
      rw [e1] at hh ⊢
      exact hh
    · subst q
      obtain ⟨x0, e1⟩ := a8_15 hI
      rw [e1] at hh ⊢
      exact hh
    · subst q
      obtain ⟨x0, e1⟩ := a8_16 hI
      rw [e1] at hh ⊢
      exact hh
    · subst q
      obtain ⟨x0, e1⟩ := a8_18 hI
      rw [e1] at hh ⊢
      exact hh
    · subst q
      obtain ⟨x0, e1⟩ := a8_19 hI
      rw [e1] at hh ⊢
      exact hh
    · subst q
      obtain ⟨x0, x1, -, -, e1⟩ := a8_20 hI
      rw [e1] at hh ⊢
      exact hh
    · subst q
      obtain ⟨x0, x1, x2, -, -, e1⟩ := a8_21 hI
      rw [e1] at hh ⊢
      exact va_o20 h (by simp only [List.all_cons, List.all_nil, nr20i, nr20r (show idn (22) ≠ 20 by decide), nr20r (show idn (23) ≠ 20 by decide), nr20r (show idn (24) ≠ 20 by decide), nr20r (show idn (25) ≠ 20 by decide), Bool.and_self]) hh
    · subst q
      have e1 := a8_22 hI
      rw [e1] at hh ⊢
      exact va_r20 (fun j hj => by
        unfold zF22
        rw [if_pos (by omega)]
        exact congrArg some (h _ (by show ¬ (_ : Nat) = 20; simp only [idn]; omega))) hh
    · subst q
      have e1 := a8_23 hI
      rw [e1] at hh ⊢
      exact va_r20 (fun j hj => by
        unfold zF23
        rw [if_pos (by omega)]
        exact congrArg some (h _ (by show ¬ (_ : Nat) = 20; simp only [idn]; omega))) hh
    · subst q
      obtain ⟨x0, e1⟩ := a8_24 hI
      rw [e1] at hh ⊢
      exact hh
    · subst q
      obtain ⟨x0, -, e1⟩ := a8_25 hI
      rw [e1] at hh ⊢
      exact hh
  · by_cases a2 : k < 34
    · obtain ⟨x0, e1⟩ := a8_26 (kc := k) (by omega) hI
      rw [e1] at hh ⊢
      exact hh
    · by_cases a3 : k = 34
      · subst a3
        obtain ⟨x0, e1⟩ := a8_34 hI
        rw [e1] at hh ⊢
        exact hh
      · by_cases a4 : k < 55
        · rcases (show (k - 35) % 5 = 0 ∨ (k - 35) % 5 = 1 ∨ (k - 35) % 5 = 2 ∨ (k - 35) % 5 = 3 ∨ (k - 35) % 5 = 4 by omega) with q | q | q | q | q
          · obtain ⟨x0, x1, -, -, e1⟩ := a8_35 (kc := k) (by omega) hI
            rw [e1] at hh ⊢
            exact va_o20 h (by simp only [List.all_cons, List.all_nil, nr20i, nr20r (show idn (k + 1) ≠ 20 by unfold idn; omega), nr20r (show idn (k + 2) ≠ 20 by unfold idn; omega), nr20r (show idn (k + 3) ≠ 20 by unfold idn; omega), nr20r (show idn (k + 4) ≠ 20 by unfold idn; omega), Bool.and_self]) hh
          · have ek : k - 1 + 1 = k := by omega
            have q9 := a8_36 (kc := k - 1) (by omega) hI
            rw [ek] at q9
            obtain ⟨x0, e1⟩ := q9
            rw [e1] at hh ⊢
            exact hh
          · have ek : k - 2 + 2 = k := by omega
            have q9 := a8_37 (kc := k - 2) (by omega) hI
            rw [ek] at q9
            obtain ⟨x0, e1⟩ := q9
            rw [e1] at hh ⊢
            exact hh
          · have ek : k - 3 + 3 = k := by omega
            have q9 := a8_38 (kc := k - 3) (by omega) hI
            rw [ek] at q9
            obtain ⟨x0, e1⟩ := q9
            rw [e1] at hh ⊢
            exact hh
          · have ek : k - 4 + 4 = k := by omega
            have q9 := a8_39 (kc := k - 4) (by omega) hI
            rw [ek] at q9
            obtain ⟨x0, e1⟩ := q9
            rw [e1] at hh ⊢
            exact hh
        · by_cases a5 : k < 99
          · rcases (show (k - 55) % 11 = 0 ∨ (k - 55) % 11 = 1 ∨ (k - 55) % 11 = 2 ∨ 3 ≤ (k - 55) % 11 by omega) with q | q | q | q
            · obtain ⟨x0, x1, x2, -, -, -, -, -, -, e1⟩ := a8_40 (kc := k) (by omega) hI
              rw [e1] at hh ⊢
              exact va_o20 h (by simp only [List.all_cons, List.all_nil, nr20i, nr20r (show idn (k + 1) ≠ 20 by unfold idn; omega), nr20r (show idn (k + 2) ≠ 20 by unfold idn; omega), Bool.and_self]) hh
            · have ek : k - 1 + 1 = k := by omega
              have q9 := a8_41 (kc := k - 1) (by omega) hI
              rw [ek] at q9
              obtain ⟨x0, e1⟩ := q9
              rw [e1] at hh ⊢
              exact hh
            · have ek : k - 2 + 2 = k := by omega
              have q9 := a8_42 (kc := k - 2) (by omega) hI
              rw [ek] at q9
              have e1 := q9
              rw [e1] at hh ⊢
              exact va_r20 (fun j hj => by
                unfold zF42
                rw [if_pos (by omega)]
                exact congrArg some (h _ (by show ¬ (_ : Nat) = 20; simp only [idn]; omega))) hh
            · obtain ⟨x0, e1⟩ := a8_43 (kc := k) (by omega) hI
              rw [e1] at hh ⊢
              exact hh
          · rcases (show (k - 99) % 3 = 0 ∨ (k - 99) % 3 = 1 ∨ (k - 99) % 3 = 2 by omega) with q | q | q
            · obtain ⟨x0, x1, x2, x3, x4, x5, x6, x7, x8, -, -, -, -, -, -, e1⟩ := a8_44 (kc := k) (by omega) hI
              rw [e1] at hh ⊢
              exact va_o20 h (by simp only [List.all_cons, List.all_nil, nr20i, nr20r (show idn (k + 1) ≠ 20 by unfold idn; omega), nr20r (show idn (k + 2) ≠ 20 by unfold idn; omega), Bool.and_self]) hh
            · have ek : k - 1 + 1 = k := by omega
              have q9 := a8_45 (kc := k - 1) (by omega) hI
              rw [ek] at q9
              obtain ⟨x0, e1⟩ := q9
              rw [e1] at hh ⊢
              exact hh
            · have ek : k - 2 + 2 = k := by omega
              have q9 := a8_46 (kc := k - 2) (by omega) hI
              rw [ek] at q9
              obtain ⟨x0, e1⟩ := q9
              rw [e1] at hh ⊢
              exact hh
