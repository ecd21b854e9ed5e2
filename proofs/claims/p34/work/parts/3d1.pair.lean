/-! a clean method's run serves two towns that differ in Matching's cells alone -/
def mixM (a b : Nat → va_E) (k : Nat) : va_E := if 10 ≤ k ∧ k < 17 then b k else a k
theorem ok8_M {g : zG} {pe pe2 : Int32} {k : Nat} {e : va_E} (h : 10 ≤ k ∧ k < 17) (ho : ok8 g idn pe2 k e) : ok8 g idn pe k e := by
  have h7 : k = 10 ∨ k = 11 ∨ k = 12 ∨ k = 13 ∨ k = 14 ∨ k = 15 ∨ k = 16 := by omega
  rcases h7 with rfl | rfl | rfl | rfl | rfl | rfl | rfl <;> exact ho
theorem Inv8_mix {g : zG} {pe pe2 : Int32} {a b : Nat → va_E} (hI : Inv8 g idn pe a) (hJ : Inv8 g idn pe2 b) : Inv8 g idn pe (mixM a b) := ⟨hI.1, fun k hk => by
  unfold mixM
  by_cases c : 10 ≤ k ∧ k < 17
  · rw [if_pos c]
    exact ok8_M c (hJ.2 k hk)
  · rw [if_neg c]
    exact hI.2 k hk⟩
theorem mixM_o {a b : Nat → va_E} : ∀ k, ¬ dIn pM k → mixM a b k = a k := fun k hk => by
  unfold mixM
  rw [if_neg (fun q => hk ⟨by omega, pM_of (by omega)⟩)]
section PAIR
variable {l : Launch} {g : zG} {P : Nat → Bool} {y : MethodName} {cc : ByteArray} {mL : Nat} {rt : Option FieldType} {rm : Room} {av : List Value} {ct ct2 : Nat → va_E} {K : (Nat → va_E) → Option Value → Prop}
theorem DM.pair (hP : ∀ k, P k = true → pCl k = true) (h : ∀ k, ¬ dIn pM k → ct2 k = ct k) (hM : DM l g P false y cc mL rt rm K ct av) : ∃ (σ2 : Nat → va_E) (r : Option Value), K σ2 r ∧ (∀ k, ¬ dIn P k → σ2 k = ct k) ∧ DM l g P false y cc mL rt rm (fun c rr => rr = r ∧ c = σ2) ct av ∧ DM l g P false y cc mL rt rm (fun c rr => rr = r ∧ c = mixM σ2 ct2) ct2 av := by
  obtain ⟨σ2, r, hK, hoff, hM⟩ := hM
  refine ⟨σ2, r, hK, fun k hk => hoff k hk (fun q => Bool.noConfusion q.1), ⟨σ2, r, ⟨rfl, rfl⟩, hoff, hM⟩, ⟨mixM σ2 ct2, r, ⟨rfl, rfl⟩, fun k hk _ => ?_, fun ad sz => ?_⟩⟩
  · unfold mixM
    by_cases c : 10 ≤ k ∧ k < 17
    · rw [if_pos c]
    · rw [if_neg c, hoff k hk (fun q => Bool.noConfusion q.1)]
      exact (h k (fun q => c (of_decide_eq_true q.2))).symm
  · have e1 : ∀ a, dW P a ct2 = dW P a ct := fun a => dW_congr (noM hP h)
    have e2 : ∀ a, dW P a (mixM σ2 ct2) = dW P a σ2 := fun a => dW_congr (fun k hk => if_neg (fun q => by
      have h1 : k < 10 ∨ (17 ≤ k ∧ k < 126) := of_decide_eq_true (hP k hk.2)
      omega))
    have h1 := hM ad sz
    unfold dQ at h1 ⊢
    simpa only [e1, e2] using h1
end PAIR
