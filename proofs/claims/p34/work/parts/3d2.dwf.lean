/-! a clean method that writes, as a function of the clean cells: its answer, and what lies there afterwards -/
noncomputable def dirt (g : zG) : Nat → va_E := Classical.epsilon (fun d => ∀ k, 10 ≤ k ∧ k < 17 → ok8 g idn 0 k (d k))
theorem dirt_ok {g : zG} {pe : Int32} {ct : Nat → va_E} (hI : Inv8 g idn pe ct) : ∀ k, 10 ≤ k ∧ k < 17 → ok8 g idn 0 k (dirt g k) :=
  Classical.epsilon_spec (p := fun d => ∀ k, 10 ≤ k ∧ k < 17 → ok8 g idn 0 k (d k)) ⟨ct, fun k hk => ok8_M hk (hI.2 k (by omega))⟩
/-- the town with Matching's cells as nobody left them -/
noncomputable def cln (g : zG) (ct : Nat → va_E) : Nat → va_E := mixM ct (dirt g)
theorem cln_eq {g : zG} {ct ct2 : Nat → va_E} (h : ∀ k, ¬ dIn pM k → ct2 k = ct k) : cln g ct2 = cln g ct := funext fun k => by
  unfold cln mixM
  by_cases c : 10 ≤ k ∧ k < 17
  · rw [if_pos c, if_pos c]
  · rw [if_neg c, if_neg c]
    exact h k (fun q => c (of_decide_eq_true q.2))
theorem cln_o {g : zG} {ct : Nat → va_E} : ∀ k, ¬ dIn pM k → cln g ct k = ct k := mixM_o
theorem cln_I {g : zG} {pe : Int32} {ct : Nat → va_E} (hI : Inv8 g idn pe ct) : Inv8 g idn pe (cln g ct) := ⟨hI.1, fun k hk => by
  unfold cln mixM
  by_cases c : 10 ≤ k ∧ k < 17
  · rw [if_pos c]
    exact ok8_M c (dirt_ok hI k c)
  · rw [if_neg c]
    exact hI.2 k hk⟩
noncomputable def DWF (l : Launch) (g : zG) (P : Nat → Bool) (y : MethodName) (cc : ByteArray) (mL : Nat) (rt : Option FieldType) (rm : Room) (av : List Value) (K : (Nat → va_E) → Option Value → Prop) (ct : Nat → va_E) : (Nat → va_E) × Option Value :=
  Classical.epsilon (fun x : (Nat → va_E) × Option Value => K x.1 x.2 ∧ (∀ k, ¬ dIn P k → x.1 k = ct k) ∧ DM l g P false y cc mL rt rm (fun c rr => rr = x.2 ∧ c = x.1) ct av)
section DWS
variable {l : Launch} {g : zG} {P : Nat → Bool} {y : MethodName} {cc : ByteArray} {mL : Nat} {rt : Option FieldType} {rm : Room} {av : List Value} {ct : Nat → va_E} {K : (Nat → va_E) → Option Value → Prop}
theorem DWF.spec (hP : ∀ k, P k = true → pCl k = true) (hM : DM l g P false y cc mL rt rm K (cln g ct) av) :
    K (DWF l g P y cc mL rt rm av K (cln g ct)).1 (DWF l g P y cc mL rt rm av K (cln g ct)).2 ∧ (∀ k, ¬ dIn P k → (DWF l g P y cc mL rt rm av K (cln g ct)).1 k = cln g ct k) ∧
    DM l g P false y cc mL rt rm (fun c rr => rr = (DWF l g P y cc mL rt rm av K (cln g ct)).2 ∧ c = mixM (DWF l g P y cc mL rt rm av K (cln g ct)).1 ct) ct av := by
  have he : ∃ x : (Nat → va_E) × Option Value, K x.1 x.2 ∧ (∀ k, ¬ dIn P k → x.1 k = cln g ct k) ∧ DM l g P false y cc mL rt rm (fun c rr => rr = x.2 ∧ c = x.1) (cln g ct) av := by
    obtain ⟨σ2, r, hK, hoff, h1, -⟩ := DM.pair hP (fun _ _ => rfl) hM
    exact ⟨(σ2, r), hK, hoff, h1⟩
  obtain ⟨a, b, c⟩ := Classical.epsilon_spec he
  refine ⟨a, b, ?_⟩
  obtain ⟨σ3, r3, ⟨e1, e2⟩, -, -, h3⟩ := DM.pair hP (fun k hk => (cln_o k hk).symm) c
  rw [e1, e2] at h3
  exact h3
end DWS
