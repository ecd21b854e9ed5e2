/-! what a method answers that only reads, as a function of the cells that it can see -/
noncomputable def DR (l : Launch) (g : zG) (P : Nat → Bool) (y : MethodName) (cc : ByteArray) (mL : Nat) (rt : Option FieldType) (rm : Room) (av : List Value) (ct : Nat → va_E) (post : Int32 → Prop) : Int32 :=
  Classical.epsilon (fun r => post r ∧ DM l g P false y cc mL rt rm (fun ct2 rr => rr = some (.int r) ∧ ct = ct2) ct av)
section DRS
variable {l : Launch} {g : zG} {P : Nat → Bool} {y : MethodName} {cc : ByteArray} {mL : Nat} {rt : Option FieldType} {rm : Room} {av : List Value} {ct ct2 : Nat → va_E} {post : Int32 → Prop}
theorem DR.spec (h : DM l g P false y cc mL rt rm (fun (ct2 : Nat → va_E) (rr : Option Value) => ∃ (r : Int32), rr = some (.int r) ∧ (post r) ∧ ct = ct2) ct av) :
    DM l g P false y cc mL rt rm (fun (ct2 : Nat → va_E) (rr : Option Value) => ∃ (r : Int32), rr = some (.int r) ∧ ((r = DR l g P y cc mL rt rm av ct post) ∧ post r) ∧ ct = ct2) ct av := by
  obtain ⟨σ2, rr, ⟨r, rfl, hp, rfl⟩, hoff, hM⟩ := h
  have h2 : ∃ r, post r ∧ DM l g P false y cc mL rt rm (fun ct2 rr => rr = some (.int r) ∧ ct = ct2) ct av := ⟨r, hp, ct, some (.int r), ⟨rfl, rfl⟩, hoff, hM⟩
  obtain ⟨hp3, σ3, rr3, ⟨rfl, rfl⟩, hoff3, hM3⟩ := Classical.epsilon_spec h2
  exact ⟨ct, _, ⟨_, rfl, ⟨rfl, hp3⟩, rfl⟩, hoff3, hM3⟩
theorem DM.congr {K : Option Value → Prop} (h : ∀ k, dIn P k → ct2 k = ct k) (hM : DM l g P false y cc mL rt rm (fun c2 rr => K rr ∧ ct = c2) ct av) : DM l g P false y cc mL rt rm (fun c2 rr => K rr ∧ ct2 = c2) ct2 av := by
  obtain ⟨σ2, rr, ⟨hK, rfl⟩, hoff, hM⟩ := hM
  refine ⟨ct2, rr, ⟨hK, rfl⟩, fun _ _ _ => rfl, fun ad sz => ?_⟩
  have e : dW P ad ct2 = dW P ad ct := dW_congr h
  have h1 := hM ad sz
  unfold dQ at h1 ⊢
  simpa only [dW_congr (P := P) h] using h1
theorem DR.congr (h : ∀ k, dIn P k → ct2 k = ct k) : DR l g P y cc mL rt rm av ct2 post = DR l g P y cc mL rt rm av ct post := by
  unfold DR
  refine congrArg Classical.epsilon (funext fun r => propext ⟨fun q => ⟨q.1, ?_⟩, fun q => ⟨q.1, ?_⟩⟩)
  · exact DM.congr (K := fun rr => rr = some (.int r)) (fun k hk => (h k hk).symm) q.2
  · exact DM.congr (K := fun rr => rr = some (.int r)) h q.2
end DRS
/-- a field's int -/
def zf (k : Nat) (e : va_E) : Int32 := match e with
  | .inr (_, vs) => (match vs[k]? with | some (.int x) => x | _ => 0)
  | _ => 0
theorem noM {P : Nat → Bool} (hs : ∀ k, P k = true → pCl k = true) {ct ct2 : Nat → va_E} (h : ∀ k, ¬ dIn pM k → ct2 k = ct k) : ∀ k, dIn P k → ct2 k = ct k := fun k hk => h k (fun q => by
  have h1 : k < 10 ∨ (17 ≤ k ∧ k < 126) := of_decide_eq_true (hs k hk.2)
  have h2 : 10 ≤ k ∧ k < 17 := of_decide_eq_true q.2
  omega)
