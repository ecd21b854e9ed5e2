/-! swap and exchange as functions of the clean cells -/
def rI (x : Option Value) : Int32 := match x with
  | some (.int r) => r
  | _ => 0
def KSW (g : zG) (pe : Int32) (ct2 : Nat → va_E) (rr : Option Value) : Prop := ∃ (r : Int32), rr = some (.int r) ∧ ((r = 1) ∨ (r = 0)) ∧ Inv8 g idn pe ct2
def KEX (g : zG) (pe : Int32) (ct2 : Nat → va_E) (rr : Option Value) : Prop := rr = none ∧ Inv8 g idn pe ct2
noncomputable def wSwap (l : Launch) (g : zG) (pe : Int32) (ct : Nat → va_E) (b i j c0 : Int32) : (Nat → va_E) × Option Value := DWF l g pCl yX8_swap cX8_swap 5 (some .boolean) ({ frames := 3, cells := 0, slots := 0, locals := 69 }) [.ref 0, .int b, .int i, .int j, .int c0] (KSW g pe) (cln g ct)
noncomputable def wExch (l : Launch) (g : zG) (pe : Int32) (ct : Nat → va_E) (kb : Nat) (i j c0 : Int32) : (Nat → va_E) × Option Value := DWF l g pB yX2_exchange cX2_exchange 5 none ({ frames := 2, cells := 0, slots := 0, locals := 45 }) [.ref kb, .int i, .int j, .int c0] (KEX g pe) (cln g ct)
theorem DM.mono {l : Launch} {g : zG} {P : Nat → Bool} {al : Bool} {y : MethodName} {cc : ByteArray} {mL : Nat} {rt : Option FieldType} {rm : Room} {av : List Value} {ct : Nat → va_E} {K K2 : (Nat → va_E) → Option Value → Prop} (hM : DM l g P al y cc mL rt rm K ct av) (h : ∀ c r, K c r → K2 c r) : DM l g P al y cc mL rt rm K2 ct av := by
  obtain ⟨σ2, r, hK, hoff, hM⟩ := hM
  exact ⟨σ2, r, h _ _ hK, hoff, hM⟩
theorem wSwap_c {l : Launch} {g : zG} {pe : Int32} {ct ct2 : Nat → va_E} {b i j c0 : Int32} (h : ∀ k, ¬ dIn pM k → ct2 k = ct k) : wSwap l g pe ct2 b i j c0 = wSwap l g pe ct b i j c0 := by
  unfold wSwap
  rw [cln_eq h]
theorem wExch_c {l : Launch} {g : zG} {pe : Int32} {ct ct2 : Nat → va_E} {kb : Nat} {i j c0 : Int32} (h : ∀ k, ¬ dIn pM k → ct2 k = ct k) : wExch l g pe ct2 kb i j c0 = wExch l g pe ct kb i j c0 := by
  unfold wExch
  rw [cln_eq h]
theorem f_swap (l : Launch) (g : zG) (pe : Int32) (ct : Nat → va_E) (b i j c0 : Int32) (hI : Inv8 g idn pe ct) : DM l g pCl false yX8_swap cX8_swap 5 (some .boolean) ({ frames := 3, cells := 0, slots := 0, locals := 69 }) (fun (ct2 : Nat → va_E) (rr : Option Value) => ∃ (r : Int32), rr = some (.int r) ∧ ((r = 1 ∧ rI (wSwap l g pe ct b i j c0).2 = 1) ∨ (r = 0 ∧ rI (wSwap l g pe ct b i j c0).2 = 0)) ∧ Inv8 g idn pe ct2 ∧ (∀ k, ¬ dIn pM k → ct2 k = (wSwap l g pe ct b i j c0).1 k)) ct [.ref 0, .int b, .int i, .int j, .int c0] := by
  obtain ⟨⟨r, e, h1, h2⟩, -, h3⟩ := DWF.spec (K := KSW g pe) (fun _ h => h) (k_X8_swap l g pe (cln g ct) b i j c0 (cln_I hI))
  refine h3.mono (fun c rr hc => ?_)
  obtain ⟨rfl, rfl⟩ := hc
  refine ⟨r, e, ?_, Inv8_mix h2 hI, fun k hk => mixM_o k hk⟩
  have e2 : rI (wSwap l g pe ct b i j c0).2 = r := congrArg rI e
  rw [e2]
  rcases h1 with h1 | h1
  · exact Or.inl ⟨h1, h1⟩
  · exact Or.inr ⟨h1, h1⟩
theorem f_exchange (l : Launch) (g : zG) (pe : Int32) (ct : Nat → va_E) (kb : Nat) (i j c0 : Int32) (hf_kb : 55 ≤ kb ∧ kb < 99 ∧ (kb - 55) % 11 = 0) (hI : Inv8 g idn pe ct) : DM l g pB false yX2_exchange cX2_exchange 5 none ({ frames := 2, cells := 0, slots := 0, locals := 45 }) (fun (ct2 : Nat → va_E) (rr : Option Value) => rr = none ∧ Inv8 g idn pe ct2 ∧ (∀ k, ¬ dIn pM k → ct2 k = (wExch l g pe ct kb i j c0).1 k)) ct [.ref kb, .int i, .int j, .int c0] := by
  obtain ⟨⟨e, h2⟩, -, h3⟩ := DWF.spec (K := KEX g pe) sub_pB_pCl (k_X2_exchange l g pe (cln g ct) kb i j c0 hf_kb (cln_I hI))
  refine h3.mono (fun c rr hc => ?_)
  obtain ⟨rfl, rfl⟩ := hc
  exact ⟨e, Inv8_mix h2 hI, fun k hk => mixM_o k hk⟩
