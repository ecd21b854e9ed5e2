noncomputable def w_prep (l : Launch) (g : zG) (pe : Int32) (ct : Nat → va_E) (who : Int32) : (Nat → va_E) × Option Value := DWA l g pA yX0_prepare cX0_prepare 7 none ({ frames := 1, cells := 1, slots := 131072, locals := 24 }) [.ref 17, .ref 1, .int who] (fun (ct2 : Nat → va_E) (rr : Option Value) => rr = none ∧ Inv8 g idn pe ct2) (cln g ct)
theorem w_prep_c {l : Launch} {g : zG} {pe : Int32} {ct ct2 : Nat → va_E} {who : Int32} (h : ∀ k, ¬ dIn pM k → ct2 k = ct k) : w_prep l g pe ct2 who = w_prep l g pe ct who := by
  unfold w_prep
  rw [cln_eq h]
theorem fw_prep (l : Launch) (g : zG) (pe : Int32) (ct : Nat → va_E) (who : Int32) (hl_who : 0 ≤ who.toInt ∧ who.toInt ≤ 65535) (hI : Inv8 g idn pe ct) : DM l g pA true yX0_prepare cX0_prepare 7 none ({ frames := 1, cells := 1, slots := 131072, locals := 24 }) (fun (ct2 : Nat → va_E) (rr : Option Value) => rr = none ∧ Inv8 g idn pe ct2 ∧ (∀ q, ¬ dIn pM q → ct2 q = (w_prep l g pe ct who).1 q)) ct [.ref 17, .ref 1, .int who] := by
  obtain ⟨hk, -, h3⟩ := DWA.spec (K := (fun (ct2 : Nat → va_E) (rr : Option Value) => rr = none ∧ Inv8 g idn pe ct2)) sub_pA_pCl (k_X0_prepare l g pe (cln g ct) who hl_who (cln_I hI))
  obtain ⟨e, h2⟩ := hk
  refine h3.mono (fun c rr hc => ?_)
  obtain ⟨rfl, rfl⟩ := hc
  exact ⟨e, Inv8_mix h2 hI, fun k hk => mixM_o k hk⟩

noncomputable def w_ff (l : Launch) (g : zG) (pe : Int32) (ct : Nat → va_E) (who : Int32) : (Nat → va_E) × Option Value := DWF l g pQ yX0_fewestFor cX0_fewestFor 4 (some .int) ({ frames := 34, cells := 0, slots := 0, locals := 862 }) [.ref 17, .int who] (fun (ct2 : Nat → va_E) (rr : Option Value) => ∃ (r : Int32), rr = some (.int r) ∧ (((0 ≤ r.toInt) ∧ (r.toInt ≤ 16))) ∧ Inv8 g idn pe ct2 ∧ zlen (ct2 20) = zlen ((cln g ct) 20)) (cln g ct)
theorem w_ff_c {l : Launch} {g : zG} {pe : Int32} {ct ct2 : Nat → va_E} {who : Int32} (h : ∀ k, ¬ dIn pM k → ct2 k = ct k) : w_ff l g pe ct2 who = w_ff l g pe ct who := by
  unfold w_ff
  rw [cln_eq h]
theorem fw_ff (l : Launch) (g : zG) (pe : Int32) (ct : Nat → va_E) (who : Int32) (hl_who : 0 ≤ who.toInt ∧ who.toInt ≤ 65535) (hI : Inv8 g idn pe ct) : DM l g pQ false yX0_fewestFor cX0_fewestFor 4 (some .int) ({ frames := 34, cells := 0, slots := 0, locals := 862 }) (fun (ct2 : Nat → va_E) (rr : Option Value) => ∃ (r : Int32), rr = some (.int r) ∧ (((0 ≤ r.toInt) ∧ (r.toInt ≤ 16))) ∧ Inv8 g idn pe ct2 ∧ (rI (w_ff l g pe ct who).2 = r) ∧ (∀ q, ¬ dIn pM q → ct2 q = (w_ff l g pe ct who).1 q)) ct [.ref 17, .int who] := by
  obtain ⟨hk, -, h3⟩ := DWF.spec (K := (fun (ct2 : Nat → va_E) (rr : Option Value) => ∃ (r : Int32), rr = some (.int r) ∧ (((0 ≤ r.toInt) ∧ (r.toInt ≤ 16))) ∧ Inv8 g idn pe ct2 ∧ zlen (ct2 20) = zlen ((cln g ct) 20))) sub_pQ_pCl (k_X0_fewestFor l g pe (cln g ct) who hl_who (cln_I hI))
  obtain ⟨r, e, h1, h2, -⟩ := hk
  refine h3.mono (fun c rr hc => ?_)
  obtain ⟨rfl, rfl⟩ := hc
  exact ⟨r, e, h1, Inv8_mix h2 hI, congrArg rI e, fun k hk => mixM_o k hk⟩

noncomputable def w_fq (l : Launch) (g : zG) (pe : Int32) (ct : Nat → va_E) (so : Int32) (n : Int32) (wh : Int32) : (Nat → va_E) × Option Value := DWF l g pCl yX8_firstQuestion cX8_firstQuestion 6 (some .int) ({ frames := 34, cells := 0, slots := 0, locals := 859 }) [.ref 0, .int so, .int n, .int wh] (fun (ct2 : Nat → va_E) (rr : Option Value) => ∃ (r : Int32), rr = some (.int r) ∧ ((True)) ∧ Inv8 g idn pe ct2 ∧ zlen (ct2 20) = zlen ((cln g ct) 20)) (cln g ct)
theorem w_fq_c {l : Launch} {g : zG} {pe : Int32} {ct ct2 : Nat → va_E} {so : Int32} {n : Int32} {wh : Int32} (h : ∀ k, ¬ dIn pM k → ct2 k = ct k) : w_fq l g pe ct2 so n wh = w_fq l g pe ct so n wh := by
  unfold w_fq
  rw [cln_eq h]
theorem fw_fq (l : Launch) (g : zG) (pe : Int32) (ct : Nat → va_E) (so : Int32) (n : Int32) (wh : Int32) (hl_so : 0 ≤ so.toInt ∧ so.toInt ≤ 65535) (hl_n : -2147483648 ≤ n.toInt ∧ n.toInt ≤ 16) (hI : Inv8 g idn pe ct) : DM l g pCl false yX8_firstQuestion cX8_firstQuestion 6 (some .int) ({ frames := 34, cells := 0, slots := 0, locals := 859 }) (fun (ct2 : Nat → va_E) (rr : Option Value) => ∃ (r : Int32), rr = some (.int r) ∧ ((True)) ∧ Inv8 g idn pe ct2 ∧ (rI (w_fq l g pe ct so n wh).2 = r) ∧ (∀ q, ¬ dIn pM q → ct2 q = (w_fq l g pe ct so n wh).1 q)) ct [.ref 0, .int so, .int n, .int wh] := by
  obtain ⟨hk, -, h3⟩ := DWF.spec (K := (fun (ct2 : Nat → va_E) (rr : Option Value) => ∃ (r : Int32), rr = some (.int r) ∧ ((True)) ∧ Inv8 g idn pe ct2 ∧ zlen (ct2 20) = zlen ((cln g ct) 20))) (fun _ h => h) (k_X8_firstQuestion l g pe (cln g ct) so n wh hl_so hl_n (cln_I hI))
  obtain ⟨r, e, h1, h2, -⟩ := hk
  refine h3.mono (fun c rr hc => ?_)
  obtain ⟨rfl, rfl⟩ := hc
  exact ⟨r, e, h1, Inv8_mix h2 hI, congrArg rI e, fun k hk => mixM_o k hk⟩

section QSD
variable (l : Launch) (g : zG) (pe : Int32) (ct : Nat → va_E) (b i kn wh : Int32)
noncomputable def qSo : Int32 := FIT l g pe (cln g ct) b kn i.toInt.toNat
noncomputable def qWp : Nat → va_E := (w_prep l g pe (cln g ct) (qSo l g pe ct b i kn)).1
noncomputable def qWf : (Nat → va_E) × Option Value := w_ff l g pe (qWp l g pe ct b i kn) (qSo l g pe ct b i kn)
noncomputable def qWq : (Nat → va_E) × Option Value := w_fq l g pe (qWf l g pe ct b i kn).1 (qSo l g pe ct b i kn) (rI (qWf l g pe ct b i kn).2) wh
noncomputable def qSn : Bool := LIN (cln g ct) b i && decide (0 ≤ kn.toInt ∧ kn.toInt ≤ 255 ∧ 0 ≤ wh.toInt ∧ wh.toInt ≤ 2)
noncomputable def qQst : Int32 := if qSn g ct b i kn wh = true then (if LIV (cln g ct) b i = true then (if (qSo l g pe ct b i kn).toInt = 0 then -2 else if eAlk l g pe (cln g ct) (qSo l g pe ct b i kn) = 1 then -2 else if wh.toInt = 0 then rI (qWf l g pe ct b i kn).2 else if (rI (qWf l g pe ct b i kn).2).toInt = 0 then -3 else rI (qWq l g pe ct b i kn wh).2) else -2) else -1
noncomputable def qQsW : Nat → va_E := if qSn g ct b i kn wh = true then (if LIV (cln g ct) b i = true then (if (qSo l g pe ct b i kn).toInt = 0 then ct else if eAlk l g pe (cln g ct) (qSo l g pe ct b i kn) = 1 then ct else if wh.toInt = 0 then (qWf l g pe ct b i kn).1 else if (rI (qWf l g pe ct b i kn).2).toInt = 0 then (qWf l g pe ct b i kn).1 else (qWq l g pe ct b i kn wh).1) else ct) else ct
end QSD
theorem qSn_iff {g : zG} {ct : Nat → va_E} {b i kn wh : Int32} : qSn g ct b i kn wh = true ↔ LIN ct b i = true ∧ 0 ≤ kn.toInt ∧ kn.toInt ≤ 255 ∧ 0 ≤ wh.toInt ∧ wh.toInt ≤ 2 := by
  unfold qSn
  rw [LIN_o cln_o, Bool.and_eq_true, decide_eq_true_iff]
