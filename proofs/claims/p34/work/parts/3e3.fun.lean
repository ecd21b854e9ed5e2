/-! a clean method that may make a cell: the same -/
theorem DM.pairA {l : Launch} {g : zG} {P : Nat → Bool} {y : MethodName} {cc : ByteArray} {mL : Nat} {rt : Option FieldType} {rm : Room} {av : List Value} {ct ct2 : Nat → va_E} {K : (Nat → va_E) → Option Value → Prop} (hP : ∀ k, P k = true → pCl k = true) (h : ∀ k, ¬ dIn pM k → ct2 k = ct k) (hM : DM l g P true y cc mL rt rm K ct av) : ∃ (σ2 : Nat → va_E) (r : Option Value), K σ2 r ∧ (∀ k, ¬ dIn P k → k ≠ 254 → σ2 k = ct k) ∧ DM l g P true y cc mL rt rm (fun c rr => rr = r ∧ c = σ2) ct av ∧ DM l g P true y cc mL rt rm (fun c rr => rr = r ∧ c = mixM σ2 ct2) ct2 av := by
  obtain ⟨σ2, r, hK, hoff, hM⟩ := hM
  refine ⟨σ2, r, hK, fun k hk h4 => hoff k hk (fun q => h4 q.2), ⟨σ2, r, ⟨rfl, rfl⟩, hoff, hM⟩, ⟨mixM σ2 ct2, r, ⟨rfl, rfl⟩, fun k hk h4 => ?_, fun ad sz => ?_⟩⟩
  · unfold mixM
    by_cases c : 10 ≤ k ∧ k < 17
    · rw [if_pos c]
    · rw [if_neg c, hoff k hk h4]
      exact (h k (fun q => c (of_decide_eq_true q.2))).symm
  · have e1 : ∀ a, dW P a ct2 = dW P a ct := fun a => dW_congr (noM hP h)
    have e2 : ∀ a, dW P a (mixM σ2 ct2) = dW P a σ2 := fun a => dW_congr (fun k hk => if_neg (fun q => by
      have h1 : k < 10 ∨ (17 ≤ k ∧ k < 126) := of_decide_eq_true (hP k hk.2)
      omega))
    have h1 := hM ad sz
    unfold dQ at h1 ⊢
    simpa only [e1, e2] using h1
noncomputable def DWA (l : Launch) (g : zG) (P : Nat → Bool) (y : MethodName) (cc : ByteArray) (mL : Nat) (rt : Option FieldType) (rm : Room) (av : List Value) (K : (Nat → va_E) → Option Value → Prop) (ct : Nat → va_E) : (Nat → va_E) × Option Value :=
  Classical.epsilon (fun x : (Nat → va_E) × Option Value => K x.1 x.2 ∧ (∀ k, ¬ dIn P k → k ≠ 254 → x.1 k = ct k) ∧ DM l g P true y cc mL rt rm (fun c rr => rr = x.2 ∧ c = x.1) ct av)
theorem DWA.spec {l : Launch} {g : zG} {P : Nat → Bool} {y : MethodName} {cc : ByteArray} {mL : Nat} {rt : Option FieldType} {rm : Room} {av : List Value} {ct : Nat → va_E} {K : (Nat → va_E) → Option Value → Prop} (hP : ∀ k, P k = true → pCl k = true) (hM : DM l g P true y cc mL rt rm K (cln g ct) av) :
    K (DWA l g P y cc mL rt rm av K (cln g ct)).1 (DWA l g P y cc mL rt rm av K (cln g ct)).2 ∧ (∀ k, ¬ dIn P k → k ≠ 254 → (DWA l g P y cc mL rt rm av K (cln g ct)).1 k = cln g ct k) ∧
    DM l g P true y cc mL rt rm (fun c rr => rr = (DWA l g P y cc mL rt rm av K (cln g ct)).2 ∧ c = mixM (DWA l g P y cc mL rt rm av K (cln g ct)).1 ct) ct av := by
  have he : ∃ x : (Nat → va_E) × Option Value, K x.1 x.2 ∧ (∀ k, ¬ dIn P k → k ≠ 254 → x.1 k = cln g ct k) ∧ DM l g P true y cc mL rt rm (fun c rr => rr = x.2 ∧ c = x.1) (cln g ct) av := by
    obtain ⟨σ2, r, hK, hoff, h1, -⟩ := DM.pairA hP (fun _ _ => rfl) hM
    exact ⟨(σ2, r), hK, hoff, h1⟩
  obtain ⟨a, b, c⟩ := Classical.epsilon_spec he
  refine ⟨a, b, ?_⟩
  obtain ⟨σ3, r3, ⟨e1, e2⟩, -, -, h3⟩ := DM.pairA hP (fun k hk => (cln_o k hk).symm) c
  rw [e1, e2] at h3
  exact h3

noncomputable def eLine (l : Launch) (g : zG) (pe : Int32) (ct : Nat → va_E) (b : Int32) (i : Int32) (c0 : Int32) : Int32 := DR l g pCl yX8_line cX8_line 4 (some .int) ({ frames := 3, cells := 0, slots := 0, locals := 66 }) [.ref 0, .int b, .int i, .int c0] ct (fun r => (True))
theorem eLine_s (l : Launch) (g : zG) (pe : Int32) (ct : Nat → va_E) (b : Int32) (i : Int32) (c0 : Int32) (hI : Inv8 g idn pe ct) : DM l g pCl false yX8_line cX8_line 4 (some .int) ({ frames := 3, cells := 0, slots := 0, locals := 66 }) (fun (ct2 : Nat → va_E) (rr : Option Value) => ∃ (r : Int32), rr = some (.int r) ∧ ((r = eLine l g pe ct b i c0) ∧ (True)) ∧ ct = ct2) ct [.ref 0, .int b, .int i, .int c0] := DR.spec (post := fun r => (True)) (k_X8_line l g pe ct b i c0 hI)
theorem eLine_c {l : Launch} {g : zG} {pe : Int32} {ct ct2 : Nat → va_E} {b : Int32} {i : Int32} {c0 : Int32} (h : ∀ k, dIn pCl k → ct2 k = ct k) : eLine l g pe ct2 b i c0 = eLine l g pe ct b i c0 := DR.congr h
theorem eLine_o {l : Launch} {g : zG} {pe : Int32} {ct ct2 : Nat → va_E} {b : Int32} {i : Int32} {c0 : Int32} (h : ∀ k, ¬ dIn pM k → ct2 k = ct k) : eLine l g pe ct2 b i c0 = eLine l g pe ct b i c0 := DR.congr (noM (fun _ h => h) h)

noncomputable def eLoss (l : Launch) (g : zG) (pe : Int32) (ct : Nat → va_E) (b : Int32) : Int32 := DR l g pCl yX8_loss cX8_loss 4 (some .int) ({ frames := 3, cells := 0, slots := 0, locals := 66 }) [.ref 0, .int b] ct (fun r => (True))
theorem eLoss_s (l : Launch) (g : zG) (pe : Int32) (ct : Nat → va_E) (b : Int32) (hI : Inv8 g idn pe ct) : DM l g pCl false yX8_loss cX8_loss 4 (some .int) ({ frames := 3, cells := 0, slots := 0, locals := 66 }) (fun (ct2 : Nat → va_E) (rr : Option Value) => ∃ (r : Int32), rr = some (.int r) ∧ ((r = eLoss l g pe ct b) ∧ (True)) ∧ ct = ct2) ct [.ref 0, .int b] := DR.spec (post := fun r => (True)) (k_X8_loss l g pe ct b hI)
theorem eLoss_c {l : Launch} {g : zG} {pe : Int32} {ct ct2 : Nat → va_E} {b : Int32} (h : ∀ k, dIn pCl k → ct2 k = ct k) : eLoss l g pe ct2 b = eLoss l g pe ct b := DR.congr h
theorem eLoss_o {l : Launch} {g : zG} {pe : Int32} {ct ct2 : Nat → va_E} {b : Int32} (h : ∀ k, ¬ dIn pM k → ct2 k = ct k) : eLoss l g pe ct2 b = eLoss l g pe ct b := DR.congr (noM (fun _ h => h) h)

noncomputable def eCount (l : Launch) (g : zG) (pe : Int32) (ct : Nat → va_E) (wh : Int32) : Int32 := DR l g pCl yX8_count cX8_count 2 (some .int) ({ frames := 1, cells := 0, slots := 0, locals := 22 }) [.ref 0, .int wh] ct (fun r => (True))
theorem eCount_s (l : Launch) (g : zG) (pe : Int32) (ct : Nat → va_E) (wh : Int32) (hI : Inv8 g idn pe ct) : DM l g pCl false yX8_count cX8_count 2 (some .int) ({ frames := 1, cells := 0, slots := 0, locals := 22 }) (fun (ct2 : Nat → va_E) (rr : Option Value) => ∃ (r : Int32), rr = some (.int r) ∧ ((r = eCount l g pe ct wh) ∧ (True)) ∧ ct = ct2) ct [.ref 0, .int wh] := DR.spec (post := fun r => (True)) (k_X8_count l g pe ct wh hI)
theorem eCount_c {l : Launch} {g : zG} {pe : Int32} {ct ct2 : Nat → va_E} {wh : Int32} (h : ∀ k, dIn pCl k → ct2 k = ct k) : eCount l g pe ct2 wh = eCount l g pe ct wh := DR.congr h
theorem eCount_o {l : Launch} {g : zG} {pe : Int32} {ct ct2 : Nat → va_E} {wh : Int32} (h : ∀ k, ¬ dIn pM k → ct2 k = ct k) : eCount l g pe ct2 wh = eCount l g pe ct wh := DR.congr (noM (fun _ h => h) h)

noncomputable def eAlk (l : Launch) (g : zG) (pe : Int32) (ct : Nat → va_E) (wh : Int32) : Int32 := DR l g pCl yX8_someAlike cX8_someAlike 5 (some .boolean) ({ frames := 1, cells := 0, slots := 0, locals := 21 }) [.ref 0, .int wh] ct (fun r => ((r = 1) ∨ (r = 0)))
theorem eAlk_s (l : Launch) (g : zG) (pe : Int32) (ct : Nat → va_E) (wh : Int32) (hI : Inv8 g idn pe ct) : DM l g pCl false yX8_someAlike cX8_someAlike 5 (some .boolean) ({ frames := 1, cells := 0, slots := 0, locals := 21 }) (fun (ct2 : Nat → va_E) (rr : Option Value) => ∃ (r : Int32), rr = some (.int r) ∧ ((r = 1 ∧ (eAlk l g pe ct wh = 1)) ∨ (r = 0 ∧ (eAlk l g pe ct wh = 0))) ∧ ct = ct2) ct [.ref 0, .int wh] := (DR.spec (post := fun r => ((r = 1) ∨ (r = 0))) (k_X8_someAlike l g pe ct wh hI)).mono (fun c rr hc => by
  obtain ⟨r, e, ⟨h1, h2⟩, h3⟩ := hc
  rcases h2 with h2 | h2
  · exact ⟨r, e, Or.inl ⟨h2, (show r = eAlk l g pe ct wh from h1).symm.trans h2⟩, h3⟩
  · exact ⟨r, e, Or.inr ⟨h2, (show r = eAlk l g pe ct wh from h1).symm.trans h2⟩, h3⟩)
theorem eAlk_o {l : Launch} {g : zG} {pe : Int32} {ct ct2 : Nat → va_E} {wh : Int32} (h : ∀ k, ¬ dIn pM k → ct2 k = ct k) : eAlk l g pe ct2 wh = eAlk l g pe ct wh := DR.congr (noM (fun _ h => h) h)

noncomputable def w_upper (l : Launch) (g : zG) (pe : Int32) (ct : Nat → va_E) (c0 : Int32) (nd : Int32) (up : Int32) : (Nat → va_E) × Option Value := DWF l g pCl yX8_upper cX8_upper 4 (some .boolean) ({ frames := 3, cells := 0, slots := 0, locals := 70 }) [.ref 0, .int c0, .int nd, .int up] (fun (ct2 : Nat → va_E) (rr : Option Value) => ∃ (r : Int32), rr = some (.int r) ∧ ((r = 1 ∧ (0 ≤ c0.toInt ∧ c0.toInt ≤ 3) ∧ (0 ≤ nd.toInt ∧ nd.toInt ≤ 31) ∧ (up.toInt = -1 ∨ (16 ≤ up.toInt ∧ up.toInt ≤ 31 ∧ nd.toInt < up.toInt))) ∨ (r = 0 ∧ (¬ ((0 ≤ c0.toInt ∧ c0.toInt ≤ 3) ∧ (0 ≤ nd.toInt ∧ nd.toInt ≤ 31) ∧ (up.toInt = -1 ∨ (16 ≤ up.toInt ∧ up.toInt ≤ 31 ∧ nd.toInt < up.toInt)))))) ∧ Inv8 g idn pe ct2) (cln g ct)
theorem w_upper_c {l : Launch} {g : zG} {pe : Int32} {ct ct2 : Nat → va_E} {c0 : Int32} {nd : Int32} {up : Int32} (h : ∀ k, ¬ dIn pM k → ct2 k = ct k) : w_upper l g pe ct2 c0 nd up = w_upper l g pe ct c0 nd up := by
  unfold w_upper
  rw [cln_eq h]
theorem fw_upper (l : Launch) (g : zG) (pe : Int32) (ct : Nat → va_E) (c0 : Int32) (nd : Int32) (up : Int32) (hI : Inv8 g idn pe ct) : DM l g pCl false yX8_upper cX8_upper 4 (some .boolean) ({ frames := 3, cells := 0, slots := 0, locals := 70 }) (fun (ct2 : Nat → va_E) (rr : Option Value) => ∃ (r : Int32), rr = some (.int r) ∧ ((r = 1 ∧ (0 ≤ c0.toInt ∧ c0.toInt ≤ 3) ∧ (0 ≤ nd.toInt ∧ nd.toInt ≤ 31) ∧ (up.toInt = -1 ∨ (16 ≤ up.toInt ∧ up.toInt ≤ 31 ∧ nd.toInt < up.toInt))) ∨ (r = 0 ∧ (¬ ((0 ≤ c0.toInt ∧ c0.toInt ≤ 3) ∧ (0 ≤ nd.toInt ∧ nd.toInt ≤ 31) ∧ (up.toInt = -1 ∨ (16 ≤ up.toInt ∧ up.toInt ≤ 31 ∧ nd.toInt < up.toInt)))))) ∧ Inv8 g idn pe ct2 ∧ (rI (w_upper l g pe ct c0 nd up).2 = r) ∧ (∀ q, ¬ dIn pM q → ct2 q = (w_upper l g pe ct c0 nd up).1 q)) ct [.ref 0, .int c0, .int nd, .int up] := by
  obtain ⟨hk, -, h3⟩ := DWF.spec (K := (fun (ct2 : Nat → va_E) (rr : Option Value) => ∃ (r : Int32), rr = some (.int r) ∧ ((r = 1 ∧ (0 ≤ c0.toInt ∧ c0.toInt ≤ 3) ∧ (0 ≤ nd.toInt ∧ nd.toInt ≤ 31) ∧ (up.toInt = -1 ∨ (16 ≤ up.toInt ∧ up.toInt ≤ 31 ∧ nd.toInt < up.toInt))) ∨ (r = 0 ∧ (¬ ((0 ≤ c0.toInt ∧ c0.toInt ≤ 3) ∧ (0 ≤ nd.toInt ∧ nd.toInt ≤ 31) ∧ (up.toInt = -1 ∨ (16 ≤ up.toInt ∧ up.toInt ≤ 31 ∧ nd.toInt < up.toInt)))))) ∧ Inv8 g idn pe ct2)) (fun _ h => h) (k_X8_upper l g pe (cln g ct) c0 nd up  (cln_I hI))
  obtain ⟨r, e, h1, h2⟩ := hk
  refine h3.mono (fun c rr hc => ?_)
  obtain ⟨rfl, rfl⟩ := hc
  exact ⟨r, e, h1, Inv8_mix h2 hI, congrArg rI e, fun k hk => mixM_o k hk⟩

noncomputable def w_wish (l : Launch) (g : zG) (pe : Int32) (ct : Nat → va_E) (p0 : Int32) (n : Int32) : (Nat → va_E) × Option Value := DWF l g pCl yX8_wish cX8_wish 3 (some .boolean) ({ frames := 28, cells := 0, slots := 0, locals := 694 }) [.ref 0, .int p0, .int n] (fun (ct2 : Nat → va_E) (rr : Option Value) => ∃ (r : Int32), rr = some (.int r) ∧ ((r = 1 ∧ (0 ≤ p0.toInt ∧ p0.toInt < pe.toInt) ∧ (0 ≤ n.toInt ∧ n.toInt ≤ 16)) ∨ (r = 0 ∧ (¬ ((0 ≤ p0.toInt ∧ p0.toInt < pe.toInt) ∧ (0 ≤ n.toInt ∧ n.toInt ≤ 16))))) ∧ Inv8 g idn pe ct2) (cln g ct)
theorem w_wish_c {l : Launch} {g : zG} {pe : Int32} {ct ct2 : Nat → va_E} {p0 : Int32} {n : Int32} (h : ∀ k, ¬ dIn pM k → ct2 k = ct k) : w_wish l g pe ct2 p0 n = w_wish l g pe ct p0 n := by
  unfold w_wish
  rw [cln_eq h]
theorem fw_wish (l : Launch) (g : zG) (pe : Int32) (ct : Nat → va_E) (p0 : Int32) (n : Int32) (hI : Inv8 g idn pe ct) : DM l g pCl false yX8_wish cX8_wish 3 (some .boolean) ({ frames := 28, cells := 0, slots := 0, locals := 694 }) (fun (ct2 : Nat → va_E) (rr : Option Value) => ∃ (r : Int32), rr = some (.int r) ∧ ((r = 1 ∧ (0 ≤ p0.toInt ∧ p0.toInt < pe.toInt) ∧ (0 ≤ n.toInt ∧ n.toInt ≤ 16)) ∨ (r = 0 ∧ (¬ ((0 ≤ p0.toInt ∧ p0.toInt < pe.toInt) ∧ (0 ≤ n.toInt ∧ n.toInt ≤ 16))))) ∧ Inv8 g idn pe ct2 ∧ (rI (w_wish l g pe ct p0 n).2 = r) ∧ (∀ q, ¬ dIn pM q → ct2 q = (w_wish l g pe ct p0 n).1 q)) ct [.ref 0, .int p0, .int n] := by
  obtain ⟨hk, -, h3⟩ := DWF.spec (K := (fun (ct2 : Nat → va_E) (rr : Option Value) => ∃ (r : Int32), rr = some (.int r) ∧ ((r = 1 ∧ (0 ≤ p0.toInt ∧ p0.toInt < pe.toInt) ∧ (0 ≤ n.toInt ∧ n.toInt ≤ 16)) ∨ (r = 0 ∧ (¬ ((0 ≤ p0.toInt ∧ p0.toInt < pe.toInt) ∧ (0 ≤ n.toInt ∧ n.toInt ≤ 16))))) ∧ Inv8 g idn pe ct2)) (fun _ h => h) (k_X8_wish l g pe (cln g ct) p0 n  (cln_I hI))
  obtain ⟨r, e, h1, h2⟩ := hk
  refine h3.mono (fun c rr hc => ?_)
  obtain ⟨rfl, rfl⟩ := hc
  exact ⟨r, e, h1, Inv8_mix h2 hI, congrArg rI e, fun k hk => mixM_o k hk⟩

noncomputable def w_feed (l : Launch) (g : zG) (pe : Int32) (ct : Nat → va_E) (a0 : Int32) (b0 : Int32) (c0 : Int32) (d0 : Int32) (e0 : Int32) : (Nat → va_E) × Option Value := DWF l g pCl yX8_feed cX8_feed 6 (some .int) ({ frames := 1, cells := 0, slots := 0, locals := 22 }) [.ref 0, .int a0, .int b0, .int c0, .int d0, .int e0] (fun (ct2 : Nat → va_E) (rr : Option Value) => ∃ (r : Int32), rr = some (.int r) ∧ ((True)) ∧ Inv8 g idn pe ct2) (cln g ct)
theorem w_feed_c {l : Launch} {g : zG} {pe : Int32} {ct ct2 : Nat → va_E} {a0 : Int32} {b0 : Int32} {c0 : Int32} {d0 : Int32} {e0 : Int32} (h : ∀ k, ¬ dIn pM k → ct2 k = ct k) : w_feed l g pe ct2 a0 b0 c0 d0 e0 = w_feed l g pe ct a0 b0 c0 d0 e0 := by
  unfold w_feed
  rw [cln_eq h]
theorem fw_feed (l : Launch) (g : zG) (pe : Int32) (ct : Nat → va_E) (a0 : Int32) (b0 : Int32) (c0 : Int32) (d0 : Int32) (e0 : Int32) (hI : Inv8 g idn pe ct) : DM l g pCl false yX8_feed cX8_feed 6 (some .int) ({ frames := 1, cells := 0, slots := 0, locals := 22 }) (fun (ct2 : Nat → va_E) (rr : Option Value) => ∃ (r : Int32), rr = some (.int r) ∧ ((True)) ∧ Inv8 g idn pe ct2 ∧ (rI (w_feed l g pe ct a0 b0 c0 d0 e0).2 = r) ∧ (∀ q, ¬ dIn pM q → ct2 q = (w_feed l g pe ct a0 b0 c0 d0 e0).1 q)) ct [.ref 0, .int a0, .int b0, .int c0, .int d0, .int e0] := by
  obtain ⟨hk, -, h3⟩ := DWF.spec (K := (fun (ct2 : Nat → va_E) (rr : Option Value) => ∃ (r : Int32), rr = some (.int r) ∧ ((True)) ∧ Inv8 g idn pe ct2)) (fun _ h => h) (k_X8_feed l g pe (cln g ct) a0 b0 c0 d0 e0  (cln_I hI))
  obtain ⟨r, e, h1, h2⟩ := hk
  refine h3.mono (fun c rr hc => ?_)
  obtain ⟨rfl, rfl⟩ := hc
  exact ⟨r, e, h1, Inv8_mix h2 hI, congrArg rI e, fun k hk => mixM_o k hk⟩

noncomputable def w_cut (l : Launch) (g : zG) (pe : Int32) (ct : Nat → va_E) (b : Int32) (i : Int32) : (Nat → va_E) × Option Value := DWF l g pCl yX8_cut cX8_cut 3 (some .boolean) ({ frames := 3, cells := 0, slots := 0, locals := 66 }) [.ref 0, .int b, .int i] (fun (ct2 : Nat → va_E) (rr : Option Value) => ∃ (r : Int32), rr = some (.int r) ∧ ((True)) ∧ Inv8 g idn pe ct2) (cln g ct)
theorem w_cut_c {l : Launch} {g : zG} {pe : Int32} {ct ct2 : Nat → va_E} {b : Int32} {i : Int32} (h : ∀ k, ¬ dIn pM k → ct2 k = ct k) : w_cut l g pe ct2 b i = w_cut l g pe ct b i := by
  unfold w_cut
  rw [cln_eq h]
theorem fw_cut (l : Launch) (g : zG) (pe : Int32) (ct : Nat → va_E) (b : Int32) (i : Int32) (hI : Inv8 g idn pe ct) : DM l g pCl false yX8_cut cX8_cut 3 (some .boolean) ({ frames := 3, cells := 0, slots := 0, locals := 66 }) (fun (ct2 : Nat → va_E) (rr : Option Value) => ∃ (r : Int32), rr = some (.int r) ∧ ((True)) ∧ Inv8 g idn pe ct2 ∧ (rI (w_cut l g pe ct b i).2 = r) ∧ (∀ q, ¬ dIn pM q → ct2 q = (w_cut l g pe ct b i).1 q)) ct [.ref 0, .int b, .int i] := by
  obtain ⟨hk, -, h3⟩ := DWF.spec (K := (fun (ct2 : Nat → va_E) (rr : Option Value) => ∃ (r : Int32), rr = some (.int r) ∧ ((True)) ∧ Inv8 g idn pe ct2)) (fun _ h => h) (k_X8_cut l g pe (cln g ct) b i  (cln_I hI))
  obtain ⟨r, e, h1, h2⟩ := hk
  refine h3.mono (fun c rr hc => ?_)
  obtain ⟨rfl, rfl⟩ := hc
  exact ⟨r, e, h1, Inv8_mix h2 hI, congrArg rI e, fun k hk => mixM_o k hk⟩

noncomputable def w_show (l : Launch) (g : zG) (pe : Int32) (ct : Nat → va_E) (b : Int32) (is : Int32) : (Nat → va_E) × Option Value := DWF l g pCl yX8_show cX8_show 3 (some .boolean) ({ frames := 1, cells := 0, slots := 0, locals := 21 }) [.ref 0, .int b, .int is] (fun (ct2 : Nat → va_E) (rr : Option Value) => ∃ (r : Int32), rr = some (.int r) ∧ ((True)) ∧ Inv8 g idn pe ct2) (cln g ct)
theorem w_show_c {l : Launch} {g : zG} {pe : Int32} {ct ct2 : Nat → va_E} {b : Int32} {is : Int32} (h : ∀ k, ¬ dIn pM k → ct2 k = ct k) : w_show l g pe ct2 b is = w_show l g pe ct b is := by
  unfold w_show
  rw [cln_eq h]
theorem fw_show (l : Launch) (g : zG) (pe : Int32) (ct : Nat → va_E) (b : Int32) (is : Int32) (hl_is : 0 ≤ is.toInt ∧ is.toInt ≤ 1) (hI : Inv8 g idn pe ct) : DM l g pCl false yX8_show cX8_show 3 (some .boolean) ({ frames := 1, cells := 0, slots := 0, locals := 21 }) (fun (ct2 : Nat → va_E) (rr : Option Value) => ∃ (r : Int32), rr = some (.int r) ∧ ((True)) ∧ Inv8 g idn pe ct2 ∧ (rI (w_show l g pe ct b is).2 = r) ∧ (∀ q, ¬ dIn pM q → ct2 q = (w_show l g pe ct b is).1 q)) ct [.ref 0, .int b, .int is] := by
  obtain ⟨hk, -, h3⟩ := DWF.spec (K := (fun (ct2 : Nat → va_E) (rr : Option Value) => ∃ (r : Int32), rr = some (.int r) ∧ ((True)) ∧ Inv8 g idn pe ct2)) (fun _ h => h) (k_X8_show l g pe (cln g ct) b is hl_is (cln_I hI))
  obtain ⟨r, e, h1, h2⟩ := hk
  refine h3.mono (fun c rr hc => ?_)
  obtain ⟨rfl, rfl⟩ := hc
  exact ⟨r, e, h1, Inv8_mix h2 hI, congrArg rI e, fun k hk => mixM_o k hk⟩

noncomputable def w_link (l : Launch) (g : zG) (pe : Int32) (ct : Nat → va_E) (a0 : Int32) (i : Int32) (b : Int32) (j : Int32) : (Nat → va_E) × Option Value := DWF l g pCl yX8_link cX8_link 5 (some .int) ({ frames := 2, cells := 0, slots := 0, locals := 44 }) [.ref 0, .int a0, .int i, .int b, .int j] (fun (ct2 : Nat → va_E) (rr : Option Value) => ∃ (r : Int32), rr = some (.int r) ∧ ((True)) ∧ Inv8 g idn pe ct2) (cln g ct)
theorem w_link_c {l : Launch} {g : zG} {pe : Int32} {ct ct2 : Nat → va_E} {a0 : Int32} {i : Int32} {b : Int32} {j : Int32} (h : ∀ k, ¬ dIn pM k → ct2 k = ct k) : w_link l g pe ct2 a0 i b j = w_link l g pe ct a0 i b j := by
  unfold w_link
  rw [cln_eq h]
theorem fw_link (l : Launch) (g : zG) (pe : Int32) (ct : Nat → va_E) (a0 : Int32) (i : Int32) (b : Int32) (j : Int32) (hI : Inv8 g idn pe ct) : DM l g pCl false yX8_link cX8_link 5 (some .int) ({ frames := 2, cells := 0, slots := 0, locals := 44 }) (fun (ct2 : Nat → va_E) (rr : Option Value) => ∃ (r : Int32), rr = some (.int r) ∧ ((True)) ∧ Inv8 g idn pe ct2 ∧ (rI (w_link l g pe ct a0 i b j).2 = r) ∧ (∀ q, ¬ dIn pM q → ct2 q = (w_link l g pe ct a0 i b j).1 q)) ct [.ref 0, .int a0, .int i, .int b, .int j] := by
  obtain ⟨hk, -, h3⟩ := DWF.spec (K := (fun (ct2 : Nat → va_E) (rr : Option Value) => ∃ (r : Int32), rr = some (.int r) ∧ ((True)) ∧ Inv8 g idn pe ct2)) (fun _ h => h) (k_X8_link l g pe (cln g ct) a0 i b j  (cln_I hI))
  obtain ⟨r, e, h1, h2⟩ := hk
  refine h3.mono (fun c rr hc => ?_)
  obtain ⟨rfl, rfl⟩ := hc
  exact ⟨r, e, h1, Inv8_mix h2 hI, congrArg rI e, fun k hk => mixM_o k hk⟩

noncomputable def w_gossip (l : Launch) (g : zG) (pe : Int32) (ct : Nat → va_E) (g0 : Int32) (b : Int32) (i : Int32) (n : Int32) : (Nat → va_E) × Option Value := DWF l g pCl yX8_gossip cX8_gossip 7 (some .int) ({ frames := 27, cells := 0, slots := 0, locals := 672 }) [.ref 0, .int g0, .int b, .int i, .int n] (fun (ct2 : Nat → va_E) (rr : Option Value) => ∃ (r : Int32), rr = some (.int r) ∧ ((True)) ∧ Inv8 g idn pe ct2) (cln g ct)
theorem w_gossip_c {l : Launch} {g : zG} {pe : Int32} {ct ct2 : Nat → va_E} {g0 : Int32} {b : Int32} {i : Int32} {n : Int32} (h : ∀ k, ¬ dIn pM k → ct2 k = ct k) : w_gossip l g pe ct2 g0 b i n = w_gossip l g pe ct g0 b i n := by
  unfold w_gossip
  rw [cln_eq h]
theorem fw_gossip (l : Launch) (g : zG) (pe : Int32) (ct : Nat → va_E) (g0 : Int32) (b : Int32) (i : Int32) (n : Int32) (hI : Inv8 g idn pe ct) : DM l g pCl false yX8_gossip cX8_gossip 7 (some .int) ({ frames := 27, cells := 0, slots := 0, locals := 672 }) (fun (ct2 : Nat → va_E) (rr : Option Value) => ∃ (r : Int32), rr = some (.int r) ∧ ((True)) ∧ Inv8 g idn pe ct2 ∧ (rI (w_gossip l g pe ct g0 b i n).2 = r) ∧ (∀ q, ¬ dIn pM q → ct2 q = (w_gossip l g pe ct g0 b i n).1 q)) ct [.ref 0, .int g0, .int b, .int i, .int n] := by
  obtain ⟨hk, -, h3⟩ := DWF.spec (K := (fun (ct2 : Nat → va_E) (rr : Option Value) => ∃ (r : Int32), rr = some (.int r) ∧ ((True)) ∧ Inv8 g idn pe ct2)) (fun _ h => h) (k_X8_gossip l g pe (cln g ct) g0 b i n  (cln_I hI))
  obtain ⟨r, e, h1, h2⟩ := hk
  refine h3.mono (fun c rr hc => ?_)
  obtain ⟨rfl, rfl⟩ := hc
  exact ⟨r, e, h1, Inv8_mix h2 hI, congrArg rI e, fun k hk => mixM_o k hk⟩

noncomputable def w_blurring (l : Launch) (g : zG) (pe : Int32) (ct : Nat → va_E) (n : Int32) (k : Int32) (pr : Int32) (wh : Int32) : (Nat → va_E) × Option Value := DWF l g pCl yX8_blurring cX8_blurring 6 (some .int) ({ frames := 5, cells := 0, slots := 0, locals := 116 }) [.ref 0, .int n, .int k, .int pr, .int wh] (fun (ct2 : Nat → va_E) (rr : Option Value) => ∃ (r : Int32), rr = some (.int r) ∧ ((True)) ∧ Inv8 g idn pe ct2) (cln g ct)
theorem w_blurring_c {l : Launch} {g : zG} {pe : Int32} {ct ct2 : Nat → va_E} {n : Int32} {k : Int32} {pr : Int32} {wh : Int32} (h : ∀ k, ¬ dIn pM k → ct2 k = ct k) : w_blurring l g pe ct2 n k pr wh = w_blurring l g pe ct n k pr wh := by
  unfold w_blurring
  rw [cln_eq h]
theorem fw_blurring (l : Launch) (g : zG) (pe : Int32) (ct : Nat → va_E) (n : Int32) (k : Int32) (pr : Int32) (wh : Int32) (hI : Inv8 g idn pe ct) : DM l g pCl false yX8_blurring cX8_blurring 6 (some .int) ({ frames := 5, cells := 0, slots := 0, locals := 116 }) (fun (ct2 : Nat → va_E) (rr : Option Value) => ∃ (r : Int32), rr = some (.int r) ∧ ((True)) ∧ Inv8 g idn pe ct2 ∧ (rI (w_blurring l g pe ct n k pr wh).2 = r) ∧ (∀ q, ¬ dIn pM q → ct2 q = (w_blurring l g pe ct n k pr wh).1 q)) ct [.ref 0, .int n, .int k, .int pr, .int wh] := by
  obtain ⟨hk, -, h3⟩ := DWF.spec (K := (fun (ct2 : Nat → va_E) (rr : Option Value) => ∃ (r : Int32), rr = some (.int r) ∧ ((True)) ∧ Inv8 g idn pe ct2)) (fun _ h => h) (k_X8_blurring l g pe (cln g ct) n k pr wh  (cln_I hI))
  obtain ⟨r, e, h1, h2⟩ := hk
  refine h3.mono (fun c rr hc => ?_)
  obtain ⟨rfl, rfl⟩ := hc
  exact ⟨r, e, h1, Inv8_mix h2 hI, congrArg rI e, fun k hk => mixM_o k hk⟩

noncomputable def w_person (l : Launch) (g : zG) (pe : Int32) (ct : Nat → va_E) (a0 : Int32) (b0 : Int32) (c0 : Int32) (d0 : Int32) : (Nat → va_E) × Option Value := DWF l g pCl yX8_person cX8_person 6 (some .int) ({ frames := 28, cells := 0, slots := 0, locals := 694 }) [.ref 0, .int a0, .int b0, .int c0, .int d0] (fun (ct2 : Nat → va_E) (rr : Option Value) => ∃ (r : Int32) (u : Int32), rr = some (.int r) ∧ ((r = (-1) ∧ (u = pe) ∧ (¬ ((0 ≤ a0.toInt ∧ a0.toInt ≤ 15) ∧ (0 ≤ b0.toInt ∧ b0.toInt ≤ 15) ∧ (0 ≤ c0.toInt ∧ c0.toInt ≤ 15) ∧ (0 ≤ d0.toInt ∧ d0.toInt ≤ 15) ∧ pe.toInt < 16))) ∨ (r = pe ∧ (u.toInt = pe.toInt + 1) ∧ ((0 ≤ a0.toInt ∧ a0.toInt ≤ 15) ∧ (0 ≤ b0.toInt ∧ b0.toInt ≤ 15) ∧ (0 ≤ c0.toInt ∧ c0.toInt ≤ 15) ∧ (0 ≤ d0.toInt ∧ d0.toInt ≤ 15) ∧ pe.toInt < 16))) ∧ Inv8 g idn u ct2) (cln g ct)
theorem w_person_c {l : Launch} {g : zG} {pe : Int32} {ct ct2 : Nat → va_E} {a0 : Int32} {b0 : Int32} {c0 : Int32} {d0 : Int32} (h : ∀ k, ¬ dIn pM k → ct2 k = ct k) : w_person l g pe ct2 a0 b0 c0 d0 = w_person l g pe ct a0 b0 c0 d0 := by
  unfold w_person
  rw [cln_eq h]
theorem fw_person (l : Launch) (g : zG) (pe : Int32) (ct : Nat → va_E) (a0 : Int32) (b0 : Int32) (c0 : Int32) (d0 : Int32) (hI : Inv8 g idn pe ct) : DM l g pCl false yX8_person cX8_person 6 (some .int) ({ frames := 28, cells := 0, slots := 0, locals := 694 }) (fun (ct2 : Nat → va_E) (rr : Option Value) => ∃ (r : Int32) (u : Int32), rr = some (.int r) ∧ ((r = (-1) ∧ (u = pe) ∧ (¬ ((0 ≤ a0.toInt ∧ a0.toInt ≤ 15) ∧ (0 ≤ b0.toInt ∧ b0.toInt ≤ 15) ∧ (0 ≤ c0.toInt ∧ c0.toInt ≤ 15) ∧ (0 ≤ d0.toInt ∧ d0.toInt ≤ 15) ∧ pe.toInt < 16))) ∨ (r = pe ∧ (u.toInt = pe.toInt + 1) ∧ ((0 ≤ a0.toInt ∧ a0.toInt ≤ 15) ∧ (0 ≤ b0.toInt ∧ b0.toInt ≤ 15) ∧ (0 ≤ c0.toInt ∧ c0.toInt ≤ 15) ∧ (0 ≤ d0.toInt ∧ d0.toInt ≤ 15) ∧ pe.toInt < 16))) ∧ Inv8 g idn u ct2 ∧ (rI (w_person l g pe ct a0 b0 c0 d0).2 = r) ∧ (∀ q, ¬ dIn pM q → ct2 q = (w_person l g pe ct a0 b0 c0 d0).1 q)) ct [.ref 0, .int a0, .int b0, .int c0, .int d0] := by
  obtain ⟨hk, -, h3⟩ := DWF.spec (K := (fun (ct2 : Nat → va_E) (rr : Option Value) => ∃ (r : Int32) (u : Int32), rr = some (.int r) ∧ ((r = (-1) ∧ (u = pe) ∧ (¬ ((0 ≤ a0.toInt ∧ a0.toInt ≤ 15) ∧ (0 ≤ b0.toInt ∧ b0.toInt ≤ 15) ∧ (0 ≤ c0.toInt ∧ c0.toInt ≤ 15) ∧ (0 ≤ d0.toInt ∧ d0.toInt ≤ 15) ∧ pe.toInt < 16))) ∨ (r = pe ∧ (u.toInt = pe.toInt + 1) ∧ ((0 ≤ a0.toInt ∧ a0.toInt ≤ 15) ∧ (0 ≤ b0.toInt ∧ b0.toInt ≤ 15) ∧ (0 ≤ c0.toInt ∧ c0.toInt ≤ 15) ∧ (0 ≤ d0.toInt ∧ d0.toInt ≤ 15) ∧ pe.toInt < 16))) ∧ Inv8 g idn u ct2)) (fun _ h => h) (k_X8_person l g pe (cln g ct) a0 b0 c0 d0  (cln_I hI))
  obtain ⟨r, u, e, h1, h2⟩ := hk
  refine h3.mono (fun c rr hc => ?_)
  obtain ⟨rfl, rfl⟩ := hc
  exact ⟨r, u, e, h1, Inv8_mix h2 hI, congrArg rI e, fun k hk => mixM_o k hk⟩

noncomputable def w_book (l : Launch) (g : zG) (pe : Int32) (ct : Nat → va_E) (n : Int32) (l0 : Int32) (l1 : Int32) (l2 : Int32) (l3 : Int32) : (Nat → va_E) × Option Value := DWF l g pCl yX8_book cX8_book 9 (some .int) ({ frames := 3, cells := 0, slots := 0, locals := 71 }) [.ref 0, .int n, .int l0, .int l1, .int l2, .int l3] (fun (ct2 : Nat → va_E) (rr : Option Value) => ∃ (r : Int32), rr = some (.int r) ∧ ((True)) ∧ Inv8 g idn pe ct2) (cln g ct)
theorem w_book_c {l : Launch} {g : zG} {pe : Int32} {ct ct2 : Nat → va_E} {n : Int32} {l0 : Int32} {l1 : Int32} {l2 : Int32} {l3 : Int32} (h : ∀ k, ¬ dIn pM k → ct2 k = ct k) : w_book l g pe ct2 n l0 l1 l2 l3 = w_book l g pe ct n l0 l1 l2 l3 := by
  unfold w_book
  rw [cln_eq h]
theorem fw_book (l : Launch) (g : zG) (pe : Int32) (ct : Nat → va_E) (n : Int32) (l0 : Int32) (l1 : Int32) (l2 : Int32) (l3 : Int32) (hI : Inv8 g idn pe ct) : DM l g pCl false yX8_book cX8_book 9 (some .int) ({ frames := 3, cells := 0, slots := 0, locals := 71 }) (fun (ct2 : Nat → va_E) (rr : Option Value) => ∃ (r : Int32), rr = some (.int r) ∧ ((True)) ∧ Inv8 g idn pe ct2 ∧ (rI (w_book l g pe ct n l0 l1 l2 l3).2 = r) ∧ (∀ q, ¬ dIn pM q → ct2 q = (w_book l g pe ct n l0 l1 l2 l3).1 q)) ct [.ref 0, .int n, .int l0, .int l1, .int l2, .int l3] := by
  obtain ⟨hk, -, h3⟩ := DWF.spec (K := (fun (ct2 : Nat → va_E) (rr : Option Value) => ∃ (r : Int32), rr = some (.int r) ∧ ((True)) ∧ Inv8 g idn pe ct2)) (fun _ h => h) (k_X8_book l g pe (cln g ct) n l0 l1 l2 l3  (cln_I hI))
  obtain ⟨r, e, h1, h2⟩ := hk
  refine h3.mono (fun c rr hc => ?_)
  obtain ⟨rfl, rfl⟩ := hc
  exact ⟨r, e, h1, Inv8_mix h2 hI, congrArg rI e, fun k hk => mixM_o k hk⟩
