theorem z_or512 {x y : Int32} (h : 0 ≤ x.toInt) (hy : y = x ||| 512) : 512 ≤ y.toInt := by
  subst hy
  obtain ⟨h1, h2⟩ := z_nat (y := x) (by omega)
  have e : (x ||| 512).toBitVec.toNat = x.toBitVec.toNat ||| 512 := by rw [Int32.toBitVec_or, BitVec.toNat_or]; rfl
  have hr := z_rng x
  have h5 : x.toBitVec.toNat ||| 512 < 2 ^ 31 := Nat.or_lt_two_pow (by omega) (by decide)
  have h6 : 512 ≤ x.toBitVec.toNat ||| 512 := Nat.right_le_or
  have h7 := z_ofnat (y := x ||| 512) (by omega)
  omega
theorem bk4 {g : zG} {pe : Int32} {ct : Nat → va_E} (hI : Inv8 g idn pe ct) : 0 ≤ (bkF ct).toInt ∧ (bkF ct).toInt ≤ 4 := by
  obtain ⟨bk, dr, h1, h2, h3, e⟩ := a8_0 hI
  unfold bkF
  rw [e]
  exact ⟨h2, h3⟩
theorem LIN_fi {g : zG} {pe : Int32} {ct : Nat → va_E} {far : Int32} (hI : Inv8 g idn pe ct) (h : far.toInt ≤ -2 ∨ 512 ≤ far.toInt) : ¬ LIN ct 0 far = true := fun q => by
  obtain ⟨q1, q2, q3, q4⟩ := LIN_iff.mp q
  have h1 := (q_bk hI (b := 0) ⟨by decide, by decide⟩).1.2
  omega
theorem LIN_fb {g : zG} {pe : Int32} {ct : Nat → va_E} {far i : Int32} (hI : Inv8 g idn pe ct) (h : far.toInt ≤ -2 ∨ 512 ≤ far.toInt) : ¬ LIN ct far i = true := fun q => by
  obtain ⟨q1, q2, q3, q4⟩ := LIN_iff.mp q
  have h1 := bk4 hI
  omega

theorem r_fits (l : Launch) (g : zG) (pe : Int32) (ct : Nat → va_E) (far : Int32) (hI : Inv8 g idn pe ct) (hfar : far.toInt ≤ -2 ∨ 512 ≤ far.toInt) : DM l g pAll false yX8_fits cX8_fits 4 (some .int) ({ frames := 5, cells := 0, slots := 0, locals := 117 }) (fun (ct2 : Nat → va_E) (rr : Option Value) => ∃ (r : Int32), rr = some (.int r) ∧ (r = (-1)) ∧ Inv8 g idn pe ct2 ∧ (∀ k, ¬ dIn pM k → ct2 k = ct k)) ct [.ref 0, .int 0, .int 0, .int far] := (f_fits l g pe ct 0 0 far hI).mono (fun c rr hc => by
  obtain ⟨r, e, ⟨h1, -⟩, h2, h3⟩ := hc
  refine ⟨r, e, h1.trans ?_, h2, h3⟩
  have hb := bk4 hI
  have hpp := hI.1
  unfold qFits gLn
  rw [if_neg (fun q => by have q1 := q.2.1; have q2 := q.2.2; omega)])

theorem r_givings (l : Launch) (g : zG) (pe : Int32) (ct : Nat → va_E) (far : Int32) (hI : Inv8 g idn pe ct) (hfar : far.toInt ≤ -2 ∨ 512 ≤ far.toInt) : DM l g pAll false yX8_givings cX8_givings 3 (some .long) ({ frames := 5, cells := 0, slots := 0, locals := 117 }) (fun (ct2 : Nat → va_E) (rr : Option Value) => ∃ (r : Int64), rr = some (.long r) ∧ (r = (-1)) ∧ Inv8 g idn pe ct2 ∧ (∀ k, ¬ dIn pM k → ct2 k = ct k)) ct [.ref 0, .int far, .int 0] := (f_givings l g pe ct far 0 hI).mono (fun c rr hc => by
  obtain ⟨r, e, ⟨h1, -⟩, h2, h3⟩ := hc
  refine ⟨r, e, h1.trans ?_, h2, h3⟩
  have hb := bk4 hI
  have hpp := hI.1
  unfold qGiv
  rw [if_neg (fun q => by have q1 := q.1; have q2 := q.2.1; omega)])

theorem r_odds (l : Launch) (g : zG) (pe : Int32) (ct : Nat → va_E) (far : Int32) (hI : Inv8 g idn pe ct) (hfar : far.toInt ≤ -2 ∨ 512 ≤ far.toInt) : DM l g pAll false yX8_odds cX8_odds 12 (some .long) ({ frames := 5, cells := 0, slots := 0, locals := 117 }) (fun (ct2 : Nat → va_E) (rr : Option Value) => ∃ (r : Int64), rr = some (.long r) ∧ (r = (-1)) ∧ Inv8 g idn pe ct2 ∧ (∀ k, ¬ dIn pM k → ct2 k = ct k)) ct [.ref 0, .int 0, .int 0, .int far, .int 0, .int 0] := (f_odds l g pe ct 0 0 far 0 0 hI).mono (fun c rr hc => by
  obtain ⟨r, e, ⟨h1, -⟩, h2, h3⟩ := hc
  refine ⟨r, e, h1.trans ?_, h2, h3⟩
  have hb := bk4 hI
  have hpp := hI.1
  unfold qOdd
  rw [if_neg (fun q => by have q1 := q.2.1.1; have q2 := q.2.1.2; omega)])

theorem r_mustBe (l : Launch) (g : zG) (pe : Int32) (ct : Nat → va_E) (far : Int32) (hI : Inv8 g idn pe ct) (hfar : far.toInt ≤ -2 ∨ 512 ≤ far.toInt) : DM l g pAll false yX8_mustBe cX8_mustBe 6 (some .int) ({ frames := 5, cells := 0, slots := 0, locals := 117 }) (fun (ct2 : Nat → va_E) (rr : Option Value) => ∃ (r : Int32), rr = some (.int r) ∧ (r = (-1)) ∧ Inv8 g idn pe ct2 ∧ (∀ k, ¬ dIn pM k → ct2 k = ct k)) ct [.ref 0, .int 0, .int far, .int 0, .int 0] := (f_mustBe l g pe ct 0 far 0 0 hI).mono (fun c rr hc => by
  obtain ⟨r, e, ⟨h1, -⟩, h2, h3⟩ := hc
  refine ⟨r, e, h1.trans ?_, h2, h3⟩
  have hb := bk4 hI
  have hpp := hI.1
  unfold qMust
  rw [if_neg (fun q => LIN_fi hI hfar q.1)])

theorem r_giving (l : Launch) (g : zG) (pe : Int32) (ct : Nat → va_E) (far : Int32) (hI : Inv8 g idn pe ct) (hfar : far.toInt ≤ -2 ∨ 512 ≤ far.toInt) : DM l g pAll false yX8_giving cX8_giving 5 (some .int) ({ frames := 5, cells := 0, slots := 0, locals := 117 }) (fun (ct2 : Nat → va_E) (rr : Option Value) => ∃ (r : Int32), rr = some (.int r) ∧ (r = (-1)) ∧ Inv8 g idn pe ct2 ∧ (∀ k, ¬ dIn pM k → ct2 k = ct k)) ct [.ref 0, .int far, .int 0, .int 0] := (f_giving l g pe ct far 0 0 hI).mono (fun c rr hc => by
  obtain ⟨r, e, ⟨h1, -⟩, h2, h3⟩ := hc
  refine ⟨r, e, h1.trans ?_, h2, h3⟩
  have hb := bk4 hI
  have hpp := hI.1
  unfold qGvg gLn
  rw [if_neg (fun q => LIN_fb hI hfar q.1)])

theorem r_tooFew (l : Launch) (g : zG) (pe : Int32) (ct : Nat → va_E) (far : Int32) (hI : Inv8 g idn pe ct) (hfar : far.toInt ≤ -2 ∨ 512 ≤ far.toInt) : DM l g pAll false yX8_tooFew cX8_tooFew 3 (some .int) ({ frames := 5, cells := 0, slots := 0, locals := 117 }) (fun (ct2 : Nat → va_E) (rr : Option Value) => ∃ (r : Int32), rr = some (.int r) ∧ (r = (-1)) ∧ Inv8 g idn pe ct2 ∧ (∀ k, ¬ dIn pM k → ct2 k = ct k)) ct [.ref 0, .int far, .int 0] := (f_tooFew l g pe ct far 0 hI).mono (fun c rr hc => by
  obtain ⟨r, e, ⟨h1, -⟩, h2, h3⟩ := hc
  refine ⟨r, e, h1.trans ?_, h2, h3⟩
  have hb := bk4 hI
  have hpp := hI.1
  unfold qFew gBk
  rw [if_neg (fun q => by have q1 := q.1; have q2 := q.2.1; omega)])

theorem r_steps (l : Launch) (g : zG) (pe : Int32) (ct : Nat → va_E) (far : Int32) (hI : Inv8 g idn pe ct) (hfar : far.toInt ≤ -2 ∨ 512 ≤ far.toInt) : DM l g pAll false yX8_steps cX8_steps 5 (some .int) ({ frames := 5, cells := 0, slots := 0, locals := 117 }) (fun (ct2 : Nat → va_E) (rr : Option Value) => ∃ (r : Int32), rr = some (.int r) ∧ (r = (-1)) ∧ Inv8 g idn pe ct2 ∧ (∀ k, ¬ dIn pM k → ct2 k = ct k)) ct [.ref 0, .int 0, .int far, .int (-1)] := (f_steps l g pe ct 0 far (-1) hI).mono (fun c rr hc => by
  obtain ⟨r, e, ⟨h1, -⟩, h2, h3⟩ := hc
  refine ⟨r, e, h1.trans ?_, h2, h3⟩
  have hb := bk4 hI
  have hpp := hI.1
  unfold qStp
  rw [if_pos (fun q => by have q1 := q.2.2.1; have q2 := q.2.2.2; omega)])

theorem r_safe (l : Launch) (g : zG) (pe : Int32) (ct : Nat → va_E) (hI : Inv8 g idn pe ct) : DM l g pAll false yX8_safe cX8_safe 4 (some .int) ({ frames := 5, cells := 0, slots := 0, locals := 117 }) (fun (ct2 : Nat → va_E) (rr : Option Value) => ∃ (r : Int32), rr = some (.int r) ∧ (r = (-1)) ∧ Inv8 g idn pe ct2 ∧ (∀ k, ¬ dIn pM k → ct2 k = ct k)) ct [.ref 0, .int 0, .int 0, .int 0] := (f_safe l g pe ct 0 0 0 hI).mono (fun c rr hc => by
  obtain ⟨r, e, ⟨h1, -⟩, h2, h3⟩ := hc
  refine ⟨r, e, h1.trans ?_, h2, h3⟩
  have hb := bk4 hI
  have hpp := hI.1
  unfold qSafe
  rw [if_neg (fun q => absurd q.2.2.1 (by decide))])

theorem r_fewest (l : Launch) (g : zG) (pe : Int32) (ct : Nat → va_E) (hI : Inv8 g idn pe ct) : DM l g pAll false yX8_fewest cX8_fewest 5 (some .int) ({ frames := 6, cells := 0, slots := 0, locals := 144 }) (fun (ct2 : Nat → va_E) (rr : Option Value) => ∃ (r : Int32), rr = some (.int r) ∧ (r = (-1)) ∧ Inv8 g idn pe ct2 ∧ (∀ k, ¬ dIn pM k → ct2 k = ct k)) ct [.ref 0, .int 0, .int 0, .int 3] := (f_fewest l g pe ct 0 0 3 hI).mono (fun c rr hc => by
  obtain ⟨r, e, ⟨h1, -⟩, h2, h3⟩ := hc
  refine ⟨r, e, h1.trans ?_, h2, h3⟩
  have hb := bk4 hI
  have hpp := hI.1
  unfold qFst
  rw [if_neg (fun q => absurd q.2.2 (by decide))])

theorem r_together (l : Launch) (g : zG) (pe : Int32) (ct : Nat → va_E) (hI : Inv8 g idn pe ct) : DM l g pAll false yX8_together cX8_together 5 (some .int) ({ frames := 6, cells := 0, slots := 0, locals := 139 }) (fun (ct2 : Nat → va_E) (rr : Option Value) => ∃ (r : Int32), rr = some (.int r) ∧ (r = (-1)) ∧ Inv8 g idn pe ct2 ∧ (∀ k, ¬ dIn pM k → ct2 k = ct k)) ct [.ref 0, .int 0, .int 0] := (f_together l g pe ct 0 0 hI).mono (fun c rr hc => by
  obtain ⟨r, e, ⟨h1, -⟩, h2, h3⟩ := hc
  refine ⟨r, e, h1.trans ?_, h2, h3⟩
  have hb := bk4 hI
  have hpp := hI.1
  unfold qTog
  rw [if_neg (fun q => absurd q.1 (by decide))])
