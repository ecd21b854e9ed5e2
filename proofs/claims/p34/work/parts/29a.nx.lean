/-- what next() says, closed to omega -/
def nxp (r a : Int32) : Prop := r.toInt = -1 ∨ a.toInt ≤ 99
theorem nxp_use {r a : Int32} (h : nxp r a) (hr : ¬ r.toInt = -1) : a.toInt ≤ 99 := by
  unfold nxp at h
  omega

theorem k_X4_nextp (l : Launch) (g : zG) (pe : Int32) (ct : Nat → va_E) (kg : Nat) (tld : Int32) (ofb : Int32) (hol : Int32) (flt : Int32) (fla : Int32) (ofl : Int32) (len : Int32) (atx : Int32) (ref : Int32) (hf_kg : 99 ≤ kg ∧ kg < 126 ∧ (kg - 99) % 3 = 0) (hI : Inv8 g idn pe ct) (hs0 : ct kg = .inr (4, [.int tld, .int ofb, .int hol, .int flt, .int fla, .int ofl, .ref (idn (kg + 1)), .ref (idn (kg + 2)), .int len, .int atx, .int ref])) : DM l g pG false yX4_next cX4_next 1 (some .int) ({ frames := 0, cells := 0, slots := 0, locals := 0 }) (fun (ct2 : Nat → va_E) (rr : Option Value) => ∃ (r : Int32), rr = some (.int r) ∧ (((nxp r atx))) ∧ ct = ct2) ct [.ref kg] :=
  k_X4_next l g pe ct kg tld ofb hol flt fla ofl len atx ref hf_kg hI hs0
