/-- what next() says, closed to omega -/
def nxp (r a : Int32) : Prop := r.toInt = -1 ∨ a.toInt ≤ 99
theorem nxp_use {r a : Int32} (h : nxp r a) (hr : ¬ r.toInt = -1) : a.toInt ≤ 99 := by
  unfold nxp at h
  omega

theorem k_X4_nextp (l : Launch) (g : zG) (ad : Nat → Nat) (pe : Int32) (ct : Nat → va_E) (kg : Nat) (tld : Int32) (ofb : Int32) (hol : Int32) (flt : Int32) (fla : Int32) (ofl : Int32) (len : Int32) (atx : Int32) (ref : Int32) (hf_kg : 99 ≤ kg ∧ kg < 126 ∧ (kg - 99) % 3 = 0) (hI : Inv8 g ad pe ct) (hs0 : ct kg = .inr (4, [.int tld, .int ofb, .int hol, .int flt, .int fla, .int ofl, .ref (ad (kg + 1)), .ref (ad (kg + 2)), .int len, .int atx, .int ref])) : Met l yX4_next (zW yX4_next cX4_next 1 (some .int)) ({ frames := 0, cells := 0, slots := 0, locals := 0 }) (va_Pc [.ref (ad kg)] (zR g (zw 126 ad ct))) (vp_Si (fun r : Int32 => ((nxp r atx)))) 0 0 (fun _ => False) :=
  k_X4_next l g ad pe ct kg tld ofb hol flt fla ofl len atx ref hf_kg hI hs0
