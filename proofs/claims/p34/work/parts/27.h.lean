set_option maxHeartbeats 4000000 in
set_option maxRecDepth 100000 in
theorem k_X4_next (l : Launch) (g : zG) (pe : Int32) (ct : Nat → va_E) (kg : Nat) (tld : Int32) (ofb : Int32) (hol : Int32) (flt : Int32) (fla : Int32) (ofl : Int32) (len : Int32) (atx : Int32) (ref : Int32) (hf_kg : 99 ≤ kg ∧ kg < 126 ∧ (kg - 99) % 3 = 0) (hI : Inv8 g idn pe ct) (hs0 : ct kg = .inr (4, [.int tld, .int ofb, .int hol, .int flt, .int fla, .int ofl, .ref (idn (kg + 1)), .ref (idn (kg + 2)), .int len, .int atx, .int ref])) : DM l g pG false yX4_next cX4_next 1 (some .int) ({ frames := 0, cells := 0, slots := 0, locals := 0 }) (fun (ct2 : Nat → va_E) (rr : Option Value) => ∃ (r : Int32), rr = some (.int r) ∧ (((r.toInt = -1 ∨ atx.toInt ≤ 99))) ∧ ct = ct2) ct [.ref kg] := by
  refine DM.K (fun K hK => ?_)
  refine GW.met (own := RX4) (loc := [(0, .ref kg)]) (by decide) rfl rfl (Nat.le_of_ble_eq_true rfl) ?_
  have hpe0 := hI.1
  obtain ⟨tld2, ofb3, hol4, flt5, fla6, ofl7, len8, atx9, ref10, hz11, h12, h13, h14, h15, hz16, hs1⟩ := a8_44 (kc := kg) (by omega) hI
  have bhz11 := z_b01 hz11
  have bhz16 := z_b01 hz16
  have hs17 := hs0
  cases (hs0.symm.trans hs1)
  refine dv_aload_n dX4_next_0 rfl 0 rfl ?_
  refine dv_get (ci := 4) (v := .int flt) (C := RX4) (T := TX4) (N := 11) ⟨by omega, pG_of (by omega)⟩ hs17 rfl inG4 3 (by decide) mm_220 rfl dX4_next_1 ?_
  refine dv_if_ne (tgt := 39) dX4_next_4 (by decide) (fun c18 => ?_) (fun c18 => ?_)
  · skip
    have c18 : ¬ (flt.toInt = 0) := fun q => c18 ((z_eq rfl (by decide : (0 : Int32).toInt = 0)).mpr q)
    refine dv_iconst (v := (-1)) dX4_next_39 (by decide) ?_
    have q19 : ((-1) : Int32).toInt = -1 := by decide
    exact dv_iret dX4_next_40 rfl (by first | exact Nat.zero_le _ | decide) (by first | exact Nat.zero_le _ | decide) (by subst hK; exact ⟨(-1), rfl, (by omega), rfl⟩)
  · skip
    have c18 : flt.toInt = 0 := (z_eq rfl (by decide : (0 : Int32).toInt = 0)).mp c18
    refine dv_aload_n dX4_next_7 rfl 0 rfl ?_
    refine dv_get (ci := 4) (v := .int atx) (C := RX4) (T := TX4) (N := 11) ⟨by omega, pG_of (by omega)⟩ hs17 rfl inG4 9 (by decide) mm_228 rfl dX4_next_8 ?_
    refine dv_aload_n dX4_next_11 rfl 0 rfl ?_
    refine dv_get (ci := 4) (v := .int len) (C := RX4) (T := TX4) (N := 11) ⟨by omega, pG_of (by omega)⟩ hs17 rfl inG4 8 (by decide) mm_227 rfl dX4_next_12 ?_
    refine dv_icmp_ge (tgt := 39) dX4_next_15 (by decide) (fun c20 => ?_) (fun c20 => ?_)
    · skip
      have c20 : len.toInt ≤ atx.toInt := (z_le rfl rfl).mp c20
      refine dv_iconst (v := (-1)) dX4_next_39 (by decide) ?_
      have q21 : ((-1) : Int32).toInt = -1 := by decide
      exact dv_iret dX4_next_40 rfl (by first | exact Nat.zero_le _ | decide) (by first | exact Nat.zero_le _ | decide) (by subst hK; exact ⟨(-1), rfl, (by omega), rfl⟩)
    · skip
      have c20 : ¬ (len.toInt ≤ atx.toInt) := fun q => c20 ((z_le rfl rfl).mpr q)
      refine dv_aload_n dX4_next_18 rfl 0 rfl ?_
      refine dv_get (ci := 4) (v := .int atx) (C := RX4) (T := TX4) (N := 11) ⟨by omega, pG_of (by omega)⟩ hs17 rfl inG4 9 (by decide) mm_228 rfl dX4_next_19 ?_
      refine dv_bipush (v := 100) dX4_next_22 (by decide) ?_
      refine dv_icmp_ge (tgt := 39) dX4_next_24 (by decide) (fun c22 => ?_) (fun c22 => ?_)
      · skip
        have c22 : 100 ≤ atx.toInt := (z_le (by decide : (100 : Int32).toInt = 100) rfl).mp c22
        exfalso
        omega
      · skip
        have c22 : ¬ (100 ≤ atx.toInt) := fun q => c22 ((z_le (by decide : (100 : Int32).toInt = 100) rfl).mpr q)
        refine dv_aload_n dX4_next_27 rfl 0 rfl ?_
        refine dv_get (ci := 4) (v := .ref (kg + 2)) (C := RX4) (T := TX4) (N := 11) ⟨by omega, pG_of (by omega)⟩ hs17 rfl inG4 7 (by decide) mm_226 rfl dX4_next_28 ?_
        refine dv_aload_n dX4_next_31 rfl 0 rfl ?_
        refine dv_get (ci := 4) (v := .int atx) (C := RX4) (T := TX4) (N := 11) ⟨by omega, pG_of (by omega)⟩ hs17 rfl inG4 9 (by decide) mm_228 rfl dX4_next_32 ?_
        obtain ⟨f24, hs23⟩ := a8_46 (kc := kg) (by omega) hI
        refine dv_iald 0 ⟨by omega, pG_of (by omega)⟩ hs23 rfl (z_in rfl (by omega) (by omega)) dX4_next_35 ?_
        refine dv_topi (fun y25 ey25 => ?_)
        refine dv_goto (tgt := 40) dX4_next_36 (by decide) ?_
        exact dv_iret dX4_next_40 rfl (by first | exact Nat.zero_le _ | decide) (by first | exact Nat.zero_le _ | decide) (by subst hK; exact ⟨y25, rfl, (by omega), rfl⟩)

set_option maxHeartbeats 4000000 in
set_option maxRecDepth 100000 in
theorem k_X4_fail (l : Launch) (g : zG) (pe : Int32) (ct : Nat → va_E) (kg : Nat) (n : Int32) (hf_kg : 99 ≤ kg ∧ kg < 126 ∧ (kg - 99) % 3 = 0) (hI : Inv8 g idn pe ct) : DM l g pG false yX4_fail cX4_fail 2 none ({ frames := 0, cells := 0, slots := 0, locals := 0 }) (fun (ct2 : Nat → va_E) (rr : Option Value) => rr = none ∧ Inv8 g idn pe ct2) ct [.ref kg, .int n] := by
  refine DM.K (fun K hK => ?_)
  refine GW.met (own := RX4) (loc := [(0, .ref kg), (1, .int n)]) (by decide) rfl rfl (Nat.le_of_ble_eq_true rfl) ?_
  have hpe0 := hI.1
  have rg_n := z_rng n
  refine dv_aload_n dX4_fail_0 rfl 0 rfl ?_
  obtain ⟨tld2, ofb3, hol4, flt5, fla6, ofl7, len8, atx9, ref10, hz11, h12, h13, h14, h15, hz16, hs1⟩ := a8_44 (kc := kg) (by omega) hI
  have bhz11 := z_b01 hz11
  have bhz16 := z_b01 hz16
  refine dv_get (ci := 4) (v := .int flt5) (C := RX4) (T := TX4) (N := 11) ⟨by omega, pG_of (by omega)⟩ hs1 rfl inG4 3 (by decide) mm_220 rfl dX4_fail_1 ?_
  refine dv_if_ne (tgt := 20) dX4_fail_4 (by decide) (fun c17 => ?_) (fun c17 => ?_)
  · skip
    have c17 : ¬ (flt5.toInt = 0) := fun q => c17 ((z_eq rfl (by decide : (0 : Int32).toInt = 0)).mpr q)
    exact dv_vret dX4_fail_20 rfl (by first | exact Nat.zero_le _ | decide) (by first | exact Nat.zero_le _ | decide) (by subst hK; exact ⟨rfl, hI⟩)
  · skip
    have c17 : flt5.toInt = 0 := (z_eq rfl (by decide : (0 : Int32).toInt = 0)).mp c17
    refine dv_aload_n dX4_fail_7 rfl 0 rfl ?_
    refine dv_iload_n dX4_fail_8 rfl 1 rfl ?_
    refine dv_put (ci := 4) (v := .int n) (ty := .int) (C := RX4) (T := TX4) (N := 11) ⟨by omega, pG_of (by omega)⟩ hs1 rfl inG4 tyX4 tyX4_ok nmX4 3 (by decide) mm_220 rfl (by decide +kernel) (fun _ => rfl) (fun _ => rfl) (Nat.le_of_ble_eq_true rfl) dX4_fail_9 (en := .inr (4, [.int tld2, .int ofb3, .int hol4, .int n, .int fla6, .int ofl7, .ref (kg + 1), .ref (kg + 2), .int len8, .int atx9, .int ref10])) rfl (fun ct18 ec19 => ?_)
    have hI : Inv8 g idn pe ct18 := by rw [ec19]; exact up8 hI (i8_44 (kc := kg) (by omega) ⟨(tld2 : Int32), (ofb3 : Int32), (hol4 : Int32), (n : Int32), (fla6 : Int32), (ofl7 : Int32), (len8 : Int32), (atx9 : Int32), (ref10 : Int32), hz11, (by first | omega | decide), (by first | omega | decide), (by first | omega | decide), (by first | omega | decide), hz16, rfl⟩)
    have hs20 : ct18 kg = .inr (4, [.int tld2, .int ofb3, .int hol4, .int n, .int fla6, .int ofl7, .ref (kg + 1), .ref (kg + 2), .int len8, .int atx9, .int ref10]) := by rw [ec19]; exact va_up_self _ _ _
    refine dv_aload_n dX4_fail_12 rfl 0 rfl ?_
    refine dv_aload_n dX4_fail_13 rfl 0 rfl ?_
    refine dv_get (ci := 4) (v := .int atx9) (C := RX4) (T := TX4) (N := 11) ⟨by omega, pG_of (by omega)⟩ hs20 rfl inG4 9 (by decide) mm_228 rfl dX4_fail_14 ?_
    refine dv_put (ci := 4) (v := .int atx9) (ty := .int) (C := RX4) (T := TX4) (N := 11) ⟨by omega, pG_of (by omega)⟩ hs20 rfl inG4 tyX4 tyX4_ok nmX4 4 (by decide) mm_222 rfl (by decide +kernel) (fun _ => rfl) (fun _ => rfl) (Nat.le_of_ble_eq_true rfl) dX4_fail_17 (en := .inr (4, [.int tld2, .int ofb3, .int hol4, .int n, .int atx9, .int ofl7, .ref (kg + 1), .ref (kg + 2), .int len8, .int atx9, .int ref10])) rfl (fun ct21 ec22 => ?_)
    have hI : Inv8 g idn pe ct21 := by rw [ec22]; exact up8 hI (i8_44 (kc := kg) (by omega) ⟨(tld2 : Int32), (ofb3 : Int32), (hol4 : Int32), (n : Int32), (atx9 : Int32), (ofl7 : Int32), (len8 : Int32), (atx9 : Int32), (ref10 : Int32), hz11, (by first | omega | decide), (by first | omega | decide), (by first | omega | decide), (by first | omega | decide), hz16, rfl⟩)
    have hs23 : ct21 kg = .inr (4, [.int tld2, .int ofb3, .int hol4, .int n, .int atx9, .int ofl7, .ref (kg + 1), .ref (kg + 2), .int len8, .int atx9, .int ref10]) := by rw [ec22]; exact va_up_self _ _ _
    exact dv_vret dX4_fail_20 rfl (by first | exact Nat.zero_le _ | decide) (by first | exact Nat.zero_le _ | decide) (by subst hK; exact ⟨rfl, hI⟩)

set_option maxHeartbeats 4000000 in
set_option maxRecDepth 100000 in
theorem k_X4_start (l : Launch) (g : zG) (pe : Int32) (ct : Nat → va_E) (kg : Nat) (hf_kg : 99 ≤ kg ∧ kg < 126 ∧ (kg - 99) % 3 = 0) (hI : Inv8 g idn pe ct) : DM l g pG false yX4_start cX4_start 1 none ({ frames := 0, cells := 0, slots := 0, locals := 0 }) (fun (ct2 : Nat → va_E) (rr : Option Value) => rr = none ∧ Inv8 g idn pe ct2) ct [.ref kg] := by
  refine DM.K (fun K hK => ?_)
  refine GW.met (own := RX4) (loc := [(0, .ref kg)]) (by decide) rfl rfl (Nat.le_of_ble_eq_true rfl) ?_
  have hpe0 := hI.1
  refine dv_aload_n dX4_start_0 rfl 0 rfl ?_
  refine dv_iconst (v := 0) dX4_start_1 (by decide) ?_
  obtain ⟨tld2, ofb3, hol4, flt5, fla6, ofl7, len8, atx9, ref10, hz11, h12, h13, h14, h15, hz16, hs1⟩ := a8_44 (kc := kg) (by omega) hI
  have bhz11 := z_b01 hz11
  have bhz16 := z_b01 hz16
  refine dv_put (ci := 4) (v := .int 0) (ty := .int) (C := RX4) (T := TX4) (N := 11) ⟨by omega, pG_of (by omega)⟩ hs1 rfl inG4 tyX4 tyX4_ok nmX4 9 (by decide) mm_228 rfl (by decide +kernel) (fun _ => rfl) (fun _ => rfl) (Nat.le_of_ble_eq_true rfl) dX4_start_2 (en := .inr (4, [.int tld2, .int ofb3, .int hol4, .int flt5, .int fla6, .int ofl7, .ref (kg + 1), .ref (kg + 2), .int len8, .int 0, .int ref10])) rfl (fun ct17 ec18 => ?_)
  have hI : Inv8 g idn pe ct17 := by rw [ec18]; exact up8 hI (i8_44 (kc := kg) (by omega) ⟨(tld2 : Int32), (ofb3 : Int32), (hol4 : Int32), (flt5 : Int32), (fla6 : Int32), (ofl7 : Int32), (len8 : Int32), (0 : Int32), (ref10 : Int32), hz11, (by first | omega | decide), (by first | omega | decide), (by first | omega | decide), (by first | omega | decide), hz16, rfl⟩)
  have hs19 : ct17 kg = .inr (4, [.int tld2, .int ofb3, .int hol4, .int flt5, .int fla6, .int ofl7, .ref (kg + 1), .ref (kg + 2), .int len8, .int 0, .int ref10]) := by rw [ec18]; exact va_up_self _ _ _
  refine dv_aload_n dX4_start_5 rfl 0 rfl ?_
  refine dv_iconst (v := 0) dX4_start_6 (by decide) ?_
  refine dv_put (ci := 4) (v := .int 0) (ty := .int) (C := RX4) (T := TX4) (N := 11) ⟨by omega, pG_of (by omega)⟩ hs19 rfl inG4 tyX4 tyX4_ok nmX4 3 (by decide) mm_220 rfl (by decide +kernel) (fun _ => rfl) (fun _ => rfl) (Nat.le_of_ble_eq_true rfl) dX4_start_7 (en := .inr (4, [.int tld2, .int ofb3, .int hol4, .int 0, .int fla6, .int ofl7, .ref (kg + 1), .ref (kg + 2), .int len8, .int 0, .int ref10])) rfl (fun ct20 ec21 => ?_)
  have hI : Inv8 g idn pe ct20 := by rw [ec21]; exact up8 hI (i8_44 (kc := kg) (by omega) ⟨(tld2 : Int32), (ofb3 : Int32), (hol4 : Int32), (0 : Int32), (fla6 : Int32), (ofl7 : Int32), (len8 : Int32), (0 : Int32), (ref10 : Int32), hz11, (by first | omega | decide), (by first | omega | decide), (by first | omega | decide), (by first | omega | decide), hz16, rfl⟩)
  have hs22 : ct20 kg = .inr (4, [.int tld2, .int ofb3, .int hol4, .int 0, .int fla6, .int ofl7, .ref (kg + 1), .ref (kg + 2), .int len8, .int 0, .int ref10]) := by rw [ec21]; exact va_up_self _ _ _
  refine dv_aload_n dX4_start_10 rfl 0 rfl ?_
  refine dv_iconst (v := 0) dX4_start_11 (by decide) ?_
  refine dv_put (ci := 4) (v := .int 0) (ty := .boolean) (C := RX4) (T := TX4) (N := 11) ⟨by omega, pG_of (by omega)⟩ hs22 rfl inG4 tyX4 tyX4_ok nmX4 10 (by decide) mm_229 rfl (by decide +kernel) (fun _ => rfl) (fun _ => rfl) (Nat.le_of_ble_eq_true rfl) dX4_start_12 (en := .inr (4, [.int tld2, .int ofb3, .int hol4, .int 0, .int fla6, .int ofl7, .ref (kg + 1), .ref (kg + 2), .int len8, .int 0, .int 0])) rfl (fun ct23 ec24 => ?_)
  have hI : Inv8 g idn pe ct23 := by rw [ec24]; exact up8 hI (i8_44 (kc := kg) (by omega) ⟨(tld2 : Int32), (ofb3 : Int32), (hol4 : Int32), (0 : Int32), (fla6 : Int32), (ofl7 : Int32), (len8 : Int32), (0 : Int32), (0 : Int32), hz11, (by first | omega | decide), (by first | omega | decide), (by first | omega | decide), (by first | omega | decide), (Or.inl rfl), rfl⟩)
  have hs25 : ct23 kg = .inr (4, [.int tld2, .int ofb3, .int hol4, .int 0, .int fla6, .int ofl7, .ref (kg + 1), .ref (kg + 2), .int len8, .int 0, .int 0]) := by rw [ec24]; exact va_up_self _ _ _
  exact dv_vret dX4_start_15 rfl (by first | exact Nat.zero_le _ | decide) (by first | exact Nat.zero_le _ | decide) (by subst hK; exact ⟨rfl, hI⟩)

set_option maxHeartbeats 4000000 in
set_option maxRecDepth 100000 in
theorem k_X4_tellOf (l : Launch) (g : zG) (pe : Int32) (ct : Nat → va_E) (kg : Nat) (b : Int32) (i : Int32) (hf_kg : 99 ≤ kg ∧ kg < 126 ∧ (kg - 99) % 3 = 0) (hI : Inv8 g idn pe ct) : DM l g pG false yX4_tellOf cX4_tellOf 3 none ({ frames := 0, cells := 0, slots := 0, locals := 0 }) (fun (ct2 : Nat → va_E) (rr : Option Value) => rr = none ∧ Inv8 g idn pe ct2) ct [.ref kg, .int b, .int i] := by
  refine DM.K (fun K hK => ?_)
  refine GW.met (own := RX4) (loc := [(0, .ref kg), (1, .int b), (2, .int i)]) (by decide) rfl rfl (Nat.le_of_ble_eq_true rfl) ?_
  have hpe0 := hI.1
  have rg_b := z_rng b
  have rg_i := z_rng i
  refine dv_aload_n dX4_tellOf_0 rfl 0 rfl ?_
  refine dv_iconst (v := 1) dX4_tellOf_1 (by decide) ?_
  obtain ⟨tld2, ofb3, hol4, flt5, fla6, ofl7, len8, atx9, ref10, hz11, h12, h13, h14, h15, hz16, hs1⟩ := a8_44 (kc := kg) (by omega) hI
  have bhz11 := z_b01 hz11
  have bhz16 := z_b01 hz16
  refine dv_put (ci := 4) (v := .int 1) (ty := .boolean) (C := RX4) (T := TX4) (N := 11) ⟨by omega, pG_of (by omega)⟩ hs1 rfl inG4 tyX4 tyX4_ok nmX4 0 (by decide) mm_214 rfl (by decide +kernel) (fun _ => rfl) (fun _ => rfl) (Nat.le_of_ble_eq_true rfl) dX4_tellOf_2 (en := .inr (4, [.int 1, .int ofb3, .int hol4, .int flt5, .int fla6, .int ofl7, .ref (kg + 1), .ref (kg + 2), .int len8, .int atx9, .int ref10])) rfl (fun ct17 ec18 => ?_)
  have hI : Inv8 g idn pe ct17 := by rw [ec18]; exact up8 hI (i8_44 (kc := kg) (by omega) ⟨(1 : Int32), (ofb3 : Int32), (hol4 : Int32), (flt5 : Int32), (fla6 : Int32), (ofl7 : Int32), (len8 : Int32), (atx9 : Int32), (ref10 : Int32), (Or.inr rfl), (by first | omega | decide), (by first | omega | decide), (by first | omega | decide), (by first | omega | decide), hz16, rfl⟩)
  have hs19 : ct17 kg = .inr (4, [.int 1, .int ofb3, .int hol4, .int flt5, .int fla6, .int ofl7, .ref (kg + 1), .ref (kg + 2), .int len8, .int atx9, .int ref10]) := by rw [ec18]; exact va_up_self _ _ _
  refine dv_aload_n dX4_tellOf_5 rfl 0 rfl ?_
  refine dv_iload_n dX4_tellOf_6 rfl 1 rfl ?_
  refine dv_put (ci := 4) (v := .int b) (ty := .int) (C := RX4) (T := TX4) (N := 11) ⟨by omega, pG_of (by omega)⟩ hs19 rfl inG4 tyX4 tyX4_ok nmX4 1 (by decide) mm_216 rfl (by decide +kernel) (fun _ => rfl) (fun _ => rfl) (Nat.le_of_ble_eq_true rfl) dX4_tellOf_7 (en := .inr (4, [.int 1, .int b, .int hol4, .int flt5, .int fla6, .int ofl7, .ref (kg + 1), .ref (kg + 2), .int len8, .int atx9, .int ref10])) rfl (fun ct20 ec21 => ?_)
  have hI : Inv8 g idn pe ct20 := by rw [ec21]; exact up8 hI (i8_44 (kc := kg) (by omega) ⟨(1 : Int32), (b : Int32), (hol4 : Int32), (flt5 : Int32), (fla6 : Int32), (ofl7 : Int32), (len8 : Int32), (atx9 : Int32), (ref10 : Int32), (Or.inr rfl), (by first | omega | decide), (by first | omega | decide), (by first | omega | decide), (by first | omega | decide), hz16, rfl⟩)
  have hs22 : ct20 kg = .inr (4, [.int 1, .int b, .int hol4, .int flt5, .int fla6, .int ofl7, .ref (kg + 1), .ref (kg + 2), .int len8, .int atx9, .int ref10]) := by rw [ec21]; exact va_up_self _ _ _
  refine dv_aload_n dX4_tellOf_10 rfl 0 rfl ?_
  refine dv_iload_n dX4_tellOf_11 rfl 2 rfl ?_
  refine dv_put (ci := 4) (v := .int i) (ty := .int) (C := RX4) (T := TX4) (N := 11) ⟨by omega, pG_of (by omega)⟩ hs22 rfl inG4 tyX4 tyX4_ok nmX4 5 (by decide) mm_224 rfl (by decide +kernel) (fun _ => rfl) (fun _ => rfl) (Nat.le_of_ble_eq_true rfl) dX4_tellOf_12 (en := .inr (4, [.int 1, .int b, .int hol4, .int flt5, .int fla6, .int i, .ref (kg + 1), .ref (kg + 2), .int len8, .int atx9, .int ref10])) rfl (fun ct23 ec24 => ?_)
  have hI : Inv8 g idn pe ct23 := by rw [ec24]; exact up8 hI (i8_44 (kc := kg) (by omega) ⟨(1 : Int32), (b : Int32), (hol4 : Int32), (flt5 : Int32), (fla6 : Int32), (i : Int32), (len8 : Int32), (atx9 : Int32), (ref10 : Int32), (Or.inr rfl), (by first | omega | decide), (by first | omega | decide), (by first | omega | decide), (by first | omega | decide), hz16, rfl⟩)
  have hs25 : ct23 kg = .inr (4, [.int 1, .int b, .int hol4, .int flt5, .int fla6, .int i, .ref (kg + 1), .ref (kg + 2), .int len8, .int atx9, .int ref10]) := by rw [ec24]; exact va_up_self _ _ _
  refine dv_aload_n dX4_tellOf_15 rfl 0 rfl ?_
  refine dv_iconst (v := 0) dX4_tellOf_16 (by decide) ?_
  refine dv_put (ci := 4) (v := .int 0) (ty := .int) (C := RX4) (T := TX4) (N := 11) ⟨by omega, pG_of (by omega)⟩ hs25 rfl inG4 tyX4 tyX4_ok nmX4 2 (by decide) mm_218 rfl (by decide +kernel) (fun _ => rfl) (fun _ => rfl) (Nat.le_of_ble_eq_true rfl) dX4_tellOf_17 (en := .inr (4, [.int 1, .int b, .int 0, .int flt5, .int fla6, .int i, .ref (kg + 1), .ref (kg + 2), .int len8, .int atx9, .int ref10])) rfl (fun ct26 ec27 => ?_)
  have hI : Inv8 g idn pe ct26 := by rw [ec27]; exact up8 hI (i8_44 (kc := kg) (by omega) ⟨(1 : Int32), (b : Int32), (0 : Int32), (flt5 : Int32), (fla6 : Int32), (i : Int32), (len8 : Int32), (atx9 : Int32), (ref10 : Int32), (Or.inr rfl), (by first | omega | decide), (by first | omega | decide), (by first | omega | decide), (by first | omega | decide), hz16, rfl⟩)
  have hs28 : ct26 kg = .inr (4, [.int 1, .int b, .int 0, .int flt5, .int fla6, .int i, .ref (kg + 1), .ref (kg + 2), .int len8, .int atx9, .int ref10]) := by rw [ec27]; exact va_up_self _ _ _
  exact dv_vret dX4_tellOf_20 rfl (by first | exact Nat.zero_le _ | decide) (by first | exact Nat.zero_le _ | decide) (by subst hK; exact ⟨rfl, hI⟩)

set_option maxHeartbeats 4000000 in
set_option maxRecDepth 100000 in
theorem k_X4_opens (l : Launch) (g : zG) (pe : Int32) (ct : Nat → va_E) (kg : Nat) (dp : Int32) (tld : Int32) (ofb : Int32) (hol : Int32) (flt : Int32) (fla : Int32) (ofl : Int32) (len : Int32) (atx : Int32) (ref : Int32) (hf_kg : 99 ≤ kg ∧ kg < 126 ∧ (kg - 99) % 3 = 0) (hI : Inv8 g idn pe ct) (hs0 : ct kg = .inr (4, [.int tld, .int ofb, .int hol, .int flt, .int fla, .int ofl, .ref (idn (kg + 1)), .ref (idn (kg + 2)), .int len, .int atx, .int ref])) (hat : atx.toInt ≤ 99) : DM l g pG false yX4_opens cX4_opens 2 (some .boolean) ({ frames := 1, cells := 0, slots := 0, locals := 21 }) (fun (ct2 : Nat → va_E) (rr : Option Value) => ∃ (r : Int32), rr = some (.int r) ∧ ((r = 1 ∧ (dp.toInt < 6)) ∨ (r = 0)) ∧ Inv8 g idn pe ct2) ct [.ref kg, .int dp] := by
  refine DM.K (fun K hK => ?_)
  refine GW.met (own := RX4) (loc := [(0, .ref kg), (1, .int dp)]) (by decide) rfl rfl (Nat.le_of_ble_eq_true rfl) ?_
  have hpe0 := hI.1
  obtain ⟨tld2, ofb3, hol4, flt5, fla6, ofl7, len8, atx9, ref10, hz11, h12, h13, h14, h15, hz16, hs1⟩ := a8_44 (kc := kg) (by omega) hI
  have bhz11 := z_b01 hz11
  have bhz16 := z_b01 hz16
  have hs17 := hs0
  cases (hs0.symm.trans hs1)
  have rg_dp := z_rng dp
  refine dv_iload_n dX4_opens_0 rfl 1 rfl ?_
  refine dv_bipush (v := 6) dX4_opens_1 (by decide) ?_
  refine dv_icmp_lt (tgt := 13) dX4_opens_3 (by decide) (fun c18 => ?_) (fun c18 => ?_)
  · skip
    have c18 : dp.toInt < 6 := (z_lt rfl (by decide : (6 : Int32).toInt = 6)).mp c18
    refine dv_aload_n dX4_opens_13 rfl 0 rfl ?_
    refine dv_dup dX4_opens_14 rfl ?_
    refine dv_get (ci := 4) (v := .int atx) (C := RX4) (T := TX4) (N := 11) ⟨by omega, pG_of (by omega)⟩ hs17 rfl inG4 9 (by decide) mm_228 rfl dX4_opens_15 ?_
    refine dv_iconst (v := 1) dX4_opens_18 (by decide) ?_
    refine dv_iadd dX4_opens_19 ?_
    refine dv_topi (fun x19 ex19 => ?_)
    have tx19 : x19.toInt = atx.toInt + 1 := by rw [ex19]; exact z_add rfl (by decide : (1 : Int32).toInt = 1) (by omega) (by omega)
    refine dv_put (ci := 4) (v := .int x19) (ty := .int) (C := RX4) (T := TX4) (N := 11) ⟨by omega, pG_of (by omega)⟩ hs17 rfl inG4 tyX4 tyX4_ok nmX4 9 (by decide) mm_228 rfl (by decide +kernel) (fun _ => rfl) (fun _ => rfl) (Nat.le_of_ble_eq_true rfl) dX4_opens_20 (en := .inr (4, [.int tld, .int ofb, .int hol, .int flt, .int fla, .int ofl, .ref (kg + 1), .ref (kg + 2), .int len, .int x19, .int ref])) rfl (fun ct20 ec21 => ?_)
    have hI : Inv8 g idn pe ct20 := by rw [ec21]; exact up8 hI (i8_44 (kc := kg) (by omega) ⟨(tld : Int32), (ofb : Int32), (hol : Int32), (flt : Int32), (fla : Int32), (ofl : Int32), (len : Int32), (x19 : Int32), (ref : Int32), hz11, (by first | omega | decide), (by first | omega | decide), (by first | omega | decide), (by first | omega | decide), hz16, rfl⟩)
    have hs22 : ct20 kg = .inr (4, [.int tld, .int ofb, .int hol, .int flt, .int fla, .int ofl, .ref (kg + 1), .ref (kg + 2), .int len, .int x19, .int ref]) := by rw [ec21]; exact va_up_self _ _ _
    refine dv_iconst (v := 1) dX4_opens_23 (by decide) ?_
    have q23 : (1 : Int32).toInt = 1 := by decide
    exact dv_zret dX4_opens_24 rfl rfl (by first | exact Nat.zero_le _ | decide) (by first | exact Nat.zero_le _ | decide) (by subst hK; exact ⟨1, rfl, (by first | exact Or.inl ⟨rfl, by omega⟩ | exact Or.inr ⟨rfl, by omega⟩ | exact Or.inl rfl | exact Or.inr rfl | exact Or.inl ⟨rfl, by omega, by omega⟩ | exact (z_01 (by omega) (by omega)).symm), hI⟩)
  · skip
    have c18 : ¬ (dp.toInt < 6) := fun q => c18 ((z_lt rfl (by decide : (6 : Int32).toInt = 6)).mpr q)
    refine dv_aload_n dX4_opens_6 rfl 0 rfl ?_
    refine dv_iconst (v := 5) dX4_opens_7 (by decide) ?_
    refine GW.callV (n := 1) (As := [.int 5]) (rest := []) (b := kg) (k_X4_fail l g pe ct kg (5 : Int32) (by omega) hI) (fun _ h => h) rfl rfl ⟨by omega, pG_of (by omega)⟩ hs17 (q := (RX4, TX4, 11)) rfl mm_608 mm_610 mm_26 mm_58 mm_611 (by decide +kernel) ⟨Nat.le_of_ble_eq_true rfl, Nat.le_of_ble_eq_true rfl⟩ rfl (Nat.le_of_ble_eq_true rfl) dX4_opens_8 (Nat.zero_le _) (Nat.zero_le _) rfl (fun ct24 rrr25 hBr25 hoff26 => ?_)
    obtain ⟨rfl, hI⟩ := hBr25
    refine GW.eq (S2 := []) rfl rfl rfl ?_
    refine dv_iconst (v := 0) dX4_opens_11 (by decide) ?_
    have q27 : (0 : Int32).toInt = 0 := by decide
    exact dv_zret dX4_opens_12 rfl rfl (by first | exact Nat.zero_le _ | decide) (by first | exact Nat.zero_le _ | decide) (by subst hK; exact ⟨0, rfl, (by first | exact Or.inl ⟨rfl, by omega⟩ | exact Or.inr ⟨rfl, by omega⟩ | exact Or.inl rfl | exact Or.inr rfl | exact Or.inl ⟨rfl, by omega, by omega⟩ | exact (z_01 (by omega) (by omega)).symm), hI⟩)

set_option maxHeartbeats 4000000 in
set_option maxRecDepth 100000 in
theorem k_X4_expect (l : Launch) (g : zG) (pe : Int32) (ct : Nat → va_E) (kg : Nat) (sg : Int32) (hf_kg : 99 ≤ kg ∧ kg < 126 ∧ (kg - 99) % 3 = 0) (hl_sg : 0 ≤ sg.toInt ∧ sg.toInt ≤ 127) (hI : Inv8 g idn pe ct) : DM l g pG false yX4_expect cX4_expect 2 none ({ frames := 1, cells := 0, slots := 0, locals := 21 }) (fun (ct2 : Nat → va_E) (rr : Option Value) => rr = none ∧ Inv8 g idn pe ct2) ct [.ref kg, .int sg] := by
  refine DM.K (fun K hK => ?_)
  refine GW.met (own := RX4) (loc := [(0, .ref kg), (1, .int sg)]) (by decide) rfl rfl (Nat.le_of_ble_eq_true rfl) ?_
  have hpe0 := hI.1
  refine dv_aload_n dX4_expect_0 rfl 0 rfl ?_
  obtain ⟨tld2, ofb3, hol4, flt5, fla6, ofl7, len8, atx9, ref10, hz11, h12, h13, h14, h15, hz16, hs1⟩ := a8_44 (kc := kg) (by omega) hI
  have bhz11 := z_b01 hz11
  have bhz16 := z_b01 hz16
  refine GW.callV (n := 0) (As := []) (rest := []) (b := kg) (k_X4_next l g pe ct kg tld2 ofb3 hol4 flt5 fla6 ofl7 len8 atx9 ref10 (by omega) hI hs1) (fun _ h => h) rfl rfl ⟨by omega, pG_of (by omega)⟩ hs1 (q := (RX4, TX4, 11)) rfl mm_600 mm_602 mm_24 mm_58 mm_603 (by decide +kernel) ⟨Nat.le_of_ble_eq_true rfl, Nat.le_of_ble_eq_true rfl⟩ rfl (Nat.le_of_ble_eq_true rfl) dX4_expect_1 (Nat.zero_le _) (Nat.zero_le _) rfl (fun ct17 rrr18 hBr18 hoff19 => ?_)
  obtain ⟨r18, rfl, hr18, rfl⟩ := hBr18
  refine GW.eq (S2 := [.int r18]) rfl rfl rfl ?_
  have h20 := hr18
  have h20 : r18.toInt = -1 ∨ atx9.toInt ≤ 99 := h20
  refine dv_iload_n dX4_expect_4 rfl 1 rfl ?_
  refine dv_icmp_ne (tgt := 21) dX4_expect_5 (by decide) (fun c21 => ?_) (fun c21 => ?_)
  · skip
    have c21 : ¬ (r18.toInt = sg.toInt) := fun q => c21 ((z_eq rfl rfl).mpr q)
    refine dv_aload_n dX4_expect_21 rfl 0 rfl ?_
    refine dv_iconst (v := 1) dX4_expect_22 (by decide) ?_
    refine GW.callV (n := 1) (As := [.int 1]) (rest := []) (b := kg) (k_X4_fail l g pe ct kg (1 : Int32) (by omega) hI) (fun _ h => h) rfl rfl ⟨by omega, pG_of (by omega)⟩ hs1 (q := (RX4, TX4, 11)) rfl mm_608 mm_610 mm_26 mm_58 mm_611 (by decide +kernel) ⟨Nat.le_of_ble_eq_true rfl, Nat.le_of_ble_eq_true rfl⟩ rfl (Nat.le_of_ble_eq_true rfl) dX4_expect_23 (Nat.zero_le _) (Nat.zero_le _) rfl (fun ct22 rrr23 hBr23 hoff24 => ?_)
    obtain ⟨rfl, hI⟩ := hBr23
    refine GW.eq (S2 := []) rfl rfl rfl ?_
    exact dv_vret dX4_expect_26 rfl (by first | exact Nat.zero_le _ | decide) (by first | exact Nat.zero_le _ | decide) (by subst hK; exact ⟨rfl, hI⟩)
  · skip
    have c21 : r18.toInt = sg.toInt := (z_eq rfl rfl).mp c21
    refine dv_aload_n dX4_expect_8 rfl 0 rfl ?_
    refine dv_dup dX4_expect_9 rfl ?_
    refine dv_get (ci := 4) (v := .int atx9) (C := RX4) (T := TX4) (N := 11) ⟨by omega, pG_of (by omega)⟩ hs1 rfl inG4 9 (by decide) mm_228 rfl dX4_expect_10 ?_
    refine dv_iconst (v := 1) dX4_expect_13 (by decide) ?_
    refine dv_iadd dX4_expect_14 ?_
    refine dv_topi (fun x25 ex25 => ?_)
    have tx25 : x25.toInt = atx9.toInt + 1 := by rw [ex25]; exact z_add rfl (by decide : (1 : Int32).toInt = 1) (by omega) (by omega)
    refine dv_put (ci := 4) (v := .int x25) (ty := .int) (C := RX4) (T := TX4) (N := 11) ⟨by omega, pG_of (by omega)⟩ hs1 rfl inG4 tyX4 tyX4_ok nmX4 9 (by decide) mm_228 rfl (by decide +kernel) (fun _ => rfl) (fun _ => rfl) (Nat.le_of_ble_eq_true rfl) dX4_expect_15 (en := .inr (4, [.int tld2, .int ofb3, .int hol4, .int flt5, .int fla6, .int ofl7, .ref (kg + 1), .ref (kg + 2), .int len8, .int x25, .int ref10])) rfl (fun ct26 ec27 => ?_)
    have hI : Inv8 g idn pe ct26 := by rw [ec27]; exact up8 hI (i8_44 (kc := kg) (by omega) ⟨(tld2 : Int32), (ofb3 : Int32), (hol4 : Int32), (flt5 : Int32), (fla6 : Int32), (ofl7 : Int32), (len8 : Int32), (x25 : Int32), (ref10 : Int32), hz11, (by first | omega | decide), (by first | omega | decide), (by first | omega | decide), (by first | omega | decide), hz16, rfl⟩)
    have hs28 : ct26 kg = .inr (4, [.int tld2, .int ofb3, .int hol4, .int flt5, .int fla6, .int ofl7, .ref (kg + 1), .ref (kg + 2), .int len8, .int x25, .int ref10]) := by rw [ec27]; exact va_up_self _ _ _
    refine dv_goto (tgt := 26) dX4_expect_18 (by decide) ?_
    exact dv_vret dX4_expect_26 rfl (by first | exact Nat.zero_le _ | decide) (by first | exact Nat.zero_le _ | decide) (by subst hK; exact ⟨rfl, hI⟩)

set_option maxHeartbeats 4000000 in
set_option maxRecDepth 100000 in
theorem k_X4_isDigit (l : Launch) (g : zG) (pe : Int32) (ct : Nat → va_E) (n : Int32) (hI : Inv8 g idn pe ct) : DM l g pNo false yX4_isDigit cX4_isDigit 1 (some .boolean) ({ frames := 0, cells := 0, slots := 0, locals := 0 }) (fun (ct2 : Nat → va_E) (rr : Option Value) => ∃ (r : Int32), rr = some (.int r) ∧ ((r = 1 ∧ (48 ≤ n.toInt) ∧ (n.toInt ≤ 57)) ∨ (r = 0 ∧ (¬ (48 ≤ n.toInt ∧ n.toInt ≤ 57)))) ∧ ct = ct2) ct [.int n] := by
  refine DM.K (fun K hK => ?_)
  refine GW.met (own := RX4) (loc := [(0, .int n)]) (by decide) rfl rfl (Nat.le_of_ble_eq_true rfl) ?_
  have hpe0 := hI.1
  have rg_n := z_rng n
  refine dv_iload_n dX4_isDigit_0 rfl 0 rfl ?_
  refine dv_bipush (v := 48) dX4_isDigit_1 (by decide) ?_
  refine dv_icmp_lt (tgt := 16) dX4_isDigit_3 (by decide) (fun c1 => ?_) (fun c1 => ?_)
  · skip
    have c1 : n.toInt < 48 := (z_lt rfl (by decide : (48 : Int32).toInt = 48)).mp c1
    refine dv_iconst (v := 0) dX4_isDigit_16 (by decide) ?_
    have q2 : (0 : Int32).toInt = 0 := by decide
    exact dv_zret dX4_isDigit_17 rfl rfl (by first | exact Nat.zero_le _ | decide) (by first | exact Nat.zero_le _ | decide) (by subst hK; exact ⟨0, rfl, (by first | exact Or.inl ⟨rfl, by omega⟩ | exact Or.inr ⟨rfl, by omega⟩ | exact Or.inl rfl | exact Or.inr rfl | exact Or.inl ⟨rfl, by omega, by omega⟩ | exact (z_01 (by omega) (by omega)).symm), rfl⟩)
  · skip
    have c1 : ¬ (n.toInt < 48) := fun q => c1 ((z_lt rfl (by decide : (48 : Int32).toInt = 48)).mpr q)
    refine dv_iload_n dX4_isDigit_6 rfl 0 rfl ?_
    refine dv_bipush (v := 57) dX4_isDigit_7 (by decide) ?_
    refine dv_icmp_gt (tgt := 16) dX4_isDigit_9 (by decide) (fun c3 => ?_) (fun c3 => ?_)
    · skip
      have c3 : 57 < n.toInt := (z_lt (by decide : (57 : Int32).toInt = 57) rfl).mp c3
      refine dv_iconst (v := 0) dX4_isDigit_16 (by decide) ?_
      have q4 : (0 : Int32).toInt = 0 := by decide
      exact dv_zret dX4_isDigit_17 rfl rfl (by first | exact Nat.zero_le _ | decide) (by first | exact Nat.zero_le _ | decide) (by subst hK; exact ⟨0, rfl, (by first | exact Or.inl ⟨rfl, by omega⟩ | exact Or.inr ⟨rfl, by omega⟩ | exact Or.inl rfl | exact Or.inr rfl | exact Or.inl ⟨rfl, by omega, by omega⟩ | exact (z_01 (by omega) (by omega)).symm), rfl⟩)
    · skip
      have c3 : ¬ (57 < n.toInt) := fun q => c3 ((z_lt (by decide : (57 : Int32).toInt = 57) rfl).mpr q)
      refine dv_iconst (v := 1) dX4_isDigit_12 (by decide) ?_
      refine dv_goto (tgt := 17) dX4_isDigit_13 (by decide) ?_
      have q5 : (1 : Int32).toInt = 1 := by decide
      exact dv_zret dX4_isDigit_17 rfl rfl (by first | exact Nat.zero_le _ | decide) (by first | exact Nat.zero_le _ | decide) (by subst hK; exact ⟨1, rfl, (by first | exact Or.inl ⟨rfl, by omega⟩ | exact Or.inr ⟨rfl, by omega⟩ | exact Or.inl rfl | exact Or.inr rfl | exact Or.inl ⟨rfl, by omega, by omega⟩ | exact (z_01 (by omega) (by omega)).symm), rfl⟩)

set_option maxHeartbeats 4000000 in
set_option maxRecDepth 100000 in
theorem k_X4_letterOf (l : Launch) (g : zG) (pe : Int32) (ct : Nat → va_E) (sg : Int32) (hI : Inv8 g idn pe ct) : DM l g pNo false yX4_letterOf cX4_letterOf 1 (some .int) ({ frames := 0, cells := 0, slots := 0, locals := 0 }) (fun (ct2 : Nat → va_E) (rr : Option Value) => ∃ (r : Int32), rr = some (.int r) ∧ (((-1 ≤ r.toInt) ∧ (r.toInt ≤ 6) ∧ (r.toInt = -1 ∨ 97 ≤ sg.toInt))) ∧ ct = ct2) ct [.int sg] := by
  refine DM.K (fun K hK => ?_)
  refine GW.met (own := RX4) (loc := [(0, .int sg)]) (by decide) rfl rfl (Nat.le_of_ble_eq_true rfl) ?_
  have hpe0 := hI.1
  have rg_sg := z_rng sg
  refine dv_iload_n dX4_letterOf_0 rfl 0 rfl ?_
  rcases (show sg.toInt = 97 ∨ sg.toInt = 98 ∨ sg.toInt = 99 ∨ sg.toInt = 100 ∨ sg.toInt = 101 ∨ sg.toInt = 102 ∨ sg.toInt = 103 ∨ sg.toInt = 104 ∨ sg.toInt = 105 ∨ sg.toInt = 106 ∨ sg.toInt = 107 ∨ sg.toInt = 108 ∨ sg.toInt = 109 ∨ sg.toInt = 110 ∨ sg.toInt = 111 ∨ sg.toInt = 112 ∨ sg.toInt = 113 ∨ sg.toInt = 114 ∨ sg.toInt = 115 ∨ sg.toInt = 116 ∨ sg.toInt = 117 ∨ sg.toInt = 118 ∨ sg.toInt = 119 ∨ sg.toInt < 97 ∨ 119 < sg.toInt by omega) with hw1 | hw1 | hw1 | hw1 | hw1 | hw1 | hw1 | hw1 | hw1 | hw1 | hw1 | hw1 | hw1 | hw1 | hw1 | hw1 | hw1 | hw1 | hw1 | hw1 | hw1 | hw1 | hw1 | hw1
  · skip
    refine dv_tableIn (tgt := 108) (off := 107) dX4_letterOf_1 (by omega) (by omega) (by rw [hw1]; rfl) (by decide) ?_
    refine dv_iload_n dX4_letterOf_108 rfl 0 rfl ?_
    refine dv_bipush (v := 97) dX4_letterOf_109 (by decide) ?_
    refine dv_isub dX4_letterOf_111 ?_
    refine dv_topi (fun x2 ex2 => ?_)
    have tx2 : x2.toInt = sg.toInt - 97 := by rw [ex2]; exact z_sub rfl (by decide : (97 : Int32).toInt = 97) (by omega) (by omega)
    exact dv_iret dX4_letterOf_112 rfl (by first | exact Nat.zero_le _ | decide) (by first | exact Nat.zero_le _ | decide) (by subst hK; exact ⟨x2, rfl, (⟨by omega, by omega, by omega⟩), rfl⟩)
  · skip
    refine dv_tableIn (tgt := 108) (off := 107) dX4_letterOf_1 (by omega) (by omega) (by rw [hw1]; rfl) (by decide) ?_
    refine dv_iload_n dX4_letterOf_108 rfl 0 rfl ?_
    refine dv_bipush (v := 97) dX4_letterOf_109 (by decide) ?_
    refine dv_isub dX4_letterOf_111 ?_
    refine dv_topi (fun x3 ex3 => ?_)
    have tx3 : x3.toInt = sg.toInt - 97 := by rw [ex3]; exact z_sub rfl (by decide : (97 : Int32).toInt = 97) (by omega) (by omega)
    exact dv_iret dX4_letterOf_112 rfl (by first | exact Nat.zero_le _ | decide) (by first | exact Nat.zero_le _ | decide) (by subst hK; exact ⟨x3, rfl, (⟨by omega, by omega, by omega⟩), rfl⟩)
  · skip
    refine dv_tableIn (tgt := 108) (off := 107) dX4_letterOf_1 (by omega) (by omega) (by rw [hw1]; rfl) (by decide) ?_
    refine dv_iload_n dX4_letterOf_108 rfl 0 rfl ?_
    refine dv_bipush (v := 97) dX4_letterOf_109 (by decide) ?_
    refine dv_isub dX4_letterOf_111 ?_
    refine dv_topi (fun x4 ex4 => ?_)
    have tx4 : x4.toInt = sg.toInt - 97 := by rw [ex4]; exact z_sub rfl (by decide : (97 : Int32).toInt = 97) (by omega) (by omega)
    exact dv_iret dX4_letterOf_112 rfl (by first | exact Nat.zero_le _ | decide) (by first | exact Nat.zero_le _ | decide) (by subst hK; exact ⟨x4, rfl, (⟨by omega, by omega, by omega⟩), rfl⟩)
  · skip
    refine dv_tableIn (tgt := 108) (off := 107) dX4_letterOf_1 (by omega) (by omega) (by rw [hw1]; rfl) (by decide) ?_
    refine dv_iload_n dX4_letterOf_108 rfl 0 rfl ?_
    refine dv_bipush (v := 97) dX4_letterOf_109 (by decide) ?_
    refine dv_isub dX4_letterOf_111 ?_
    refine dv_topi (fun x5 ex5 => ?_)
    have tx5 : x5.toInt = sg.toInt - 97 := by rw [ex5]; exact z_sub rfl (by decide : (97 : Int32).toInt = 97) (by omega) (by omega)
    exact dv_iret dX4_letterOf_112 rfl (by first | exact Nat.zero_le _ | decide) (by first | exact Nat.zero_le _ | decide) (by subst hK; exact ⟨x5, rfl, (⟨by omega, by omega, by omega⟩), rfl⟩)
  · skip
    refine dv_tableIn (tgt := 120) (off := 119) dX4_letterOf_1 (by omega) (by omega) (by rw [hw1]; rfl) (by decide) ?_
    refine dv_iconst (v := (-1)) dX4_letterOf_120 (by decide) ?_
    have q6 : ((-1) : Int32).toInt = -1 := by decide
    exact dv_iret dX4_letterOf_121 rfl (by first | exact Nat.zero_le _ | decide) (by first | exact Nat.zero_le _ | decide) (by subst hK; exact ⟨(-1), rfl, (⟨by omega, by omega, by omega⟩), rfl⟩)
  · skip
    refine dv_tableIn (tgt := 120) (off := 119) dX4_letterOf_1 (by omega) (by omega) (by rw [hw1]; rfl) (by decide) ?_
    refine dv_iconst (v := (-1)) dX4_letterOf_120 (by decide) ?_
    have q7 : ((-1) : Int32).toInt = -1 := by decide
    exact dv_iret dX4_letterOf_121 rfl (by first | exact Nat.zero_le _ | decide) (by first | exact Nat.zero_le _ | decide) (by subst hK; exact ⟨(-1), rfl, (⟨by omega, by omega, by omega⟩), rfl⟩)
  · skip
    refine dv_tableIn (tgt := 120) (off := 119) dX4_letterOf_1 (by omega) (by omega) (by rw [hw1]; rfl) (by decide) ?_
    refine dv_iconst (v := (-1)) dX4_letterOf_120 (by decide) ?_
    have q8 : ((-1) : Int32).toInt = -1 := by decide
    exact dv_iret dX4_letterOf_121 rfl (by first | exact Nat.zero_le _ | decide) (by first | exact Nat.zero_le _ | decide) (by subst hK; exact ⟨(-1), rfl, (⟨by omega, by omega, by omega⟩), rfl⟩)
  · skip
    refine dv_tableIn (tgt := 120) (off := 119) dX4_letterOf_1 (by omega) (by omega) (by rw [hw1]; rfl) (by decide) ?_
    refine dv_iconst (v := (-1)) dX4_letterOf_120 (by decide) ?_
    have q9 : ((-1) : Int32).toInt = -1 := by decide
    exact dv_iret dX4_letterOf_121 rfl (by first | exact Nat.zero_le _ | decide) (by first | exact Nat.zero_le _ | decide) (by subst hK; exact ⟨(-1), rfl, (⟨by omega, by omega, by omega⟩), rfl⟩)
  · skip
    refine dv_tableIn (tgt := 120) (off := 119) dX4_letterOf_1 (by omega) (by omega) (by rw [hw1]; rfl) (by decide) ?_
    refine dv_iconst (v := (-1)) dX4_letterOf_120 (by decide) ?_
    have q10 : ((-1) : Int32).toInt = -1 := by decide
    exact dv_iret dX4_letterOf_121 rfl (by first | exact Nat.zero_le _ | decide) (by first | exact Nat.zero_le _ | decide) (by subst hK; exact ⟨(-1), rfl, (⟨by omega, by omega, by omega⟩), rfl⟩)
  · skip
    refine dv_tableIn (tgt := 120) (off := 119) dX4_letterOf_1 (by omega) (by omega) (by rw [hw1]; rfl) (by decide) ?_
    refine dv_iconst (v := (-1)) dX4_letterOf_120 (by decide) ?_
    have q11 : ((-1) : Int32).toInt = -1 := by decide
    exact dv_iret dX4_letterOf_121 rfl (by first | exact Nat.zero_le _ | decide) (by first | exact Nat.zero_le _ | decide) (by subst hK; exact ⟨(-1), rfl, (⟨by omega, by omega, by omega⟩), rfl⟩)
  · skip
    refine dv_tableIn (tgt := 120) (off := 119) dX4_letterOf_1 (by omega) (by omega) (by rw [hw1]; rfl) (by decide) ?_
    refine dv_iconst (v := (-1)) dX4_letterOf_120 (by decide) ?_
    have q12 : ((-1) : Int32).toInt = -1 := by decide
    exact dv_iret dX4_letterOf_121 rfl (by first | exact Nat.zero_le _ | decide) (by first | exact Nat.zero_le _ | decide) (by subst hK; exact ⟨(-1), rfl, (⟨by omega, by omega, by omega⟩), rfl⟩)
  · skip
    refine dv_tableIn (tgt := 117) (off := 116) dX4_letterOf_1 (by omega) (by omega) (by rw [hw1]; rfl) (by decide) ?_
    refine dv_bipush (v := 6) dX4_letterOf_117 (by decide) ?_
    have q13 : (6 : Int32).toInt = 6 := by decide
    exact dv_iret dX4_letterOf_119 rfl (by first | exact Nat.zero_le _ | decide) (by first | exact Nat.zero_le _ | decide) (by subst hK; exact ⟨6, rfl, (⟨by omega, by omega, by omega⟩), rfl⟩)
  · skip
    refine dv_tableIn (tgt := 120) (off := 119) dX4_letterOf_1 (by omega) (by omega) (by rw [hw1]; rfl) (by decide) ?_
    refine dv_iconst (v := (-1)) dX4_letterOf_120 (by decide) ?_
    have q14 : ((-1) : Int32).toInt = -1 := by decide
    exact dv_iret dX4_letterOf_121 rfl (by first | exact Nat.zero_le _ | decide) (by first | exact Nat.zero_le _ | decide) (by subst hK; exact ⟨(-1), rfl, (⟨by omega, by omega, by omega⟩), rfl⟩)
  · skip
    refine dv_tableIn (tgt := 120) (off := 119) dX4_letterOf_1 (by omega) (by omega) (by rw [hw1]; rfl) (by decide) ?_
    refine dv_iconst (v := (-1)) dX4_letterOf_120 (by decide) ?_
    have q15 : ((-1) : Int32).toInt = -1 := by decide
    exact dv_iret dX4_letterOf_121 rfl (by first | exact Nat.zero_le _ | decide) (by first | exact Nat.zero_le _ | decide) (by subst hK; exact ⟨(-1), rfl, (⟨by omega, by omega, by omega⟩), rfl⟩)
  · skip
    refine dv_tableIn (tgt := 120) (off := 119) dX4_letterOf_1 (by omega) (by omega) (by rw [hw1]; rfl) (by decide) ?_
    refine dv_iconst (v := (-1)) dX4_letterOf_120 (by decide) ?_
    have q16 : ((-1) : Int32).toInt = -1 := by decide
    exact dv_iret dX4_letterOf_121 rfl (by first | exact Nat.zero_le _ | decide) (by first | exact Nat.zero_le _ | decide) (by subst hK; exact ⟨(-1), rfl, (⟨by omega, by omega, by omega⟩), rfl⟩)
  · skip
    refine dv_tableIn (tgt := 113) (off := 112) dX4_letterOf_1 (by omega) (by omega) (by rw [hw1]; rfl) (by decide) ?_
    refine dv_iconst (v := 4) dX4_letterOf_113 (by decide) ?_
    have q17 : (4 : Int32).toInt = 4 := by decide
    exact dv_iret dX4_letterOf_114 rfl (by first | exact Nat.zero_le _ | decide) (by first | exact Nat.zero_le _ | decide) (by subst hK; exact ⟨4, rfl, (⟨by omega, by omega, by omega⟩), rfl⟩)
  · skip
    refine dv_tableIn (tgt := 120) (off := 119) dX4_letterOf_1 (by omega) (by omega) (by rw [hw1]; rfl) (by decide) ?_
    refine dv_iconst (v := (-1)) dX4_letterOf_120 (by decide) ?_
    have q18 : ((-1) : Int32).toInt = -1 := by decide
    exact dv_iret dX4_letterOf_121 rfl (by first | exact Nat.zero_le _ | decide) (by first | exact Nat.zero_le _ | decide) (by subst hK; exact ⟨(-1), rfl, (⟨by omega, by omega, by omega⟩), rfl⟩)
  · skip
    refine dv_tableIn (tgt := 120) (off := 119) dX4_letterOf_1 (by omega) (by omega) (by rw [hw1]; rfl) (by decide) ?_
    refine dv_iconst (v := (-1)) dX4_letterOf_120 (by decide) ?_
    have q19 : ((-1) : Int32).toInt = -1 := by decide
    exact dv_iret dX4_letterOf_121 rfl (by first | exact Nat.zero_le _ | decide) (by first | exact Nat.zero_le _ | decide) (by subst hK; exact ⟨(-1), rfl, (⟨by omega, by omega, by omega⟩), rfl⟩)
  · skip
    refine dv_tableIn (tgt := 120) (off := 119) dX4_letterOf_1 (by omega) (by omega) (by rw [hw1]; rfl) (by decide) ?_
    refine dv_iconst (v := (-1)) dX4_letterOf_120 (by decide) ?_
    have q20 : ((-1) : Int32).toInt = -1 := by decide
    exact dv_iret dX4_letterOf_121 rfl (by first | exact Nat.zero_le _ | decide) (by first | exact Nat.zero_le _ | decide) (by subst hK; exact ⟨(-1), rfl, (⟨by omega, by omega, by omega⟩), rfl⟩)
  · skip
    refine dv_tableIn (tgt := 120) (off := 119) dX4_letterOf_1 (by omega) (by omega) (by rw [hw1]; rfl) (by decide) ?_
    refine dv_iconst (v := (-1)) dX4_letterOf_120 (by decide) ?_
    have q21 : ((-1) : Int32).toInt = -1 := by decide
    exact dv_iret dX4_letterOf_121 rfl (by first | exact Nat.zero_le _ | decide) (by first | exact Nat.zero_le _ | decide) (by subst hK; exact ⟨(-1), rfl, (⟨by omega, by omega, by omega⟩), rfl⟩)
  · skip
    refine dv_tableIn (tgt := 120) (off := 119) dX4_letterOf_1 (by omega) (by omega) (by rw [hw1]; rfl) (by decide) ?_
    refine dv_iconst (v := (-1)) dX4_letterOf_120 (by decide) ?_
    have q22 : ((-1) : Int32).toInt = -1 := by decide
    exact dv_iret dX4_letterOf_121 rfl (by first | exact Nat.zero_le _ | decide) (by first | exact Nat.zero_le _ | decide) (by subst hK; exact ⟨(-1), rfl, (⟨by omega, by omega, by omega⟩), rfl⟩)
  · skip
    refine dv_tableIn (tgt := 120) (off := 119) dX4_letterOf_1 (by omega) (by omega) (by rw [hw1]; rfl) (by decide) ?_
    refine dv_iconst (v := (-1)) dX4_letterOf_120 (by decide) ?_
    have q23 : ((-1) : Int32).toInt = -1 := by decide
    exact dv_iret dX4_letterOf_121 rfl (by first | exact Nat.zero_le _ | decide) (by first | exact Nat.zero_le _ | decide) (by subst hK; exact ⟨(-1), rfl, (⟨by omega, by omega, by omega⟩), rfl⟩)
  · skip
    refine dv_tableIn (tgt := 115) (off := 114) dX4_letterOf_1 (by omega) (by omega) (by rw [hw1]; rfl) (by decide) ?_
    refine dv_iconst (v := 5) dX4_letterOf_115 (by decide) ?_
    have q24 : (5 : Int32).toInt = 5 := by decide
    exact dv_iret dX4_letterOf_116 rfl (by first | exact Nat.zero_le _ | decide) (by first | exact Nat.zero_le _ | decide) (by subst hK; exact ⟨5, rfl, (⟨by omega, by omega, by omega⟩), rfl⟩)
  · skip
    refine dv_tableOut (tgt := 120) dX4_letterOf_1 (by omega) (by decide) ?_
    refine dv_iconst (v := (-1)) dX4_letterOf_120 (by decide) ?_
    have q25 : ((-1) : Int32).toInt = -1 := by decide
    exact dv_iret dX4_letterOf_121 rfl (by first | exact Nat.zero_le _ | decide) (by first | exact Nat.zero_le _ | decide) (by subst hK; exact ⟨(-1), rfl, (⟨by omega, by omega, by omega⟩), rfl⟩)

set_option maxHeartbeats 4000000 in
set_option maxRecDepth 100000 in
theorem k_X4_numeral (l : Launch) (g : zG) (pe : Int32) (ct : Nat → va_E) (kg : Nat) (hf_kg : 99 ≤ kg ∧ kg < 126 ∧ (kg - 99) % 3 = 0) (hI : Inv8 g idn pe ct) : DM l g pG false yX4_numeral cX4_numeral 3 (some .int) ({ frames := 1, cells := 0, slots := 0, locals := 21 }) (fun (ct2 : Nat → va_E) (rr : Option Value) => ∃ (r : Int32), rr = some (.int r) ∧ ((True)) ∧ Inv8 g idn pe ct2) ct [.ref kg] := by
  refine DM.K (fun K hK => ?_)
  refine GW.met (own := RX4) (loc := [(0, .ref kg)]) (by decide) rfl rfl (Nat.le_of_ble_eq_true rfl) ?_
  have hpe0 := hI.1
  refine dv_iconst (v := 0) dX4_numeral_0 (by decide) ?_
  refine dv_istore_n (lv' := [(1, .int 0), (0, .ref kg)]) dX4_numeral_1 rfl (by decide) rfl ?_
  refine dv_iconst (v := 0) dX4_numeral_2 (by decide) ?_
  refine dv_istore_n (lv' := [(2, .int 0), (1, .int 0), (0, .ref kg)]) dX4_numeral_3 rfl (by decide) rfl ?_
  have loop4 : ∀ (n4 : Nat) (v2_4 : Int32) (v1_4 : Int32) (ct1 : Nat → va_E), ((5 - v2_4.toInt : Int).toNat < n4) → (0 ≤ v2_4.toInt ∧ v2_4.toInt ≤ 5) → (Inv8 g idn pe ct1) → GW l g pG pG false yX4_numeral cX4_numeral 3 (some .int) RX4 ({ frames := 1, cells := 0, slots := 0, locals := 21 }) K 0 0 ct1 4 [(2, .int v2_4), (1, .int v1_4), (0, .ref kg)] [] := by
    intro n4
    induction n4 with
    | zero =>
      intro v2_4 v1_4 ct1 hn4 b2_4 hI
      exact absurd hn4 (Nat.not_lt_zero _)
    | succ n4 ih4 =>
      intro v2_4 v1_4 ct1 hn4 b2_4 hI
      refine dv_iload_n dX4_numeral_4 rfl 0 rfl ?_
      refine dv_iconst (v := 5) dX4_numeral_5 (by decide) ?_
      refine dv_icmp_ge (tgt := 48) dX4_numeral_6 (by decide) (fun c2 => ?_) (fun c2 => ?_)
      · skip
        have c2 : 5 ≤ v2_4.toInt := (z_le (by decide : (5 : Int32).toInt = 5) rfl).mp c2
        refine dv_aload_n dX4_numeral_48 rfl 2 rfl ?_
        obtain ⟨tld4, ofb5, hol6, flt7, fla8, ofl9, len10, atx11, ref12, hz13, h14, h15, h16, h17, hz18, hs3⟩ := a8_44 (kc := kg) (by omega) hI
        have bhz13 := z_b01 hz13
        have bhz18 := z_b01 hz18
        refine GW.callV (n := 0) (As := []) (rest := []) (b := kg) (k_X4_next l g pe ct1 kg tld4 ofb5 hol6 flt7 fla8 ofl9 len10 atx11 ref12 (by omega) hI hs3) (fun _ h => h) rfl rfl ⟨by omega, pG_of (by omega)⟩ hs3 (q := (RX4, TX4, 11)) rfl mm_600 mm_602 mm_24 mm_58 mm_603 (by decide +kernel) ⟨Nat.le_of_ble_eq_true rfl, Nat.le_of_ble_eq_true rfl⟩ rfl (Nat.le_of_ble_eq_true rfl) dX4_numeral_49 (Nat.zero_le _) (Nat.zero_le _) rfl (fun ct19 rrr20 hBr20 hoff21 => ?_)
        obtain ⟨r20, rfl, hr20, rfl⟩ := hBr20
        refine GW.eq (S2 := [.int r20]) rfl rfl rfl ?_
        have h22 := hr20
        have h22 : r20.toInt = -1 ∨ atx11.toInt ≤ 99 := h22
        refine GW.callS (n := 1) (As := [.int r20]) (rest := []) (k_X4_isDigit l g pe ct1 r20 hI) (fun _ h => Bool.noConfusion h) rfl rfl mm_628 mm_629 mm_58 mm_630 (by decide +kernel) ⟨Nat.le_of_ble_eq_true rfl, Nat.le_of_ble_eq_true rfl⟩ rfl (Nat.le_of_ble_eq_true rfl) dX4_numeral_52 (Nat.zero_le _) (Nat.zero_le _) rfl (fun ct23 rrr24 hBr24 hoff25 => ?_)
        obtain ⟨r24, rfl, hr24, rfl⟩ := hBr24
        refine GW.eq (S2 := [.int r24]) rfl rfl rfl ?_
        rcases hr24 with hr24 | hr24
        · skip
          obtain ⟨rfl, h26, h27⟩ := hr24
          have h26 : 48 ≤ r20.toInt := h26
          have h27 : r20.toInt ≤ 57 := h27
          refine dv_if_eq (tgt := 63) dX4_numeral_55 (by decide) (fun c28 => ?_) (fun c28 => ?_)
          · skip
            exact absurd c28 (by decide)
          · skip
            refine dv_aload_n dX4_numeral_58 rfl 2 rfl ?_
            refine dv_iconst (v := 2) dX4_numeral_59 (by decide) ?_
            refine GW.callV (n := 1) (As := [.int 2]) (rest := []) (b := kg) (k_X4_fail l g pe ct1 kg (2 : Int32) (by omega) hI) (fun _ h => h) rfl rfl ⟨by omega, pG_of (by omega)⟩ hs3 (q := (RX4, TX4, 11)) rfl mm_608 mm_610 mm_26 mm_58 mm_611 (by decide +kernel) ⟨Nat.le_of_ble_eq_true rfl, Nat.le_of_ble_eq_true rfl⟩ rfl (Nat.le_of_ble_eq_true rfl) dX4_numeral_60 (Nat.zero_le _) (Nat.zero_le _) rfl (fun ct29 rrr30 hBr30 hoff31 => ?_)
            obtain ⟨rfl, hI⟩ := hBr30
            refine GW.eq (S2 := []) rfl rfl rfl ?_
            refine dv_iload_n dX4_numeral_63 rfl 1 rfl ?_
            exact dv_iret dX4_numeral_64 rfl (by first | exact Nat.zero_le _ | decide) (by first | exact Nat.zero_le _ | decide) (by subst hK; exact ⟨v1_4, rfl, (trivial), hI⟩)
        · skip
          obtain ⟨rfl, h32⟩ := hr24
          have h32 : ¬ (48 ≤ r20.toInt ∧ r20.toInt ≤ 57) := h32
          refine dv_if_eq (tgt := 63) dX4_numeral_55 (by decide) (fun c33 => ?_) (fun c33 => ?_)
          · skip
            refine dv_iload_n dX4_numeral_63 rfl 1 rfl ?_
            exact dv_iret dX4_numeral_64 rfl (by first | exact Nat.zero_le _ | decide) (by first | exact Nat.zero_le _ | decide) (by subst hK; exact ⟨v1_4, rfl, (trivial), hI⟩)
          · skip
            exact absurd c33 (by decide)
      · skip
        have c2 : ¬ (5 ≤ v2_4.toInt) := fun q => c2 ((z_le (by decide : (5 : Int32).toInt = 5) rfl).mpr q)
        refine dv_aload_n dX4_numeral_9 rfl 2 rfl ?_
        obtain ⟨tld35, ofb36, hol37, flt38, fla39, ofl40, len41, atx42, ref43, hz44, h45, h46, h47, h48, hz49, hs34⟩ := a8_44 (kc := kg) (by omega) hI
        have bhz44 := z_b01 hz44
        have bhz49 := z_b01 hz49
        refine GW.callV (n := 0) (As := []) (rest := []) (b := kg) (k_X4_next l g pe ct1 kg tld35 ofb36 hol37 flt38 fla39 ofl40 len41 atx42 ref43 (by omega) hI hs34) (fun _ h => h) rfl rfl ⟨by omega, pG_of (by omega)⟩ hs34 (q := (RX4, TX4, 11)) rfl mm_600 mm_602 mm_24 mm_58 mm_603 (by decide +kernel) ⟨Nat.le_of_ble_eq_true rfl, Nat.le_of_ble_eq_true rfl⟩ rfl (Nat.le_of_ble_eq_true rfl) dX4_numeral_10 (Nat.zero_le _) (Nat.zero_le _) rfl (fun ct50 rrr51 hBr51 hoff52 => ?_)
        obtain ⟨r51, rfl, hr51, rfl⟩ := hBr51
        refine GW.eq (S2 := [.int r51]) rfl rfl rfl ?_
        have h53 := hr51
        have h53 : r51.toInt = -1 ∨ atx42.toInt ≤ 99 := h53
        refine GW.callS (n := 1) (As := [.int r51]) (rest := []) (k_X4_isDigit l g pe ct1 r51 hI) (fun _ h => Bool.noConfusion h) rfl rfl mm_628 mm_629 mm_58 mm_630 (by decide +kernel) ⟨Nat.le_of_ble_eq_true rfl, Nat.le_of_ble_eq_true rfl⟩ rfl (Nat.le_of_ble_eq_true rfl) dX4_numeral_13 (Nat.zero_le _) (Nat.zero_le _) rfl (fun ct54 rrr55 hBr55 hoff56 => ?_)
        obtain ⟨r55, rfl, hr55, rfl⟩ := hBr55
        refine GW.eq (S2 := [.int r55]) rfl rfl rfl ?_
        rcases hr55 with hr55 | hr55
        · skip
          obtain ⟨rfl, h57, h58⟩ := hr55
          have h57 : 48 ≤ r51.toInt := h57
          have h58 : r51.toInt ≤ 57 := h58
          refine dv_if_eq (tgt := 48) dX4_numeral_16 (by decide) (fun c59 => ?_) (fun c59 => ?_)
          · skip
            exact absurd c59 (by decide)
          · skip
            refine dv_bipush (v := 10) dX4_numeral_19 (by decide) ?_
            refine dv_iload_n dX4_numeral_21 rfl 1 rfl ?_
            refine dv_imul dX4_numeral_22 ?_
            refine dv_topi (fun x60 ex60 => ?_)
            refine dv_aload_n dX4_numeral_23 rfl 2 rfl ?_
            refine GW.callV (n := 0) (As := []) (rest := [.int x60]) (b := kg) (k_X4_next l g pe ct1 kg tld35 ofb36 hol37 flt38 fla39 ofl40 len41 atx42 ref43 (by omega) hI hs34) (fun _ h => h) rfl rfl ⟨by omega, pG_of (by omega)⟩ hs34 (q := (RX4, TX4, 11)) rfl mm_600 mm_602 mm_24 mm_58 mm_603 (by decide +kernel) ⟨Nat.le_of_ble_eq_true rfl, Nat.le_of_ble_eq_true rfl⟩ rfl (Nat.le_of_ble_eq_true rfl) dX4_numeral_24 (Nat.zero_le _) (Nat.zero_le _) rfl (fun ct61 rrr62 hBr62 hoff63 => ?_)
            obtain ⟨r62, rfl, hr62, rfl⟩ := hBr62
            refine GW.eq (S2 := [.int r62, .int x60]) rfl rfl rfl ?_
            have h64 := hr62
            have h64 : r62.toInt = -1 ∨ atx42.toInt ≤ 99 := h64
            refine dv_iadd dX4_numeral_27 ?_
            refine dv_topi (fun x65 ex65 => ?_)
            refine dv_bipush (v := 48) dX4_numeral_28 (by decide) ?_
            refine dv_isub dX4_numeral_30 ?_
            refine dv_topi (fun x66 ex66 => ?_)
            refine dv_istore_n (lv' := [(1, .int x66), (2, .int v2_4), (0, .ref kg)]) dX4_numeral_31 rfl (by decide) rfl ?_
            refine dv_aload_n dX4_numeral_32 rfl 2 rfl ?_
            refine dv_dup dX4_numeral_33 rfl ?_
            refine dv_get (ci := 4) (v := .int atx42) (C := RX4) (T := TX4) (N := 11) ⟨by omega, pG_of (by omega)⟩ hs34 rfl inG4 9 (by decide) mm_228 rfl dX4_numeral_34 ?_
            refine dv_iconst (v := 1) dX4_numeral_37 (by decide) ?_
            refine dv_iadd dX4_numeral_38 ?_
            refine dv_topi (fun x67 ex67 => ?_)
            have tx67 : x67.toInt = atx42.toInt + 1 := by rw [ex67]; exact z_add rfl (by decide : (1 : Int32).toInt = 1) (by omega) (by omega)
            refine dv_put (ci := 4) (v := .int x67) (ty := .int) (C := RX4) (T := TX4) (N := 11) ⟨by omega, pG_of (by omega)⟩ hs34 rfl inG4 tyX4 tyX4_ok nmX4 9 (by decide) mm_228 rfl (by decide +kernel) (fun _ => rfl) (fun _ => rfl) (Nat.le_of_ble_eq_true rfl) dX4_numeral_39 (en := .inr (4, [.int tld35, .int ofb36, .int hol37, .int flt38, .int fla39, .int ofl40, .ref (kg + 1), .ref (kg + 2), .int len41, .int x67, .int ref43])) rfl (fun ct68 ec69 => ?_)
            have hI : Inv8 g idn pe ct68 := by rw [ec69]; exact up8 hI (i8_44 (kc := kg) (by omega) ⟨(tld35 : Int32), (ofb36 : Int32), (hol37 : Int32), (flt38 : Int32), (fla39 : Int32), (ofl40 : Int32), (len41 : Int32), (x67 : Int32), (ref43 : Int32), hz44, (by first | omega | decide), (by first | omega | decide), (by first | omega | decide), (by first | omega | decide), hz49, rfl⟩)
            have hs70 : ct68 kg = .inr (4, [.int tld35, .int ofb36, .int hol37, .int flt38, .int fla39, .int ofl40, .ref (kg + 1), .ref (kg + 2), .int len41, .int x67, .int ref43]) := by rw [ec69]; exact va_up_self _ _ _
            obtain ⟨x71, ex71⟩ : ∃ y : Int32, y = v2_4 + 1 := ⟨_, rfl⟩
            have tx71 : x71.toInt = v2_4.toInt + 1 := by rw [ex71]; exact z_add rfl (by decide : (1 : Int32).toInt = 1) (by omega) (by omega)
            refine dv_iinc (v := x71) (lv' := [(2, .int x71), (1, .int x66), (0, .ref kg)]) dX4_numeral_42 (k := 1) rfl (by rw [ex71]; rfl) (by decide) rfl ?_
            refine dv_goto (tgt := 4) dX4_numeral_45 (by decide) ?_
            exact ih4 x71 x66 ct68 (by omega) (by first | omega | decide | assumption) hI
        · skip
          obtain ⟨rfl, h72⟩ := hr55
          have h72 : ¬ (48 ≤ r51.toInt ∧ r51.toInt ≤ 57) := h72
          refine dv_if_eq (tgt := 48) dX4_numeral_16 (by decide) (fun c73 => ?_) (fun c73 => ?_)
          · skip
            refine dv_aload_n dX4_numeral_48 rfl 2 rfl ?_
            refine GW.callV (n := 0) (As := []) (rest := []) (b := kg) (k_X4_next l g pe ct1 kg tld35 ofb36 hol37 flt38 fla39 ofl40 len41 atx42 ref43 (by omega) hI hs34) (fun _ h => h) rfl rfl ⟨by omega, pG_of (by omega)⟩ hs34 (q := (RX4, TX4, 11)) rfl mm_600 mm_602 mm_24 mm_58 mm_603 (by decide +kernel) ⟨Nat.le_of_ble_eq_true rfl, Nat.le_of_ble_eq_true rfl⟩ rfl (Nat.le_of_ble_eq_true rfl) dX4_numeral_49 (Nat.zero_le _) (Nat.zero_le _) rfl (fun ct74 rrr75 hBr75 hoff76 => ?_)
            obtain ⟨r75, rfl, hr75, rfl⟩ := hBr75
            refine GW.eq (S2 := [.int r75]) rfl rfl rfl ?_
            have h77 := hr75
            have h77 : r75.toInt = -1 ∨ atx42.toInt ≤ 99 := h77
            refine GW.callS (n := 1) (As := [.int r75]) (rest := []) (k_X4_isDigit l g pe ct1 r75 hI) (fun _ h => Bool.noConfusion h) rfl rfl mm_628 mm_629 mm_58 mm_630 (by decide +kernel) ⟨Nat.le_of_ble_eq_true rfl, Nat.le_of_ble_eq_true rfl⟩ rfl (Nat.le_of_ble_eq_true rfl) dX4_numeral_52 (Nat.zero_le _) (Nat.zero_le _) rfl (fun ct78 rrr79 hBr79 hoff80 => ?_)
            obtain ⟨r79, rfl, hr79, rfl⟩ := hBr79
            refine GW.eq (S2 := [.int r79]) rfl rfl rfl ?_
            rcases hr79 with hr79 | hr79
            · skip
              obtain ⟨rfl, h81, h82⟩ := hr79
              have h81 : 48 ≤ r75.toInt := h81
              have h82 : r75.toInt ≤ 57 := h82
              refine dv_if_eq (tgt := 63) dX4_numeral_55 (by decide) (fun c83 => ?_) (fun c83 => ?_)
              · skip
                exact absurd c83 (by decide)
              · skip
                refine dv_aload_n dX4_numeral_58 rfl 2 rfl ?_
                refine dv_iconst (v := 2) dX4_numeral_59 (by decide) ?_
                refine GW.callV (n := 1) (As := [.int 2]) (rest := []) (b := kg) (k_X4_fail l g pe ct1 kg (2 : Int32) (by omega) hI) (fun _ h => h) rfl rfl ⟨by omega, pG_of (by omega)⟩ hs34 (q := (RX4, TX4, 11)) rfl mm_608 mm_610 mm_26 mm_58 mm_611 (by decide +kernel) ⟨Nat.le_of_ble_eq_true rfl, Nat.le_of_ble_eq_true rfl⟩ rfl (Nat.le_of_ble_eq_true rfl) dX4_numeral_60 (Nat.zero_le _) (Nat.zero_le _) rfl (fun ct84 rrr85 hBr85 hoff86 => ?_)
                obtain ⟨rfl, hI⟩ := hBr85
                refine GW.eq (S2 := []) rfl rfl rfl ?_
                refine dv_iload_n dX4_numeral_63 rfl 1 rfl ?_
                exact dv_iret dX4_numeral_64 rfl (by first | exact Nat.zero_le _ | decide) (by first | exact Nat.zero_le _ | decide) (by subst hK; exact ⟨v1_4, rfl, (trivial), hI⟩)
            · skip
              obtain ⟨rfl, h87⟩ := hr79
              have h87 : ¬ (48 ≤ r75.toInt ∧ r75.toInt ≤ 57) := h87
              refine dv_if_eq (tgt := 63) dX4_numeral_55 (by decide) (fun c88 => ?_) (fun c88 => ?_)
              · skip
                refine dv_iload_n dX4_numeral_63 rfl 1 rfl ?_
                exact dv_iret dX4_numeral_64 rfl (by first | exact Nat.zero_le _ | decide) (by first | exact Nat.zero_le _ | decide) (by subst hK; exact ⟨v1_4, rfl, (trivial), hI⟩)
              · skip
                exact absurd c88 (by decide)
          · skip
            exact absurd c73 (by decide)
  exact loop4 ((5 - (0 : Int32).toInt : Int).toNat + 1) (0 : Int32) (0 : Int32) ct (by omega) (by first | omega | decide | assumption) hI
