set_option maxHeartbeats 4000000 in
set_option maxRecDepth 100000 in
theorem k_X4_factor_3 (l : Launch) (g : zG) (pe : Int32) (ct : Nat → va_E) (kg : Nat) (ask : Int32) (hf_kg : 99 ≤ kg ∧ kg < 126 ∧ (kg - 99) % 3 = 0) (hI : Inv8 g idn pe ct) : DM l g pG false yX4_factor cX4_factor 5 (some .int) ({ frames := 11, cells := 0, slots := 0, locals := 271 }) (fun (ct2 : Nat → va_E) (rr : Option Value) => ∃ (r : Int32), rr = some (.int r) ∧ ((True)) ∧ Inv8 g idn pe ct2) ct [.ref kg, .int 3, .int ask] := by
  refine DM.K (fun K hK => ?_)
  refine GW.met (own := RX4) (loc := [(0, .ref kg), (1, .int 3), (2, .int ask)]) (by decide) rfl rfl (Nat.le_of_ble_eq_true rfl) ?_
  have hpe0 := hI.1
  have rg_ask := z_rng ask
  refine dv_aload_n dX4_factor_0 rfl 0 rfl ?_
  obtain ⟨tld2, ofb3, hol4, flt5, fla6, ofl7, len8, atx9, ref10, hz11, h12, h13, h14, h15, hz16, hs1⟩ := a8_44 (kc := kg) (by omega) hI
  have bhz11 := z_b01 hz11
  have bhz16 := z_b01 hz16
  refine GW.callV (n := 0) (As := []) (rest := []) (b := kg) (k_X4_nextp l g pe ct kg tld2 ofb3 hol4 flt5 fla6 ofl7 len8 atx9 ref10 (by omega) hI hs1) (fun _ h => h) rfl rfl ⟨by omega, pG_of (by omega)⟩ hs1 (q := (RX4, TX4, 11)) rfl mm_600 mm_602 mm_24 mm_58 mm_603 (by decide +kernel) ⟨Nat.le_of_ble_eq_true rfl, Nat.le_of_ble_eq_true rfl⟩ rfl (Nat.le_of_ble_eq_true rfl) dX4_factor_1 (Nat.zero_le _) (Nat.zero_le _) rfl (fun ct17 rrr18 hBr18 hoff19 => ?_)
  obtain ⟨r18, rfl, hr18, rfl⟩ := hBr18
  refine GW.eq (S2 := [.int r18]) rfl rfl rfl ?_
  have h20 := hr18
  have h20 : nxp r18 atx9 := h20
  refine dv_istore_n (lv' := [(3, .int r18), (0, .ref kg), (1, .int 3), (2, .int ask)]) dX4_factor_4 rfl (by decide) rfl ?_
  refine dv_iload_n dX4_factor_5 rfl 0 rfl ?_
  refine dv_bipush (v := 91) dX4_factor_6 (by decide) ?_
  refine dv_icmp_ne (tgt := 42) dX4_factor_8 (by decide) (fun c21 => ?_) (fun c21 => ?_)
  · skip
    have c21 : ¬ (r18.toInt = 91) := fun q => c21 ((z_eq rfl (by decide : (91 : Int32).toInt = 91)).mpr q)
    refine dv_iload_n dX4_factor_42 rfl 0 rfl ?_
    refine GW.callS (n := 1) (As := [.int r18]) (rest := []) (k_X4_isDigit l g pe ct r18 hI) (fun _ h => Bool.noConfusion h) rfl rfl mm_628 mm_629 mm_58 mm_630 (by decide +kernel) ⟨Nat.le_of_ble_eq_true rfl, Nat.le_of_ble_eq_true rfl⟩ rfl (Nat.le_of_ble_eq_true rfl) dX4_factor_43 (Nat.zero_le _) (Nat.zero_le _) rfl (fun ct22 rrr23 hBr23 hoff24 => ?_)
    obtain ⟨r23, rfl, hr23, rfl⟩ := hBr23
    refine GW.eq (S2 := [.int r23]) rfl rfl rfl ?_
    rcases hr23 with hr23 | hr23
    · skip
      obtain ⟨rfl, h25, h26⟩ := hr23
      have h25 : 48 ≤ r18.toInt := h25
      have h26 : r18.toInt ≤ 57 := h26
      refine dv_if_eq (tgt := 54) dX4_factor_46 (by decide) (fun c27 => ?_) (fun c27 => ?_)
      · skip
        exact absurd c27 (by decide)
      · skip
        refine dv_aload_n dX4_factor_49 rfl 1 rfl ?_
        refine GW.callV (n := 0) (As := []) (rest := []) (b := kg) (k_X4_numeral l g pe ct kg (by omega) hI) (fun _ h => h) rfl rfl ⟨by omega, pG_of (by omega)⟩ hs1 (q := (RX4, TX4, 11)) rfl mm_631 mm_633 mm_31 mm_58 mm_634 (by decide +kernel) ⟨Nat.le_of_ble_eq_true rfl, Nat.le_of_ble_eq_true rfl⟩ rfl (Nat.le_of_ble_eq_true rfl) dX4_factor_50 (Nat.zero_le _) (Nat.zero_le _) rfl (fun ct28 rrr29 hBr29 hoff30 => ?_)
        obtain ⟨r29, rfl, hr29, hI⟩ := hBr29
        refine GW.eq (S2 := [.int r29]) rfl rfl rfl ?_
        exact dv_iret dX4_factor_53 rfl (by first | exact Nat.zero_le _ | decide) (by first | exact Nat.zero_le _ | decide) (by subst hK; exact ⟨r29, rfl, (trivial), hI⟩)
    · skip
      obtain ⟨rfl, h31⟩ := hr23
      have h31 : ¬ (48 ≤ r18.toInt ∧ r18.toInt ≤ 57) := h31
      refine dv_if_eq (tgt := 54) dX4_factor_46 (by decide) (fun c32 => ?_) (fun c32 => ?_)
      · skip
        refine dv_iload_n dX4_factor_54 rfl 0 rfl ?_
        refine GW.callS (n := 1) (As := [.int r18]) (rest := []) (k_X4_letterOf l g pe ct r18 hI) (fun _ h => Bool.noConfusion h) rfl rfl mm_635 mm_636 mm_58 mm_637 (by decide +kernel) ⟨Nat.le_of_ble_eq_true rfl, Nat.le_of_ble_eq_true rfl⟩ rfl (Nat.le_of_ble_eq_true rfl) dX4_factor_55 (Nat.zero_le _) (Nat.zero_le _) rfl (fun ct33 rrr34 hBr34 hoff35 => ?_)
        obtain ⟨r34, rfl, hr34, rfl⟩ := hBr34
        refine GW.eq (S2 := [.int r34]) rfl rfl rfl ?_
        obtain ⟨h36, h37, h38⟩ := hr34
        have h36 : -1 ≤ r34.toInt := h36
        have h37 : r34.toInt ≤ 6 := h37
        have h38 : r34.toInt = -1 ∨ 97 ≤ r18.toInt := h38
        refine dv_istore (lv' := [(4, .int r34), (3, .int r18), (0, .ref kg), (1, .int 3), (2, .int ask)]) dX4_factor_58 (by decide) rfl ?_
        refine dv_iload dX4_factor_60 0 rfl ?_
        refine dv_if_lt (tgt := 75) dX4_factor_62 (by decide) (fun c39 => ?_) (fun c39 => ?_)
        · skip
          have c39 : r34.toInt < 0 := (z_lt rfl (by decide : (0 : Int32).toInt = 0)).mp c39
          refine dv_aload_n dX4_factor_75 rfl 2 rfl ?_
          refine dv_iconst (v := 1) dX4_factor_76 (by decide) ?_
          refine GW.callV (n := 1) (As := [.int 1]) (rest := []) (b := kg) (k_X4_fail l g pe ct kg (1 : Int32) (by omega) hI) (fun _ h => h) rfl rfl ⟨by omega, pG_of (by omega)⟩ hs1 (q := (RX4, TX4, 11)) rfl mm_608 mm_610 mm_26 mm_58 mm_611 (by decide +kernel) ⟨Nat.le_of_ble_eq_true rfl, Nat.le_of_ble_eq_true rfl⟩ rfl (Nat.le_of_ble_eq_true rfl) dX4_factor_77 (Nat.zero_le _) (Nat.zero_le _) rfl (fun ct40 rrr41 hBr41 hoff42 => ?_)
          obtain ⟨rfl, hI⟩ := hBr41
          refine GW.eq (S2 := []) rfl rfl rfl ?_
          refine dv_iconst (v := 0) dX4_factor_80 (by decide) ?_
          have q43 : (0 : Int32).toInt = 0 := by decide
          exact dv_iret dX4_factor_81 rfl (by first | exact Nat.zero_le _ | decide) (by first | exact Nat.zero_le _ | decide) (by subst hK; exact ⟨0, rfl, (trivial), hI⟩)
        · skip
          have c39 : ¬ (r34.toInt < 0) := fun q => c39 ((z_lt rfl (by decide : (0 : Int32).toInt = 0)).mpr q)
          refine dv_iload dX4_factor_65 0 rfl ?_
          refine dv_aload_n dX4_factor_67 rfl 2 rfl ?_
          refine dv_get (ci := 4) (v := .ref (kg + 1)) (C := RX4) (T := TX4) (N := 11) ⟨by omega, pG_of (by omega)⟩ hs1 rfl inG4 6 (by decide) mm_225 rfl dX4_factor_68 ?_
          obtain ⟨f45, hs44⟩ := a8_45 (kc := kg) (by omega) hI
          refine dv_alen 0 ⟨by omega, pG_of (by omega)⟩ hs44 (ty := .int) rfl (v := 7) (show Int32.ofNat 7 = (7 : Int32) from by decide) dX4_factor_71 ?_
          refine dv_icmp_lt (tgt := 82) dX4_factor_72 (by decide) (fun c46 => ?_) (fun c46 => ?_)
          · skip
            have c46 : r34.toInt < 7 := (z_lt rfl (by decide : (7 : Int32).toInt = 7)).mp c46
            refine dv_aload_n dX4_factor_82 rfl 2 rfl ?_
            refine dv_dup dX4_factor_83 rfl ?_
            refine dv_get (ci := 4) (v := .int atx9) (C := RX4) (T := TX4) (N := 11) ⟨by omega, pG_of (by omega)⟩ hs1 rfl inG4 9 (by decide) mm_228 rfl dX4_factor_84 ?_
            refine dv_iconst (v := 1) dX4_factor_87 (by decide) ?_
            refine dv_iadd dX4_factor_88 ?_
            refine dv_topi (fun x47 ex47 => ?_)
            have tx47 : x47.toInt = atx9.toInt + 1 := by rw [ex47]; exact z_add rfl (by decide : (1 : Int32).toInt = 1) (by omega) (by omega)
            have hat47 : atx9.toInt ≤ 99 := by first | exact nxp_use h20 (by omega)
            refine dv_put (ci := 4) (v := .int x47) (ty := .int) (C := RX4) (T := TX4) (N := 11) ⟨by omega, pG_of (by omega)⟩ hs1 rfl inG4 tyX4 tyX4_ok nmX4 9 (by decide) mm_228 rfl (by decide +kernel) (fun _ => rfl) (fun _ => rfl) (Nat.le_of_ble_eq_true rfl) dX4_factor_89 (en := .inr (4, [.int tld2, .int ofb3, .int hol4, .int flt5, .int fla6, .int ofl7, .ref (kg + 1), .ref (kg + 2), .int len8, .int x47, .int ref10])) rfl (fun ct48 ec49 => ?_)
            have hI : Inv8 g idn pe ct48 := by rw [ec49]; exact up8 hI (i8_44 (kc := kg) (by omega) ⟨(tld2 : Int32), (ofb3 : Int32), (hol4 : Int32), (flt5 : Int32), (fla6 : Int32), (ofl7 : Int32), (len8 : Int32), (x47 : Int32), (ref10 : Int32), hz11, (by first | omega | decide), (by first | omega | decide), (by first | omega | decide), (by first | omega | decide), hz16, rfl⟩)
            have hs50 : ct48 (kg + 1) = .inl (g.2 0, 7, .inl f45) := by rw [ec49, va_up_ne _ _ (by omega)]; exact hs44
            have hs51 : ct48 kg = .inr (4, [.int tld2, .int ofb3, .int hol4, .int flt5, .int fla6, .int ofl7, .ref (kg + 1), .ref (kg + 2), .int len8, .int x47, .int ref10]) := by rw [ec49]; exact va_up_self _ _ _
            refine dv_aload_n dX4_factor_92 rfl 2 rfl ?_
            refine dv_get (ci := 4) (v := .ref (kg + 1)) (C := RX4) (T := TX4) (N := 11) ⟨by omega, pG_of (by omega)⟩ hs51 rfl inG4 6 (by decide) mm_225 rfl dX4_factor_93 ?_
            refine dv_iload dX4_factor_96 0 rfl ?_
            refine dv_iald 0 ⟨by omega, pG_of (by omega)⟩ hs50 rfl (z_in rfl (by omega) (by omega)) dX4_factor_98 ?_
            refine dv_topi (fun y52 ey52 => ?_)
            exact dv_iret dX4_factor_99 rfl (by first | exact Nat.zero_le _ | decide) (by first | exact Nat.zero_le _ | decide) (by subst hK; exact ⟨y52, rfl, (trivial), hI⟩)
          · skip
            have c46 : ¬ (r34.toInt < 7) := fun q => c46 ((z_lt rfl (by decide : (7 : Int32).toInt = 7)).mpr q)
            refine dv_aload_n dX4_factor_75 rfl 2 rfl ?_
            refine dv_iconst (v := 1) dX4_factor_76 (by decide) ?_
            refine GW.callV (n := 1) (As := [.int 1]) (rest := []) (b := kg) (k_X4_fail l g pe ct kg (1 : Int32) (by omega) hI) (fun _ h => h) rfl rfl ⟨by omega, pG_of (by omega)⟩ hs1 (q := (RX4, TX4, 11)) rfl mm_608 mm_610 mm_26 mm_58 mm_611 (by decide +kernel) ⟨Nat.le_of_ble_eq_true rfl, Nat.le_of_ble_eq_true rfl⟩ rfl (Nat.le_of_ble_eq_true rfl) dX4_factor_77 (Nat.zero_le _) (Nat.zero_le _) rfl (fun ct53 rrr54 hBr54 hoff55 => ?_)
            obtain ⟨rfl, hI⟩ := hBr54
            refine GW.eq (S2 := []) rfl rfl rfl ?_
            refine dv_iconst (v := 0) dX4_factor_80 (by decide) ?_
            have q56 : (0 : Int32).toInt = 0 := by decide
            exact dv_iret dX4_factor_81 rfl (by first | exact Nat.zero_le _ | decide) (by first | exact Nat.zero_le _ | decide) (by subst hK; exact ⟨0, rfl, (trivial), hI⟩)
      · skip
        exact absurd c32 (by decide)
  · skip
    have c21 : r18.toInt = 91 := (z_eq rfl (by decide : (91 : Int32).toInt = 91)).mp c21
    refine dv_aload_n dX4_factor_11 rfl 1 rfl ?_
    refine dv_iload_n dX4_factor_12 rfl 2 rfl ?_
    refine GW.callV (n := 1) (As := [.int 3]) (rest := []) (b := kg) (k_X4_opens l g pe ct kg (3 : Int32) tld2 ofb3 hol4 flt5 fla6 ofl7 len8 atx9 ref10 (by omega) hI hs1 (by first | exact nxp_use h20 (by omega) | omega)) (fun _ h => h) rfl rfl ⟨by omega, pG_of (by omega)⟩ hs1 (q := (RX4, TX4, 11)) rfl mm_604 mm_606 mm_25 mm_58 mm_607 (by decide +kernel) ⟨Nat.le_of_ble_eq_true rfl, Nat.le_of_ble_eq_true rfl⟩ rfl (Nat.le_of_ble_eq_true rfl) dX4_factor_13 (Nat.zero_le _) (Nat.zero_le _) rfl (fun ct57 rrr58 hBr58 hoff59 => ?_)
    obtain ⟨r58, rfl, hr58, hI⟩ := hBr58
    refine GW.eq (S2 := [.int r58]) rfl rfl rfl ?_
    rcases hr58 with hr58 | hr58
    · skip
      obtain ⟨rfl, h60⟩ := hr58
      have h60 : (3 : Int) < 6 := h60
      refine dv_if_eq (tgt := 30) dX4_factor_16 (by decide) (fun c61 => ?_) (fun c61 => ?_)
      · skip
        exact absurd c61 (by decide)
      · skip
        refine dv_aload_n dX4_factor_19 rfl 1 rfl ?_
        refine dv_iload_n dX4_factor_20 rfl 2 rfl ?_
        refine dv_iconst (v := 1) dX4_factor_21 (by decide) ?_
        refine dv_iadd dX4_factor_22 ?_
        refine dv_topi (fun x62 ex62 => ?_)
        obtain rfl : x62 = 4 := ex62.trans (by decide)
        refine dv_iload_n dX4_factor_23 rfl 3 rfl ?_
        obtain ⟨tld65, ofb66, hol67, flt68, fla69, ofl70, len71, atx72, ref73, hz74, h75, h76, h77, h78, hz79, hs64⟩ := a8_44 (kc := kg) (by omega) hI
        have bhz74 := z_b01 hz74
        have bhz79 := z_b01 hz79
        refine GW.callV (n := 2) (As := [.int 4, .int ask]) (rest := []) (b := kg) (k_X4_sum_4 l g pe ct57 kg ask (by omega) hI) (fun _ h => h) rfl rfl ⟨by omega, pG_of (by omega)⟩ hs64 (q := (RX4, TX4, 11)) rfl mm_616 mm_618 mm_28 mm_58 mm_619 (by decide +kernel) ⟨Nat.le_of_ble_eq_true rfl, Nat.le_of_ble_eq_true rfl⟩ rfl (Nat.le_of_ble_eq_true rfl) dX4_factor_24 (Nat.zero_le _) (Nat.zero_le _) rfl (fun ct63 rrr80 hBr80 hoff81 => ?_)
        obtain ⟨r80, rfl, hr80, hI⟩ := hBr80
        refine GW.eq (S2 := [.int r80]) rfl rfl rfl ?_
        refine dv_goto (tgt := 31) dX4_factor_27 (by decide) ?_
        refine dv_istore (lv' := [(4, .int r80), (3, .int r18), (0, .ref kg), (1, .int 3), (2, .int ask)]) dX4_factor_31 (by decide) rfl ?_
        refine dv_aload_n dX4_factor_33 rfl 2 rfl ?_
        refine dv_bipush (v := 93) dX4_factor_34 (by decide) ?_
        obtain ⟨tld84, ofb85, hol86, flt87, fla88, ofl89, len90, atx91, ref92, hz93, h94, h95, h96, h97, hz98, hs83⟩ := a8_44 (kc := kg) (by omega) hI
        have bhz93 := z_b01 hz93
        have bhz98 := z_b01 hz98
        refine GW.callV (n := 1) (As := [.int 93]) (rest := []) (b := kg) (k_X4_expect l g pe ct63 kg (93 : Int32) (by omega) (by first | omega | decide) hI) (fun _ h => h) rfl rfl ⟨by omega, pG_of (by omega)⟩ hs83 (q := (RX4, TX4, 11)) rfl mm_612 mm_614 mm_27 mm_58 mm_615 (by decide +kernel) ⟨Nat.le_of_ble_eq_true rfl, Nat.le_of_ble_eq_true rfl⟩ rfl (Nat.le_of_ble_eq_true rfl) dX4_factor_36 (Nat.zero_le _) (Nat.zero_le _) rfl (fun ct82 rrr99 hBr99 hoff100 => ?_)
        obtain ⟨rfl, hI⟩ := hBr99
        refine GW.eq (S2 := []) rfl rfl rfl ?_
        refine dv_iload dX4_factor_39 0 rfl ?_
        exact dv_iret dX4_factor_41 rfl (by first | exact Nat.zero_le _ | decide) (by first | exact Nat.zero_le _ | decide) (by subst hK; exact ⟨r80, rfl, (trivial), hI⟩)
    · skip
      obtain rfl := hr58
      refine dv_if_eq (tgt := 30) dX4_factor_16 (by decide) (fun c101 => ?_) (fun c101 => ?_)
      · skip
        refine dv_iconst (v := 0) dX4_factor_30 (by decide) ?_
        refine dv_istore (lv' := [(4, .int 0), (3, .int r18), (0, .ref kg), (1, .int 3), (2, .int ask)]) dX4_factor_31 (by decide) rfl ?_
        refine dv_aload_n dX4_factor_33 rfl 2 rfl ?_
        refine dv_bipush (v := 93) dX4_factor_34 (by decide) ?_
        obtain ⟨tld104, ofb105, hol106, flt107, fla108, ofl109, len110, atx111, ref112, hz113, h114, h115, h116, h117, hz118, hs103⟩ := a8_44 (kc := kg) (by omega) hI
        have bhz113 := z_b01 hz113
        have bhz118 := z_b01 hz118
        refine GW.callV (n := 1) (As := [.int 93]) (rest := []) (b := kg) (k_X4_expect l g pe ct57 kg (93 : Int32) (by omega) (by first | omega | decide) hI) (fun _ h => h) rfl rfl ⟨by omega, pG_of (by omega)⟩ hs103 (q := (RX4, TX4, 11)) rfl mm_612 mm_614 mm_27 mm_58 mm_615 (by decide +kernel) ⟨Nat.le_of_ble_eq_true rfl, Nat.le_of_ble_eq_true rfl⟩ rfl (Nat.le_of_ble_eq_true rfl) dX4_factor_36 (Nat.zero_le _) (Nat.zero_le _) rfl (fun ct102 rrr119 hBr119 hoff120 => ?_)
        obtain ⟨rfl, hI⟩ := hBr119
        refine GW.eq (S2 := []) rfl rfl rfl ?_
        refine dv_iload dX4_factor_39 0 rfl ?_
        have q121 : (0 : Int32).toInt = 0 := by decide
        exact dv_iret dX4_factor_41 rfl (by first | exact Nat.zero_le _ | decide) (by first | exact Nat.zero_le _ | decide) (by subst hK; exact ⟨0, rfl, (trivial), hI⟩)
      · skip
        exact absurd c101 (by decide)
