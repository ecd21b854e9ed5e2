set_option maxHeartbeats 4000000 in
set_option maxRecDepth 100000 in
theorem k_X4_sum_4 (l : Launch) (g : zG) (pe : Int32) (ct : Nat → va_E) (kg : Nat) (ask : Int32) (hf_kg : 99 ≤ kg ∧ kg < 126 ∧ (kg - 99) % 3 = 0) (hI : Inv8 g idn pe ct) : DM l g pG false yX4_sum cX4_sum 7 (some .int) ({ frames := 10, cells := 0, slots := 0, locals := 245 }) (fun (ct2 : Nat → va_E) (rr : Option Value) => ∃ (r : Int32), rr = some (.int r) ∧ ((True)) ∧ Inv8 g idn pe ct2) ct [.ref kg, .int 4, .int ask] := by
  refine DM.K (fun K hK => ?_)
  refine GW.met (own := RX4) (loc := [(0, .ref kg), (1, .int 4), (2, .int ask)]) (by decide) rfl rfl (Nat.le_of_ble_eq_true rfl) ?_
  have hpe0 := hI.1
  have rg_ask := z_rng ask
  refine dv_aload_n dX4_sum_0 rfl 0 rfl ?_
  refine dv_iload_n dX4_sum_1 rfl 1 rfl ?_
  refine dv_iload_n dX4_sum_2 rfl 2 rfl ?_
  obtain ⟨tld3, ofb4, hol5, flt6, fla7, ofl8, len9, atx10, ref11, hz12, h13, h14, h15, h16, hz17, hs2⟩ := a8_44 (kc := kg) (by omega) hI
  have bhz12 := z_b01 hz12
  have bhz17 := z_b01 hz17
  refine GW.callV (n := 2) (As := [.int 4, .int ask]) (rest := []) (b := kg) (k_X4_product_4 l g pe ct kg ask (by omega) hI) (fun _ h => h) rfl rfl ⟨by omega, pG_of (by omega)⟩ hs2 (q := (RX4, TX4, 11)) rfl mm_620 mm_622 mm_29 mm_58 mm_623 (by decide +kernel) ⟨Nat.le_of_ble_eq_true rfl, Nat.le_of_ble_eq_true rfl⟩ rfl (Nat.le_of_ble_eq_true rfl) dX4_sum_3 (Nat.zero_le _) (Nat.zero_le _) rfl (fun ct1 rrr18 hBr18 hoff19 => ?_)
  obtain ⟨r18, rfl, hr18, hI⟩ := hBr18
  refine GW.eq (S2 := [.int r18]) rfl rfl rfl ?_
  refine dv_istore_n (lv' := [(3, .int r18), (0, .ref kg), (1, .int 4), (2, .int ask)]) dX4_sum_6 rfl (by decide) rfl ?_
  refine dv_iconst (v := 0) dX4_sum_7 (by decide) ?_
  refine dv_istore (lv' := [(4, .int 0), (3, .int r18), (0, .ref kg), (1, .int 4), (2, .int ask)]) dX4_sum_8 (by decide) rfl ?_
  have loop10 : ∀ (n10 : Nat) (v4_10 : Int32) (v3_10 : Int32) (ct20 : Nat → va_E), ((100 - v4_10.toInt : Int).toNat < n10) → (0 ≤ v4_10.toInt ∧ v4_10.toInt ≤ 100) → (Inv8 g idn pe ct20) → GW l g pG pG false yX4_sum cX4_sum 7 (some .int) RX4 ({ frames := 10, cells := 0, slots := 0, locals := 245 }) K 0 0 ct20 10 [(4, .int v4_10), (3, .int v3_10), (0, .ref kg), (1, .int 4), (2, .int ask)] [] := by
    intro n10
    induction n10 with
    | zero =>
      intro v4_10 v3_10 ct20 hn10 b4_10 hI
      exact absurd hn10 (Nat.not_lt_zero _)
    | succ n10 ih10 =>
      intro v4_10 v3_10 ct20 hn10 b4_10 hI
      refine dv_iload dX4_sum_10 0 rfl ?_
      refine dv_bipush (v := 100) dX4_sum_12 (by decide) ?_
      refine dv_icmp_ge (tgt := 84) dX4_sum_14 (by decide) (fun c21 => ?_) (fun c21 => ?_)
      · skip
        have c21 : 100 ≤ v4_10.toInt := (z_le (by decide : (100 : Int32).toInt = 100) rfl).mp c21
        refine dv_iload_n dX4_sum_84 rfl 1 rfl ?_
        exact dv_iret dX4_sum_85 rfl (by first | exact Nat.zero_le _ | decide) (by first | exact Nat.zero_le _ | decide) (by subst hK; exact ⟨v3_10, rfl, (trivial), hI⟩)
      · skip
        have c21 : ¬ (100 ≤ v4_10.toInt) := fun q => c21 ((z_le (by decide : (100 : Int32).toInt = 100) rfl).mpr q)
        refine dv_aload_n dX4_sum_17 rfl 2 rfl ?_
        obtain ⟨tld23, ofb24, hol25, flt26, fla27, ofl28, len29, atx30, ref31, hz32, h33, h34, h35, h36, hz37, hs22⟩ := a8_44 (kc := kg) (by omega) hI
        have bhz32 := z_b01 hz32
        have bhz37 := z_b01 hz37
        refine GW.callV (n := 0) (As := []) (rest := []) (b := kg) (k_X4_nextp l g pe ct20 kg tld23 ofb24 hol25 flt26 fla27 ofl28 len29 atx30 ref31 (by omega) hI hs22) (fun _ h => h) rfl rfl ⟨by omega, pG_of (by omega)⟩ hs22 (q := (RX4, TX4, 11)) rfl mm_600 mm_602 mm_24 mm_58 mm_603 (by decide +kernel) ⟨Nat.le_of_ble_eq_true rfl, Nat.le_of_ble_eq_true rfl⟩ rfl (Nat.le_of_ble_eq_true rfl) dX4_sum_18 (Nat.zero_le _) (Nat.zero_le _) rfl (fun ct38 rrr39 hBr39 hoff40 => ?_)
        obtain ⟨r39, rfl, hr39, rfl⟩ := hBr39
        refine GW.eq (S2 := [.int r39]) rfl rfl rfl ?_
        have h41 := hr39
        have h41 : nxp r39 atx30 := h41
        refine dv_bipush (v := 43) dX4_sum_21 (by decide) ?_
        refine dv_icmp_eq (tgt := 35) dX4_sum_23 (by decide) (fun c42 => ?_) (fun c42 => ?_)
        · skip
          have c42 : r39.toInt = 43 := (z_eq rfl (by decide : (43 : Int32).toInt = 43)).mp c42
          refine dv_aload_n dX4_sum_35 rfl 2 rfl ?_
          refine GW.callV (n := 0) (As := []) (rest := []) (b := kg) (k_X4_nextp l g pe ct20 kg tld23 ofb24 hol25 flt26 fla27 ofl28 len29 atx30 ref31 (by omega) hI hs22) (fun _ h => h) rfl rfl ⟨by omega, pG_of (by omega)⟩ hs22 (q := (RX4, TX4, 11)) rfl mm_600 mm_602 mm_24 mm_58 mm_603 (by decide +kernel) ⟨Nat.le_of_ble_eq_true rfl, Nat.le_of_ble_eq_true rfl⟩ rfl (Nat.le_of_ble_eq_true rfl) dX4_sum_36 (Nat.zero_le _) (Nat.zero_le _) rfl (fun ct43 rrr44 hBr44 hoff45 => ?_)
          obtain ⟨r44, rfl, hr44, rfl⟩ := hBr44
          refine GW.eq (S2 := [.int r44]) rfl rfl rfl ?_
          have h46 := hr44
          have h46 : nxp r44 atx30 := h46
          refine dv_istore (lv' := [(5, .int r44), (4, .int v4_10), (3, .int v3_10), (0, .ref kg), (1, .int 4), (2, .int ask)]) dX4_sum_39 (by decide) rfl ?_
          refine dv_aload_n dX4_sum_41 rfl 3 rfl ?_
          refine dv_dup dX4_sum_42 rfl ?_
          refine dv_get (ci := 4) (v := .int atx30) (C := RX4) (T := TX4) (N := 11) ⟨by omega, pG_of (by omega)⟩ hs22 rfl inG4 9 (by decide) mm_228 rfl dX4_sum_43 ?_
          refine dv_iconst (v := 1) dX4_sum_46 (by decide) ?_
          refine dv_iadd dX4_sum_47 ?_
          refine dv_topi (fun x47 ex47 => ?_)
          have tx47 : x47.toInt = atx30.toInt + 1 := by rw [ex47]; exact z_add rfl (by decide : (1 : Int32).toInt = 1) (by omega) (by omega)
          have hat47 : atx30.toInt ≤ 99 := by first | exact nxp_use h41 (by omega) | exact nxp_use h46 (by omega)
          refine dv_put (ci := 4) (v := .int x47) (ty := .int) (C := RX4) (T := TX4) (N := 11) ⟨by omega, pG_of (by omega)⟩ hs22 rfl inG4 tyX4 tyX4_ok nmX4 9 (by decide) mm_228 rfl (by decide +kernel) (fun _ => rfl) (fun _ => rfl) (Nat.le_of_ble_eq_true rfl) dX4_sum_48 (en := .inr (4, [.int tld23, .int ofb24, .int hol25, .int flt26, .int fla27, .int ofl28, .ref (kg + 1), .ref (kg + 2), .int len29, .int x47, .int ref31])) rfl (fun ct48 ec49 => ?_)
          have hI : Inv8 g idn pe ct48 := by rw [ec49]; exact up8 hI (i8_44 (kc := kg) (by omega) ⟨(tld23 : Int32), (ofb24 : Int32), (hol25 : Int32), (flt26 : Int32), (fla27 : Int32), (ofl28 : Int32), (len29 : Int32), (x47 : Int32), (ref31 : Int32), hz32, (by first | omega | decide), (by first | omega | decide), (by first | omega | decide), (by first | omega | decide), hz37, rfl⟩)
          have hs50 : ct48 kg = .inr (4, [.int tld23, .int ofb24, .int hol25, .int flt26, .int fla27, .int ofl28, .ref (kg + 1), .ref (kg + 2), .int len29, .int x47, .int ref31]) := by rw [ec49]; exact va_up_self _ _ _
          refine dv_aload_n dX4_sum_51 rfl 3 rfl ?_
          refine dv_iload_n dX4_sum_52 rfl 4 rfl ?_
          refine dv_iload_n dX4_sum_53 rfl 5 rfl ?_
          refine GW.callV (n := 2) (As := [.int 4, .int ask]) (rest := []) (b := kg) (k_X4_product_4 l g pe ct48 kg ask (by omega) hI) (fun _ h => h) rfl rfl ⟨by omega, pG_of (by omega)⟩ hs50 (q := (RX4, TX4, 11)) rfl mm_620 mm_622 mm_29 mm_58 mm_623 (by decide +kernel) ⟨Nat.le_of_ble_eq_true rfl, Nat.le_of_ble_eq_true rfl⟩ rfl (Nat.le_of_ble_eq_true rfl) dX4_sum_54 (Nat.zero_le _) (Nat.zero_le _) rfl (fun ct51 rrr52 hBr52 hoff53 => ?_)
          obtain ⟨r52, rfl, hr52, hI⟩ := hBr52
          refine GW.eq (S2 := [.int r52]) rfl rfl rfl ?_
          refine dv_istore (lv' := [(6, .int r52), (5, .int r44), (4, .int v4_10), (3, .int v3_10), (0, .ref kg), (1, .int 4), (2, .int ask)]) dX4_sum_57 (by decide) rfl ?_
          refine dv_iload dX4_sum_59 1 rfl ?_
          refine dv_bipush (v := 43) dX4_sum_61 (by decide) ?_
          refine dv_icmp_ne (tgt := 73) dX4_sum_63 (by decide) (fun c54 => ?_) (fun c54 => ?_)
          · skip
            have c54 : ¬ (r44.toInt = 43) := fun q => c54 ((z_eq rfl (by decide : (43 : Int32).toInt = 43)).mpr q)
            refine dv_iload_n dX4_sum_73 rfl 3 rfl ?_
            refine dv_iload dX4_sum_74 0 rfl ?_
            refine dv_isub dX4_sum_76 ?_
            refine dv_topi (fun x55 ex55 => ?_)
            refine dv_istore_n (lv' := [(3, .int x55), (6, .int r52), (5, .int r44), (4, .int v4_10), (0, .ref kg), (1, .int 4), (2, .int ask)]) dX4_sum_77 rfl (by decide) rfl ?_
            obtain ⟨x56, ex56⟩ : ∃ y : Int32, y = v4_10 + 1 := ⟨_, rfl⟩
            have tx56 : x56.toInt = v4_10.toInt + 1 := by rw [ex56]; exact z_add rfl (by decide : (1 : Int32).toInt = 1) (by omega) (by omega)
            refine dv_iinc (v := x56) (lv' := [(4, .int x56), (3, .int x55), (6, .int r52), (5, .int r44), (0, .ref kg), (1, .int 4), (2, .int ask)]) dX4_sum_78 (k := 3) rfl (by rw [ex56]; rfl) (by decide) rfl ?_
            refine dv_goto (tgt := 10) dX4_sum_81 (by decide) ?_
            refine dv_sub (loc2 := [(4, .int x56), (3, .int x55), (0, .ref kg), (1, .int 4), (2, .int ask)]) [0, 1, 4, 5, 6] rfl ?_
            exact ih10 x56 x55 ct51 (by omega) (by first | omega | decide | assumption) hI
          · skip
            have c54 : r44.toInt = 43 := (z_eq rfl (by decide : (43 : Int32).toInt = 43)).mp c54
            refine dv_iload_n dX4_sum_66 rfl 3 rfl ?_
            refine dv_iload dX4_sum_67 0 rfl ?_
            refine dv_iadd dX4_sum_69 ?_
            refine dv_topi (fun x57 ex57 => ?_)
            refine dv_goto (tgt := 77) dX4_sum_70 (by decide) ?_
            refine dv_istore_n (lv' := [(3, .int x57), (6, .int r52), (5, .int r44), (4, .int v4_10), (0, .ref kg), (1, .int 4), (2, .int ask)]) dX4_sum_77 rfl (by decide) rfl ?_
            obtain ⟨x58, ex58⟩ : ∃ y : Int32, y = v4_10 + 1 := ⟨_, rfl⟩
            have tx58 : x58.toInt = v4_10.toInt + 1 := by rw [ex58]; exact z_add rfl (by decide : (1 : Int32).toInt = 1) (by omega) (by omega)
            refine dv_iinc (v := x58) (lv' := [(4, .int x58), (3, .int x57), (6, .int r52), (5, .int r44), (0, .ref kg), (1, .int 4), (2, .int ask)]) dX4_sum_78 (k := 3) rfl (by rw [ex58]; rfl) (by decide) rfl ?_
            refine dv_goto (tgt := 10) dX4_sum_81 (by decide) ?_
            refine dv_sub (loc2 := [(4, .int x58), (3, .int x57), (0, .ref kg), (1, .int 4), (2, .int ask)]) [0, 1, 4, 5, 6] rfl ?_
            exact ih10 x58 x57 ct51 (by omega) (by first | omega | decide | assumption) hI
        · skip
          have c42 : ¬ (r39.toInt = 43) := fun q => c42 ((z_eq rfl (by decide : (43 : Int32).toInt = 43)).mpr q)
          refine dv_aload_n dX4_sum_26 rfl 2 rfl ?_
          refine GW.callV (n := 0) (As := []) (rest := []) (b := kg) (k_X4_nextp l g pe ct20 kg tld23 ofb24 hol25 flt26 fla27 ofl28 len29 atx30 ref31 (by omega) hI hs22) (fun _ h => h) rfl rfl ⟨by omega, pG_of (by omega)⟩ hs22 (q := (RX4, TX4, 11)) rfl mm_600 mm_602 mm_24 mm_58 mm_603 (by decide +kernel) ⟨Nat.le_of_ble_eq_true rfl, Nat.le_of_ble_eq_true rfl⟩ rfl (Nat.le_of_ble_eq_true rfl) dX4_sum_27 (Nat.zero_le _) (Nat.zero_le _) rfl (fun ct59 rrr60 hBr60 hoff61 => ?_)
          obtain ⟨r60, rfl, hr60, rfl⟩ := hBr60
          refine GW.eq (S2 := [.int r60]) rfl rfl rfl ?_
          have h62 := hr60
          have h62 : nxp r60 atx30 := h62
          refine dv_bipush (v := 45) dX4_sum_30 (by decide) ?_
          refine dv_icmp_ne (tgt := 84) dX4_sum_32 (by decide) (fun c63 => ?_) (fun c63 => ?_)
          · skip
            have c63 : ¬ (r60.toInt = 45) := fun q => c63 ((z_eq rfl (by decide : (45 : Int32).toInt = 45)).mpr q)
            refine dv_iload_n dX4_sum_84 rfl 1 rfl ?_
            exact dv_iret dX4_sum_85 rfl (by first | exact Nat.zero_le _ | decide) (by first | exact Nat.zero_le _ | decide) (by subst hK; exact ⟨v3_10, rfl, (trivial), hI⟩)
          · skip
            have c63 : r60.toInt = 45 := (z_eq rfl (by decide : (45 : Int32).toInt = 45)).mp c63
            refine dv_aload_n dX4_sum_35 rfl 2 rfl ?_
            refine GW.callV (n := 0) (As := []) (rest := []) (b := kg) (k_X4_nextp l g pe ct20 kg tld23 ofb24 hol25 flt26 fla27 ofl28 len29 atx30 ref31 (by omega) hI hs22) (fun _ h => h) rfl rfl ⟨by omega, pG_of (by omega)⟩ hs22 (q := (RX4, TX4, 11)) rfl mm_600 mm_602 mm_24 mm_58 mm_603 (by decide +kernel) ⟨Nat.le_of_ble_eq_true rfl, Nat.le_of_ble_eq_true rfl⟩ rfl (Nat.le_of_ble_eq_true rfl) dX4_sum_36 (Nat.zero_le _) (Nat.zero_le _) rfl (fun ct64 rrr65 hBr65 hoff66 => ?_)
            obtain ⟨r65, rfl, hr65, rfl⟩ := hBr65
            refine GW.eq (S2 := [.int r65]) rfl rfl rfl ?_
            have h67 := hr65
            have h67 : nxp r65 atx30 := h67
            refine dv_istore (lv' := [(5, .int r65), (4, .int v4_10), (3, .int v3_10), (0, .ref kg), (1, .int 4), (2, .int ask)]) dX4_sum_39 (by decide) rfl ?_
            refine dv_aload_n dX4_sum_41 rfl 3 rfl ?_
            refine dv_dup dX4_sum_42 rfl ?_
            refine dv_get (ci := 4) (v := .int atx30) (C := RX4) (T := TX4) (N := 11) ⟨by omega, pG_of (by omega)⟩ hs22 rfl inG4 9 (by decide) mm_228 rfl dX4_sum_43 ?_
            refine dv_iconst (v := 1) dX4_sum_46 (by decide) ?_
            refine dv_iadd dX4_sum_47 ?_
            refine dv_topi (fun x68 ex68 => ?_)
            have tx68 : x68.toInt = atx30.toInt + 1 := by rw [ex68]; exact z_add rfl (by decide : (1 : Int32).toInt = 1) (by omega) (by omega)
            have hat68 : atx30.toInt ≤ 99 := by first | exact nxp_use h41 (by omega) | exact nxp_use h62 (by omega) | exact nxp_use h67 (by omega)
            refine dv_put (ci := 4) (v := .int x68) (ty := .int) (C := RX4) (T := TX4) (N := 11) ⟨by omega, pG_of (by omega)⟩ hs22 rfl inG4 tyX4 tyX4_ok nmX4 9 (by decide) mm_228 rfl (by decide +kernel) (fun _ => rfl) (fun _ => rfl) (Nat.le_of_ble_eq_true rfl) dX4_sum_48 (en := .inr (4, [.int tld23, .int ofb24, .int hol25, .int flt26, .int fla27, .int ofl28, .ref (kg + 1), .ref (kg + 2), .int len29, .int x68, .int ref31])) rfl (fun ct69 ec70 => ?_)
            have hI : Inv8 g idn pe ct69 := by rw [ec70]; exact up8 hI (i8_44 (kc := kg) (by omega) ⟨(tld23 : Int32), (ofb24 : Int32), (hol25 : Int32), (flt26 : Int32), (fla27 : Int32), (ofl28 : Int32), (len29 : Int32), (x68 : Int32), (ref31 : Int32), hz32, (by first | omega | decide), (by first | omega | decide), (by first | omega | decide), (by first | omega | decide), hz37, rfl⟩)
            have hs71 : ct69 kg = .inr (4, [.int tld23, .int ofb24, .int hol25, .int flt26, .int fla27, .int ofl28, .ref (kg + 1), .ref (kg + 2), .int len29, .int x68, .int ref31]) := by rw [ec70]; exact va_up_self _ _ _
            refine dv_aload_n dX4_sum_51 rfl 3 rfl ?_
            refine dv_iload_n dX4_sum_52 rfl 4 rfl ?_
            refine dv_iload_n dX4_sum_53 rfl 5 rfl ?_
            refine GW.callV (n := 2) (As := [.int 4, .int ask]) (rest := []) (b := kg) (k_X4_product_4 l g pe ct69 kg ask (by omega) hI) (fun _ h => h) rfl rfl ⟨by omega, pG_of (by omega)⟩ hs71 (q := (RX4, TX4, 11)) rfl mm_620 mm_622 mm_29 mm_58 mm_623 (by decide +kernel) ⟨Nat.le_of_ble_eq_true rfl, Nat.le_of_ble_eq_true rfl⟩ rfl (Nat.le_of_ble_eq_true rfl) dX4_sum_54 (Nat.zero_le _) (Nat.zero_le _) rfl (fun ct72 rrr73 hBr73 hoff74 => ?_)
            obtain ⟨r73, rfl, hr73, hI⟩ := hBr73
            refine GW.eq (S2 := [.int r73]) rfl rfl rfl ?_
            refine dv_istore (lv' := [(6, .int r73), (5, .int r65), (4, .int v4_10), (3, .int v3_10), (0, .ref kg), (1, .int 4), (2, .int ask)]) dX4_sum_57 (by decide) rfl ?_
            refine dv_iload dX4_sum_59 1 rfl ?_
            refine dv_bipush (v := 43) dX4_sum_61 (by decide) ?_
            refine dv_icmp_ne (tgt := 73) dX4_sum_63 (by decide) (fun c75 => ?_) (fun c75 => ?_)
            · skip
              have c75 : ¬ (r65.toInt = 43) := fun q => c75 ((z_eq rfl (by decide : (43 : Int32).toInt = 43)).mpr q)
              refine dv_iload_n dX4_sum_73 rfl 3 rfl ?_
              refine dv_iload dX4_sum_74 0 rfl ?_
              refine dv_isub dX4_sum_76 ?_
              refine dv_topi (fun x76 ex76 => ?_)
              refine dv_istore_n (lv' := [(3, .int x76), (6, .int r73), (5, .int r65), (4, .int v4_10), (0, .ref kg), (1, .int 4), (2, .int ask)]) dX4_sum_77 rfl (by decide) rfl ?_
              obtain ⟨x77, ex77⟩ : ∃ y : Int32, y = v4_10 + 1 := ⟨_, rfl⟩
              have tx77 : x77.toInt = v4_10.toInt + 1 := by rw [ex77]; exact z_add rfl (by decide : (1 : Int32).toInt = 1) (by omega) (by omega)
              refine dv_iinc (v := x77) (lv' := [(4, .int x77), (3, .int x76), (6, .int r73), (5, .int r65), (0, .ref kg), (1, .int 4), (2, .int ask)]) dX4_sum_78 (k := 3) rfl (by rw [ex77]; rfl) (by decide) rfl ?_
              refine dv_goto (tgt := 10) dX4_sum_81 (by decide) ?_
              refine dv_sub (loc2 := [(4, .int x77), (3, .int x76), (0, .ref kg), (1, .int 4), (2, .int ask)]) [0, 1, 4, 5, 6] rfl ?_
              exact ih10 x77 x76 ct72 (by omega) (by first | omega | decide | assumption) hI
            · skip
              have c75 : r65.toInt = 43 := (z_eq rfl (by decide : (43 : Int32).toInt = 43)).mp c75
              refine dv_iload_n dX4_sum_66 rfl 3 rfl ?_
              refine dv_iload dX4_sum_67 0 rfl ?_
              refine dv_iadd dX4_sum_69 ?_
              refine dv_topi (fun x78 ex78 => ?_)
              refine dv_goto (tgt := 77) dX4_sum_70 (by decide) ?_
              refine dv_istore_n (lv' := [(3, .int x78), (6, .int r73), (5, .int r65), (4, .int v4_10), (0, .ref kg), (1, .int 4), (2, .int ask)]) dX4_sum_77 rfl (by decide) rfl ?_
              obtain ⟨x79, ex79⟩ : ∃ y : Int32, y = v4_10 + 1 := ⟨_, rfl⟩
              have tx79 : x79.toInt = v4_10.toInt + 1 := by rw [ex79]; exact z_add rfl (by decide : (1 : Int32).toInt = 1) (by omega) (by omega)
              refine dv_iinc (v := x79) (lv' := [(4, .int x79), (3, .int x78), (6, .int r73), (5, .int r65), (0, .ref kg), (1, .int 4), (2, .int ask)]) dX4_sum_78 (k := 3) rfl (by rw [ex79]; rfl) (by decide) rfl ?_
              refine dv_goto (tgt := 10) dX4_sum_81 (by decide) ?_
              refine dv_sub (loc2 := [(4, .int x79), (3, .int x78), (0, .ref kg), (1, .int 4), (2, .int ask)]) [0, 1, 4, 5, 6] rfl ?_
              exact ih10 x79 x78 ct72 (by omega) (by first | omega | decide | assumption) hI
  exact loop10 ((100 - (0 : Int32).toInt : Int).toNat + 1) (0 : Int32) r18 ct1 (by omega) (by first | omega | decide | assumption) hI
