set_option maxHeartbeats 4000000 in
set_option maxRecDepth 100000 in
theorem k_X4_product_4 (l : Launch) (g : zG) (pe : Int32) (ct : Nat → va_E) (kg : Nat) (ask : Int32) (hf_kg : 99 ≤ kg ∧ kg < 126 ∧ (kg - 99) % 3 = 0) (hI : Inv8 g idn pe ct) : DM l g pG false yX4_product cX4_product 7 (some .int) ({ frames := 9, cells := 0, slots := 0, locals := 219 }) (fun (ct2 : Nat → va_E) (rr : Option Value) => ∃ (r : Int32), rr = some (.int r) ∧ ((True)) ∧ Inv8 g idn pe ct2) ct [.ref kg, .int 4, .int ask] := by
  refine DM.K (fun K hK => ?_)
  refine GW.met (own := RX4) (loc := [(0, .ref kg), (1, .int 4), (2, .int ask)]) (by decide) rfl rfl (Nat.le_of_ble_eq_true rfl) ?_
  have hpe0 := hI.1
  have rg_ask := z_rng ask
  refine dv_aload_n dX4_product_0 rfl 0 rfl ?_
  refine dv_iload_n dX4_product_1 rfl 1 rfl ?_
  refine dv_iload_n dX4_product_2 rfl 2 rfl ?_
  obtain ⟨tld3, ofb4, hol5, flt6, fla7, ofl8, len9, atx10, ref11, hz12, h13, h14, h15, h16, hz17, hs2⟩ := a8_44 (kc := kg) (by omega) hI
  have bhz12 := z_b01 hz12
  have bhz17 := z_b01 hz17
  refine GW.callV (n := 2) (As := [.int 4, .int ask]) (rest := []) (b := kg) (k_X4_factor_4 l g pe ct kg ask (by omega) hI) (fun _ h => h) rfl rfl ⟨by omega, pG_of (by omega)⟩ hs2 (q := (RX4, TX4, 11)) rfl mm_624 mm_626 mm_30 mm_58 mm_627 (by decide +kernel) ⟨Nat.le_of_ble_eq_true rfl, Nat.le_of_ble_eq_true rfl⟩ rfl (Nat.le_of_ble_eq_true rfl) dX4_product_3 (Nat.zero_le _) (Nat.zero_le _) rfl (fun ct1 rrr18 hBr18 hoff19 => ?_)
  obtain ⟨r18, rfl, hr18, hI⟩ := hBr18
  refine GW.eq (S2 := [.int r18]) rfl rfl rfl ?_
  refine dv_istore_n (lv' := [(3, .int r18), (0, .ref kg), (1, .int 4), (2, .int ask)]) dX4_product_6 rfl (by decide) rfl ?_
  refine dv_iconst (v := 0) dX4_product_7 (by decide) ?_
  refine dv_istore (lv' := [(4, .int 0), (3, .int r18), (0, .ref kg), (1, .int 4), (2, .int ask)]) dX4_product_8 (by decide) rfl ?_
  have loop10 : ∀ (n10 : Nat) (v4_10 : Int32) (v3_10 : Int32) (ct20 : Nat → va_E), ((100 - v4_10.toInt : Int).toNat < n10) → (0 ≤ v4_10.toInt ∧ v4_10.toInt ≤ 100) → (Inv8 g idn pe ct20) → GW l g pG pG false yX4_product cX4_product 7 (some .int) RX4 ({ frames := 9, cells := 0, slots := 0, locals := 219 }) K 0 0 ct20 10 [(4, .int v4_10), (3, .int v3_10), (0, .ref kg), (1, .int 4), (2, .int ask)] [] := by
    intro n10
    induction n10 with
    | zero =>
      intro v4_10 v3_10 ct20 hn10 b4_10 hI
      exact absurd hn10 (Nat.not_lt_zero _)
    | succ n10 ih10 =>
      intro v4_10 v3_10 ct20 hn10 b4_10 hI
      refine dv_iload dX4_product_10 0 rfl ?_
      refine dv_bipush (v := 100) dX4_product_12 (by decide) ?_
      refine dv_icmp_ge (tgt := 136) dX4_product_14 (by decide) (fun c21 => ?_) (fun c21 => ?_)
      · skip
        have c21 : 100 ≤ v4_10.toInt := (z_le (by decide : (100 : Int32).toInt = 100) rfl).mp c21
        refine dv_iload_n dX4_product_136 rfl 1 rfl ?_
        exact dv_iret dX4_product_137 rfl (by first | exact Nat.zero_le _ | decide) (by first | exact Nat.zero_le _ | decide) (by subst hK; exact ⟨v3_10, rfl, (trivial), hI⟩)
      · skip
        have c21 : ¬ (100 ≤ v4_10.toInt) := fun q => c21 ((z_le (by decide : (100 : Int32).toInt = 100) rfl).mpr q)
        refine dv_aload_n dX4_product_17 rfl 2 rfl ?_
        obtain ⟨tld23, ofb24, hol25, flt26, fla27, ofl28, len29, atx30, ref31, hz32, h33, h34, h35, h36, hz37, hs22⟩ := a8_44 (kc := kg) (by omega) hI
        have bhz32 := z_b01 hz32
        have bhz37 := z_b01 hz37
        refine GW.callV (n := 0) (As := []) (rest := []) (b := kg) (k_X4_nextp l g pe ct20 kg tld23 ofb24 hol25 flt26 fla27 ofl28 len29 atx30 ref31 (by omega) hI hs22) (fun _ h => h) rfl rfl ⟨by omega, pG_of (by omega)⟩ hs22 (q := (RX4, TX4, 11)) rfl mm_600 mm_602 mm_24 mm_58 mm_603 (by decide +kernel) ⟨Nat.le_of_ble_eq_true rfl, Nat.le_of_ble_eq_true rfl⟩ rfl (Nat.le_of_ble_eq_true rfl) dX4_product_18 (Nat.zero_le _) (Nat.zero_le _) rfl (fun ct38 rrr39 hBr39 hoff40 => ?_)
        obtain ⟨r39, rfl, hr39, rfl⟩ := hBr39
        refine GW.eq (S2 := [.int r39]) rfl rfl rfl ?_
        have h41 := hr39
        have h41 : nxp r39 atx30 := h41
        refine dv_bipush (v := 42) dX4_product_21 (by decide) ?_
        refine dv_icmp_eq (tgt := 44) dX4_product_23 (by decide) (fun c42 => ?_) (fun c42 => ?_)
        · skip
          have c42 : r39.toInt = 42 := (z_eq rfl (by decide : (42 : Int32).toInt = 42)).mp c42
          refine dv_aload_n dX4_product_44 rfl 2 rfl ?_
          refine GW.callV (n := 0) (As := []) (rest := []) (b := kg) (k_X4_nextp l g pe ct20 kg tld23 ofb24 hol25 flt26 fla27 ofl28 len29 atx30 ref31 (by omega) hI hs22) (fun _ h => h) rfl rfl ⟨by omega, pG_of (by omega)⟩ hs22 (q := (RX4, TX4, 11)) rfl mm_600 mm_602 mm_24 mm_58 mm_603 (by decide +kernel) ⟨Nat.le_of_ble_eq_true rfl, Nat.le_of_ble_eq_true rfl⟩ rfl (Nat.le_of_ble_eq_true rfl) dX4_product_45 (Nat.zero_le _) (Nat.zero_le _) rfl (fun ct43 rrr44 hBr44 hoff45 => ?_)
          obtain ⟨r44, rfl, hr44, rfl⟩ := hBr44
          refine GW.eq (S2 := [.int r44]) rfl rfl rfl ?_
          have h46 := hr44
          have h46 : nxp r44 atx30 := h46
          refine dv_istore (lv' := [(5, .int r44), (4, .int v4_10), (3, .int v3_10), (0, .ref kg), (1, .int 4), (2, .int ask)]) dX4_product_48 (by decide) rfl ?_
          refine dv_aload_n dX4_product_50 rfl 3 rfl ?_
          refine dv_dup dX4_product_51 rfl ?_
          refine dv_get (ci := 4) (v := .int atx30) (C := RX4) (T := TX4) (N := 11) ⟨by omega, pG_of (by omega)⟩ hs22 rfl inG4 9 (by decide) mm_228 rfl dX4_product_52 ?_
          refine dv_iconst (v := 1) dX4_product_55 (by decide) ?_
          refine dv_iadd dX4_product_56 ?_
          refine dv_topi (fun x47 ex47 => ?_)
          have tx47 : x47.toInt = atx30.toInt + 1 := by rw [ex47]; exact z_add rfl (by decide : (1 : Int32).toInt = 1) (by omega) (by omega)
          have hat47 : atx30.toInt ≤ 99 := by first | exact nxp_use h41 (by omega) | exact nxp_use h46 (by omega)
          refine dv_put (ci := 4) (v := .int x47) (ty := .int) (C := RX4) (T := TX4) (N := 11) ⟨by omega, pG_of (by omega)⟩ hs22 rfl inG4 tyX4 tyX4_ok nmX4 9 (by decide) mm_228 rfl (by decide +kernel) (fun _ => rfl) (fun _ => rfl) (Nat.le_of_ble_eq_true rfl) dX4_product_57 (en := .inr (4, [.int tld23, .int ofb24, .int hol25, .int flt26, .int fla27, .int ofl28, .ref (kg + 1), .ref (kg + 2), .int len29, .int x47, .int ref31])) rfl (fun ct48 ec49 => ?_)
          have hI : Inv8 g idn pe ct48 := by rw [ec49]; exact up8 hI (i8_44 (kc := kg) (by omega) ⟨(tld23 : Int32), (ofb24 : Int32), (hol25 : Int32), (flt26 : Int32), (fla27 : Int32), (ofl28 : Int32), (len29 : Int32), (x47 : Int32), (ref31 : Int32), hz32, (by first | omega | decide), (by first | omega | decide), (by first | omega | decide), (by first | omega | decide), hz37, rfl⟩)
          have hs50 : ct48 kg = .inr (4, [.int tld23, .int ofb24, .int hol25, .int flt26, .int fla27, .int ofl28, .ref (kg + 1), .ref (kg + 2), .int len29, .int x47, .int ref31]) := by rw [ec49]; exact va_up_self _ _ _
          refine dv_aload_n dX4_product_60 rfl 3 rfl ?_
          refine dv_iload_n dX4_product_61 rfl 4 rfl ?_
          refine dv_iload_n dX4_product_62 rfl 5 rfl ?_
          refine GW.callV (n := 2) (As := [.int 4, .int ask]) (rest := []) (b := kg) (k_X4_factor_4 l g pe ct48 kg ask (by omega) hI) (fun _ h => h) rfl rfl ⟨by omega, pG_of (by omega)⟩ hs50 (q := (RX4, TX4, 11)) rfl mm_624 mm_626 mm_30 mm_58 mm_627 (by decide +kernel) ⟨Nat.le_of_ble_eq_true rfl, Nat.le_of_ble_eq_true rfl⟩ rfl (Nat.le_of_ble_eq_true rfl) dX4_product_63 (Nat.zero_le _) (Nat.zero_le _) rfl (fun ct51 rrr52 hBr52 hoff53 => ?_)
          obtain ⟨r52, rfl, hr52, hI⟩ := hBr52
          refine GW.eq (S2 := [.int r52]) rfl rfl rfl ?_
          refine dv_istore (lv' := [(6, .int r52), (5, .int r44), (4, .int v4_10), (3, .int v3_10), (0, .ref kg), (1, .int 4), (2, .int ask)]) dX4_product_66 (by decide) rfl ?_
          refine dv_iload dX4_product_68 1 rfl ?_
          refine dv_bipush (v := 42) dX4_product_70 (by decide) ?_
          refine dv_icmp_ne (tgt := 83) dX4_product_72 (by decide) (fun c54 => ?_) (fun c54 => ?_)
          · skip
            have c54 : ¬ (r44.toInt = 42) := fun q => c54 ((z_eq rfl (by decide : (42 : Int32).toInt = 42)).mpr q)
            refine dv_iload dX4_product_83 0 rfl ?_
            refine dv_if_ne (tgt := 111) dX4_product_85 (by decide) (fun c55 => ?_) (fun c55 => ?_)
            · skip
              have c55 : ¬ (r52.toInt = 0) := fun q => c55 ((z_eq rfl (by decide : (0 : Int32).toInt = 0)).mpr q)
              refine dv_iload dX4_product_111 1 rfl ?_
              refine dv_bipush (v := 47) dX4_product_113 (by decide) ?_
              refine dv_icmp_ne (tgt := 125) dX4_product_115 (by decide) (fun c56 => ?_) (fun c56 => ?_)
              · skip
                have c56 : ¬ (r44.toInt = 47) := fun q => c56 ((z_eq rfl (by decide : (47 : Int32).toInt = 47)).mpr q)
                refine dv_iload_n dX4_product_125 rfl 3 rfl ?_
                refine dv_iload dX4_product_126 0 rfl ?_
                refine dv_irem dX4_product_128 (z_nz (by omega)) ?_
                refine dv_topi (fun x57 ex57 => ?_)
                refine dv_istore_n (lv' := [(3, .int x57), (6, .int r52), (5, .int r44), (4, .int v4_10), (0, .ref kg), (1, .int 4), (2, .int ask)]) dX4_product_129 rfl (by decide) rfl ?_
                obtain ⟨x58, ex58⟩ : ∃ y : Int32, y = v4_10 + 1 := ⟨_, rfl⟩
                have tx58 : x58.toInt = v4_10.toInt + 1 := by rw [ex58]; exact z_add rfl (by decide : (1 : Int32).toInt = 1) (by omega) (by omega)
                refine dv_iinc (v := x58) (lv' := [(4, .int x58), (3, .int x57), (6, .int r52), (5, .int r44), (0, .ref kg), (1, .int 4), (2, .int ask)]) dX4_product_130 (k := 3) rfl (by rw [ex58]; rfl) (by decide) rfl ?_
                refine dv_goto (tgt := 10) dX4_product_133 (by decide) ?_
                refine dv_sub (loc2 := [(4, .int x58), (3, .int x57), (0, .ref kg), (1, .int 4), (2, .int ask)]) [0, 1, 4, 5, 6] rfl ?_
                exact ih10 x58 x57 ct51 (by omega) (by first | omega | decide | assumption) hI
              · skip
                have c56 : r44.toInt = 47 := (z_eq rfl (by decide : (47 : Int32).toInt = 47)).mp c56
                refine dv_iload_n dX4_product_118 rfl 3 rfl ?_
                refine dv_iload dX4_product_119 0 rfl ?_
                refine dv_idiv dX4_product_121 (z_nz (by omega)) ?_
                refine dv_topi (fun x59 ex59 => ?_)
                refine dv_goto (tgt := 129) dX4_product_122 (by decide) ?_
                refine dv_istore_n (lv' := [(3, .int x59), (6, .int r52), (5, .int r44), (4, .int v4_10), (0, .ref kg), (1, .int 4), (2, .int ask)]) dX4_product_129 rfl (by decide) rfl ?_
                obtain ⟨x60, ex60⟩ : ∃ y : Int32, y = v4_10 + 1 := ⟨_, rfl⟩
                have tx60 : x60.toInt = v4_10.toInt + 1 := by rw [ex60]; exact z_add rfl (by decide : (1 : Int32).toInt = 1) (by omega) (by omega)
                refine dv_iinc (v := x60) (lv' := [(4, .int x60), (3, .int x59), (6, .int r52), (5, .int r44), (0, .ref kg), (1, .int 4), (2, .int ask)]) dX4_product_130 (k := 3) rfl (by rw [ex60]; rfl) (by decide) rfl ?_
                refine dv_goto (tgt := 10) dX4_product_133 (by decide) ?_
                refine dv_sub (loc2 := [(4, .int x60), (3, .int x59), (0, .ref kg), (1, .int 4), (2, .int ask)]) [0, 1, 4, 5, 6] rfl ?_
                exact ih10 x60 x59 ct51 (by omega) (by first | omega | decide | assumption) hI
            · skip
              have c55 : r52.toInt = 0 := (z_eq rfl (by decide : (0 : Int32).toInt = 0)).mp c55
              refine dv_aload_n dX4_product_88 rfl 4 rfl ?_
              refine dv_aload_n dX4_product_89 rfl 4 rfl ?_
              obtain ⟨tld62, ofb63, hol64, flt65, fla66, ofl67, len68, atx69, ref70, hz71, h72, h73, h74, h75, hz76, hs61⟩ := a8_44 (kc := kg) (by omega) hI
              have bhz71 := z_b01 hz71
              have bhz76 := z_b01 hz76
              refine dv_get (ci := 4) (v := .int ref70) (C := RX4) (T := TX4) (N := 11) ⟨by omega, pG_of (by omega)⟩ hs61 rfl inG4 10 (by decide) mm_229 rfl dX4_product_90 ?_
              refine dv_if_ne (tgt := 100) dX4_product_93 (by decide) (fun c77 => ?_) (fun c77 => ?_)
              · skip
                have c77 : ¬ (ref70.toInt = 0) := fun q => c77 ((z_eq rfl (by decide : (0 : Int32).toInt = 0)).mpr q)
                refine dv_iconst (v := 1) dX4_product_100 (by decide) ?_
                refine dv_goto (tgt := 105) dX4_product_101 (by decide) ?_
                refine dv_put (ci := 4) (v := .int 1) (ty := .boolean) (C := RX4) (T := TX4) (N := 11) ⟨by omega, pG_of (by omega)⟩ hs61 rfl inG4 tyX4 tyX4_ok nmX4 10 (by decide) mm_229 rfl (by decide +kernel) (fun _ => rfl) (fun _ => rfl) (Nat.le_of_ble_eq_true rfl) dX4_product_105 (en := .inr (4, [.int tld62, .int ofb63, .int hol64, .int flt65, .int fla66, .int ofl67, .ref (kg + 1), .ref (kg + 2), .int len68, .int atx69, .int 1])) rfl (fun ct78 ec79 => ?_)
                have hI : Inv8 g idn pe ct78 := by rw [ec79]; exact up8 hI (i8_44 (kc := kg) (by omega) ⟨(tld62 : Int32), (ofb63 : Int32), (hol64 : Int32), (flt65 : Int32), (fla66 : Int32), (ofl67 : Int32), (len68 : Int32), (atx69 : Int32), (1 : Int32), hz71, (by first | omega | decide), (by first | omega | decide), (by first | omega | decide), (by first | omega | decide), (Or.inr rfl), rfl⟩)
                have hs80 : ct78 kg = .inr (4, [.int tld62, .int ofb63, .int hol64, .int flt65, .int fla66, .int ofl67, .ref (kg + 1), .ref (kg + 2), .int len68, .int atx69, .int 1]) := by rw [ec79]; exact va_up_self _ _ _
                refine dv_goto (tgt := 130) dX4_product_108 (by decide) ?_
                obtain ⟨x81, ex81⟩ : ∃ y : Int32, y = v4_10 + 1 := ⟨_, rfl⟩
                have tx81 : x81.toInt = v4_10.toInt + 1 := by rw [ex81]; exact z_add rfl (by decide : (1 : Int32).toInt = 1) (by omega) (by omega)
                refine dv_iinc (v := x81) (lv' := [(4, .int x81), (6, .int r52), (5, .int r44), (3, .int v3_10), (0, .ref kg), (1, .int 4), (2, .int ask)]) dX4_product_130 (k := 2) rfl (by rw [ex81]; rfl) (by decide) rfl ?_
                refine dv_goto (tgt := 10) dX4_product_133 (by decide) ?_
                refine dv_sub (loc2 := [(4, .int x81), (3, .int v3_10), (0, .ref kg), (1, .int 4), (2, .int ask)]) [0, 3, 4, 5, 6] rfl ?_
                exact ih10 x81 v3_10 ct78 (by omega) (by first | omega | decide | assumption) hI
              · skip
                have c77 : ref70.toInt = 0 := (z_eq rfl (by decide : (0 : Int32).toInt = 0)).mp c77
                refine dv_iload_n dX4_product_96 rfl 6 rfl ?_
                refine dv_if_eq (tgt := 104) dX4_product_97 (by decide) (fun c82 => ?_) (fun c82 => ?_)
                · skip
                  have c82 : ask.toInt = 0 := (z_eq rfl (by decide : (0 : Int32).toInt = 0)).mp c82
                  refine dv_iconst (v := 0) dX4_product_104 (by decide) ?_
                  refine dv_put (ci := 4) (v := .int 0) (ty := .boolean) (C := RX4) (T := TX4) (N := 11) ⟨by omega, pG_of (by omega)⟩ hs61 rfl inG4 tyX4 tyX4_ok nmX4 10 (by decide) mm_229 rfl (by decide +kernel) (fun _ => rfl) (fun _ => rfl) (Nat.le_of_ble_eq_true rfl) dX4_product_105 (en := .inr (4, [.int tld62, .int ofb63, .int hol64, .int flt65, .int fla66, .int ofl67, .ref (kg + 1), .ref (kg + 2), .int len68, .int atx69, .int 0])) rfl (fun ct83 ec84 => ?_)
                  have hI : Inv8 g idn pe ct83 := by rw [ec84]; exact up8 hI (i8_44 (kc := kg) (by omega) ⟨(tld62 : Int32), (ofb63 : Int32), (hol64 : Int32), (flt65 : Int32), (fla66 : Int32), (ofl67 : Int32), (len68 : Int32), (atx69 : Int32), (0 : Int32), hz71, (by first | omega | decide), (by first | omega | decide), (by first | omega | decide), (by first | omega | decide), (Or.inl rfl), rfl⟩)
                  have hs85 : ct83 kg = .inr (4, [.int tld62, .int ofb63, .int hol64, .int flt65, .int fla66, .int ofl67, .ref (kg + 1), .ref (kg + 2), .int len68, .int atx69, .int 0]) := by rw [ec84]; exact va_up_self _ _ _
                  refine dv_goto (tgt := 130) dX4_product_108 (by decide) ?_
                  obtain ⟨x86, ex86⟩ : ∃ y : Int32, y = v4_10 + 1 := ⟨_, rfl⟩
                  have tx86 : x86.toInt = v4_10.toInt + 1 := by rw [ex86]; exact z_add rfl (by decide : (1 : Int32).toInt = 1) (by omega) (by omega)
                  refine dv_iinc (v := x86) (lv' := [(4, .int x86), (6, .int r52), (5, .int r44), (3, .int v3_10), (0, .ref kg), (1, .int 4), (2, .int ask)]) dX4_product_130 (k := 2) rfl (by rw [ex86]; rfl) (by decide) rfl ?_
                  refine dv_goto (tgt := 10) dX4_product_133 (by decide) ?_
                  refine dv_sub (loc2 := [(4, .int x86), (3, .int v3_10), (0, .ref kg), (1, .int 4), (2, .int ask)]) [0, 3, 4, 5, 6] rfl ?_
                  exact ih10 x86 v3_10 ct83 (by omega) (by first | omega | decide | assumption) hI
                · skip
                  have c82 : ¬ (ask.toInt = 0) := fun q => c82 ((z_eq rfl (by decide : (0 : Int32).toInt = 0)).mpr q)
                  refine dv_iconst (v := 1) dX4_product_100 (by decide) ?_
                  refine dv_goto (tgt := 105) dX4_product_101 (by decide) ?_
                  refine dv_put (ci := 4) (v := .int 1) (ty := .boolean) (C := RX4) (T := TX4) (N := 11) ⟨by omega, pG_of (by omega)⟩ hs61 rfl inG4 tyX4 tyX4_ok nmX4 10 (by decide) mm_229 rfl (by decide +kernel) (fun _ => rfl) (fun _ => rfl) (Nat.le_of_ble_eq_true rfl) dX4_product_105 (en := .inr (4, [.int tld62, .int ofb63, .int hol64, .int flt65, .int fla66, .int ofl67, .ref (kg + 1), .ref (kg + 2), .int len68, .int atx69, .int 1])) rfl (fun ct87 ec88 => ?_)
                  have hI : Inv8 g idn pe ct87 := by rw [ec88]; exact up8 hI (i8_44 (kc := kg) (by omega) ⟨(tld62 : Int32), (ofb63 : Int32), (hol64 : Int32), (flt65 : Int32), (fla66 : Int32), (ofl67 : Int32), (len68 : Int32), (atx69 : Int32), (1 : Int32), hz71, (by first | omega | decide), (by first | omega | decide), (by first | omega | decide), (by first | omega | decide), (Or.inr rfl), rfl⟩)
                  have hs89 : ct87 kg = .inr (4, [.int tld62, .int ofb63, .int hol64, .int flt65, .int fla66, .int ofl67, .ref (kg + 1), .ref (kg + 2), .int len68, .int atx69, .int 1]) := by rw [ec88]; exact va_up_self _ _ _
                  refine dv_goto (tgt := 130) dX4_product_108 (by decide) ?_
                  obtain ⟨x90, ex90⟩ : ∃ y : Int32, y = v4_10 + 1 := ⟨_, rfl⟩
                  have tx90 : x90.toInt = v4_10.toInt + 1 := by rw [ex90]; exact z_add rfl (by decide : (1 : Int32).toInt = 1) (by omega) (by omega)
                  refine dv_iinc (v := x90) (lv' := [(4, .int x90), (6, .int r52), (5, .int r44), (3, .int v3_10), (0, .ref kg), (1, .int 4), (2, .int ask)]) dX4_product_130 (k := 2) rfl (by rw [ex90]; rfl) (by decide) rfl ?_
                  refine dv_goto (tgt := 10) dX4_product_133 (by decide) ?_
                  refine dv_sub (loc2 := [(4, .int x90), (3, .int v3_10), (0, .ref kg), (1, .int 4), (2, .int ask)]) [0, 3, 4, 5, 6] rfl ?_
                  exact ih10 x90 v3_10 ct87 (by omega) (by first | omega | decide | assumption) hI
          · skip
            have c54 : r44.toInt = 42 := (z_eq rfl (by decide : (42 : Int32).toInt = 42)).mp c54
            refine dv_iload_n dX4_product_75 rfl 3 rfl ?_
            refine dv_iload dX4_product_76 0 rfl ?_
            refine dv_imul dX4_product_78 ?_
            refine dv_topi (fun x91 ex91 => ?_)
            refine dv_istore_n (lv' := [(3, .int x91), (6, .int r52), (5, .int r44), (4, .int v4_10), (0, .ref kg), (1, .int 4), (2, .int ask)]) dX4_product_79 rfl (by decide) rfl ?_
            refine dv_goto (tgt := 130) dX4_product_80 (by decide) ?_
            obtain ⟨x92, ex92⟩ : ∃ y : Int32, y = v4_10 + 1 := ⟨_, rfl⟩
            have tx92 : x92.toInt = v4_10.toInt + 1 := by rw [ex92]; exact z_add rfl (by decide : (1 : Int32).toInt = 1) (by omega) (by omega)
            refine dv_iinc (v := x92) (lv' := [(4, .int x92), (3, .int x91), (6, .int r52), (5, .int r44), (0, .ref kg), (1, .int 4), (2, .int ask)]) dX4_product_130 (k := 3) rfl (by rw [ex92]; rfl) (by decide) rfl ?_
            refine dv_goto (tgt := 10) dX4_product_133 (by decide) ?_
            refine dv_sub (loc2 := [(4, .int x92), (3, .int x91), (0, .ref kg), (1, .int 4), (2, .int ask)]) [0, 1, 4, 5, 6] rfl ?_
            exact ih10 x92 x91 ct51 (by omega) (by first | omega | decide | assumption) hI
        · skip
          have c42 : ¬ (r39.toInt = 42) := fun q => c42 ((z_eq rfl (by decide : (42 : Int32).toInt = 42)).mpr q)
          refine dv_aload_n dX4_product_26 rfl 2 rfl ?_
          refine GW.callV (n := 0) (As := []) (rest := []) (b := kg) (k_X4_nextp l g pe ct20 kg tld23 ofb24 hol25 flt26 fla27 ofl28 len29 atx30 ref31 (by omega) hI hs22) (fun _ h => h) rfl rfl ⟨by omega, pG_of (by omega)⟩ hs22 (q := (RX4, TX4, 11)) rfl mm_600 mm_602 mm_24 mm_58 mm_603 (by decide +kernel) ⟨Nat.le_of_ble_eq_true rfl, Nat.le_of_ble_eq_true rfl⟩ rfl (Nat.le_of_ble_eq_true rfl) dX4_product_27 (Nat.zero_le _) (Nat.zero_le _) rfl (fun ct93 rrr94 hBr94 hoff95 => ?_)
          obtain ⟨r94, rfl, hr94, rfl⟩ := hBr94
          refine GW.eq (S2 := [.int r94]) rfl rfl rfl ?_
          have h96 := hr94
          have h96 : nxp r94 atx30 := h96
          refine dv_bipush (v := 47) dX4_product_30 (by decide) ?_
          refine dv_icmp_eq (tgt := 44) dX4_product_32 (by decide) (fun c97 => ?_) (fun c97 => ?_)
          · skip
            have c97 : r94.toInt = 47 := (z_eq rfl (by decide : (47 : Int32).toInt = 47)).mp c97
            refine dv_aload_n dX4_product_44 rfl 2 rfl ?_
            refine GW.callV (n := 0) (As := []) (rest := []) (b := kg) (k_X4_nextp l g pe ct20 kg tld23 ofb24 hol25 flt26 fla27 ofl28 len29 atx30 ref31 (by omega) hI hs22) (fun _ h => h) rfl rfl ⟨by omega, pG_of (by omega)⟩ hs22 (q := (RX4, TX4, 11)) rfl mm_600 mm_602 mm_24 mm_58 mm_603 (by decide +kernel) ⟨Nat.le_of_ble_eq_true rfl, Nat.le_of_ble_eq_true rfl⟩ rfl (Nat.le_of_ble_eq_true rfl) dX4_product_45 (Nat.zero_le _) (Nat.zero_le _) rfl (fun ct98 rrr99 hBr99 hoff100 => ?_)
            obtain ⟨r99, rfl, hr99, rfl⟩ := hBr99
            refine GW.eq (S2 := [.int r99]) rfl rfl rfl ?_
            have h101 := hr99
            have h101 : nxp r99 atx30 := h101
            refine dv_istore (lv' := [(5, .int r99), (4, .int v4_10), (3, .int v3_10), (0, .ref kg), (1, .int 4), (2, .int ask)]) dX4_product_48 (by decide) rfl ?_
            refine dv_aload_n dX4_product_50 rfl 3 rfl ?_
            refine dv_dup dX4_product_51 rfl ?_
            refine dv_get (ci := 4) (v := .int atx30) (C := RX4) (T := TX4) (N := 11) ⟨by omega, pG_of (by omega)⟩ hs22 rfl inG4 9 (by decide) mm_228 rfl dX4_product_52 ?_
            refine dv_iconst (v := 1) dX4_product_55 (by decide) ?_
            refine dv_iadd dX4_product_56 ?_
            refine dv_topi (fun x102 ex102 => ?_)
            have tx102 : x102.toInt = atx30.toInt + 1 := by rw [ex102]; exact z_add rfl (by decide : (1 : Int32).toInt = 1) (by omega) (by omega)
            have hat102 : atx30.toInt ≤ 99 := by first | exact nxp_use h41 (by omega) | exact nxp_use h96 (by omega) | exact nxp_use h101 (by omega)
            refine dv_put (ci := 4) (v := .int x102) (ty := .int) (C := RX4) (T := TX4) (N := 11) ⟨by omega, pG_of (by omega)⟩ hs22 rfl inG4 tyX4 tyX4_ok nmX4 9 (by decide) mm_228 rfl (by decide +kernel) (fun _ => rfl) (fun _ => rfl) (Nat.le_of_ble_eq_true rfl) dX4_product_57 (en := .inr (4, [.int tld23, .int ofb24, .int hol25, .int flt26, .int fla27, .int ofl28, .ref (kg + 1), .ref (kg + 2), .int len29, .int x102, .int ref31])) rfl (fun ct103 ec104 => ?_)
            have hI : Inv8 g idn pe ct103 := by rw [ec104]; exact up8 hI (i8_44 (kc := kg) (by omega) ⟨(tld23 : Int32), (ofb24 : Int32), (hol25 : Int32), (flt26 : Int32), (fla27 : Int32), (ofl28 : Int32), (len29 : Int32), (x102 : Int32), (ref31 : Int32), hz32, (by first | omega | decide), (by first | omega | decide), (by first | omega | decide), (by first | omega | decide), hz37, rfl⟩)
            have hs105 : ct103 kg = .inr (4, [.int tld23, .int ofb24, .int hol25, .int flt26, .int fla27, .int ofl28, .ref (kg + 1), .ref (kg + 2), .int len29, .int x102, .int ref31]) := by rw [ec104]; exact va_up_self _ _ _
            refine dv_aload_n dX4_product_60 rfl 3 rfl ?_
            refine dv_iload_n dX4_product_61 rfl 4 rfl ?_
            refine dv_iload_n dX4_product_62 rfl 5 rfl ?_
            refine GW.callV (n := 2) (As := [.int 4, .int ask]) (rest := []) (b := kg) (k_X4_factor_4 l g pe ct103 kg ask (by omega) hI) (fun _ h => h) rfl rfl ⟨by omega, pG_of (by omega)⟩ hs105 (q := (RX4, TX4, 11)) rfl mm_624 mm_626 mm_30 mm_58 mm_627 (by decide +kernel) ⟨Nat.le_of_ble_eq_true rfl, Nat.le_of_ble_eq_true rfl⟩ rfl (Nat.le_of_ble_eq_true rfl) dX4_product_63 (Nat.zero_le _) (Nat.zero_le _) rfl (fun ct106 rrr107 hBr107 hoff108 => ?_)
            obtain ⟨r107, rfl, hr107, hI⟩ := hBr107
            refine GW.eq (S2 := [.int r107]) rfl rfl rfl ?_
            refine dv_istore (lv' := [(6, .int r107), (5, .int r99), (4, .int v4_10), (3, .int v3_10), (0, .ref kg), (1, .int 4), (2, .int ask)]) dX4_product_66 (by decide) rfl ?_
            refine dv_iload dX4_product_68 1 rfl ?_
            refine dv_bipush (v := 42) dX4_product_70 (by decide) ?_
            refine dv_icmp_ne (tgt := 83) dX4_product_72 (by decide) (fun c109 => ?_) (fun c109 => ?_)
            · skip
              have c109 : ¬ (r99.toInt = 42) := fun q => c109 ((z_eq rfl (by decide : (42 : Int32).toInt = 42)).mpr q)
              refine dv_iload dX4_product_83 0 rfl ?_
              refine dv_if_ne (tgt := 111) dX4_product_85 (by decide) (fun c110 => ?_) (fun c110 => ?_)
              · skip
                have c110 : ¬ (r107.toInt = 0) := fun q => c110 ((z_eq rfl (by decide : (0 : Int32).toInt = 0)).mpr q)
                refine dv_iload dX4_product_111 1 rfl ?_
                refine dv_bipush (v := 47) dX4_product_113 (by decide) ?_
                refine dv_icmp_ne (tgt := 125) dX4_product_115 (by decide) (fun c111 => ?_) (fun c111 => ?_)
                · skip
                  have c111 : ¬ (r99.toInt = 47) := fun q => c111 ((z_eq rfl (by decide : (47 : Int32).toInt = 47)).mpr q)
                  refine dv_iload_n dX4_product_125 rfl 3 rfl ?_
                  refine dv_iload dX4_product_126 0 rfl ?_
                  refine dv_irem dX4_product_128 (z_nz (by omega)) ?_
                  refine dv_topi (fun x112 ex112 => ?_)
                  refine dv_istore_n (lv' := [(3, .int x112), (6, .int r107), (5, .int r99), (4, .int v4_10), (0, .ref kg), (1, .int 4), (2, .int ask)]) dX4_product_129 rfl (by decide) rfl ?_
                  obtain ⟨x113, ex113⟩ : ∃ y : Int32, y = v4_10 + 1 := ⟨_, rfl⟩
                  have tx113 : x113.toInt = v4_10.toInt + 1 := by rw [ex113]; exact z_add rfl (by decide : (1 : Int32).toInt = 1) (by omega) (by omega)
                  refine dv_iinc (v := x113) (lv' := [(4, .int x113), (3, .int x112), (6, .int r107), (5, .int r99), (0, .ref kg), (1, .int 4), (2, .int ask)]) dX4_product_130 (k := 3) rfl (by rw [ex113]; rfl) (by decide) rfl ?_
                  refine dv_goto (tgt := 10) dX4_product_133 (by decide) ?_
                  refine dv_sub (loc2 := [(4, .int x113), (3, .int x112), (0, .ref kg), (1, .int 4), (2, .int ask)]) [0, 1, 4, 5, 6] rfl ?_
                  exact ih10 x113 x112 ct106 (by omega) (by first | omega | decide | assumption) hI
                · skip
                  have c111 : r99.toInt = 47 := (z_eq rfl (by decide : (47 : Int32).toInt = 47)).mp c111
                  refine dv_iload_n dX4_product_118 rfl 3 rfl ?_
                  refine dv_iload dX4_product_119 0 rfl ?_
                  refine dv_idiv dX4_product_121 (z_nz (by omega)) ?_
                  refine dv_topi (fun x114 ex114 => ?_)
                  refine dv_goto (tgt := 129) dX4_product_122 (by decide) ?_
                  refine dv_istore_n (lv' := [(3, .int x114), (6, .int r107), (5, .int r99), (4, .int v4_10), (0, .ref kg), (1, .int 4), (2, .int ask)]) dX4_product_129 rfl (by decide) rfl ?_
                  obtain ⟨x115, ex115⟩ : ∃ y : Int32, y = v4_10 + 1 := ⟨_, rfl⟩
                  have tx115 : x115.toInt = v4_10.toInt + 1 := by rw [ex115]; exact z_add rfl (by decide : (1 : Int32).toInt = 1) (by omega) (by omega)
                  refine dv_iinc (v := x115) (lv' := [(4, .int x115), (3, .int x114), (6, .int r107), (5, .int r99), (0, .ref kg), (1, .int 4), (2, .int ask)]) dX4_product_130 (k := 3) rfl (by rw [ex115]; rfl) (by decide) rfl ?_
                  refine dv_goto (tgt := 10) dX4_product_133 (by decide) ?_
                  refine dv_sub (loc2 := [(4, .int x115), (3, .int x114), (0, .ref kg), (1, .int 4), (2, .int ask)]) [0, 1, 4, 5, 6] rfl ?_
                  exact ih10 x115 x114 ct106 (by omega) (by first | omega | decide | assumption) hI
              · skip
                have c110 : r107.toInt = 0 := (z_eq rfl (by decide : (0 : Int32).toInt = 0)).mp c110
                refine dv_aload_n dX4_product_88 rfl 4 rfl ?_
                refine dv_aload_n dX4_product_89 rfl 4 rfl ?_
                obtain ⟨tld117, ofb118, hol119, flt120, fla121, ofl122, len123, atx124, ref125, hz126, h127, h128, h129, h130, hz131, hs116⟩ := a8_44 (kc := kg) (by omega) hI
                have bhz126 := z_b01 hz126
                have bhz131 := z_b01 hz131
                refine dv_get (ci := 4) (v := .int ref125) (C := RX4) (T := TX4) (N := 11) ⟨by omega, pG_of (by omega)⟩ hs116 rfl inG4 10 (by decide) mm_229 rfl dX4_product_90 ?_
                refine dv_if_ne (tgt := 100) dX4_product_93 (by decide) (fun c132 => ?_) (fun c132 => ?_)
                · skip
                  have c132 : ¬ (ref125.toInt = 0) := fun q => c132 ((z_eq rfl (by decide : (0 : Int32).toInt = 0)).mpr q)
                  refine dv_iconst (v := 1) dX4_product_100 (by decide) ?_
                  refine dv_goto (tgt := 105) dX4_product_101 (by decide) ?_
                  refine dv_put (ci := 4) (v := .int 1) (ty := .boolean) (C := RX4) (T := TX4) (N := 11) ⟨by omega, pG_of (by omega)⟩ hs116 rfl inG4 tyX4 tyX4_ok nmX4 10 (by decide) mm_229 rfl (by decide +kernel) (fun _ => rfl) (fun _ => rfl) (Nat.le_of_ble_eq_true rfl) dX4_product_105 (en := .inr (4, [.int tld117, .int ofb118, .int hol119, .int flt120, .int fla121, .int ofl122, .ref (kg + 1), .ref (kg + 2), .int len123, .int atx124, .int 1])) rfl (fun ct133 ec134 => ?_)
                  have hI : Inv8 g idn pe ct133 := by rw [ec134]; exact up8 hI (i8_44 (kc := kg) (by omega) ⟨(tld117 : Int32), (ofb118 : Int32), (hol119 : Int32), (flt120 : Int32), (fla121 : Int32), (ofl122 : Int32), (len123 : Int32), (atx124 : Int32), (1 : Int32), hz126, (by first | omega | decide), (by first | omega | decide), (by first | omega | decide), (by first | omega | decide), (Or.inr rfl), rfl⟩)
                  have hs135 : ct133 kg = .inr (4, [.int tld117, .int ofb118, .int hol119, .int flt120, .int fla121, .int ofl122, .ref (kg + 1), .ref (kg + 2), .int len123, .int atx124, .int 1]) := by rw [ec134]; exact va_up_self _ _ _
                  refine dv_goto (tgt := 130) dX4_product_108 (by decide) ?_
                  obtain ⟨x136, ex136⟩ : ∃ y : Int32, y = v4_10 + 1 := ⟨_, rfl⟩
                  have tx136 : x136.toInt = v4_10.toInt + 1 := by rw [ex136]; exact z_add rfl (by decide : (1 : Int32).toInt = 1) (by omega) (by omega)
                  refine dv_iinc (v := x136) (lv' := [(4, .int x136), (6, .int r107), (5, .int r99), (3, .int v3_10), (0, .ref kg), (1, .int 4), (2, .int ask)]) dX4_product_130 (k := 2) rfl (by rw [ex136]; rfl) (by decide) rfl ?_
                  refine dv_goto (tgt := 10) dX4_product_133 (by decide) ?_
                  refine dv_sub (loc2 := [(4, .int x136), (3, .int v3_10), (0, .ref kg), (1, .int 4), (2, .int ask)]) [0, 3, 4, 5, 6] rfl ?_
                  exact ih10 x136 v3_10 ct133 (by omega) (by first | omega | decide | assumption) hI
                · skip
                  have c132 : ref125.toInt = 0 := (z_eq rfl (by decide : (0 : Int32).toInt = 0)).mp c132
                  refine dv_iload_n dX4_product_96 rfl 6 rfl ?_
                  refine dv_if_eq (tgt := 104) dX4_product_97 (by decide) (fun c137 => ?_) (fun c137 => ?_)
                  · skip
                    have c137 : ask.toInt = 0 := (z_eq rfl (by decide : (0 : Int32).toInt = 0)).mp c137
                    refine dv_iconst (v := 0) dX4_product_104 (by decide) ?_
                    refine dv_put (ci := 4) (v := .int 0) (ty := .boolean) (C := RX4) (T := TX4) (N := 11) ⟨by omega, pG_of (by omega)⟩ hs116 rfl inG4 tyX4 tyX4_ok nmX4 10 (by decide) mm_229 rfl (by decide +kernel) (fun _ => rfl) (fun _ => rfl) (Nat.le_of_ble_eq_true rfl) dX4_product_105 (en := .inr (4, [.int tld117, .int ofb118, .int hol119, .int flt120, .int fla121, .int ofl122, .ref (kg + 1), .ref (kg + 2), .int len123, .int atx124, .int 0])) rfl (fun ct138 ec139 => ?_)
                    have hI : Inv8 g idn pe ct138 := by rw [ec139]; exact up8 hI (i8_44 (kc := kg) (by omega) ⟨(tld117 : Int32), (ofb118 : Int32), (hol119 : Int32), (flt120 : Int32), (fla121 : Int32), (ofl122 : Int32), (len123 : Int32), (atx124 : Int32), (0 : Int32), hz126, (by first | omega | decide), (by first | omega | decide), (by first | omega | decide), (by first | omega | decide), (Or.inl rfl), rfl⟩)
                    have hs140 : ct138 kg = .inr (4, [.int tld117, .int ofb118, .int hol119, .int flt120, .int fla121, .int ofl122, .ref (kg + 1), .ref (kg + 2), .int len123, .int atx124, .int 0]) := by rw [ec139]; exact va_up_self _ _ _
                    refine dv_goto (tgt := 130) dX4_product_108 (by decide) ?_
                    obtain ⟨x141, ex141⟩ : ∃ y : Int32, y = v4_10 + 1 := ⟨_, rfl⟩
                    have tx141 : x141.toInt = v4_10.toInt + 1 := by rw [ex141]; exact z_add rfl (by decide : (1 : Int32).toInt = 1) (by omega) (by omega)
                    refine dv_iinc (v := x141) (lv' := [(4, .int x141), (6, .int r107), (5, .int r99), (3, .int v3_10), (0, .ref kg), (1, .int 4), (2, .int ask)]) dX4_product_130 (k := 2) rfl (by rw [ex141]; rfl) (by decide) rfl ?_
                    refine dv_goto (tgt := 10) dX4_product_133 (by decide) ?_
                    refine dv_sub (loc2 := [(4, .int x141), (3, .int v3_10), (0, .ref kg), (1, .int 4), (2, .int ask)]) [0, 3, 4, 5, 6] rfl ?_
                    exact ih10 x141 v3_10 ct138 (by omega) (by first | omega | decide | assumption) hI
                  · skip
                    have c137 : ¬ (ask.toInt = 0) := fun q => c137 ((z_eq rfl (by decide : (0 : Int32).toInt = 0)).mpr q)
                    refine dv_iconst (v := 1) dX4_product_100 (by decide) ?_
                    refine dv_goto (tgt := 105) dX4_product_101 (by decide) ?_
                    refine dv_put (ci := 4) (v := .int 1) (ty := .boolean) (C := RX4) (T := TX4) (N := 11) ⟨by omega, pG_of (by omega)⟩ hs116 rfl inG4 tyX4 tyX4_ok nmX4 10 (by decide) mm_229 rfl (by decide +kernel) (fun _ => rfl) (fun _ => rfl) (Nat.le_of_ble_eq_true rfl) dX4_product_105 (en := .inr (4, [.int tld117, .int ofb118, .int hol119, .int flt120, .int fla121, .int ofl122, .ref (kg + 1), .ref (kg + 2), .int len123, .int atx124, .int 1])) rfl (fun ct142 ec143 => ?_)
                    have hI : Inv8 g idn pe ct142 := by rw [ec143]; exact up8 hI (i8_44 (kc := kg) (by omega) ⟨(tld117 : Int32), (ofb118 : Int32), (hol119 : Int32), (flt120 : Int32), (fla121 : Int32), (ofl122 : Int32), (len123 : Int32), (atx124 : Int32), (1 : Int32), hz126, (by first | omega | decide), (by first | omega | decide), (by first | omega | decide), (by first | omega | decide), (Or.inr rfl), rfl⟩)
                    have hs144 : ct142 kg = .inr (4, [.int tld117, .int ofb118, .int hol119, .int flt120, .int fla121, .int ofl122, .ref (kg + 1), .ref (kg + 2), .int len123, .int atx124, .int 1]) := by rw [ec143]; exact va_up_self _ _ _
                    refine dv_goto (tgt := 130) dX4_product_108 (by decide) ?_
                    obtain ⟨x145, ex145⟩ : ∃ y : Int32, y = v4_10 + 1 := ⟨_, rfl⟩
                    have tx145 : x145.toInt = v4_10.toInt + 1 := by rw [ex145]; exact z_add rfl (by decide : (1 : Int32).toInt = 1) (by omega) (by omega)
                    refine dv_iinc (v := x145) (lv' := [(4, .int x145), (6, .int r107), (5, .int r99), (3, .int v3_10), (0, .ref kg), (1, .int 4), (2, .int ask)]) dX4_product_130 (k := 2) rfl (by rw [ex145]; rfl) (by decide) rfl ?_
                    refine dv_goto (tgt := 10) dX4_product_133 (by decide) ?_
                    refine dv_sub (loc2 := [(4, .int x145), (3, .int v3_10), (0, .ref kg), (1, .int 4), (2, .int ask)]) [0, 3, 4, 5, 6] rfl ?_
                    exact ih10 x145 v3_10 ct142 (by omega) (by first | omega | decide | assumption) hI
            · skip
              have c109 : r99.toInt = 42 := (z_eq rfl (by decide : (42 : Int32).toInt = 42)).mp c109
              refine dv_iload_n dX4_product_75 rfl 3 rfl ?_
              refine dv_iload dX4_product_76 0 rfl ?_
              refine dv_imul dX4_product_78 ?_
              refine dv_topi (fun x146 ex146 => ?_)
              refine dv_istore_n (lv' := [(3, .int x146), (6, .int r107), (5, .int r99), (4, .int v4_10), (0, .ref kg), (1, .int 4), (2, .int ask)]) dX4_product_79 rfl (by decide) rfl ?_
              refine dv_goto (tgt := 130) dX4_product_80 (by decide) ?_
              obtain ⟨x147, ex147⟩ : ∃ y : Int32, y = v4_10 + 1 := ⟨_, rfl⟩
              have tx147 : x147.toInt = v4_10.toInt + 1 := by rw [ex147]; exact z_add rfl (by decide : (1 : Int32).toInt = 1) (by omega) (by omega)
              refine dv_iinc (v := x147) (lv' := [(4, .int x147), (3, .int x146), (6, .int r107), (5, .int r99), (0, .ref kg), (1, .int 4), (2, .int ask)]) dX4_product_130 (k := 3) rfl (by rw [ex147]; rfl) (by decide) rfl ?_
              refine dv_goto (tgt := 10) dX4_product_133 (by decide) ?_
              refine dv_sub (loc2 := [(4, .int x147), (3, .int x146), (0, .ref kg), (1, .int 4), (2, .int ask)]) [0, 1, 4, 5, 6] rfl ?_
              exact ih10 x147 x146 ct106 (by omega) (by first | omega | decide | assumption) hI
          · skip
            have c97 : ¬ (r94.toInt = 47) := fun q => c97 ((z_eq rfl (by decide : (47 : Int32).toInt = 47)).mpr q)
            refine dv_aload_n dX4_product_35 rfl 2 rfl ?_
            refine GW.callV (n := 0) (As := []) (rest := []) (b := kg) (k_X4_nextp l g pe ct20 kg tld23 ofb24 hol25 flt26 fla27 ofl28 len29 atx30 ref31 (by omega) hI hs22) (fun _ h => h) rfl rfl ⟨by omega, pG_of (by omega)⟩ hs22 (q := (RX4, TX4, 11)) rfl mm_600 mm_602 mm_24 mm_58 mm_603 (by decide +kernel) ⟨Nat.le_of_ble_eq_true rfl, Nat.le_of_ble_eq_true rfl⟩ rfl (Nat.le_of_ble_eq_true rfl) dX4_product_36 (Nat.zero_le _) (Nat.zero_le _) rfl (fun ct148 rrr149 hBr149 hoff150 => ?_)
            obtain ⟨r149, rfl, hr149, rfl⟩ := hBr149
            refine GW.eq (S2 := [.int r149]) rfl rfl rfl ?_
            have h151 := hr149
            have h151 : nxp r149 atx30 := h151
            refine dv_bipush (v := 37) dX4_product_39 (by decide) ?_
            refine dv_icmp_ne (tgt := 136) dX4_product_41 (by decide) (fun c152 => ?_) (fun c152 => ?_)
            · skip
              have c152 : ¬ (r149.toInt = 37) := fun q => c152 ((z_eq rfl (by decide : (37 : Int32).toInt = 37)).mpr q)
              refine dv_iload_n dX4_product_136 rfl 1 rfl ?_
              exact dv_iret dX4_product_137 rfl (by first | exact Nat.zero_le _ | decide) (by first | exact Nat.zero_le _ | decide) (by subst hK; exact ⟨v3_10, rfl, (trivial), hI⟩)
            · skip
              have c152 : r149.toInt = 37 := (z_eq rfl (by decide : (37 : Int32).toInt = 37)).mp c152
              refine dv_aload_n dX4_product_44 rfl 2 rfl ?_
              refine GW.callV (n := 0) (As := []) (rest := []) (b := kg) (k_X4_nextp l g pe ct20 kg tld23 ofb24 hol25 flt26 fla27 ofl28 len29 atx30 ref31 (by omega) hI hs22) (fun _ h => h) rfl rfl ⟨by omega, pG_of (by omega)⟩ hs22 (q := (RX4, TX4, 11)) rfl mm_600 mm_602 mm_24 mm_58 mm_603 (by decide +kernel) ⟨Nat.le_of_ble_eq_true rfl, Nat.le_of_ble_eq_true rfl⟩ rfl (Nat.le_of_ble_eq_true rfl) dX4_product_45 (Nat.zero_le _) (Nat.zero_le _) rfl (fun ct153 rrr154 hBr154 hoff155 => ?_)
              obtain ⟨r154, rfl, hr154, rfl⟩ := hBr154
              refine GW.eq (S2 := [.int r154]) rfl rfl rfl ?_
              have h156 := hr154
              have h156 : nxp r154 atx30 := h156
              refine dv_istore (lv' := [(5, .int r154), (4, .int v4_10), (3, .int v3_10), (0, .ref kg), (1, .int 4), (2, .int ask)]) dX4_product_48 (by decide) rfl ?_
              refine dv_aload_n dX4_product_50 rfl 3 rfl ?_
              refine dv_dup dX4_product_51 rfl ?_
              refine dv_get (ci := 4) (v := .int atx30) (C := RX4) (T := TX4) (N := 11) ⟨by omega, pG_of (by omega)⟩ hs22 rfl inG4 9 (by decide) mm_228 rfl dX4_product_52 ?_
              refine dv_iconst (v := 1) dX4_product_55 (by decide) ?_
              refine dv_iadd dX4_product_56 ?_
              refine dv_topi (fun x157 ex157 => ?_)
              have tx157 : x157.toInt = atx30.toInt + 1 := by rw [ex157]; exact z_add rfl (by decide : (1 : Int32).toInt = 1) (by omega) (by omega)
              have hat157 : atx30.toInt ≤ 99 := by first | exact nxp_use h41 (by omega) | exact nxp_use h96 (by omega) | exact nxp_use h151 (by omega) | exact nxp_use h156 (by omega)
              refine dv_put (ci := 4) (v := .int x157) (ty := .int) (C := RX4) (T := TX4) (N := 11) ⟨by omega, pG_of (by omega)⟩ hs22 rfl inG4 tyX4 tyX4_ok nmX4 9 (by decide) mm_228 rfl (by decide +kernel) (fun _ => rfl) (fun _ => rfl) (Nat.le_of_ble_eq_true rfl) dX4_product_57 (en := .inr (4, [.int tld23, .int ofb24, .int hol25, .int flt26, .int fla27, .int ofl28, .ref (kg + 1), .ref (kg + 2), .int len29, .int x157, .int ref31])) rfl (fun ct158 ec159 => ?_)
              have hI : Inv8 g idn pe ct158 := by rw [ec159]; exact up8 hI (i8_44 (kc := kg) (by omega) ⟨(tld23 : Int32), (ofb24 : Int32), (hol25 : Int32), (flt26 : Int32), (fla27 : Int32), (ofl28 : Int32), (len29 : Int32), (x157 : Int32), (ref31 : Int32), hz32, (by first | omega | decide), (by first | omega | decide), (by first | omega | decide), (by first | omega | decide), hz37, rfl⟩)
              have hs160 : ct158 kg = .inr (4, [.int tld23, .int ofb24, .int hol25, .int flt26, .int fla27, .int ofl28, .ref (kg + 1), .ref (kg + 2), .int len29, .int x157, .int ref31]) := by rw [ec159]; exact va_up_self _ _ _
              refine dv_aload_n dX4_product_60 rfl 3 rfl ?_
              refine dv_iload_n dX4_product_61 rfl 4 rfl ?_
              refine dv_iload_n dX4_product_62 rfl 5 rfl ?_
              refine GW.callV (n := 2) (As := [.int 4, .int ask]) (rest := []) (b := kg) (k_X4_factor_4 l g pe ct158 kg ask (by omega) hI) (fun _ h => h) rfl rfl ⟨by omega, pG_of (by omega)⟩ hs160 (q := (RX4, TX4, 11)) rfl mm_624 mm_626 mm_30 mm_58 mm_627 (by decide +kernel) ⟨Nat.le_of_ble_eq_true rfl, Nat.le_of_ble_eq_true rfl⟩ rfl (Nat.le_of_ble_eq_true rfl) dX4_product_63 (Nat.zero_le _) (Nat.zero_le _) rfl (fun ct161 rrr162 hBr162 hoff163 => ?_)
              obtain ⟨r162, rfl, hr162, hI⟩ := hBr162
              refine GW.eq (S2 := [.int r162]) rfl rfl rfl ?_
              refine dv_istore (lv' := [(6, .int r162), (5, .int r154), (4, .int v4_10), (3, .int v3_10), (0, .ref kg), (1, .int 4), (2, .int ask)]) dX4_product_66 (by decide) rfl ?_
              refine dv_iload dX4_product_68 1 rfl ?_
              refine dv_bipush (v := 42) dX4_product_70 (by decide) ?_
              refine dv_icmp_ne (tgt := 83) dX4_product_72 (by decide) (fun c164 => ?_) (fun c164 => ?_)
              · skip
                have c164 : ¬ (r154.toInt = 42) := fun q => c164 ((z_eq rfl (by decide : (42 : Int32).toInt = 42)).mpr q)
                refine dv_iload dX4_product_83 0 rfl ?_
                refine dv_if_ne (tgt := 111) dX4_product_85 (by decide) (fun c165 => ?_) (fun c165 => ?_)
                · skip
                  have c165 : ¬ (r162.toInt = 0) := fun q => c165 ((z_eq rfl (by decide : (0 : Int32).toInt = 0)).mpr q)
                  refine dv_iload dX4_product_111 1 rfl ?_
                  refine dv_bipush (v := 47) dX4_product_113 (by decide) ?_
                  refine dv_icmp_ne (tgt := 125) dX4_product_115 (by decide) (fun c166 => ?_) (fun c166 => ?_)
                  · skip
                    have c166 : ¬ (r154.toInt = 47) := fun q => c166 ((z_eq rfl (by decide : (47 : Int32).toInt = 47)).mpr q)
                    refine dv_iload_n dX4_product_125 rfl 3 rfl ?_
                    refine dv_iload dX4_product_126 0 rfl ?_
                    refine dv_irem dX4_product_128 (z_nz (by omega)) ?_
                    refine dv_topi (fun x167 ex167 => ?_)
                    refine dv_istore_n (lv' := [(3, .int x167), (6, .int r162), (5, .int r154), (4, .int v4_10), (0, .ref kg), (1, .int 4), (2, .int ask)]) dX4_product_129 rfl (by decide) rfl ?_
                    obtain ⟨x168, ex168⟩ : ∃ y : Int32, y = v4_10 + 1 := ⟨_, rfl⟩
                    have tx168 : x168.toInt = v4_10.toInt + 1 := by rw [ex168]; exact z_add rfl (by decide : (1 : Int32).toInt = 1) (by omega) (by omega)
                    refine dv_iinc (v := x168) (lv' := [(4, .int x168), (3, .int x167), (6, .int r162), (5, .int r154), (0, .ref kg), (1, .int 4), (2, .int ask)]) dX4_product_130 (k := 3) rfl (by rw [ex168]; rfl) (by decide) rfl ?_
                    refine dv_goto (tgt := 10) dX4_product_133 (by decide) ?_
                    refine dv_sub (loc2 := [(4, .int x168), (3, .int x167), (0, .ref kg), (1, .int 4), (2, .int ask)]) [0, 1, 4, 5, 6] rfl ?_
                    exact ih10 x168 x167 ct161 (by omega) (by first | omega | decide | assumption) hI
                  · skip
                    have c166 : r154.toInt = 47 := (z_eq rfl (by decide : (47 : Int32).toInt = 47)).mp c166
                    refine dv_iload_n dX4_product_118 rfl 3 rfl ?_
                    refine dv_iload dX4_product_119 0 rfl ?_
                    refine dv_idiv dX4_product_121 (z_nz (by omega)) ?_
                    refine dv_topi (fun x169 ex169 => ?_)
                    refine dv_goto (tgt := 129) dX4_product_122 (by decide) ?_
                    refine dv_istore_n (lv' := [(3, .int x169), (6, .int r162), (5, .int r154), (4, .int v4_10), (0, .ref kg), (1, .int 4), (2, .int ask)]) dX4_product_129 rfl (by decide) rfl ?_
                    obtain ⟨x170, ex170⟩ : ∃ y : Int32, y = v4_10 + 1 := ⟨_, rfl⟩
                    have tx170 : x170.toInt = v4_10.toInt + 1 := by rw [ex170]; exact z_add rfl (by decide : (1 : Int32).toInt = 1) (by omega) (by omega)
                    refine dv_iinc (v := x170) (lv' := [(4, .int x170), (3, .int x169), (6, .int r162), (5, .int r154), (0, .ref kg), (1, .int 4), (2, .int ask)]) dX4_product_130 (k := 3) rfl (by rw [ex170]; rfl) (by decide) rfl ?_
                    refine dv_goto (tgt := 10) dX4_product_133 (by decide) ?_
                    refine dv_sub (loc2 := [(4, .int x170), (3, .int x169), (0, .ref kg), (1, .int 4), (2, .int ask)]) [0, 1, 4, 5, 6] rfl ?_
                    exact ih10 x170 x169 ct161 (by omega) (by first | omega | decide | assumption) hI
                · skip
                  have c165 : r162.toInt = 0 := (z_eq rfl (by decide : (0 : Int32).toInt = 0)).mp c165
                  refine dv_aload_n dX4_product_88 rfl 4 rfl ?_
                  refine dv_aload_n dX4_product_89 rfl 4 rfl ?_
                  obtain ⟨tld172, ofb173, hol174, flt175, fla176, ofl177, len178, atx179, ref180, hz181, h182, h183, h184, h185, hz186, hs171⟩ := a8_44 (kc := kg) (by omega) hI
                  have bhz181 := z_b01 hz181
                  have bhz186 := z_b01 hz186
                  refine dv_get (ci := 4) (v := .int ref180) (C := RX4) (T := TX4) (N := 11) ⟨by omega, pG_of (by omega)⟩ hs171 rfl inG4 10 (by decide) mm_229 rfl dX4_product_90 ?_
                  refine dv_if_ne (tgt := 100) dX4_product_93 (by decide) (fun c187 => ?_) (fun c187 => ?_)
                  · skip
                    have c187 : ¬ (ref180.toInt = 0) := fun q => c187 ((z_eq rfl (by decide : (0 : Int32).toInt = 0)).mpr q)
                    refine dv_iconst (v := 1) dX4_product_100 (by decide) ?_
                    refine dv_goto (tgt := 105) dX4_product_101 (by decide) ?_
                    refine dv_put (ci := 4) (v := .int 1) (ty := .boolean) (C := RX4) (T := TX4) (N := 11) ⟨by omega, pG_of (by omega)⟩ hs171 rfl inG4 tyX4 tyX4_ok nmX4 10 (by decide) mm_229 rfl (by decide +kernel) (fun _ => rfl) (fun _ => rfl) (Nat.le_of_ble_eq_true rfl) dX4_product_105 (en := .inr (4, [.int tld172, .int ofb173, .int hol174, .int flt175, .int fla176, .int ofl177, .ref (kg + 1), .ref (kg + 2), .int len178, .int atx179, .int 1])) rfl (fun ct188 ec189 => ?_)
                    have hI : Inv8 g idn pe ct188 := by rw [ec189]; exact up8 hI (i8_44 (kc := kg) (by omega) ⟨(tld172 : Int32), (ofb173 : Int32), (hol174 : Int32), (flt175 : Int32), (fla176 : Int32), (ofl177 : Int32), (len178 : Int32), (atx179 : Int32), (1 : Int32), hz181, (by first | omega | decide), (by first | omega | decide), (by first | omega | decide), (by first | omega | decide), (Or.inr rfl), rfl⟩)
                    have hs190 : ct188 kg = .inr (4, [.int tld172, .int ofb173, .int hol174, .int flt175, .int fla176, .int ofl177, .ref (kg + 1), .ref (kg + 2), .int len178, .int atx179, .int 1]) := by rw [ec189]; exact va_up_self _ _ _
                    refine dv_goto (tgt := 130) dX4_product_108 (by decide) ?_
                    obtain ⟨x191, ex191⟩ : ∃ y : Int32, y = v4_10 + 1 := ⟨_, rfl⟩
                    have tx191 : x191.toInt = v4_10.toInt + 1 := by rw [ex191]; exact z_add rfl (by decide : (1 : Int32).toInt = 1) (by omega) (by omega)
                    refine dv_iinc (v := x191) (lv' := [(4, .int x191), (6, .int r162), (5, .int r154), (3, .int v3_10), (0, .ref kg), (1, .int 4), (2, .int ask)]) dX4_product_130 (k := 2) rfl (by rw [ex191]; rfl) (by decide) rfl ?_
                    refine dv_goto (tgt := 10) dX4_product_133 (by decide) ?_
                    refine dv_sub (loc2 := [(4, .int x191), (3, .int v3_10), (0, .ref kg), (1, .int 4), (2, .int ask)]) [0, 3, 4, 5, 6] rfl ?_
                    exact ih10 x191 v3_10 ct188 (by omega) (by first | omega | decide | assumption) hI
                  · skip
                    have c187 : ref180.toInt = 0 := (z_eq rfl (by decide : (0 : Int32).toInt = 0)).mp c187
                    refine dv_iload_n dX4_product_96 rfl 6 rfl ?_
                    refine dv_if_eq (tgt := 104) dX4_product_97 (by decide) (fun c192 => ?_) (fun c192 => ?_)
                    · skip
                      have c192 : ask.toInt = 0 := (z_eq rfl (by decide : (0 : Int32).toInt = 0)).mp c192
                      refine dv_iconst (v := 0) dX4_product_104 (by decide) ?_
                      refine dv_put (ci := 4) (v := .int 0) (ty := .boolean) (C := RX4) (T := TX4) (N := 11) ⟨by omega, pG_of (by omega)⟩ hs171 rfl inG4 tyX4 tyX4_ok nmX4 10 (by decide) mm_229 rfl (by decide +kernel) (fun _ => rfl) (fun _ => rfl) (Nat.le_of_ble_eq_true rfl) dX4_product_105 (en := .inr (4, [.int tld172, .int ofb173, .int hol174, .int flt175, .int fla176, .int ofl177, .ref (kg + 1), .ref (kg + 2), .int len178, .int atx179, .int 0])) rfl (fun ct193 ec194 => ?_)
                      have hI : Inv8 g idn pe ct193 := by rw [ec194]; exact up8 hI (i8_44 (kc := kg) (by omega) ⟨(tld172 : Int32), (ofb173 : Int32), (hol174 : Int32), (flt175 : Int32), (fla176 : Int32), (ofl177 : Int32), (len178 : Int32), (atx179 : Int32), (0 : Int32), hz181, (by first | omega | decide), (by first | omega | decide), (by first | omega | decide), (by first | omega | decide), (Or.inl rfl), rfl⟩)
                      have hs195 : ct193 kg = .inr (4, [.int tld172, .int ofb173, .int hol174, .int flt175, .int fla176, .int ofl177, .ref (kg + 1), .ref (kg + 2), .int len178, .int atx179, .int 0]) := by rw [ec194]; exact va_up_self _ _ _
                      refine dv_goto (tgt := 130) dX4_product_108 (by decide) ?_
                      obtain ⟨x196, ex196⟩ : ∃ y : Int32, y = v4_10 + 1 := ⟨_, rfl⟩
                      have tx196 : x196.toInt = v4_10.toInt + 1 := by rw [ex196]; exact z_add rfl (by decide : (1 : Int32).toInt = 1) (by omega) (by omega)
                      refine dv_iinc (v := x196) (lv' := [(4, .int x196), (6, .int r162), (5, .int r154), (3, .int v3_10), (0, .ref kg), (1, .int 4), (2, .int ask)]) dX4_product_130 (k := 2) rfl (by rw [ex196]; rfl) (by decide) rfl ?_
                      refine dv_goto (tgt := 10) dX4_product_133 (by decide) ?_
                      refine dv_sub (loc2 := [(4, .int x196), (3, .int v3_10), (0, .ref kg), (1, .int 4), (2, .int ask)]) [0, 3, 4, 5, 6] rfl ?_
                      exact ih10 x196 v3_10 ct193 (by omega) (by first | omega | decide | assumption) hI
                    · skip
                      have c192 : ¬ (ask.toInt = 0) := fun q => c192 ((z_eq rfl (by decide : (0 : Int32).toInt = 0)).mpr q)
                      refine dv_iconst (v := 1) dX4_product_100 (by decide) ?_
                      refine dv_goto (tgt := 105) dX4_product_101 (by decide) ?_
                      refine dv_put (ci := 4) (v := .int 1) (ty := .boolean) (C := RX4) (T := TX4) (N := 11) ⟨by omega, pG_of (by omega)⟩ hs171 rfl inG4 tyX4 tyX4_ok nmX4 10 (by decide) mm_229 rfl (by decide +kernel) (fun _ => rfl) (fun _ => rfl) (Nat.le_of_ble_eq_true rfl) dX4_product_105 (en := .inr (4, [.int tld172, .int ofb173, .int hol174, .int flt175, .int fla176, .int ofl177, .ref (kg + 1), .ref (kg + 2), .int len178, .int atx179, .int 1])) rfl (fun ct197 ec198 => ?_)
                      have hI : Inv8 g idn pe ct197 := by rw [ec198]; exact up8 hI (i8_44 (kc := kg) (by omega) ⟨(tld172 : Int32), (ofb173 : Int32), (hol174 : Int32), (flt175 : Int32), (fla176 : Int32), (ofl177 : Int32), (len178 : Int32), (atx179 : Int32), (1 : Int32), hz181, (by first | omega | decide), (by first | omega | decide), (by first | omega | decide), (by first | omega | decide), (Or.inr rfl), rfl⟩)
                      have hs199 : ct197 kg = .inr (4, [.int tld172, .int ofb173, .int hol174, .int flt175, .int fla176, .int ofl177, .ref (kg + 1), .ref (kg + 2), .int len178, .int atx179, .int 1]) := by rw [ec198]; exact va_up_self _ _ _
                      refine dv_goto (tgt := 130) dX4_product_108 (by decide) ?_
                      obtain ⟨x200, ex200⟩ : ∃ y : Int32, y = v4_10 + 1 := ⟨_, rfl⟩
                      have tx200 : x200.toInt = v4_10.toInt + 1 := by rw [ex200]; exact z_add rfl (by decide : (1 : Int32).toInt = 1) (by omega) (by omega)
                      refine dv_iinc (v := x200) (lv' := [(4, .int x200), (6, .int r162), (5, .int r154), (3, .int v3_10), (0, .ref kg), (1, .int 4), (2, .int ask)]) dX4_product_130 (k := 2) rfl (by rw [ex200]; rfl) (by decide) rfl ?_
                      refine dv_goto (tgt := 10) dX4_product_133 (by decide) ?_
                      refine dv_sub (loc2 := [(4, .int x200), (3, .int v3_10), (0, .ref kg), (1, .int 4), (2, .int ask)]) [0, 3, 4, 5, 6] rfl ?_
                      exact ih10 x200 v3_10 ct197 (by omega) (by first | omega | decide | assumption) hI
              · skip
                have c164 : r154.toInt = 42 := (z_eq rfl (by decide : (42 : Int32).toInt = 42)).mp c164
                refine dv_iload_n dX4_product_75 rfl 3 rfl ?_
                refine dv_iload dX4_product_76 0 rfl ?_
                refine dv_imul dX4_product_78 ?_
                refine dv_topi (fun x201 ex201 => ?_)
                refine dv_istore_n (lv' := [(3, .int x201), (6, .int r162), (5, .int r154), (4, .int v4_10), (0, .ref kg), (1, .int 4), (2, .int ask)]) dX4_product_79 rfl (by decide) rfl ?_
                refine dv_goto (tgt := 130) dX4_product_80 (by decide) ?_
                obtain ⟨x202, ex202⟩ : ∃ y : Int32, y = v4_10 + 1 := ⟨_, rfl⟩
                have tx202 : x202.toInt = v4_10.toInt + 1 := by rw [ex202]; exact z_add rfl (by decide : (1 : Int32).toInt = 1) (by omega) (by omega)
                refine dv_iinc (v := x202) (lv' := [(4, .int x202), (3, .int x201), (6, .int r162), (5, .int r154), (0, .ref kg), (1, .int 4), (2, .int ask)]) dX4_product_130 (k := 3) rfl (by rw [ex202]; rfl) (by decide) rfl ?_
                refine dv_goto (tgt := 10) dX4_product_133 (by decide) ?_
                refine dv_sub (loc2 := [(4, .int x202), (3, .int x201), (0, .ref kg), (1, .int 4), (2, .int ask)]) [0, 1, 4, 5, 6] rfl ?_
                exact ih10 x202 x201 ct161 (by omega) (by first | omega | decide | assumption) hI
  exact loop10 ((100 - (0 : Int32).toInt : Int).toNat + 1) (0 : Int32) r18 ct1 (by omega) (by first | omega | decide | assumption) hI
