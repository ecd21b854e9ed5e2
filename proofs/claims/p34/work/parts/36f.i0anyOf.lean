set_option maxHeartbeats 4000000 in
set_option maxRecDepth 100000 in
theorem k_X4_anyOf_0 (l : Launch) (g : zG) (pe : Int32) (ct : Nat → va_E) (kg : Nat) (ask : Int32) (hf_kg : 99 ≤ kg ∧ kg < 126 ∧ (kg - 99) % 3 = 0) (hI : Inv8 g idn pe ct) : DM l g pG false yX4_anyOf cX4_anyOf 6 (some .boolean) ({ frames := 25, cells := 0, slots := 0, locals := 625 }) (fun (ct2 : Nat → va_E) (rr : Option Value) => ∃ (r : Int32), rr = some (.int r) ∧ ((r = 1) ∨ (r = 0)) ∧ Inv8 g idn pe ct2) ct [.ref kg, .int 0, .int ask] := by
  refine DM.K (fun K hK => ?_)
  refine GW.met (own := RX4) (loc := [(0, .ref kg), (1, .int 0), (2, .int ask)]) (by decide) rfl rfl (Nat.le_of_ble_eq_true rfl) ?_
  have hpe0 := hI.1
  have rg_ask := z_rng ask
  refine dv_aload_n dX4_anyOf_0 rfl 0 rfl ?_
  refine dv_iload_n dX4_anyOf_1 rfl 1 rfl ?_
  refine dv_iload_n dX4_anyOf_2 rfl 2 rfl ?_
  obtain ⟨tld3, ofb4, hol5, flt6, fla7, ofl8, len9, atx10, ref11, hz12, h13, h14, h15, h16, hz17, hs2⟩ := a8_44 (kc := kg) (by omega) hI
  have bhz12 := z_b01 hz12
  have bhz17 := z_b01 hz17
  refine GW.callV (n := 2) (As := [.int 0, .int ask]) (rest := []) (b := kg) (k_X4_allOf_0 l g pe ct kg ask (by omega) hI) (fun _ h => h) rfl rfl ⟨by omega, pG_of (by omega)⟩ hs2 (q := (RX4, TX4, 11)) rfl mm_592 mm_594 mm_22 mm_58 mm_595 (by decide +kernel) ⟨Nat.le_of_ble_eq_true rfl, Nat.le_of_ble_eq_true rfl⟩ rfl (Nat.le_of_ble_eq_true rfl) dX4_anyOf_3 (Nat.zero_le _) (Nat.zero_le _) rfl (fun ct1 rrr18 hBr18 hoff19 => ?_)
  obtain ⟨r18, rfl, hr18, hI⟩ := hBr18
  refine GW.eq (S2 := [.int r18]) rfl rfl rfl ?_
  rcases hr18 with hr18 | hr18
  · skip
    obtain rfl := hr18
    refine dv_istore_n (lv' := [(3, .int 1), (0, .ref kg), (1, .int 0), (2, .int ask)]) dX4_anyOf_6 rfl (by decide) rfl ?_
    refine dv_iconst (v := 0) dX4_anyOf_7 (by decide) ?_
    refine dv_istore (lv' := [(4, .int 0), (3, .int 1), (0, .ref kg), (1, .int 0), (2, .int ask)]) dX4_anyOf_8 (by decide) rfl ?_
    have loop10 : ∀ (n10 : Nat) (v4_10 : Int32) (v3_10 : Int32) (ct20 : Nat → va_E), ((100 - v4_10.toInt : Int).toNat < n10) → (0 ≤ v4_10.toInt ∧ v4_10.toInt ≤ 100) → (0 ≤ v3_10.toInt ∧ v3_10.toInt ≤ 1) → (Inv8 g idn pe ct20) → GW l g pG pG false yX4_anyOf cX4_anyOf 6 (some .boolean) RX4 ({ frames := 25, cells := 0, slots := 0, locals := 625 }) K 0 0 ct20 10 [(4, .int v4_10), (3, .int v3_10), (0, .ref kg), (1, .int 0), (2, .int ask)] [] := by
      intro n10
      induction n10 with
      | zero =>
        intro v4_10 v3_10 ct20 hn10 b4_10 b3_10 hI
        exact absurd hn10 (Nat.not_lt_zero _)
      | succ n10 ih10 =>
        intro v4_10 v3_10 ct20 hn10 b4_10 b3_10 hI
        refine dv_iload dX4_anyOf_10 0 rfl ?_
        refine dv_bipush (v := 100) dX4_anyOf_12 (by decide) ?_
        refine dv_icmp_ge (tgt := 77) dX4_anyOf_14 (by decide) (fun c21 => ?_) (fun c21 => ?_)
        · skip
          have c21 : 100 ≤ v4_10.toInt := (z_le (by decide : (100 : Int32).toInt = 100) rfl).mp c21
          refine dv_iload_n dX4_anyOf_77 rfl 1 rfl ?_
          exact dv_zret dX4_anyOf_78 rfl (by rcases (z_01 (x := v3_10) (by omega) (by omega)) with q | q <;> rw [q] <;> rfl) (by first | exact Nat.zero_le _ | decide) (by first | exact Nat.zero_le _ | decide) (by subst hK; exact ⟨v3_10, rfl, (by first | exact Or.inl ⟨rfl, by omega⟩ | exact Or.inr ⟨rfl, by omega⟩ | exact Or.inl rfl | exact Or.inr rfl | exact Or.inl ⟨rfl, by omega, by omega⟩ | exact (z_01 (by omega) (by omega)).symm), hI⟩)
        · skip
          have c21 : ¬ (100 ≤ v4_10.toInt) := fun q => c21 ((z_le (by decide : (100 : Int32).toInt = 100) rfl).mpr q)
          refine dv_aload_n dX4_anyOf_17 rfl 2 rfl ?_
          obtain ⟨tld23, ofb24, hol25, flt26, fla27, ofl28, len29, atx30, ref31, hz32, h33, h34, h35, h36, hz37, hs22⟩ := a8_44 (kc := kg) (by omega) hI
          have bhz32 := z_b01 hz32
          have bhz37 := z_b01 hz37
          refine GW.callV (n := 0) (As := []) (rest := []) (b := kg) (k_X4_nextp l g pe ct20 kg tld23 ofb24 hol25 flt26 fla27 ofl28 len29 atx30 ref31 (by omega) hI hs22) (fun _ h => h) rfl rfl ⟨by omega, pG_of (by omega)⟩ hs22 (q := (RX4, TX4, 11)) rfl mm_600 mm_602 mm_24 mm_58 mm_603 (by decide +kernel) ⟨Nat.le_of_ble_eq_true rfl, Nat.le_of_ble_eq_true rfl⟩ rfl (Nat.le_of_ble_eq_true rfl) dX4_anyOf_18 (Nat.zero_le _) (Nat.zero_le _) rfl (fun ct38 rrr39 hBr39 hoff40 => ?_)
          obtain ⟨r39, rfl, hr39, rfl⟩ := hBr39
          refine GW.eq (S2 := [.int r39]) rfl rfl rfl ?_
          have h41 := hr39
          have h41 : nxp r39 atx30 := h41
          refine dv_bipush (v := 124) dX4_anyOf_21 (by decide) ?_
          refine dv_icmp_ne (tgt := 77) dX4_anyOf_23 (by decide) (fun c42 => ?_) (fun c42 => ?_)
          · skip
            have c42 : ¬ (r39.toInt = 124) := fun q => c42 ((z_eq rfl (by decide : (124 : Int32).toInt = 124)).mpr q)
            refine dv_iload_n dX4_anyOf_77 rfl 1 rfl ?_
            exact dv_zret dX4_anyOf_78 rfl (by rcases (z_01 (x := v3_10) (by omega) (by omega)) with q | q <;> rw [q] <;> rfl) (by first | exact Nat.zero_le _ | decide) (by first | exact Nat.zero_le _ | decide) (by subst hK; exact ⟨v3_10, rfl, (by first | exact Or.inl ⟨rfl, by omega⟩ | exact Or.inr ⟨rfl, by omega⟩ | exact Or.inl rfl | exact Or.inr rfl | exact Or.inl ⟨rfl, by omega, by omega⟩ | exact (z_01 (by omega) (by omega)).symm), hI⟩)
          · skip
            have c42 : r39.toInt = 124 := (z_eq rfl (by decide : (124 : Int32).toInt = 124)).mp c42
            refine dv_aload_n dX4_anyOf_26 rfl 2 rfl ?_
            refine dv_dup dX4_anyOf_27 rfl ?_
            refine dv_get (ci := 4) (v := .int atx30) (C := RX4) (T := TX4) (N := 11) ⟨by omega, pG_of (by omega)⟩ hs22 rfl inG4 9 (by decide) mm_228 rfl dX4_anyOf_28 ?_
            refine dv_iconst (v := 1) dX4_anyOf_31 (by decide) ?_
            refine dv_iadd dX4_anyOf_32 ?_
            refine dv_topi (fun x43 ex43 => ?_)
            have tx43 : x43.toInt = atx30.toInt + 1 := by rw [ex43]; exact z_add rfl (by decide : (1 : Int32).toInt = 1) (by omega) (by omega)
            have hat43 : atx30.toInt ≤ 99 := by first | exact nxp_use h41 (by omega)
            refine dv_put (ci := 4) (v := .int x43) (ty := .int) (C := RX4) (T := TX4) (N := 11) ⟨by omega, pG_of (by omega)⟩ hs22 rfl inG4 tyX4 tyX4_ok nmX4 9 (by decide) mm_228 rfl (by decide +kernel) (fun _ => rfl) (fun _ => rfl) (Nat.le_of_ble_eq_true rfl) dX4_anyOf_33 (en := .inr (4, [.int tld23, .int ofb24, .int hol25, .int flt26, .int fla27, .int ofl28, .ref (kg + 1), .ref (kg + 2), .int len29, .int x43, .int ref31])) rfl (fun ct44 ec45 => ?_)
            have hI : Inv8 g idn pe ct44 := by rw [ec45]; exact up8 hI (i8_44 (kc := kg) (by omega) ⟨(tld23 : Int32), (ofb24 : Int32), (hol25 : Int32), (flt26 : Int32), (fla27 : Int32), (ofl28 : Int32), (len29 : Int32), (x43 : Int32), (ref31 : Int32), hz32, (by first | omega | decide), (by first | omega | decide), (by first | omega | decide), (by first | omega | decide), hz37, rfl⟩)
            have hs46 : ct44 kg = .inr (4, [.int tld23, .int ofb24, .int hol25, .int flt26, .int fla27, .int ofl28, .ref (kg + 1), .ref (kg + 2), .int len29, .int x43, .int ref31]) := by rw [ec45]; exact va_up_self _ _ _
            refine dv_aload_n dX4_anyOf_36 rfl 2 rfl ?_
            refine dv_iload_n dX4_anyOf_37 rfl 3 rfl ?_
            refine dv_iload_n dX4_anyOf_38 rfl 4 rfl ?_
            refine dv_if_eq (tgt := 50) dX4_anyOf_39 (by decide) (fun c47 => ?_) (fun c47 => ?_)
            · skip
              have c47 : ask.toInt = 0 := (z_eq rfl (by decide : (0 : Int32).toInt = 0)).mp c47
              refine dv_iconst (v := 0) dX4_anyOf_50 (by decide) ?_
              refine GW.callV (n := 2) (As := [.int 0, .int 0]) (rest := []) (b := kg) (k_X4_allOf_0 l g pe ct44 kg (0 : Int32) (by omega) hI) (fun _ h => h) rfl rfl ⟨by omega, pG_of (by omega)⟩ hs46 (q := (RX4, TX4, 11)) rfl mm_592 mm_594 mm_22 mm_58 mm_595 (by decide +kernel) ⟨Nat.le_of_ble_eq_true rfl, Nat.le_of_ble_eq_true rfl⟩ rfl (Nat.le_of_ble_eq_true rfl) dX4_anyOf_51 (Nat.zero_le _) (Nat.zero_le _) rfl (fun ct48 rrr49 hBr49 hoff50 => ?_)
              obtain ⟨r49, rfl, hr49, hI⟩ := hBr49
              refine GW.eq (S2 := [.int r49]) rfl rfl rfl ?_
              rcases hr49 with hr49 | hr49
              · skip
                obtain rfl := hr49
                refine dv_istore (lv' := [(5, .int 1), (4, .int v4_10), (3, .int v3_10), (0, .ref kg), (1, .int 0), (2, .int ask)]) dX4_anyOf_54 (by decide) rfl ?_
                refine dv_iload_n dX4_anyOf_56 rfl 2 rfl ?_
                refine dv_if_ne (tgt := 65) dX4_anyOf_57 (by decide) (fun c51 => ?_) (fun c51 => ?_)
                · skip
                  have c51 : ¬ (v3_10.toInt = 0) := fun q => c51 ((z_eq rfl (by decide : (0 : Int32).toInt = 0)).mpr q)
                  refine dv_iconst (v := 1) dX4_anyOf_65 (by decide) ?_
                  refine dv_goto (tgt := 70) dX4_anyOf_66 (by decide) ?_
                  refine dv_istore_n (lv' := [(3, .int 1), (5, .int 1), (4, .int v4_10), (0, .ref kg), (1, .int 0), (2, .int ask)]) dX4_anyOf_70 rfl (by decide) rfl ?_
                  obtain ⟨x52, ex52⟩ : ∃ y : Int32, y = v4_10 + 1 := ⟨_, rfl⟩
                  have tx52 : x52.toInt = v4_10.toInt + 1 := by rw [ex52]; exact z_add rfl (by decide : (1 : Int32).toInt = 1) (by omega) (by omega)
                  refine dv_iinc (v := x52) (lv' := [(4, .int x52), (3, .int 1), (5, .int 1), (0, .ref kg), (1, .int 0), (2, .int ask)]) dX4_anyOf_71 (k := 2) rfl (by rw [ex52]; rfl) (by decide) rfl ?_
                  refine dv_goto (tgt := 10) dX4_anyOf_74 (by decide) ?_
                  refine dv_sub (loc2 := [(4, .int x52), (3, .int 1), (0, .ref kg), (1, .int 0), (2, .int ask)]) [0, 1, 3, 4, 5] rfl ?_
                  exact ih10 x52 (1 : Int32) ct48 (by omega) (by first | omega | decide | assumption) (by first | omega | decide | assumption) hI
                · skip
                  have c51 : v3_10.toInt = 0 := (z_eq rfl (by decide : (0 : Int32).toInt = 0)).mp c51
                  refine dv_iload dX4_anyOf_60 0 rfl ?_
                  refine dv_if_eq (tgt := 69) dX4_anyOf_62 (by decide) (fun c53 => ?_) (fun c53 => ?_)
                  · skip
                    exact absurd c53 (by decide)
                  · skip
                    refine dv_iconst (v := 1) dX4_anyOf_65 (by decide) ?_
                    refine dv_goto (tgt := 70) dX4_anyOf_66 (by decide) ?_
                    refine dv_istore_n (lv' := [(3, .int 1), (5, .int 1), (4, .int v4_10), (0, .ref kg), (1, .int 0), (2, .int ask)]) dX4_anyOf_70 rfl (by decide) rfl ?_
                    obtain ⟨x54, ex54⟩ : ∃ y : Int32, y = v4_10 + 1 := ⟨_, rfl⟩
                    have tx54 : x54.toInt = v4_10.toInt + 1 := by rw [ex54]; exact z_add rfl (by decide : (1 : Int32).toInt = 1) (by omega) (by omega)
                    refine dv_iinc (v := x54) (lv' := [(4, .int x54), (3, .int 1), (5, .int 1), (0, .ref kg), (1, .int 0), (2, .int ask)]) dX4_anyOf_71 (k := 2) rfl (by rw [ex54]; rfl) (by decide) rfl ?_
                    refine dv_goto (tgt := 10) dX4_anyOf_74 (by decide) ?_
                    refine dv_sub (loc2 := [(4, .int x54), (3, .int 1), (0, .ref kg), (1, .int 0), (2, .int ask)]) [0, 1, 3, 4, 5] rfl ?_
                    exact ih10 x54 (1 : Int32) ct48 (by omega) (by first | omega | decide | assumption) (by first | omega | decide | assumption) hI
              · skip
                obtain rfl := hr49
                refine dv_istore (lv' := [(5, .int 0), (4, .int v4_10), (3, .int v3_10), (0, .ref kg), (1, .int 0), (2, .int ask)]) dX4_anyOf_54 (by decide) rfl ?_
                refine dv_iload_n dX4_anyOf_56 rfl 2 rfl ?_
                refine dv_if_ne (tgt := 65) dX4_anyOf_57 (by decide) (fun c55 => ?_) (fun c55 => ?_)
                · skip
                  have c55 : ¬ (v3_10.toInt = 0) := fun q => c55 ((z_eq rfl (by decide : (0 : Int32).toInt = 0)).mpr q)
                  refine dv_iconst (v := 1) dX4_anyOf_65 (by decide) ?_
                  refine dv_goto (tgt := 70) dX4_anyOf_66 (by decide) ?_
                  refine dv_istore_n (lv' := [(3, .int 1), (5, .int 0), (4, .int v4_10), (0, .ref kg), (1, .int 0), (2, .int ask)]) dX4_anyOf_70 rfl (by decide) rfl ?_
                  obtain ⟨x56, ex56⟩ : ∃ y : Int32, y = v4_10 + 1 := ⟨_, rfl⟩
                  have tx56 : x56.toInt = v4_10.toInt + 1 := by rw [ex56]; exact z_add rfl (by decide : (1 : Int32).toInt = 1) (by omega) (by omega)
                  refine dv_iinc (v := x56) (lv' := [(4, .int x56), (3, .int 1), (5, .int 0), (0, .ref kg), (1, .int 0), (2, .int ask)]) dX4_anyOf_71 (k := 2) rfl (by rw [ex56]; rfl) (by decide) rfl ?_
                  refine dv_goto (tgt := 10) dX4_anyOf_74 (by decide) ?_
                  refine dv_sub (loc2 := [(4, .int x56), (3, .int 1), (0, .ref kg), (1, .int 0), (2, .int ask)]) [0, 1, 3, 4, 5] rfl ?_
                  exact ih10 x56 (1 : Int32) ct48 (by omega) (by first | omega | decide | assumption) (by first | omega | decide | assumption) hI
                · skip
                  have c55 : v3_10.toInt = 0 := (z_eq rfl (by decide : (0 : Int32).toInt = 0)).mp c55
                  refine dv_iload dX4_anyOf_60 0 rfl ?_
                  refine dv_if_eq (tgt := 69) dX4_anyOf_62 (by decide) (fun c57 => ?_) (fun c57 => ?_)
                  · skip
                    refine dv_iconst (v := 0) dX4_anyOf_69 (by decide) ?_
                    refine dv_istore_n (lv' := [(3, .int 0), (5, .int 0), (4, .int v4_10), (0, .ref kg), (1, .int 0), (2, .int ask)]) dX4_anyOf_70 rfl (by decide) rfl ?_
                    obtain ⟨x58, ex58⟩ : ∃ y : Int32, y = v4_10 + 1 := ⟨_, rfl⟩
                    have tx58 : x58.toInt = v4_10.toInt + 1 := by rw [ex58]; exact z_add rfl (by decide : (1 : Int32).toInt = 1) (by omega) (by omega)
                    refine dv_iinc (v := x58) (lv' := [(4, .int x58), (3, .int 0), (5, .int 0), (0, .ref kg), (1, .int 0), (2, .int ask)]) dX4_anyOf_71 (k := 2) rfl (by rw [ex58]; rfl) (by decide) rfl ?_
                    refine dv_goto (tgt := 10) dX4_anyOf_74 (by decide) ?_
                    refine dv_sub (loc2 := [(4, .int x58), (3, .int 0), (0, .ref kg), (1, .int 0), (2, .int ask)]) [0, 1, 3, 4, 5] rfl ?_
                    exact ih10 x58 (0 : Int32) ct48 (by omega) (by first | omega | decide | assumption) (by first | omega | decide | assumption) hI
                  · skip
                    exact absurd c57 (by decide)
            · skip
              have c47 : ¬ (ask.toInt = 0) := fun q => c47 ((z_eq rfl (by decide : (0 : Int32).toInt = 0)).mpr q)
              refine dv_iload_n dX4_anyOf_42 rfl 1 rfl ?_
              refine dv_if_ne (tgt := 50) dX4_anyOf_43 (by decide) (fun c59 => ?_) (fun c59 => ?_)
              · skip
                have c59 : ¬ (v3_10.toInt = 0) := fun q => c59 ((z_eq rfl (by decide : (0 : Int32).toInt = 0)).mpr q)
                refine dv_iconst (v := 0) dX4_anyOf_50 (by decide) ?_
                refine GW.callV (n := 2) (As := [.int 0, .int 0]) (rest := []) (b := kg) (k_X4_allOf_0 l g pe ct44 kg (0 : Int32) (by omega) hI) (fun _ h => h) rfl rfl ⟨by omega, pG_of (by omega)⟩ hs46 (q := (RX4, TX4, 11)) rfl mm_592 mm_594 mm_22 mm_58 mm_595 (by decide +kernel) ⟨Nat.le_of_ble_eq_true rfl, Nat.le_of_ble_eq_true rfl⟩ rfl (Nat.le_of_ble_eq_true rfl) dX4_anyOf_51 (Nat.zero_le _) (Nat.zero_le _) rfl (fun ct60 rrr61 hBr61 hoff62 => ?_)
                obtain ⟨r61, rfl, hr61, hI⟩ := hBr61
                refine GW.eq (S2 := [.int r61]) rfl rfl rfl ?_
                rcases hr61 with hr61 | hr61
                · skip
                  obtain rfl := hr61
                  refine dv_istore (lv' := [(5, .int 1), (4, .int v4_10), (3, .int v3_10), (0, .ref kg), (1, .int 0), (2, .int ask)]) dX4_anyOf_54 (by decide) rfl ?_
                  refine dv_iload_n dX4_anyOf_56 rfl 2 rfl ?_
                  refine dv_if_ne (tgt := 65) dX4_anyOf_57 (by decide) (fun c63 => ?_) (fun c63 => ?_)
                  · skip
                    have c63 : ¬ (v3_10.toInt = 0) := fun q => c63 ((z_eq rfl (by decide : (0 : Int32).toInt = 0)).mpr q)
                    refine dv_iconst (v := 1) dX4_anyOf_65 (by decide) ?_
                    refine dv_goto (tgt := 70) dX4_anyOf_66 (by decide) ?_
                    refine dv_istore_n (lv' := [(3, .int 1), (5, .int 1), (4, .int v4_10), (0, .ref kg), (1, .int 0), (2, .int ask)]) dX4_anyOf_70 rfl (by decide) rfl ?_
                    obtain ⟨x64, ex64⟩ : ∃ y : Int32, y = v4_10 + 1 := ⟨_, rfl⟩
                    have tx64 : x64.toInt = v4_10.toInt + 1 := by rw [ex64]; exact z_add rfl (by decide : (1 : Int32).toInt = 1) (by omega) (by omega)
                    refine dv_iinc (v := x64) (lv' := [(4, .int x64), (3, .int 1), (5, .int 1), (0, .ref kg), (1, .int 0), (2, .int ask)]) dX4_anyOf_71 (k := 2) rfl (by rw [ex64]; rfl) (by decide) rfl ?_
                    refine dv_goto (tgt := 10) dX4_anyOf_74 (by decide) ?_
                    refine dv_sub (loc2 := [(4, .int x64), (3, .int 1), (0, .ref kg), (1, .int 0), (2, .int ask)]) [0, 1, 3, 4, 5] rfl ?_
                    exact ih10 x64 (1 : Int32) ct60 (by omega) (by first | omega | decide | assumption) (by first | omega | decide | assumption) hI
                  · skip
                    have c63 : v3_10.toInt = 0 := (z_eq rfl (by decide : (0 : Int32).toInt = 0)).mp c63
                    exfalso
                    omega
                · skip
                  obtain rfl := hr61
                  refine dv_istore (lv' := [(5, .int 0), (4, .int v4_10), (3, .int v3_10), (0, .ref kg), (1, .int 0), (2, .int ask)]) dX4_anyOf_54 (by decide) rfl ?_
                  refine dv_iload_n dX4_anyOf_56 rfl 2 rfl ?_
                  refine dv_if_ne (tgt := 65) dX4_anyOf_57 (by decide) (fun c65 => ?_) (fun c65 => ?_)
                  · skip
                    have c65 : ¬ (v3_10.toInt = 0) := fun q => c65 ((z_eq rfl (by decide : (0 : Int32).toInt = 0)).mpr q)
                    refine dv_iconst (v := 1) dX4_anyOf_65 (by decide) ?_
                    refine dv_goto (tgt := 70) dX4_anyOf_66 (by decide) ?_
                    refine dv_istore_n (lv' := [(3, .int 1), (5, .int 0), (4, .int v4_10), (0, .ref kg), (1, .int 0), (2, .int ask)]) dX4_anyOf_70 rfl (by decide) rfl ?_
                    obtain ⟨x66, ex66⟩ : ∃ y : Int32, y = v4_10 + 1 := ⟨_, rfl⟩
                    have tx66 : x66.toInt = v4_10.toInt + 1 := by rw [ex66]; exact z_add rfl (by decide : (1 : Int32).toInt = 1) (by omega) (by omega)
                    refine dv_iinc (v := x66) (lv' := [(4, .int x66), (3, .int 1), (5, .int 0), (0, .ref kg), (1, .int 0), (2, .int ask)]) dX4_anyOf_71 (k := 2) rfl (by rw [ex66]; rfl) (by decide) rfl ?_
                    refine dv_goto (tgt := 10) dX4_anyOf_74 (by decide) ?_
                    refine dv_sub (loc2 := [(4, .int x66), (3, .int 1), (0, .ref kg), (1, .int 0), (2, .int ask)]) [0, 1, 3, 4, 5] rfl ?_
                    exact ih10 x66 (1 : Int32) ct60 (by omega) (by first | omega | decide | assumption) (by first | omega | decide | assumption) hI
                  · skip
                    have c65 : v3_10.toInt = 0 := (z_eq rfl (by decide : (0 : Int32).toInt = 0)).mp c65
                    exfalso
                    omega
              · skip
                have c59 : v3_10.toInt = 0 := (z_eq rfl (by decide : (0 : Int32).toInt = 0)).mp c59
                refine dv_iconst (v := 1) dX4_anyOf_46 (by decide) ?_
                refine dv_goto (tgt := 51) dX4_anyOf_47 (by decide) ?_
                refine GW.callV (n := 2) (As := [.int 0, .int 1]) (rest := []) (b := kg) (k_X4_allOf_0 l g pe ct44 kg (1 : Int32) (by omega) hI) (fun _ h => h) rfl rfl ⟨by omega, pG_of (by omega)⟩ hs46 (q := (RX4, TX4, 11)) rfl mm_592 mm_594 mm_22 mm_58 mm_595 (by decide +kernel) ⟨Nat.le_of_ble_eq_true rfl, Nat.le_of_ble_eq_true rfl⟩ rfl (Nat.le_of_ble_eq_true rfl) dX4_anyOf_51 (Nat.zero_le _) (Nat.zero_le _) rfl (fun ct67 rrr68 hBr68 hoff69 => ?_)
                obtain ⟨r68, rfl, hr68, hI⟩ := hBr68
                refine GW.eq (S2 := [.int r68]) rfl rfl rfl ?_
                rcases hr68 with hr68 | hr68
                · skip
                  obtain rfl := hr68
                  refine dv_istore (lv' := [(5, .int 1), (4, .int v4_10), (3, .int v3_10), (0, .ref kg), (1, .int 0), (2, .int ask)]) dX4_anyOf_54 (by decide) rfl ?_
                  refine dv_iload_n dX4_anyOf_56 rfl 2 rfl ?_
                  refine dv_if_ne (tgt := 65) dX4_anyOf_57 (by decide) (fun c70 => ?_) (fun c70 => ?_)
                  · skip
                    have c70 : ¬ (v3_10.toInt = 0) := fun q => c70 ((z_eq rfl (by decide : (0 : Int32).toInt = 0)).mpr q)
                    refine dv_iconst (v := 1) dX4_anyOf_65 (by decide) ?_
                    refine dv_goto (tgt := 70) dX4_anyOf_66 (by decide) ?_
                    refine dv_istore_n (lv' := [(3, .int 1), (5, .int 1), (4, .int v4_10), (0, .ref kg), (1, .int 0), (2, .int ask)]) dX4_anyOf_70 rfl (by decide) rfl ?_
                    obtain ⟨x71, ex71⟩ : ∃ y : Int32, y = v4_10 + 1 := ⟨_, rfl⟩
                    have tx71 : x71.toInt = v4_10.toInt + 1 := by rw [ex71]; exact z_add rfl (by decide : (1 : Int32).toInt = 1) (by omega) (by omega)
                    refine dv_iinc (v := x71) (lv' := [(4, .int x71), (3, .int 1), (5, .int 1), (0, .ref kg), (1, .int 0), (2, .int ask)]) dX4_anyOf_71 (k := 2) rfl (by rw [ex71]; rfl) (by decide) rfl ?_
                    refine dv_goto (tgt := 10) dX4_anyOf_74 (by decide) ?_
                    refine dv_sub (loc2 := [(4, .int x71), (3, .int 1), (0, .ref kg), (1, .int 0), (2, .int ask)]) [0, 1, 3, 4, 5] rfl ?_
                    exact ih10 x71 (1 : Int32) ct67 (by omega) (by first | omega | decide | assumption) (by first | omega | decide | assumption) hI
                  · skip
                    have c70 : v3_10.toInt = 0 := (z_eq rfl (by decide : (0 : Int32).toInt = 0)).mp c70
                    refine dv_iload dX4_anyOf_60 0 rfl ?_
                    refine dv_if_eq (tgt := 69) dX4_anyOf_62 (by decide) (fun c72 => ?_) (fun c72 => ?_)
                    · skip
                      exact absurd c72 (by decide)
                    · skip
                      refine dv_iconst (v := 1) dX4_anyOf_65 (by decide) ?_
                      refine dv_goto (tgt := 70) dX4_anyOf_66 (by decide) ?_
                      refine dv_istore_n (lv' := [(3, .int 1), (5, .int 1), (4, .int v4_10), (0, .ref kg), (1, .int 0), (2, .int ask)]) dX4_anyOf_70 rfl (by decide) rfl ?_
                      obtain ⟨x73, ex73⟩ : ∃ y : Int32, y = v4_10 + 1 := ⟨_, rfl⟩
                      have tx73 : x73.toInt = v4_10.toInt + 1 := by rw [ex73]; exact z_add rfl (by decide : (1 : Int32).toInt = 1) (by omega) (by omega)
                      refine dv_iinc (v := x73) (lv' := [(4, .int x73), (3, .int 1), (5, .int 1), (0, .ref kg), (1, .int 0), (2, .int ask)]) dX4_anyOf_71 (k := 2) rfl (by rw [ex73]; rfl) (by decide) rfl ?_
                      refine dv_goto (tgt := 10) dX4_anyOf_74 (by decide) ?_
                      refine dv_sub (loc2 := [(4, .int x73), (3, .int 1), (0, .ref kg), (1, .int 0), (2, .int ask)]) [0, 1, 3, 4, 5] rfl ?_
                      exact ih10 x73 (1 : Int32) ct67 (by omega) (by first | omega | decide | assumption) (by first | omega | decide | assumption) hI
                · skip
                  obtain rfl := hr68
                  refine dv_istore (lv' := [(5, .int 0), (4, .int v4_10), (3, .int v3_10), (0, .ref kg), (1, .int 0), (2, .int ask)]) dX4_anyOf_54 (by decide) rfl ?_
                  refine dv_iload_n dX4_anyOf_56 rfl 2 rfl ?_
                  refine dv_if_ne (tgt := 65) dX4_anyOf_57 (by decide) (fun c74 => ?_) (fun c74 => ?_)
                  · skip
                    have c74 : ¬ (v3_10.toInt = 0) := fun q => c74 ((z_eq rfl (by decide : (0 : Int32).toInt = 0)).mpr q)
                    refine dv_iconst (v := 1) dX4_anyOf_65 (by decide) ?_
                    refine dv_goto (tgt := 70) dX4_anyOf_66 (by decide) ?_
                    refine dv_istore_n (lv' := [(3, .int 1), (5, .int 0), (4, .int v4_10), (0, .ref kg), (1, .int 0), (2, .int ask)]) dX4_anyOf_70 rfl (by decide) rfl ?_
                    obtain ⟨x75, ex75⟩ : ∃ y : Int32, y = v4_10 + 1 := ⟨_, rfl⟩
                    have tx75 : x75.toInt = v4_10.toInt + 1 := by rw [ex75]; exact z_add rfl (by decide : (1 : Int32).toInt = 1) (by omega) (by omega)
                    refine dv_iinc (v := x75) (lv' := [(4, .int x75), (3, .int 1), (5, .int 0), (0, .ref kg), (1, .int 0), (2, .int ask)]) dX4_anyOf_71 (k := 2) rfl (by rw [ex75]; rfl) (by decide) rfl ?_
                    refine dv_goto (tgt := 10) dX4_anyOf_74 (by decide) ?_
                    refine dv_sub (loc2 := [(4, .int x75), (3, .int 1), (0, .ref kg), (1, .int 0), (2, .int ask)]) [0, 1, 3, 4, 5] rfl ?_
                    exact ih10 x75 (1 : Int32) ct67 (by omega) (by first | omega | decide | assumption) (by first | omega | decide | assumption) hI
                  · skip
                    have c74 : v3_10.toInt = 0 := (z_eq rfl (by decide : (0 : Int32).toInt = 0)).mp c74
                    refine dv_iload dX4_anyOf_60 0 rfl ?_
                    refine dv_if_eq (tgt := 69) dX4_anyOf_62 (by decide) (fun c76 => ?_) (fun c76 => ?_)
                    · skip
                      refine dv_iconst (v := 0) dX4_anyOf_69 (by decide) ?_
                      refine dv_istore_n (lv' := [(3, .int 0), (5, .int 0), (4, .int v4_10), (0, .ref kg), (1, .int 0), (2, .int ask)]) dX4_anyOf_70 rfl (by decide) rfl ?_
                      obtain ⟨x77, ex77⟩ : ∃ y : Int32, y = v4_10 + 1 := ⟨_, rfl⟩
                      have tx77 : x77.toInt = v4_10.toInt + 1 := by rw [ex77]; exact z_add rfl (by decide : (1 : Int32).toInt = 1) (by omega) (by omega)
                      refine dv_iinc (v := x77) (lv' := [(4, .int x77), (3, .int 0), (5, .int 0), (0, .ref kg), (1, .int 0), (2, .int ask)]) dX4_anyOf_71 (k := 2) rfl (by rw [ex77]; rfl) (by decide) rfl ?_
                      refine dv_goto (tgt := 10) dX4_anyOf_74 (by decide) ?_
                      refine dv_sub (loc2 := [(4, .int x77), (3, .int 0), (0, .ref kg), (1, .int 0), (2, .int ask)]) [0, 1, 3, 4, 5] rfl ?_
                      exact ih10 x77 (0 : Int32) ct67 (by omega) (by first | omega | decide | assumption) (by first | omega | decide | assumption) hI
                    · skip
                      exact absurd c76 (by decide)
    exact loop10 ((100 - (0 : Int32).toInt : Int).toNat + 1) (0 : Int32) (1 : Int32) ct1 (by omega) (by first | omega | decide | assumption) (by first | omega | decide | assumption) hI
  · skip
    obtain rfl := hr18
    refine dv_istore_n (lv' := [(3, .int 0), (0, .ref kg), (1, .int 0), (2, .int ask)]) dX4_anyOf_6 rfl (by decide) rfl ?_
    refine dv_iconst (v := 0) dX4_anyOf_7 (by decide) ?_
    refine dv_istore (lv' := [(4, .int 0), (3, .int 0), (0, .ref kg), (1, .int 0), (2, .int ask)]) dX4_anyOf_8 (by decide) rfl ?_
    have loop10 : ∀ (n10 : Nat) (v4_10 : Int32) (v3_10 : Int32) (ct78 : Nat → va_E), ((100 - v4_10.toInt : Int).toNat < n10) → (0 ≤ v4_10.toInt ∧ v4_10.toInt ≤ 100) → (0 ≤ v3_10.toInt ∧ v3_10.toInt ≤ 1) → (Inv8 g idn pe ct78) → GW l g pG pG false yX4_anyOf cX4_anyOf 6 (some .boolean) RX4 ({ frames := 25, cells := 0, slots := 0, locals := 625 }) K 0 0 ct78 10 [(4, .int v4_10), (3, .int v3_10), (0, .ref kg), (1, .int 0), (2, .int ask)] [] := by
      intro n10
      induction n10 with
      | zero =>
        intro v4_10 v3_10 ct78 hn10 b4_10 b3_10 hI
        exact absurd hn10 (Nat.not_lt_zero _)
      | succ n10 ih10 =>
        intro v4_10 v3_10 ct78 hn10 b4_10 b3_10 hI
        refine dv_iload dX4_anyOf_10 0 rfl ?_
        refine dv_bipush (v := 100) dX4_anyOf_12 (by decide) ?_
        refine dv_icmp_ge (tgt := 77) dX4_anyOf_14 (by decide) (fun c79 => ?_) (fun c79 => ?_)
        · skip
          have c79 : 100 ≤ v4_10.toInt := (z_le (by decide : (100 : Int32).toInt = 100) rfl).mp c79
          refine dv_iload_n dX4_anyOf_77 rfl 1 rfl ?_
          exact dv_zret dX4_anyOf_78 rfl (by rcases (z_01 (x := v3_10) (by omega) (by omega)) with q | q <;> rw [q] <;> rfl) (by first | exact Nat.zero_le _ | decide) (by first | exact Nat.zero_le _ | decide) (by subst hK; exact ⟨v3_10, rfl, (by first | exact Or.inl ⟨rfl, by omega⟩ | exact Or.inr ⟨rfl, by omega⟩ | exact Or.inl rfl | exact Or.inr rfl | exact Or.inl ⟨rfl, by omega, by omega⟩ | exact (z_01 (by omega) (by omega)).symm), hI⟩)
        · skip
          have c79 : ¬ (100 ≤ v4_10.toInt) := fun q => c79 ((z_le (by decide : (100 : Int32).toInt = 100) rfl).mpr q)
          refine dv_aload_n dX4_anyOf_17 rfl 2 rfl ?_
          obtain ⟨tld81, ofb82, hol83, flt84, fla85, ofl86, len87, atx88, ref89, hz90, h91, h92, h93, h94, hz95, hs80⟩ := a8_44 (kc := kg) (by omega) hI
          have bhz90 := z_b01 hz90
          have bhz95 := z_b01 hz95
          refine GW.callV (n := 0) (As := []) (rest := []) (b := kg) (k_X4_nextp l g pe ct78 kg tld81 ofb82 hol83 flt84 fla85 ofl86 len87 atx88 ref89 (by omega) hI hs80) (fun _ h => h) rfl rfl ⟨by omega, pG_of (by omega)⟩ hs80 (q := (RX4, TX4, 11)) rfl mm_600 mm_602 mm_24 mm_58 mm_603 (by decide +kernel) ⟨Nat.le_of_ble_eq_true rfl, Nat.le_of_ble_eq_true rfl⟩ rfl (Nat.le_of_ble_eq_true rfl) dX4_anyOf_18 (Nat.zero_le _) (Nat.zero_le _) rfl (fun ct96 rrr97 hBr97 hoff98 => ?_)
          obtain ⟨r97, rfl, hr97, rfl⟩ := hBr97
          refine GW.eq (S2 := [.int r97]) rfl rfl rfl ?_
          have h99 := hr97
          have h99 : nxp r97 atx88 := h99
          refine dv_bipush (v := 124) dX4_anyOf_21 (by decide) ?_
          refine dv_icmp_ne (tgt := 77) dX4_anyOf_23 (by decide) (fun c100 => ?_) (fun c100 => ?_)
          · skip
            have c100 : ¬ (r97.toInt = 124) := fun q => c100 ((z_eq rfl (by decide : (124 : Int32).toInt = 124)).mpr q)
            refine dv_iload_n dX4_anyOf_77 rfl 1 rfl ?_
            exact dv_zret dX4_anyOf_78 rfl (by rcases (z_01 (x := v3_10) (by omega) (by omega)) with q | q <;> rw [q] <;> rfl) (by first | exact Nat.zero_le _ | decide) (by first | exact Nat.zero_le _ | decide) (by subst hK; exact ⟨v3_10, rfl, (by first | exact Or.inl ⟨rfl, by omega⟩ | exact Or.inr ⟨rfl, by omega⟩ | exact Or.inl rfl | exact Or.inr rfl | exact Or.inl ⟨rfl, by omega, by omega⟩ | exact (z_01 (by omega) (by omega)).symm), hI⟩)
          · skip
            have c100 : r97.toInt = 124 := (z_eq rfl (by decide : (124 : Int32).toInt = 124)).mp c100
            refine dv_aload_n dX4_anyOf_26 rfl 2 rfl ?_
            refine dv_dup dX4_anyOf_27 rfl ?_
            refine dv_get (ci := 4) (v := .int atx88) (C := RX4) (T := TX4) (N := 11) ⟨by omega, pG_of (by omega)⟩ hs80 rfl inG4 9 (by decide) mm_228 rfl dX4_anyOf_28 ?_
            refine dv_iconst (v := 1) dX4_anyOf_31 (by decide) ?_
            refine dv_iadd dX4_anyOf_32 ?_
            refine dv_topi (fun x101 ex101 => ?_)
            have tx101 : x101.toInt = atx88.toInt + 1 := by rw [ex101]; exact z_add rfl (by decide : (1 : Int32).toInt = 1) (by omega) (by omega)
            have hat101 : atx88.toInt ≤ 99 := by first | exact nxp_use h99 (by omega)
            refine dv_put (ci := 4) (v := .int x101) (ty := .int) (C := RX4) (T := TX4) (N := 11) ⟨by omega, pG_of (by omega)⟩ hs80 rfl inG4 tyX4 tyX4_ok nmX4 9 (by decide) mm_228 rfl (by decide +kernel) (fun _ => rfl) (fun _ => rfl) (Nat.le_of_ble_eq_true rfl) dX4_anyOf_33 (en := .inr (4, [.int tld81, .int ofb82, .int hol83, .int flt84, .int fla85, .int ofl86, .ref (kg + 1), .ref (kg + 2), .int len87, .int x101, .int ref89])) rfl (fun ct102 ec103 => ?_)
            have hI : Inv8 g idn pe ct102 := by rw [ec103]; exact up8 hI (i8_44 (kc := kg) (by omega) ⟨(tld81 : Int32), (ofb82 : Int32), (hol83 : Int32), (flt84 : Int32), (fla85 : Int32), (ofl86 : Int32), (len87 : Int32), (x101 : Int32), (ref89 : Int32), hz90, (by first | omega | decide), (by first | omega | decide), (by first | omega | decide), (by first | omega | decide), hz95, rfl⟩)
            have hs104 : ct102 kg = .inr (4, [.int tld81, .int ofb82, .int hol83, .int flt84, .int fla85, .int ofl86, .ref (kg + 1), .ref (kg + 2), .int len87, .int x101, .int ref89]) := by rw [ec103]; exact va_up_self _ _ _
            refine dv_aload_n dX4_anyOf_36 rfl 2 rfl ?_
            refine dv_iload_n dX4_anyOf_37 rfl 3 rfl ?_
            refine dv_iload_n dX4_anyOf_38 rfl 4 rfl ?_
            refine dv_if_eq (tgt := 50) dX4_anyOf_39 (by decide) (fun c105 => ?_) (fun c105 => ?_)
            · skip
              have c105 : ask.toInt = 0 := (z_eq rfl (by decide : (0 : Int32).toInt = 0)).mp c105
              refine dv_iconst (v := 0) dX4_anyOf_50 (by decide) ?_
              refine GW.callV (n := 2) (As := [.int 0, .int 0]) (rest := []) (b := kg) (k_X4_allOf_0 l g pe ct102 kg (0 : Int32) (by omega) hI) (fun _ h => h) rfl rfl ⟨by omega, pG_of (by omega)⟩ hs104 (q := (RX4, TX4, 11)) rfl mm_592 mm_594 mm_22 mm_58 mm_595 (by decide +kernel) ⟨Nat.le_of_ble_eq_true rfl, Nat.le_of_ble_eq_true rfl⟩ rfl (Nat.le_of_ble_eq_true rfl) dX4_anyOf_51 (Nat.zero_le _) (Nat.zero_le _) rfl (fun ct106 rrr107 hBr107 hoff108 => ?_)
              obtain ⟨r107, rfl, hr107, hI⟩ := hBr107
              refine GW.eq (S2 := [.int r107]) rfl rfl rfl ?_
              rcases hr107 with hr107 | hr107
              · skip
                obtain rfl := hr107
                refine dv_istore (lv' := [(5, .int 1), (4, .int v4_10), (3, .int v3_10), (0, .ref kg), (1, .int 0), (2, .int ask)]) dX4_anyOf_54 (by decide) rfl ?_
                refine dv_iload_n dX4_anyOf_56 rfl 2 rfl ?_
                refine dv_if_ne (tgt := 65) dX4_anyOf_57 (by decide) (fun c109 => ?_) (fun c109 => ?_)
                · skip
                  have c109 : ¬ (v3_10.toInt = 0) := fun q => c109 ((z_eq rfl (by decide : (0 : Int32).toInt = 0)).mpr q)
                  refine dv_iconst (v := 1) dX4_anyOf_65 (by decide) ?_
                  refine dv_goto (tgt := 70) dX4_anyOf_66 (by decide) ?_
                  refine dv_istore_n (lv' := [(3, .int 1), (5, .int 1), (4, .int v4_10), (0, .ref kg), (1, .int 0), (2, .int ask)]) dX4_anyOf_70 rfl (by decide) rfl ?_
                  obtain ⟨x110, ex110⟩ : ∃ y : Int32, y = v4_10 + 1 := ⟨_, rfl⟩
                  have tx110 : x110.toInt = v4_10.toInt + 1 := by rw [ex110]; exact z_add rfl (by decide : (1 : Int32).toInt = 1) (by omega) (by omega)
                  refine dv_iinc (v := x110) (lv' := [(4, .int x110), (3, .int 1), (5, .int 1), (0, .ref kg), (1, .int 0), (2, .int ask)]) dX4_anyOf_71 (k := 2) rfl (by rw [ex110]; rfl) (by decide) rfl ?_
                  refine dv_goto (tgt := 10) dX4_anyOf_74 (by decide) ?_
                  refine dv_sub (loc2 := [(4, .int x110), (3, .int 1), (0, .ref kg), (1, .int 0), (2, .int ask)]) [0, 1, 3, 4, 5] rfl ?_
                  exact ih10 x110 (1 : Int32) ct106 (by omega) (by first | omega | decide | assumption) (by first | omega | decide | assumption) hI
                · skip
                  have c109 : v3_10.toInt = 0 := (z_eq rfl (by decide : (0 : Int32).toInt = 0)).mp c109
                  refine dv_iload dX4_anyOf_60 0 rfl ?_
                  refine dv_if_eq (tgt := 69) dX4_anyOf_62 (by decide) (fun c111 => ?_) (fun c111 => ?_)
                  · skip
                    exact absurd c111 (by decide)
                  · skip
                    refine dv_iconst (v := 1) dX4_anyOf_65 (by decide) ?_
                    refine dv_goto (tgt := 70) dX4_anyOf_66 (by decide) ?_
                    refine dv_istore_n (lv' := [(3, .int 1), (5, .int 1), (4, .int v4_10), (0, .ref kg), (1, .int 0), (2, .int ask)]) dX4_anyOf_70 rfl (by decide) rfl ?_
                    obtain ⟨x112, ex112⟩ : ∃ y : Int32, y = v4_10 + 1 := ⟨_, rfl⟩
                    have tx112 : x112.toInt = v4_10.toInt + 1 := by rw [ex112]; exact z_add rfl (by decide : (1 : Int32).toInt = 1) (by omega) (by omega)
                    refine dv_iinc (v := x112) (lv' := [(4, .int x112), (3, .int 1), (5, .int 1), (0, .ref kg), (1, .int 0), (2, .int ask)]) dX4_anyOf_71 (k := 2) rfl (by rw [ex112]; rfl) (by decide) rfl ?_
                    refine dv_goto (tgt := 10) dX4_anyOf_74 (by decide) ?_
                    refine dv_sub (loc2 := [(4, .int x112), (3, .int 1), (0, .ref kg), (1, .int 0), (2, .int ask)]) [0, 1, 3, 4, 5] rfl ?_
                    exact ih10 x112 (1 : Int32) ct106 (by omega) (by first | omega | decide | assumption) (by first | omega | decide | assumption) hI
              · skip
                obtain rfl := hr107
                refine dv_istore (lv' := [(5, .int 0), (4, .int v4_10), (3, .int v3_10), (0, .ref kg), (1, .int 0), (2, .int ask)]) dX4_anyOf_54 (by decide) rfl ?_
                refine dv_iload_n dX4_anyOf_56 rfl 2 rfl ?_
                refine dv_if_ne (tgt := 65) dX4_anyOf_57 (by decide) (fun c113 => ?_) (fun c113 => ?_)
                · skip
                  have c113 : ¬ (v3_10.toInt = 0) := fun q => c113 ((z_eq rfl (by decide : (0 : Int32).toInt = 0)).mpr q)
                  refine dv_iconst (v := 1) dX4_anyOf_65 (by decide) ?_
                  refine dv_goto (tgt := 70) dX4_anyOf_66 (by decide) ?_
                  refine dv_istore_n (lv' := [(3, .int 1), (5, .int 0), (4, .int v4_10), (0, .ref kg), (1, .int 0), (2, .int ask)]) dX4_anyOf_70 rfl (by decide) rfl ?_
                  obtain ⟨x114, ex114⟩ : ∃ y : Int32, y = v4_10 + 1 := ⟨_, rfl⟩
                  have tx114 : x114.toInt = v4_10.toInt + 1 := by rw [ex114]; exact z_add rfl (by decide : (1 : Int32).toInt = 1) (by omega) (by omega)
                  refine dv_iinc (v := x114) (lv' := [(4, .int x114), (3, .int 1), (5, .int 0), (0, .ref kg), (1, .int 0), (2, .int ask)]) dX4_anyOf_71 (k := 2) rfl (by rw [ex114]; rfl) (by decide) rfl ?_
                  refine dv_goto (tgt := 10) dX4_anyOf_74 (by decide) ?_
                  refine dv_sub (loc2 := [(4, .int x114), (3, .int 1), (0, .ref kg), (1, .int 0), (2, .int ask)]) [0, 1, 3, 4, 5] rfl ?_
                  exact ih10 x114 (1 : Int32) ct106 (by omega) (by first | omega | decide | assumption) (by first | omega | decide | assumption) hI
                · skip
                  have c113 : v3_10.toInt = 0 := (z_eq rfl (by decide : (0 : Int32).toInt = 0)).mp c113
                  refine dv_iload dX4_anyOf_60 0 rfl ?_
                  refine dv_if_eq (tgt := 69) dX4_anyOf_62 (by decide) (fun c115 => ?_) (fun c115 => ?_)
                  · skip
                    refine dv_iconst (v := 0) dX4_anyOf_69 (by decide) ?_
                    refine dv_istore_n (lv' := [(3, .int 0), (5, .int 0), (4, .int v4_10), (0, .ref kg), (1, .int 0), (2, .int ask)]) dX4_anyOf_70 rfl (by decide) rfl ?_
                    obtain ⟨x116, ex116⟩ : ∃ y : Int32, y = v4_10 + 1 := ⟨_, rfl⟩
                    have tx116 : x116.toInt = v4_10.toInt + 1 := by rw [ex116]; exact z_add rfl (by decide : (1 : Int32).toInt = 1) (by omega) (by omega)
                    refine dv_iinc (v := x116) (lv' := [(4, .int x116), (3, .int 0), (5, .int 0), (0, .ref kg), (1, .int 0), (2, .int ask)]) dX4_anyOf_71 (k := 2) rfl (by rw [ex116]; rfl) (by decide) rfl ?_
                    refine dv_goto (tgt := 10) dX4_anyOf_74 (by decide) ?_
                    refine dv_sub (loc2 := [(4, .int x116), (3, .int 0), (0, .ref kg), (1, .int 0), (2, .int ask)]) [0, 1, 3, 4, 5] rfl ?_
                    exact ih10 x116 (0 : Int32) ct106 (by omega) (by first | omega | decide | assumption) (by first | omega | decide | assumption) hI
                  · skip
                    exact absurd c115 (by decide)
            · skip
              have c105 : ¬ (ask.toInt = 0) := fun q => c105 ((z_eq rfl (by decide : (0 : Int32).toInt = 0)).mpr q)
              refine dv_iload_n dX4_anyOf_42 rfl 1 rfl ?_
              refine dv_if_ne (tgt := 50) dX4_anyOf_43 (by decide) (fun c117 => ?_) (fun c117 => ?_)
              · skip
                have c117 : ¬ (v3_10.toInt = 0) := fun q => c117 ((z_eq rfl (by decide : (0 : Int32).toInt = 0)).mpr q)
                refine dv_iconst (v := 0) dX4_anyOf_50 (by decide) ?_
                refine GW.callV (n := 2) (As := [.int 0, .int 0]) (rest := []) (b := kg) (k_X4_allOf_0 l g pe ct102 kg (0 : Int32) (by omega) hI) (fun _ h => h) rfl rfl ⟨by omega, pG_of (by omega)⟩ hs104 (q := (RX4, TX4, 11)) rfl mm_592 mm_594 mm_22 mm_58 mm_595 (by decide +kernel) ⟨Nat.le_of_ble_eq_true rfl, Nat.le_of_ble_eq_true rfl⟩ rfl (Nat.le_of_ble_eq_true rfl) dX4_anyOf_51 (Nat.zero_le _) (Nat.zero_le _) rfl (fun ct118 rrr119 hBr119 hoff120 => ?_)
                obtain ⟨r119, rfl, hr119, hI⟩ := hBr119
                refine GW.eq (S2 := [.int r119]) rfl rfl rfl ?_
                rcases hr119 with hr119 | hr119
                · skip
                  obtain rfl := hr119
                  refine dv_istore (lv' := [(5, .int 1), (4, .int v4_10), (3, .int v3_10), (0, .ref kg), (1, .int 0), (2, .int ask)]) dX4_anyOf_54 (by decide) rfl ?_
                  refine dv_iload_n dX4_anyOf_56 rfl 2 rfl ?_
                  refine dv_if_ne (tgt := 65) dX4_anyOf_57 (by decide) (fun c121 => ?_) (fun c121 => ?_)
                  · skip
                    have c121 : ¬ (v3_10.toInt = 0) := fun q => c121 ((z_eq rfl (by decide : (0 : Int32).toInt = 0)).mpr q)
                    refine dv_iconst (v := 1) dX4_anyOf_65 (by decide) ?_
                    refine dv_goto (tgt := 70) dX4_anyOf_66 (by decide) ?_
                    refine dv_istore_n (lv' := [(3, .int 1), (5, .int 1), (4, .int v4_10), (0, .ref kg), (1, .int 0), (2, .int ask)]) dX4_anyOf_70 rfl (by decide) rfl ?_
                    obtain ⟨x122, ex122⟩ : ∃ y : Int32, y = v4_10 + 1 := ⟨_, rfl⟩
                    have tx122 : x122.toInt = v4_10.toInt + 1 := by rw [ex122]; exact z_add rfl (by decide : (1 : Int32).toInt = 1) (by omega) (by omega)
                    refine dv_iinc (v := x122) (lv' := [(4, .int x122), (3, .int 1), (5, .int 1), (0, .ref kg), (1, .int 0), (2, .int ask)]) dX4_anyOf_71 (k := 2) rfl (by rw [ex122]; rfl) (by decide) rfl ?_
                    refine dv_goto (tgt := 10) dX4_anyOf_74 (by decide) ?_
                    refine dv_sub (loc2 := [(4, .int x122), (3, .int 1), (0, .ref kg), (1, .int 0), (2, .int ask)]) [0, 1, 3, 4, 5] rfl ?_
                    exact ih10 x122 (1 : Int32) ct118 (by omega) (by first | omega | decide | assumption) (by first | omega | decide | assumption) hI
                  · skip
                    have c121 : v3_10.toInt = 0 := (z_eq rfl (by decide : (0 : Int32).toInt = 0)).mp c121
                    exfalso
                    omega
                · skip
                  obtain rfl := hr119
                  refine dv_istore (lv' := [(5, .int 0), (4, .int v4_10), (3, .int v3_10), (0, .ref kg), (1, .int 0), (2, .int ask)]) dX4_anyOf_54 (by decide) rfl ?_
                  refine dv_iload_n dX4_anyOf_56 rfl 2 rfl ?_
                  refine dv_if_ne (tgt := 65) dX4_anyOf_57 (by decide) (fun c123 => ?_) (fun c123 => ?_)
                  · skip
                    have c123 : ¬ (v3_10.toInt = 0) := fun q => c123 ((z_eq rfl (by decide : (0 : Int32).toInt = 0)).mpr q)
                    refine dv_iconst (v := 1) dX4_anyOf_65 (by decide) ?_
                    refine dv_goto (tgt := 70) dX4_anyOf_66 (by decide) ?_
                    refine dv_istore_n (lv' := [(3, .int 1), (5, .int 0), (4, .int v4_10), (0, .ref kg), (1, .int 0), (2, .int ask)]) dX4_anyOf_70 rfl (by decide) rfl ?_
                    obtain ⟨x124, ex124⟩ : ∃ y : Int32, y = v4_10 + 1 := ⟨_, rfl⟩
                    have tx124 : x124.toInt = v4_10.toInt + 1 := by rw [ex124]; exact z_add rfl (by decide : (1 : Int32).toInt = 1) (by omega) (by omega)
                    refine dv_iinc (v := x124) (lv' := [(4, .int x124), (3, .int 1), (5, .int 0), (0, .ref kg), (1, .int 0), (2, .int ask)]) dX4_anyOf_71 (k := 2) rfl (by rw [ex124]; rfl) (by decide) rfl ?_
                    refine dv_goto (tgt := 10) dX4_anyOf_74 (by decide) ?_
                    refine dv_sub (loc2 := [(4, .int x124), (3, .int 1), (0, .ref kg), (1, .int 0), (2, .int ask)]) [0, 1, 3, 4, 5] rfl ?_
                    exact ih10 x124 (1 : Int32) ct118 (by omega) (by first | omega | decide | assumption) (by first | omega | decide | assumption) hI
                  · skip
                    have c123 : v3_10.toInt = 0 := (z_eq rfl (by decide : (0 : Int32).toInt = 0)).mp c123
                    exfalso
                    omega
              · skip
                have c117 : v3_10.toInt = 0 := (z_eq rfl (by decide : (0 : Int32).toInt = 0)).mp c117
                refine dv_iconst (v := 1) dX4_anyOf_46 (by decide) ?_
                refine dv_goto (tgt := 51) dX4_anyOf_47 (by decide) ?_
                refine GW.callV (n := 2) (As := [.int 0, .int 1]) (rest := []) (b := kg) (k_X4_allOf_0 l g pe ct102 kg (1 : Int32) (by omega) hI) (fun _ h => h) rfl rfl ⟨by omega, pG_of (by omega)⟩ hs104 (q := (RX4, TX4, 11)) rfl mm_592 mm_594 mm_22 mm_58 mm_595 (by decide +kernel) ⟨Nat.le_of_ble_eq_true rfl, Nat.le_of_ble_eq_true rfl⟩ rfl (Nat.le_of_ble_eq_true rfl) dX4_anyOf_51 (Nat.zero_le _) (Nat.zero_le _) rfl (fun ct125 rrr126 hBr126 hoff127 => ?_)
                obtain ⟨r126, rfl, hr126, hI⟩ := hBr126
                refine GW.eq (S2 := [.int r126]) rfl rfl rfl ?_
                rcases hr126 with hr126 | hr126
                · skip
                  obtain rfl := hr126
                  refine dv_istore (lv' := [(5, .int 1), (4, .int v4_10), (3, .int v3_10), (0, .ref kg), (1, .int 0), (2, .int ask)]) dX4_anyOf_54 (by decide) rfl ?_
                  refine dv_iload_n dX4_anyOf_56 rfl 2 rfl ?_
                  refine dv_if_ne (tgt := 65) dX4_anyOf_57 (by decide) (fun c128 => ?_) (fun c128 => ?_)
                  · skip
                    have c128 : ¬ (v3_10.toInt = 0) := fun q => c128 ((z_eq rfl (by decide : (0 : Int32).toInt = 0)).mpr q)
                    refine dv_iconst (v := 1) dX4_anyOf_65 (by decide) ?_
                    refine dv_goto (tgt := 70) dX4_anyOf_66 (by decide) ?_
                    refine dv_istore_n (lv' := [(3, .int 1), (5, .int 1), (4, .int v4_10), (0, .ref kg), (1, .int 0), (2, .int ask)]) dX4_anyOf_70 rfl (by decide) rfl ?_
                    obtain ⟨x129, ex129⟩ : ∃ y : Int32, y = v4_10 + 1 := ⟨_, rfl⟩
                    have tx129 : x129.toInt = v4_10.toInt + 1 := by rw [ex129]; exact z_add rfl (by decide : (1 : Int32).toInt = 1) (by omega) (by omega)
                    refine dv_iinc (v := x129) (lv' := [(4, .int x129), (3, .int 1), (5, .int 1), (0, .ref kg), (1, .int 0), (2, .int ask)]) dX4_anyOf_71 (k := 2) rfl (by rw [ex129]; rfl) (by decide) rfl ?_
                    refine dv_goto (tgt := 10) dX4_anyOf_74 (by decide) ?_
                    refine dv_sub (loc2 := [(4, .int x129), (3, .int 1), (0, .ref kg), (1, .int 0), (2, .int ask)]) [0, 1, 3, 4, 5] rfl ?_
                    exact ih10 x129 (1 : Int32) ct125 (by omega) (by first | omega | decide | assumption) (by first | omega | decide | assumption) hI
                  · skip
                    have c128 : v3_10.toInt = 0 := (z_eq rfl (by decide : (0 : Int32).toInt = 0)).mp c128
                    refine dv_iload dX4_anyOf_60 0 rfl ?_
                    refine dv_if_eq (tgt := 69) dX4_anyOf_62 (by decide) (fun c130 => ?_) (fun c130 => ?_)
                    · skip
                      exact absurd c130 (by decide)
                    · skip
                      refine dv_iconst (v := 1) dX4_anyOf_65 (by decide) ?_
                      refine dv_goto (tgt := 70) dX4_anyOf_66 (by decide) ?_
                      refine dv_istore_n (lv' := [(3, .int 1), (5, .int 1), (4, .int v4_10), (0, .ref kg), (1, .int 0), (2, .int ask)]) dX4_anyOf_70 rfl (by decide) rfl ?_
                      obtain ⟨x131, ex131⟩ : ∃ y : Int32, y = v4_10 + 1 := ⟨_, rfl⟩
                      have tx131 : x131.toInt = v4_10.toInt + 1 := by rw [ex131]; exact z_add rfl (by decide : (1 : Int32).toInt = 1) (by omega) (by omega)
                      refine dv_iinc (v := x131) (lv' := [(4, .int x131), (3, .int 1), (5, .int 1), (0, .ref kg), (1, .int 0), (2, .int ask)]) dX4_anyOf_71 (k := 2) rfl (by rw [ex131]; rfl) (by decide) rfl ?_
                      refine dv_goto (tgt := 10) dX4_anyOf_74 (by decide) ?_
                      refine dv_sub (loc2 := [(4, .int x131), (3, .int 1), (0, .ref kg), (1, .int 0), (2, .int ask)]) [0, 1, 3, 4, 5] rfl ?_
                      exact ih10 x131 (1 : Int32) ct125 (by omega) (by first | omega | decide | assumption) (by first | omega | decide | assumption) hI
                · skip
                  obtain rfl := hr126
                  refine dv_istore (lv' := [(5, .int 0), (4, .int v4_10), (3, .int v3_10), (0, .ref kg), (1, .int 0), (2, .int ask)]) dX4_anyOf_54 (by decide) rfl ?_
                  refine dv_iload_n dX4_anyOf_56 rfl 2 rfl ?_
                  refine dv_if_ne (tgt := 65) dX4_anyOf_57 (by decide) (fun c132 => ?_) (fun c132 => ?_)
                  · skip
                    have c132 : ¬ (v3_10.toInt = 0) := fun q => c132 ((z_eq rfl (by decide : (0 : Int32).toInt = 0)).mpr q)
                    refine dv_iconst (v := 1) dX4_anyOf_65 (by decide) ?_
                    refine dv_goto (tgt := 70) dX4_anyOf_66 (by decide) ?_
                    refine dv_istore_n (lv' := [(3, .int 1), (5, .int 0), (4, .int v4_10), (0, .ref kg), (1, .int 0), (2, .int ask)]) dX4_anyOf_70 rfl (by decide) rfl ?_
                    obtain ⟨x133, ex133⟩ : ∃ y : Int32, y = v4_10 + 1 := ⟨_, rfl⟩
                    have tx133 : x133.toInt = v4_10.toInt + 1 := by rw [ex133]; exact z_add rfl (by decide : (1 : Int32).toInt = 1) (by omega) (by omega)
                    refine dv_iinc (v := x133) (lv' := [(4, .int x133), (3, .int 1), (5, .int 0), (0, .ref kg), (1, .int 0), (2, .int ask)]) dX4_anyOf_71 (k := 2) rfl (by rw [ex133]; rfl) (by decide) rfl ?_
                    refine dv_goto (tgt := 10) dX4_anyOf_74 (by decide) ?_
                    refine dv_sub (loc2 := [(4, .int x133), (3, .int 1), (0, .ref kg), (1, .int 0), (2, .int ask)]) [0, 1, 3, 4, 5] rfl ?_
                    exact ih10 x133 (1 : Int32) ct125 (by omega) (by first | omega | decide | assumption) (by first | omega | decide | assumption) hI
                  · skip
                    have c132 : v3_10.toInt = 0 := (z_eq rfl (by decide : (0 : Int32).toInt = 0)).mp c132
                    refine dv_iload dX4_anyOf_60 0 rfl ?_
                    refine dv_if_eq (tgt := 69) dX4_anyOf_62 (by decide) (fun c134 => ?_) (fun c134 => ?_)
                    · skip
                      refine dv_iconst (v := 0) dX4_anyOf_69 (by decide) ?_
                      refine dv_istore_n (lv' := [(3, .int 0), (5, .int 0), (4, .int v4_10), (0, .ref kg), (1, .int 0), (2, .int ask)]) dX4_anyOf_70 rfl (by decide) rfl ?_
                      obtain ⟨x135, ex135⟩ : ∃ y : Int32, y = v4_10 + 1 := ⟨_, rfl⟩
                      have tx135 : x135.toInt = v4_10.toInt + 1 := by rw [ex135]; exact z_add rfl (by decide : (1 : Int32).toInt = 1) (by omega) (by omega)
                      refine dv_iinc (v := x135) (lv' := [(4, .int x135), (3, .int 0), (5, .int 0), (0, .ref kg), (1, .int 0), (2, .int ask)]) dX4_anyOf_71 (k := 2) rfl (by rw [ex135]; rfl) (by decide) rfl ?_
                      refine dv_goto (tgt := 10) dX4_anyOf_74 (by decide) ?_
                      refine dv_sub (loc2 := [(4, .int x135), (3, .int 0), (0, .ref kg), (1, .int 0), (2, .int ask)]) [0, 1, 3, 4, 5] rfl ?_
                      exact ih10 x135 (0 : Int32) ct125 (by omega) (by first | omega | decide | assumption) (by first | omega | decide | assumption) hI
                    · skip
                      exact absurd c134 (by decide)
    exact loop10 ((100 - (0 : Int32).toInt : Int).toNat + 1) (0 : Int32) (0 : Int32) ct1 (by omega) (by first | omega | decide | assumption) (by first | omega | decide | assumption) hI
