set_option maxHeartbeats 4000000 in
set_option maxRecDepth 100000 in
theorem k_X4_allOf_0 (l : Launch) (g : zG) (pe : Int32) (ct : Nat → va_E) (kg : Nat) (ask : Int32) (hf_kg : 99 ≤ kg ∧ kg < 126 ∧ (kg - 99) % 3 = 0) (hI : Inv8 g idn pe ct) : DM l g pG false yX4_allOf cX4_allOf 6 (some .boolean) ({ frames := 24, cells := 0, slots := 0, locals := 600 }) (fun (ct2 : Nat → va_E) (rr : Option Value) => ∃ (r : Int32), rr = some (.int r) ∧ ((r = 1) ∨ (r = 0)) ∧ Inv8 g idn pe ct2) ct [.ref kg, .int 0, .int ask] := by
  refine DM.K (fun K hK => ?_)
  refine GW.met (own := RX4) (loc := [(0, .ref kg), (1, .int 0), (2, .int ask)]) (by decide) rfl rfl (Nat.le_of_ble_eq_true rfl) ?_
  have hpe0 := hI.1
  have rg_ask := z_rng ask
  refine dv_aload_n dX4_allOf_0 rfl 0 rfl ?_
  refine dv_iload_n dX4_allOf_1 rfl 1 rfl ?_
  refine dv_iload_n dX4_allOf_2 rfl 2 rfl ?_
  obtain ⟨tld3, ofb4, hol5, flt6, fla7, ofl8, len9, atx10, ref11, hz12, h13, h14, h15, h16, hz17, hs2⟩ := a8_44 (kc := kg) (by omega) hI
  have bhz12 := z_b01 hz12
  have bhz17 := z_b01 hz17
  refine GW.callV (n := 2) (As := [.int 0, .int ask]) (rest := []) (b := kg) (k_X4_piece_0 l g pe ct kg ask (by omega) hI) (fun _ h => h) rfl rfl ⟨by omega, pG_of (by omega)⟩ hs2 (q := (RX4, TX4, 11)) rfl mm_596 mm_598 mm_23 mm_58 mm_599 (by decide +kernel) ⟨Nat.le_of_ble_eq_true rfl, Nat.le_of_ble_eq_true rfl⟩ rfl (Nat.le_of_ble_eq_true rfl) dX4_allOf_3 (Nat.zero_le _) (Nat.zero_le _) rfl (fun ct1 rrr18 hBr18 hoff19 => ?_)
  obtain ⟨r18, rfl, hr18, hI⟩ := hBr18
  refine GW.eq (S2 := [.int r18]) rfl rfl rfl ?_
  rcases hr18 with hr18 | hr18
  · skip
    obtain rfl := hr18
    refine dv_istore_n (lv' := [(3, .int 1), (0, .ref kg), (1, .int 0), (2, .int ask)]) dX4_allOf_6 rfl (by decide) rfl ?_
    refine dv_iconst (v := 0) dX4_allOf_7 (by decide) ?_
    refine dv_istore (lv' := [(4, .int 0), (3, .int 1), (0, .ref kg), (1, .int 0), (2, .int ask)]) dX4_allOf_8 (by decide) rfl ?_
    have loop10 : ∀ (n10 : Nat) (v4_10 : Int32) (v3_10 : Int32) (ct20 : Nat → va_E), ((100 - v4_10.toInt : Int).toNat < n10) → (0 ≤ v4_10.toInt ∧ v4_10.toInt ≤ 100) → (0 ≤ v3_10.toInt ∧ v3_10.toInt ≤ 1) → (Inv8 g idn pe ct20) → GW l g pG pG false yX4_allOf cX4_allOf 6 (some .boolean) RX4 ({ frames := 24, cells := 0, slots := 0, locals := 600 }) K 0 0 ct20 10 [(4, .int v4_10), (3, .int v3_10), (0, .ref kg), (1, .int 0), (2, .int ask)] [] := by
      intro n10
      induction n10 with
      | zero =>
        intro v4_10 v3_10 ct20 hn10 b4_10 b3_10 hI
        exact absurd hn10 (Nat.not_lt_zero _)
      | succ n10 ih10 =>
        intro v4_10 v3_10 ct20 hn10 b4_10 b3_10 hI
        refine dv_iload dX4_allOf_10 0 rfl ?_
        refine dv_bipush (v := 100) dX4_allOf_12 (by decide) ?_
        refine dv_icmp_ge (tgt := 77) dX4_allOf_14 (by decide) (fun c21 => ?_) (fun c21 => ?_)
        · skip
          have c21 : 100 ≤ v4_10.toInt := (z_le (by decide : (100 : Int32).toInt = 100) rfl).mp c21
          refine dv_iload_n dX4_allOf_77 rfl 1 rfl ?_
          exact dv_zret dX4_allOf_78 rfl (by rcases (z_01 (x := v3_10) (by omega) (by omega)) with q | q <;> rw [q] <;> rfl) (by first | exact Nat.zero_le _ | decide) (by first | exact Nat.zero_le _ | decide) (by subst hK; exact ⟨v3_10, rfl, (by first | exact Or.inl ⟨rfl, by omega⟩ | exact Or.inr ⟨rfl, by omega⟩ | exact Or.inl rfl | exact Or.inr rfl | exact Or.inl ⟨rfl, by omega, by omega⟩ | exact (z_01 (by omega) (by omega)).symm), hI⟩)
        · skip
          have c21 : ¬ (100 ≤ v4_10.toInt) := fun q => c21 ((z_le (by decide : (100 : Int32).toInt = 100) rfl).mpr q)
          refine dv_aload_n dX4_allOf_17 rfl 2 rfl ?_
          obtain ⟨tld23, ofb24, hol25, flt26, fla27, ofl28, len29, atx30, ref31, hz32, h33, h34, h35, h36, hz37, hs22⟩ := a8_44 (kc := kg) (by omega) hI
          have bhz32 := z_b01 hz32
          have bhz37 := z_b01 hz37
          refine GW.callV (n := 0) (As := []) (rest := []) (b := kg) (k_X4_nextp l g pe ct20 kg tld23 ofb24 hol25 flt26 fla27 ofl28 len29 atx30 ref31 (by omega) hI hs22) (fun _ h => h) rfl rfl ⟨by omega, pG_of (by omega)⟩ hs22 (q := (RX4, TX4, 11)) rfl mm_600 mm_602 mm_24 mm_58 mm_603 (by decide +kernel) ⟨Nat.le_of_ble_eq_true rfl, Nat.le_of_ble_eq_true rfl⟩ rfl (Nat.le_of_ble_eq_true rfl) dX4_allOf_18 (Nat.zero_le _) (Nat.zero_le _) rfl (fun ct38 rrr39 hBr39 hoff40 => ?_)
          obtain ⟨r39, rfl, hr39, rfl⟩ := hBr39
          refine GW.eq (S2 := [.int r39]) rfl rfl rfl ?_
          have h41 := hr39
          have h41 : nxp r39 atx30 := h41
          refine dv_bipush (v := 38) dX4_allOf_21 (by decide) ?_
          refine dv_icmp_ne (tgt := 77) dX4_allOf_23 (by decide) (fun c42 => ?_) (fun c42 => ?_)
          · skip
            have c42 : ¬ (r39.toInt = 38) := fun q => c42 ((z_eq rfl (by decide : (38 : Int32).toInt = 38)).mpr q)
            refine dv_iload_n dX4_allOf_77 rfl 1 rfl ?_
            exact dv_zret dX4_allOf_78 rfl (by rcases (z_01 (x := v3_10) (by omega) (by omega)) with q | q <;> rw [q] <;> rfl) (by first | exact Nat.zero_le _ | decide) (by first | exact Nat.zero_le _ | decide) (by subst hK; exact ⟨v3_10, rfl, (by first | exact Or.inl ⟨rfl, by omega⟩ | exact Or.inr ⟨rfl, by omega⟩ | exact Or.inl rfl | exact Or.inr rfl | exact Or.inl ⟨rfl, by omega, by omega⟩ | exact (z_01 (by omega) (by omega)).symm), hI⟩)
          · skip
            have c42 : r39.toInt = 38 := (z_eq rfl (by decide : (38 : Int32).toInt = 38)).mp c42
            refine dv_aload_n dX4_allOf_26 rfl 2 rfl ?_
            refine dv_dup dX4_allOf_27 rfl ?_
            refine dv_get (ci := 4) (v := .int atx30) (C := RX4) (T := TX4) (N := 11) ⟨by omega, pG_of (by omega)⟩ hs22 rfl inG4 9 (by decide) mm_228 rfl dX4_allOf_28 ?_
            refine dv_iconst (v := 1) dX4_allOf_31 (by decide) ?_
            refine dv_iadd dX4_allOf_32 ?_
            refine dv_topi (fun x43 ex43 => ?_)
            have tx43 : x43.toInt = atx30.toInt + 1 := by rw [ex43]; exact z_add rfl (by decide : (1 : Int32).toInt = 1) (by omega) (by omega)
            have hat43 : atx30.toInt ≤ 99 := by first | exact nxp_use h41 (by omega)
            refine dv_put (ci := 4) (v := .int x43) (ty := .int) (C := RX4) (T := TX4) (N := 11) ⟨by omega, pG_of (by omega)⟩ hs22 rfl inG4 tyX4 tyX4_ok nmX4 9 (by decide) mm_228 rfl (by decide +kernel) (fun _ => rfl) (fun _ => rfl) (Nat.le_of_ble_eq_true rfl) dX4_allOf_33 (en := .inr (4, [.int tld23, .int ofb24, .int hol25, .int flt26, .int fla27, .int ofl28, .ref (kg + 1), .ref (kg + 2), .int len29, .int x43, .int ref31])) rfl (fun ct44 ec45 => ?_)
            have hI : Inv8 g idn pe ct44 := by rw [ec45]; exact up8 hI (i8_44 (kc := kg) (by omega) ⟨(tld23 : Int32), (ofb24 : Int32), (hol25 : Int32), (flt26 : Int32), (fla27 : Int32), (ofl28 : Int32), (len29 : Int32), (x43 : Int32), (ref31 : Int32), hz32, (by first | omega | decide), (by first | omega | decide), (by first | omega | decide), (by first | omega | decide), hz37, rfl⟩)
            have hs46 : ct44 kg = .inr (4, [.int tld23, .int ofb24, .int hol25, .int flt26, .int fla27, .int ofl28, .ref (kg + 1), .ref (kg + 2), .int len29, .int x43, .int ref31]) := by rw [ec45]; exact va_up_self _ _ _
            refine dv_aload_n dX4_allOf_36 rfl 2 rfl ?_
            refine dv_iload_n dX4_allOf_37 rfl 3 rfl ?_
            refine dv_iload_n dX4_allOf_38 rfl 4 rfl ?_
            refine dv_if_eq (tgt := 50) dX4_allOf_39 (by decide) (fun c47 => ?_) (fun c47 => ?_)
            · skip
              have c47 : ask.toInt = 0 := (z_eq rfl (by decide : (0 : Int32).toInt = 0)).mp c47
              refine dv_iconst (v := 0) dX4_allOf_50 (by decide) ?_
              refine GW.callV (n := 2) (As := [.int 0, .int 0]) (rest := []) (b := kg) (k_X4_piece_0 l g pe ct44 kg (0 : Int32) (by omega) hI) (fun _ h => h) rfl rfl ⟨by omega, pG_of (by omega)⟩ hs46 (q := (RX4, TX4, 11)) rfl mm_596 mm_598 mm_23 mm_58 mm_599 (by decide +kernel) ⟨Nat.le_of_ble_eq_true rfl, Nat.le_of_ble_eq_true rfl⟩ rfl (Nat.le_of_ble_eq_true rfl) dX4_allOf_51 (Nat.zero_le _) (Nat.zero_le _) rfl (fun ct48 rrr49 hBr49 hoff50 => ?_)
              obtain ⟨r49, rfl, hr49, hI⟩ := hBr49
              refine GW.eq (S2 := [.int r49]) rfl rfl rfl ?_
              rcases hr49 with hr49 | hr49
              · skip
                obtain rfl := hr49
                refine dv_istore (lv' := [(5, .int 1), (4, .int v4_10), (3, .int v3_10), (0, .ref kg), (1, .int 0), (2, .int ask)]) dX4_allOf_54 (by decide) rfl ?_
                refine dv_iload_n dX4_allOf_56 rfl 2 rfl ?_
                refine dv_if_eq (tgt := 69) dX4_allOf_57 (by decide) (fun c51 => ?_) (fun c51 => ?_)
                · skip
                  have c51 : v3_10.toInt = 0 := (z_eq rfl (by decide : (0 : Int32).toInt = 0)).mp c51
                  refine dv_iconst (v := 0) dX4_allOf_69 (by decide) ?_
                  refine dv_istore_n (lv' := [(3, .int 0), (5, .int 1), (4, .int v4_10), (0, .ref kg), (1, .int 0), (2, .int ask)]) dX4_allOf_70 rfl (by decide) rfl ?_
                  obtain ⟨x52, ex52⟩ : ∃ y : Int32, y = v4_10 + 1 := ⟨_, rfl⟩
                  have tx52 : x52.toInt = v4_10.toInt + 1 := by rw [ex52]; exact z_add rfl (by decide : (1 : Int32).toInt = 1) (by omega) (by omega)
                  refine dv_iinc (v := x52) (lv' := [(4, .int x52), (3, .int 0), (5, .int 1), (0, .ref kg), (1, .int 0), (2, .int ask)]) dX4_allOf_71 (k := 2) rfl (by rw [ex52]; rfl) (by decide) rfl ?_
                  refine dv_goto (tgt := 10) dX4_allOf_74 (by decide) ?_
                  refine dv_sub (loc2 := [(4, .int x52), (3, .int 0), (0, .ref kg), (1, .int 0), (2, .int ask)]) [0, 1, 3, 4, 5] rfl ?_
                  exact ih10 x52 (0 : Int32) ct48 (by omega) (by first | omega | decide | assumption) (by first | omega | decide | assumption) hI
                · skip
                  have c51 : ¬ (v3_10.toInt = 0) := fun q => c51 ((z_eq rfl (by decide : (0 : Int32).toInt = 0)).mpr q)
                  refine dv_iload dX4_allOf_60 0 rfl ?_
                  refine dv_if_eq (tgt := 69) dX4_allOf_62 (by decide) (fun c53 => ?_) (fun c53 => ?_)
                  · skip
                    exact absurd c53 (by decide)
                  · skip
                    refine dv_iconst (v := 1) dX4_allOf_65 (by decide) ?_
                    refine dv_goto (tgt := 70) dX4_allOf_66 (by decide) ?_
                    refine dv_istore_n (lv' := [(3, .int 1), (5, .int 1), (4, .int v4_10), (0, .ref kg), (1, .int 0), (2, .int ask)]) dX4_allOf_70 rfl (by decide) rfl ?_
                    obtain ⟨x54, ex54⟩ : ∃ y : Int32, y = v4_10 + 1 := ⟨_, rfl⟩
                    have tx54 : x54.toInt = v4_10.toInt + 1 := by rw [ex54]; exact z_add rfl (by decide : (1 : Int32).toInt = 1) (by omega) (by omega)
                    refine dv_iinc (v := x54) (lv' := [(4, .int x54), (3, .int 1), (5, .int 1), (0, .ref kg), (1, .int 0), (2, .int ask)]) dX4_allOf_71 (k := 2) rfl (by rw [ex54]; rfl) (by decide) rfl ?_
                    refine dv_goto (tgt := 10) dX4_allOf_74 (by decide) ?_
                    refine dv_sub (loc2 := [(4, .int x54), (3, .int 1), (0, .ref kg), (1, .int 0), (2, .int ask)]) [0, 1, 3, 4, 5] rfl ?_
                    exact ih10 x54 (1 : Int32) ct48 (by omega) (by first | omega | decide | assumption) (by first | omega | decide | assumption) hI
              · skip
                obtain rfl := hr49
                refine dv_istore (lv' := [(5, .int 0), (4, .int v4_10), (3, .int v3_10), (0, .ref kg), (1, .int 0), (2, .int ask)]) dX4_allOf_54 (by decide) rfl ?_
                refine dv_iload_n dX4_allOf_56 rfl 2 rfl ?_
                refine dv_if_eq (tgt := 69) dX4_allOf_57 (by decide) (fun c55 => ?_) (fun c55 => ?_)
                · skip
                  have c55 : v3_10.toInt = 0 := (z_eq rfl (by decide : (0 : Int32).toInt = 0)).mp c55
                  refine dv_iconst (v := 0) dX4_allOf_69 (by decide) ?_
                  refine dv_istore_n (lv' := [(3, .int 0), (5, .int 0), (4, .int v4_10), (0, .ref kg), (1, .int 0), (2, .int ask)]) dX4_allOf_70 rfl (by decide) rfl ?_
                  obtain ⟨x56, ex56⟩ : ∃ y : Int32, y = v4_10 + 1 := ⟨_, rfl⟩
                  have tx56 : x56.toInt = v4_10.toInt + 1 := by rw [ex56]; exact z_add rfl (by decide : (1 : Int32).toInt = 1) (by omega) (by omega)
                  refine dv_iinc (v := x56) (lv' := [(4, .int x56), (3, .int 0), (5, .int 0), (0, .ref kg), (1, .int 0), (2, .int ask)]) dX4_allOf_71 (k := 2) rfl (by rw [ex56]; rfl) (by decide) rfl ?_
                  refine dv_goto (tgt := 10) dX4_allOf_74 (by decide) ?_
                  refine dv_sub (loc2 := [(4, .int x56), (3, .int 0), (0, .ref kg), (1, .int 0), (2, .int ask)]) [0, 1, 3, 4, 5] rfl ?_
                  exact ih10 x56 (0 : Int32) ct48 (by omega) (by first | omega | decide | assumption) (by first | omega | decide | assumption) hI
                · skip
                  have c55 : ¬ (v3_10.toInt = 0) := fun q => c55 ((z_eq rfl (by decide : (0 : Int32).toInt = 0)).mpr q)
                  refine dv_iload dX4_allOf_60 0 rfl ?_
                  refine dv_if_eq (tgt := 69) dX4_allOf_62 (by decide) (fun c57 => ?_) (fun c57 => ?_)
                  · skip
                    refine dv_iconst (v := 0) dX4_allOf_69 (by decide) ?_
                    refine dv_istore_n (lv' := [(3, .int 0), (5, .int 0), (4, .int v4_10), (0, .ref kg), (1, .int 0), (2, .int ask)]) dX4_allOf_70 rfl (by decide) rfl ?_
                    obtain ⟨x58, ex58⟩ : ∃ y : Int32, y = v4_10 + 1 := ⟨_, rfl⟩
                    have tx58 : x58.toInt = v4_10.toInt + 1 := by rw [ex58]; exact z_add rfl (by decide : (1 : Int32).toInt = 1) (by omega) (by omega)
                    refine dv_iinc (v := x58) (lv' := [(4, .int x58), (3, .int 0), (5, .int 0), (0, .ref kg), (1, .int 0), (2, .int ask)]) dX4_allOf_71 (k := 2) rfl (by rw [ex58]; rfl) (by decide) rfl ?_
                    refine dv_goto (tgt := 10) dX4_allOf_74 (by decide) ?_
                    refine dv_sub (loc2 := [(4, .int x58), (3, .int 0), (0, .ref kg), (1, .int 0), (2, .int ask)]) [0, 1, 3, 4, 5] rfl ?_
                    exact ih10 x58 (0 : Int32) ct48 (by omega) (by first | omega | decide | assumption) (by first | omega | decide | assumption) hI
                  · skip
                    exact absurd c57 (by decide)
            · skip
              have c47 : ¬ (ask.toInt = 0) := fun q => c47 ((z_eq rfl (by decide : (0 : Int32).toInt = 0)).mpr q)
              refine dv_iload_n dX4_allOf_42 rfl 1 rfl ?_
              refine dv_if_eq (tgt := 50) dX4_allOf_43 (by decide) (fun c59 => ?_) (fun c59 => ?_)
              · skip
                have c59 : v3_10.toInt = 0 := (z_eq rfl (by decide : (0 : Int32).toInt = 0)).mp c59
                refine dv_iconst (v := 0) dX4_allOf_50 (by decide) ?_
                refine GW.callV (n := 2) (As := [.int 0, .int 0]) (rest := []) (b := kg) (k_X4_piece_0 l g pe ct44 kg (0 : Int32) (by omega) hI) (fun _ h => h) rfl rfl ⟨by omega, pG_of (by omega)⟩ hs46 (q := (RX4, TX4, 11)) rfl mm_596 mm_598 mm_23 mm_58 mm_599 (by decide +kernel) ⟨Nat.le_of_ble_eq_true rfl, Nat.le_of_ble_eq_true rfl⟩ rfl (Nat.le_of_ble_eq_true rfl) dX4_allOf_51 (Nat.zero_le _) (Nat.zero_le _) rfl (fun ct60 rrr61 hBr61 hoff62 => ?_)
                obtain ⟨r61, rfl, hr61, hI⟩ := hBr61
                refine GW.eq (S2 := [.int r61]) rfl rfl rfl ?_
                rcases hr61 with hr61 | hr61
                · skip
                  obtain rfl := hr61
                  refine dv_istore (lv' := [(5, .int 1), (4, .int v4_10), (3, .int v3_10), (0, .ref kg), (1, .int 0), (2, .int ask)]) dX4_allOf_54 (by decide) rfl ?_
                  refine dv_iload_n dX4_allOf_56 rfl 2 rfl ?_
                  refine dv_if_eq (tgt := 69) dX4_allOf_57 (by decide) (fun c63 => ?_) (fun c63 => ?_)
                  · skip
                    have c63 : v3_10.toInt = 0 := (z_eq rfl (by decide : (0 : Int32).toInt = 0)).mp c63
                    refine dv_iconst (v := 0) dX4_allOf_69 (by decide) ?_
                    refine dv_istore_n (lv' := [(3, .int 0), (5, .int 1), (4, .int v4_10), (0, .ref kg), (1, .int 0), (2, .int ask)]) dX4_allOf_70 rfl (by decide) rfl ?_
                    obtain ⟨x64, ex64⟩ : ∃ y : Int32, y = v4_10 + 1 := ⟨_, rfl⟩
                    have tx64 : x64.toInt = v4_10.toInt + 1 := by rw [ex64]; exact z_add rfl (by decide : (1 : Int32).toInt = 1) (by omega) (by omega)
                    refine dv_iinc (v := x64) (lv' := [(4, .int x64), (3, .int 0), (5, .int 1), (0, .ref kg), (1, .int 0), (2, .int ask)]) dX4_allOf_71 (k := 2) rfl (by rw [ex64]; rfl) (by decide) rfl ?_
                    refine dv_goto (tgt := 10) dX4_allOf_74 (by decide) ?_
                    refine dv_sub (loc2 := [(4, .int x64), (3, .int 0), (0, .ref kg), (1, .int 0), (2, .int ask)]) [0, 1, 3, 4, 5] rfl ?_
                    exact ih10 x64 (0 : Int32) ct60 (by omega) (by first | omega | decide | assumption) (by first | omega | decide | assumption) hI
                  · skip
                    have c63 : ¬ (v3_10.toInt = 0) := fun q => c63 ((z_eq rfl (by decide : (0 : Int32).toInt = 0)).mpr q)
                    refine dv_iload dX4_allOf_60 0 rfl ?_
                    refine dv_if_eq (tgt := 69) dX4_allOf_62 (by decide) (fun c65 => ?_) (fun c65 => ?_)
                    · skip
                      exact absurd c65 (by decide)
                    · skip
                      refine dv_iconst (v := 1) dX4_allOf_65 (by decide) ?_
                      refine dv_goto (tgt := 70) dX4_allOf_66 (by decide) ?_
                      refine dv_istore_n (lv' := [(3, .int 1), (5, .int 1), (4, .int v4_10), (0, .ref kg), (1, .int 0), (2, .int ask)]) dX4_allOf_70 rfl (by decide) rfl ?_
                      obtain ⟨x66, ex66⟩ : ∃ y : Int32, y = v4_10 + 1 := ⟨_, rfl⟩
                      have tx66 : x66.toInt = v4_10.toInt + 1 := by rw [ex66]; exact z_add rfl (by decide : (1 : Int32).toInt = 1) (by omega) (by omega)
                      refine dv_iinc (v := x66) (lv' := [(4, .int x66), (3, .int 1), (5, .int 1), (0, .ref kg), (1, .int 0), (2, .int ask)]) dX4_allOf_71 (k := 2) rfl (by rw [ex66]; rfl) (by decide) rfl ?_
                      refine dv_goto (tgt := 10) dX4_allOf_74 (by decide) ?_
                      refine dv_sub (loc2 := [(4, .int x66), (3, .int 1), (0, .ref kg), (1, .int 0), (2, .int ask)]) [0, 1, 3, 4, 5] rfl ?_
                      exact ih10 x66 (1 : Int32) ct60 (by omega) (by first | omega | decide | assumption) (by first | omega | decide | assumption) hI
                · skip
                  obtain rfl := hr61
                  refine dv_istore (lv' := [(5, .int 0), (4, .int v4_10), (3, .int v3_10), (0, .ref kg), (1, .int 0), (2, .int ask)]) dX4_allOf_54 (by decide) rfl ?_
                  refine dv_iload_n dX4_allOf_56 rfl 2 rfl ?_
                  refine dv_if_eq (tgt := 69) dX4_allOf_57 (by decide) (fun c67 => ?_) (fun c67 => ?_)
                  · skip
                    have c67 : v3_10.toInt = 0 := (z_eq rfl (by decide : (0 : Int32).toInt = 0)).mp c67
                    refine dv_iconst (v := 0) dX4_allOf_69 (by decide) ?_
                    refine dv_istore_n (lv' := [(3, .int 0), (5, .int 0), (4, .int v4_10), (0, .ref kg), (1, .int 0), (2, .int ask)]) dX4_allOf_70 rfl (by decide) rfl ?_
                    obtain ⟨x68, ex68⟩ : ∃ y : Int32, y = v4_10 + 1 := ⟨_, rfl⟩
                    have tx68 : x68.toInt = v4_10.toInt + 1 := by rw [ex68]; exact z_add rfl (by decide : (1 : Int32).toInt = 1) (by omega) (by omega)
                    refine dv_iinc (v := x68) (lv' := [(4, .int x68), (3, .int 0), (5, .int 0), (0, .ref kg), (1, .int 0), (2, .int ask)]) dX4_allOf_71 (k := 2) rfl (by rw [ex68]; rfl) (by decide) rfl ?_
                    refine dv_goto (tgt := 10) dX4_allOf_74 (by decide) ?_
                    refine dv_sub (loc2 := [(4, .int x68), (3, .int 0), (0, .ref kg), (1, .int 0), (2, .int ask)]) [0, 1, 3, 4, 5] rfl ?_
                    exact ih10 x68 (0 : Int32) ct60 (by omega) (by first | omega | decide | assumption) (by first | omega | decide | assumption) hI
                  · skip
                    have c67 : ¬ (v3_10.toInt = 0) := fun q => c67 ((z_eq rfl (by decide : (0 : Int32).toInt = 0)).mpr q)
                    refine dv_iload dX4_allOf_60 0 rfl ?_
                    refine dv_if_eq (tgt := 69) dX4_allOf_62 (by decide) (fun c69 => ?_) (fun c69 => ?_)
                    · skip
                      refine dv_iconst (v := 0) dX4_allOf_69 (by decide) ?_
                      refine dv_istore_n (lv' := [(3, .int 0), (5, .int 0), (4, .int v4_10), (0, .ref kg), (1, .int 0), (2, .int ask)]) dX4_allOf_70 rfl (by decide) rfl ?_
                      obtain ⟨x70, ex70⟩ : ∃ y : Int32, y = v4_10 + 1 := ⟨_, rfl⟩
                      have tx70 : x70.toInt = v4_10.toInt + 1 := by rw [ex70]; exact z_add rfl (by decide : (1 : Int32).toInt = 1) (by omega) (by omega)
                      refine dv_iinc (v := x70) (lv' := [(4, .int x70), (3, .int 0), (5, .int 0), (0, .ref kg), (1, .int 0), (2, .int ask)]) dX4_allOf_71 (k := 2) rfl (by rw [ex70]; rfl) (by decide) rfl ?_
                      refine dv_goto (tgt := 10) dX4_allOf_74 (by decide) ?_
                      refine dv_sub (loc2 := [(4, .int x70), (3, .int 0), (0, .ref kg), (1, .int 0), (2, .int ask)]) [0, 1, 3, 4, 5] rfl ?_
                      exact ih10 x70 (0 : Int32) ct60 (by omega) (by first | omega | decide | assumption) (by first | omega | decide | assumption) hI
                    · skip
                      exact absurd c69 (by decide)
              · skip
                have c59 : ¬ (v3_10.toInt = 0) := fun q => c59 ((z_eq rfl (by decide : (0 : Int32).toInt = 0)).mpr q)
                refine dv_iconst (v := 1) dX4_allOf_46 (by decide) ?_
                refine dv_goto (tgt := 51) dX4_allOf_47 (by decide) ?_
                refine GW.callV (n := 2) (As := [.int 0, .int 1]) (rest := []) (b := kg) (k_X4_piece_0 l g pe ct44 kg (1 : Int32) (by omega) hI) (fun _ h => h) rfl rfl ⟨by omega, pG_of (by omega)⟩ hs46 (q := (RX4, TX4, 11)) rfl mm_596 mm_598 mm_23 mm_58 mm_599 (by decide +kernel) ⟨Nat.le_of_ble_eq_true rfl, Nat.le_of_ble_eq_true rfl⟩ rfl (Nat.le_of_ble_eq_true rfl) dX4_allOf_51 (Nat.zero_le _) (Nat.zero_le _) rfl (fun ct71 rrr72 hBr72 hoff73 => ?_)
                obtain ⟨r72, rfl, hr72, hI⟩ := hBr72
                refine GW.eq (S2 := [.int r72]) rfl rfl rfl ?_
                rcases hr72 with hr72 | hr72
                · skip
                  obtain rfl := hr72
                  refine dv_istore (lv' := [(5, .int 1), (4, .int v4_10), (3, .int v3_10), (0, .ref kg), (1, .int 0), (2, .int ask)]) dX4_allOf_54 (by decide) rfl ?_
                  refine dv_iload_n dX4_allOf_56 rfl 2 rfl ?_
                  refine dv_if_eq (tgt := 69) dX4_allOf_57 (by decide) (fun c74 => ?_) (fun c74 => ?_)
                  · skip
                    have c74 : v3_10.toInt = 0 := (z_eq rfl (by decide : (0 : Int32).toInt = 0)).mp c74
                    exfalso
                    omega
                  · skip
                    have c74 : ¬ (v3_10.toInt = 0) := fun q => c74 ((z_eq rfl (by decide : (0 : Int32).toInt = 0)).mpr q)
                    refine dv_iload dX4_allOf_60 0 rfl ?_
                    refine dv_if_eq (tgt := 69) dX4_allOf_62 (by decide) (fun c75 => ?_) (fun c75 => ?_)
                    · skip
                      exact absurd c75 (by decide)
                    · skip
                      refine dv_iconst (v := 1) dX4_allOf_65 (by decide) ?_
                      refine dv_goto (tgt := 70) dX4_allOf_66 (by decide) ?_
                      refine dv_istore_n (lv' := [(3, .int 1), (5, .int 1), (4, .int v4_10), (0, .ref kg), (1, .int 0), (2, .int ask)]) dX4_allOf_70 rfl (by decide) rfl ?_
                      obtain ⟨x76, ex76⟩ : ∃ y : Int32, y = v4_10 + 1 := ⟨_, rfl⟩
                      have tx76 : x76.toInt = v4_10.toInt + 1 := by rw [ex76]; exact z_add rfl (by decide : (1 : Int32).toInt = 1) (by omega) (by omega)
                      refine dv_iinc (v := x76) (lv' := [(4, .int x76), (3, .int 1), (5, .int 1), (0, .ref kg), (1, .int 0), (2, .int ask)]) dX4_allOf_71 (k := 2) rfl (by rw [ex76]; rfl) (by decide) rfl ?_
                      refine dv_goto (tgt := 10) dX4_allOf_74 (by decide) ?_
                      refine dv_sub (loc2 := [(4, .int x76), (3, .int 1), (0, .ref kg), (1, .int 0), (2, .int ask)]) [0, 1, 3, 4, 5] rfl ?_
                      exact ih10 x76 (1 : Int32) ct71 (by omega) (by first | omega | decide | assumption) (by first | omega | decide | assumption) hI
                · skip
                  obtain rfl := hr72
                  refine dv_istore (lv' := [(5, .int 0), (4, .int v4_10), (3, .int v3_10), (0, .ref kg), (1, .int 0), (2, .int ask)]) dX4_allOf_54 (by decide) rfl ?_
                  refine dv_iload_n dX4_allOf_56 rfl 2 rfl ?_
                  refine dv_if_eq (tgt := 69) dX4_allOf_57 (by decide) (fun c77 => ?_) (fun c77 => ?_)
                  · skip
                    have c77 : v3_10.toInt = 0 := (z_eq rfl (by decide : (0 : Int32).toInt = 0)).mp c77
                    exfalso
                    omega
                  · skip
                    have c77 : ¬ (v3_10.toInt = 0) := fun q => c77 ((z_eq rfl (by decide : (0 : Int32).toInt = 0)).mpr q)
                    refine dv_iload dX4_allOf_60 0 rfl ?_
                    refine dv_if_eq (tgt := 69) dX4_allOf_62 (by decide) (fun c78 => ?_) (fun c78 => ?_)
                    · skip
                      refine dv_iconst (v := 0) dX4_allOf_69 (by decide) ?_
                      refine dv_istore_n (lv' := [(3, .int 0), (5, .int 0), (4, .int v4_10), (0, .ref kg), (1, .int 0), (2, .int ask)]) dX4_allOf_70 rfl (by decide) rfl ?_
                      obtain ⟨x79, ex79⟩ : ∃ y : Int32, y = v4_10 + 1 := ⟨_, rfl⟩
                      have tx79 : x79.toInt = v4_10.toInt + 1 := by rw [ex79]; exact z_add rfl (by decide : (1 : Int32).toInt = 1) (by omega) (by omega)
                      refine dv_iinc (v := x79) (lv' := [(4, .int x79), (3, .int 0), (5, .int 0), (0, .ref kg), (1, .int 0), (2, .int ask)]) dX4_allOf_71 (k := 2) rfl (by rw [ex79]; rfl) (by decide) rfl ?_
                      refine dv_goto (tgt := 10) dX4_allOf_74 (by decide) ?_
                      refine dv_sub (loc2 := [(4, .int x79), (3, .int 0), (0, .ref kg), (1, .int 0), (2, .int ask)]) [0, 1, 3, 4, 5] rfl ?_
                      exact ih10 x79 (0 : Int32) ct71 (by omega) (by first | omega | decide | assumption) (by first | omega | decide | assumption) hI
                    · skip
                      exact absurd c78 (by decide)
    exact loop10 ((100 - (0 : Int32).toInt : Int).toNat + 1) (0 : Int32) (1 : Int32) ct1 (by omega) (by first | omega | decide | assumption) (by first | omega | decide | assumption) hI
  · skip
    obtain rfl := hr18
    refine dv_istore_n (lv' := [(3, .int 0), (0, .ref kg), (1, .int 0), (2, .int ask)]) dX4_allOf_6 rfl (by decide) rfl ?_
    refine dv_iconst (v := 0) dX4_allOf_7 (by decide) ?_
    refine dv_istore (lv' := [(4, .int 0), (3, .int 0), (0, .ref kg), (1, .int 0), (2, .int ask)]) dX4_allOf_8 (by decide) rfl ?_
    have loop10 : ∀ (n10 : Nat) (v4_10 : Int32) (v3_10 : Int32) (ct80 : Nat → va_E), ((100 - v4_10.toInt : Int).toNat < n10) → (0 ≤ v4_10.toInt ∧ v4_10.toInt ≤ 100) → (0 ≤ v3_10.toInt ∧ v3_10.toInt ≤ 1) → (Inv8 g idn pe ct80) → GW l g pG pG false yX4_allOf cX4_allOf 6 (some .boolean) RX4 ({ frames := 24, cells := 0, slots := 0, locals := 600 }) K 0 0 ct80 10 [(4, .int v4_10), (3, .int v3_10), (0, .ref kg), (1, .int 0), (2, .int ask)] [] := by
      intro n10
      induction n10 with
      | zero =>
        intro v4_10 v3_10 ct80 hn10 b4_10 b3_10 hI
        exact absurd hn10 (Nat.not_lt_zero _)
      | succ n10 ih10 =>
        intro v4_10 v3_10 ct80 hn10 b4_10 b3_10 hI
        refine dv_iload dX4_allOf_10 0 rfl ?_
        refine dv_bipush (v := 100) dX4_allOf_12 (by decide) ?_
        refine dv_icmp_ge (tgt := 77) dX4_allOf_14 (by decide) (fun c81 => ?_) (fun c81 => ?_)
        · skip
          have c81 : 100 ≤ v4_10.toInt := (z_le (by decide : (100 : Int32).toInt = 100) rfl).mp c81
          refine dv_iload_n dX4_allOf_77 rfl 1 rfl ?_
          exact dv_zret dX4_allOf_78 rfl (by rcases (z_01 (x := v3_10) (by omega) (by omega)) with q | q <;> rw [q] <;> rfl) (by first | exact Nat.zero_le _ | decide) (by first | exact Nat.zero_le _ | decide) (by subst hK; exact ⟨v3_10, rfl, (by first | exact Or.inl ⟨rfl, by omega⟩ | exact Or.inr ⟨rfl, by omega⟩ | exact Or.inl rfl | exact Or.inr rfl | exact Or.inl ⟨rfl, by omega, by omega⟩ | exact (z_01 (by omega) (by omega)).symm), hI⟩)
        · skip
          have c81 : ¬ (100 ≤ v4_10.toInt) := fun q => c81 ((z_le (by decide : (100 : Int32).toInt = 100) rfl).mpr q)
          refine dv_aload_n dX4_allOf_17 rfl 2 rfl ?_
          obtain ⟨tld83, ofb84, hol85, flt86, fla87, ofl88, len89, atx90, ref91, hz92, h93, h94, h95, h96, hz97, hs82⟩ := a8_44 (kc := kg) (by omega) hI
          have bhz92 := z_b01 hz92
          have bhz97 := z_b01 hz97
          refine GW.callV (n := 0) (As := []) (rest := []) (b := kg) (k_X4_nextp l g pe ct80 kg tld83 ofb84 hol85 flt86 fla87 ofl88 len89 atx90 ref91 (by omega) hI hs82) (fun _ h => h) rfl rfl ⟨by omega, pG_of (by omega)⟩ hs82 (q := (RX4, TX4, 11)) rfl mm_600 mm_602 mm_24 mm_58 mm_603 (by decide +kernel) ⟨Nat.le_of_ble_eq_true rfl, Nat.le_of_ble_eq_true rfl⟩ rfl (Nat.le_of_ble_eq_true rfl) dX4_allOf_18 (Nat.zero_le _) (Nat.zero_le _) rfl (fun ct98 rrr99 hBr99 hoff100 => ?_)
          obtain ⟨r99, rfl, hr99, rfl⟩ := hBr99
          refine GW.eq (S2 := [.int r99]) rfl rfl rfl ?_
          have h101 := hr99
          have h101 : nxp r99 atx90 := h101
          refine dv_bipush (v := 38) dX4_allOf_21 (by decide) ?_
          refine dv_icmp_ne (tgt := 77) dX4_allOf_23 (by decide) (fun c102 => ?_) (fun c102 => ?_)
          · skip
            have c102 : ¬ (r99.toInt = 38) := fun q => c102 ((z_eq rfl (by decide : (38 : Int32).toInt = 38)).mpr q)
            refine dv_iload_n dX4_allOf_77 rfl 1 rfl ?_
            exact dv_zret dX4_allOf_78 rfl (by rcases (z_01 (x := v3_10) (by omega) (by omega)) with q | q <;> rw [q] <;> rfl) (by first | exact Nat.zero_le _ | decide) (by first | exact Nat.zero_le _ | decide) (by subst hK; exact ⟨v3_10, rfl, (by first | exact Or.inl ⟨rfl, by omega⟩ | exact Or.inr ⟨rfl, by omega⟩ | exact Or.inl rfl | exact Or.inr rfl | exact Or.inl ⟨rfl, by omega, by omega⟩ | exact (z_01 (by omega) (by omega)).symm), hI⟩)
          · skip
            have c102 : r99.toInt = 38 := (z_eq rfl (by decide : (38 : Int32).toInt = 38)).mp c102
            refine dv_aload_n dX4_allOf_26 rfl 2 rfl ?_
            refine dv_dup dX4_allOf_27 rfl ?_
            refine dv_get (ci := 4) (v := .int atx90) (C := RX4) (T := TX4) (N := 11) ⟨by omega, pG_of (by omega)⟩ hs82 rfl inG4 9 (by decide) mm_228 rfl dX4_allOf_28 ?_
            refine dv_iconst (v := 1) dX4_allOf_31 (by decide) ?_
            refine dv_iadd dX4_allOf_32 ?_
            refine dv_topi (fun x103 ex103 => ?_)
            have tx103 : x103.toInt = atx90.toInt + 1 := by rw [ex103]; exact z_add rfl (by decide : (1 : Int32).toInt = 1) (by omega) (by omega)
            have hat103 : atx90.toInt ≤ 99 := by first | exact nxp_use h101 (by omega)
            refine dv_put (ci := 4) (v := .int x103) (ty := .int) (C := RX4) (T := TX4) (N := 11) ⟨by omega, pG_of (by omega)⟩ hs82 rfl inG4 tyX4 tyX4_ok nmX4 9 (by decide) mm_228 rfl (by decide +kernel) (fun _ => rfl) (fun _ => rfl) (Nat.le_of_ble_eq_true rfl) dX4_allOf_33 (en := .inr (4, [.int tld83, .int ofb84, .int hol85, .int flt86, .int fla87, .int ofl88, .ref (kg + 1), .ref (kg + 2), .int len89, .int x103, .int ref91])) rfl (fun ct104 ec105 => ?_)
            have hI : Inv8 g idn pe ct104 := by rw [ec105]; exact up8 hI (i8_44 (kc := kg) (by omega) ⟨(tld83 : Int32), (ofb84 : Int32), (hol85 : Int32), (flt86 : Int32), (fla87 : Int32), (ofl88 : Int32), (len89 : Int32), (x103 : Int32), (ref91 : Int32), hz92, (by first | omega | decide), (by first | omega | decide), (by first | omega | decide), (by first | omega | decide), hz97, rfl⟩)
            have hs106 : ct104 kg = .inr (4, [.int tld83, .int ofb84, .int hol85, .int flt86, .int fla87, .int ofl88, .ref (kg + 1), .ref (kg + 2), .int len89, .int x103, .int ref91]) := by rw [ec105]; exact va_up_self _ _ _
            refine dv_aload_n dX4_allOf_36 rfl 2 rfl ?_
            refine dv_iload_n dX4_allOf_37 rfl 3 rfl ?_
            refine dv_iload_n dX4_allOf_38 rfl 4 rfl ?_
            refine dv_if_eq (tgt := 50) dX4_allOf_39 (by decide) (fun c107 => ?_) (fun c107 => ?_)
            · skip
              have c107 : ask.toInt = 0 := (z_eq rfl (by decide : (0 : Int32).toInt = 0)).mp c107
              refine dv_iconst (v := 0) dX4_allOf_50 (by decide) ?_
              refine GW.callV (n := 2) (As := [.int 0, .int 0]) (rest := []) (b := kg) (k_X4_piece_0 l g pe ct104 kg (0 : Int32) (by omega) hI) (fun _ h => h) rfl rfl ⟨by omega, pG_of (by omega)⟩ hs106 (q := (RX4, TX4, 11)) rfl mm_596 mm_598 mm_23 mm_58 mm_599 (by decide +kernel) ⟨Nat.le_of_ble_eq_true rfl, Nat.le_of_ble_eq_true rfl⟩ rfl (Nat.le_of_ble_eq_true rfl) dX4_allOf_51 (Nat.zero_le _) (Nat.zero_le _) rfl (fun ct108 rrr109 hBr109 hoff110 => ?_)
              obtain ⟨r109, rfl, hr109, hI⟩ := hBr109
              refine GW.eq (S2 := [.int r109]) rfl rfl rfl ?_
              rcases hr109 with hr109 | hr109
              · skip
                obtain rfl := hr109
                refine dv_istore (lv' := [(5, .int 1), (4, .int v4_10), (3, .int v3_10), (0, .ref kg), (1, .int 0), (2, .int ask)]) dX4_allOf_54 (by decide) rfl ?_
                refine dv_iload_n dX4_allOf_56 rfl 2 rfl ?_
                refine dv_if_eq (tgt := 69) dX4_allOf_57 (by decide) (fun c111 => ?_) (fun c111 => ?_)
                · skip
                  have c111 : v3_10.toInt = 0 := (z_eq rfl (by decide : (0 : Int32).toInt = 0)).mp c111
                  refine dv_iconst (v := 0) dX4_allOf_69 (by decide) ?_
                  refine dv_istore_n (lv' := [(3, .int 0), (5, .int 1), (4, .int v4_10), (0, .ref kg), (1, .int 0), (2, .int ask)]) dX4_allOf_70 rfl (by decide) rfl ?_
                  obtain ⟨x112, ex112⟩ : ∃ y : Int32, y = v4_10 + 1 := ⟨_, rfl⟩
                  have tx112 : x112.toInt = v4_10.toInt + 1 := by rw [ex112]; exact z_add rfl (by decide : (1 : Int32).toInt = 1) (by omega) (by omega)
                  refine dv_iinc (v := x112) (lv' := [(4, .int x112), (3, .int 0), (5, .int 1), (0, .ref kg), (1, .int 0), (2, .int ask)]) dX4_allOf_71 (k := 2) rfl (by rw [ex112]; rfl) (by decide) rfl ?_
                  refine dv_goto (tgt := 10) dX4_allOf_74 (by decide) ?_
                  refine dv_sub (loc2 := [(4, .int x112), (3, .int 0), (0, .ref kg), (1, .int 0), (2, .int ask)]) [0, 1, 3, 4, 5] rfl ?_
                  exact ih10 x112 (0 : Int32) ct108 (by omega) (by first | omega | decide | assumption) (by first | omega | decide | assumption) hI
                · skip
                  have c111 : ¬ (v3_10.toInt = 0) := fun q => c111 ((z_eq rfl (by decide : (0 : Int32).toInt = 0)).mpr q)
                  refine dv_iload dX4_allOf_60 0 rfl ?_
                  refine dv_if_eq (tgt := 69) dX4_allOf_62 (by decide) (fun c113 => ?_) (fun c113 => ?_)
                  · skip
                    exact absurd c113 (by decide)
                  · skip
                    refine dv_iconst (v := 1) dX4_allOf_65 (by decide) ?_
                    refine dv_goto (tgt := 70) dX4_allOf_66 (by decide) ?_
                    refine dv_istore_n (lv' := [(3, .int 1), (5, .int 1), (4, .int v4_10), (0, .ref kg), (1, .int 0), (2, .int ask)]) dX4_allOf_70 rfl (by decide) rfl ?_
                    obtain ⟨x114, ex114⟩ : ∃ y : Int32, y = v4_10 + 1 := ⟨_, rfl⟩
                    have tx114 : x114.toInt = v4_10.toInt + 1 := by rw [ex114]; exact z_add rfl (by decide : (1 : Int32).toInt = 1) (by omega) (by omega)
                    refine dv_iinc (v := x114) (lv' := [(4, .int x114), (3, .int 1), (5, .int 1), (0, .ref kg), (1, .int 0), (2, .int ask)]) dX4_allOf_71 (k := 2) rfl (by rw [ex114]; rfl) (by decide) rfl ?_
                    refine dv_goto (tgt := 10) dX4_allOf_74 (by decide) ?_
                    refine dv_sub (loc2 := [(4, .int x114), (3, .int 1), (0, .ref kg), (1, .int 0), (2, .int ask)]) [0, 1, 3, 4, 5] rfl ?_
                    exact ih10 x114 (1 : Int32) ct108 (by omega) (by first | omega | decide | assumption) (by first | omega | decide | assumption) hI
              · skip
                obtain rfl := hr109
                refine dv_istore (lv' := [(5, .int 0), (4, .int v4_10), (3, .int v3_10), (0, .ref kg), (1, .int 0), (2, .int ask)]) dX4_allOf_54 (by decide) rfl ?_
                refine dv_iload_n dX4_allOf_56 rfl 2 rfl ?_
                refine dv_if_eq (tgt := 69) dX4_allOf_57 (by decide) (fun c115 => ?_) (fun c115 => ?_)
                · skip
                  have c115 : v3_10.toInt = 0 := (z_eq rfl (by decide : (0 : Int32).toInt = 0)).mp c115
                  refine dv_iconst (v := 0) dX4_allOf_69 (by decide) ?_
                  refine dv_istore_n (lv' := [(3, .int 0), (5, .int 0), (4, .int v4_10), (0, .ref kg), (1, .int 0), (2, .int ask)]) dX4_allOf_70 rfl (by decide) rfl ?_
                  obtain ⟨x116, ex116⟩ : ∃ y : Int32, y = v4_10 + 1 := ⟨_, rfl⟩
                  have tx116 : x116.toInt = v4_10.toInt + 1 := by rw [ex116]; exact z_add rfl (by decide : (1 : Int32).toInt = 1) (by omega) (by omega)
                  refine dv_iinc (v := x116) (lv' := [(4, .int x116), (3, .int 0), (5, .int 0), (0, .ref kg), (1, .int 0), (2, .int ask)]) dX4_allOf_71 (k := 2) rfl (by rw [ex116]; rfl) (by decide) rfl ?_
                  refine dv_goto (tgt := 10) dX4_allOf_74 (by decide) ?_
                  refine dv_sub (loc2 := [(4, .int x116), (3, .int 0), (0, .ref kg), (1, .int 0), (2, .int ask)]) [0, 1, 3, 4, 5] rfl ?_
                  exact ih10 x116 (0 : Int32) ct108 (by omega) (by first | omega | decide | assumption) (by first | omega | decide | assumption) hI
                · skip
                  have c115 : ¬ (v3_10.toInt = 0) := fun q => c115 ((z_eq rfl (by decide : (0 : Int32).toInt = 0)).mpr q)
                  refine dv_iload dX4_allOf_60 0 rfl ?_
                  refine dv_if_eq (tgt := 69) dX4_allOf_62 (by decide) (fun c117 => ?_) (fun c117 => ?_)
                  · skip
                    refine dv_iconst (v := 0) dX4_allOf_69 (by decide) ?_
                    refine dv_istore_n (lv' := [(3, .int 0), (5, .int 0), (4, .int v4_10), (0, .ref kg), (1, .int 0), (2, .int ask)]) dX4_allOf_70 rfl (by decide) rfl ?_
                    obtain ⟨x118, ex118⟩ : ∃ y : Int32, y = v4_10 + 1 := ⟨_, rfl⟩
                    have tx118 : x118.toInt = v4_10.toInt + 1 := by rw [ex118]; exact z_add rfl (by decide : (1 : Int32).toInt = 1) (by omega) (by omega)
                    refine dv_iinc (v := x118) (lv' := [(4, .int x118), (3, .int 0), (5, .int 0), (0, .ref kg), (1, .int 0), (2, .int ask)]) dX4_allOf_71 (k := 2) rfl (by rw [ex118]; rfl) (by decide) rfl ?_
                    refine dv_goto (tgt := 10) dX4_allOf_74 (by decide) ?_
                    refine dv_sub (loc2 := [(4, .int x118), (3, .int 0), (0, .ref kg), (1, .int 0), (2, .int ask)]) [0, 1, 3, 4, 5] rfl ?_
                    exact ih10 x118 (0 : Int32) ct108 (by omega) (by first | omega | decide | assumption) (by first | omega | decide | assumption) hI
                  · skip
                    exact absurd c117 (by decide)
            · skip
              have c107 : ¬ (ask.toInt = 0) := fun q => c107 ((z_eq rfl (by decide : (0 : Int32).toInt = 0)).mpr q)
              refine dv_iload_n dX4_allOf_42 rfl 1 rfl ?_
              refine dv_if_eq (tgt := 50) dX4_allOf_43 (by decide) (fun c119 => ?_) (fun c119 => ?_)
              · skip
                have c119 : v3_10.toInt = 0 := (z_eq rfl (by decide : (0 : Int32).toInt = 0)).mp c119
                refine dv_iconst (v := 0) dX4_allOf_50 (by decide) ?_
                refine GW.callV (n := 2) (As := [.int 0, .int 0]) (rest := []) (b := kg) (k_X4_piece_0 l g pe ct104 kg (0 : Int32) (by omega) hI) (fun _ h => h) rfl rfl ⟨by omega, pG_of (by omega)⟩ hs106 (q := (RX4, TX4, 11)) rfl mm_596 mm_598 mm_23 mm_58 mm_599 (by decide +kernel) ⟨Nat.le_of_ble_eq_true rfl, Nat.le_of_ble_eq_true rfl⟩ rfl (Nat.le_of_ble_eq_true rfl) dX4_allOf_51 (Nat.zero_le _) (Nat.zero_le _) rfl (fun ct120 rrr121 hBr121 hoff122 => ?_)
                obtain ⟨r121, rfl, hr121, hI⟩ := hBr121
                refine GW.eq (S2 := [.int r121]) rfl rfl rfl ?_
                rcases hr121 with hr121 | hr121
                · skip
                  obtain rfl := hr121
                  refine dv_istore (lv' := [(5, .int 1), (4, .int v4_10), (3, .int v3_10), (0, .ref kg), (1, .int 0), (2, .int ask)]) dX4_allOf_54 (by decide) rfl ?_
                  refine dv_iload_n dX4_allOf_56 rfl 2 rfl ?_
                  refine dv_if_eq (tgt := 69) dX4_allOf_57 (by decide) (fun c123 => ?_) (fun c123 => ?_)
                  · skip
                    have c123 : v3_10.toInt = 0 := (z_eq rfl (by decide : (0 : Int32).toInt = 0)).mp c123
                    refine dv_iconst (v := 0) dX4_allOf_69 (by decide) ?_
                    refine dv_istore_n (lv' := [(3, .int 0), (5, .int 1), (4, .int v4_10), (0, .ref kg), (1, .int 0), (2, .int ask)]) dX4_allOf_70 rfl (by decide) rfl ?_
                    obtain ⟨x124, ex124⟩ : ∃ y : Int32, y = v4_10 + 1 := ⟨_, rfl⟩
                    have tx124 : x124.toInt = v4_10.toInt + 1 := by rw [ex124]; exact z_add rfl (by decide : (1 : Int32).toInt = 1) (by omega) (by omega)
                    refine dv_iinc (v := x124) (lv' := [(4, .int x124), (3, .int 0), (5, .int 1), (0, .ref kg), (1, .int 0), (2, .int ask)]) dX4_allOf_71 (k := 2) rfl (by rw [ex124]; rfl) (by decide) rfl ?_
                    refine dv_goto (tgt := 10) dX4_allOf_74 (by decide) ?_
                    refine dv_sub (loc2 := [(4, .int x124), (3, .int 0), (0, .ref kg), (1, .int 0), (2, .int ask)]) [0, 1, 3, 4, 5] rfl ?_
                    exact ih10 x124 (0 : Int32) ct120 (by omega) (by first | omega | decide | assumption) (by first | omega | decide | assumption) hI
                  · skip
                    have c123 : ¬ (v3_10.toInt = 0) := fun q => c123 ((z_eq rfl (by decide : (0 : Int32).toInt = 0)).mpr q)
                    refine dv_iload dX4_allOf_60 0 rfl ?_
                    refine dv_if_eq (tgt := 69) dX4_allOf_62 (by decide) (fun c125 => ?_) (fun c125 => ?_)
                    · skip
                      exact absurd c125 (by decide)
                    · skip
                      refine dv_iconst (v := 1) dX4_allOf_65 (by decide) ?_
                      refine dv_goto (tgt := 70) dX4_allOf_66 (by decide) ?_
                      refine dv_istore_n (lv' := [(3, .int 1), (5, .int 1), (4, .int v4_10), (0, .ref kg), (1, .int 0), (2, .int ask)]) dX4_allOf_70 rfl (by decide) rfl ?_
                      obtain ⟨x126, ex126⟩ : ∃ y : Int32, y = v4_10 + 1 := ⟨_, rfl⟩
                      have tx126 : x126.toInt = v4_10.toInt + 1 := by rw [ex126]; exact z_add rfl (by decide : (1 : Int32).toInt = 1) (by omega) (by omega)
                      refine dv_iinc (v := x126) (lv' := [(4, .int x126), (3, .int 1), (5, .int 1), (0, .ref kg), (1, .int 0), (2, .int ask)]) dX4_allOf_71 (k := 2) rfl (by rw [ex126]; rfl) (by decide) rfl ?_
                      refine dv_goto (tgt := 10) dX4_allOf_74 (by decide) ?_
                      refine dv_sub (loc2 := [(4, .int x126), (3, .int 1), (0, .ref kg), (1, .int 0), (2, .int ask)]) [0, 1, 3, 4, 5] rfl ?_
                      exact ih10 x126 (1 : Int32) ct120 (by omega) (by first | omega | decide | assumption) (by first | omega | decide | assumption) hI
                · skip
                  obtain rfl := hr121
                  refine dv_istore (lv' := [(5, .int 0), (4, .int v4_10), (3, .int v3_10), (0, .ref kg), (1, .int 0), (2, .int ask)]) dX4_allOf_54 (by decide) rfl ?_
                  refine dv_iload_n dX4_allOf_56 rfl 2 rfl ?_
                  refine dv_if_eq (tgt := 69) dX4_allOf_57 (by decide) (fun c127 => ?_) (fun c127 => ?_)
                  · skip
                    have c127 : v3_10.toInt = 0 := (z_eq rfl (by decide : (0 : Int32).toInt = 0)).mp c127
                    refine dv_iconst (v := 0) dX4_allOf_69 (by decide) ?_
                    refine dv_istore_n (lv' := [(3, .int 0), (5, .int 0), (4, .int v4_10), (0, .ref kg), (1, .int 0), (2, .int ask)]) dX4_allOf_70 rfl (by decide) rfl ?_
                    obtain ⟨x128, ex128⟩ : ∃ y : Int32, y = v4_10 + 1 := ⟨_, rfl⟩
                    have tx128 : x128.toInt = v4_10.toInt + 1 := by rw [ex128]; exact z_add rfl (by decide : (1 : Int32).toInt = 1) (by omega) (by omega)
                    refine dv_iinc (v := x128) (lv' := [(4, .int x128), (3, .int 0), (5, .int 0), (0, .ref kg), (1, .int 0), (2, .int ask)]) dX4_allOf_71 (k := 2) rfl (by rw [ex128]; rfl) (by decide) rfl ?_
                    refine dv_goto (tgt := 10) dX4_allOf_74 (by decide) ?_
                    refine dv_sub (loc2 := [(4, .int x128), (3, .int 0), (0, .ref kg), (1, .int 0), (2, .int ask)]) [0, 1, 3, 4, 5] rfl ?_
                    exact ih10 x128 (0 : Int32) ct120 (by omega) (by first | omega | decide | assumption) (by first | omega | decide | assumption) hI
                  · skip
                    have c127 : ¬ (v3_10.toInt = 0) := fun q => c127 ((z_eq rfl (by decide : (0 : Int32).toInt = 0)).mpr q)
                    refine dv_iload dX4_allOf_60 0 rfl ?_
                    refine dv_if_eq (tgt := 69) dX4_allOf_62 (by decide) (fun c129 => ?_) (fun c129 => ?_)
                    · skip
                      refine dv_iconst (v := 0) dX4_allOf_69 (by decide) ?_
                      refine dv_istore_n (lv' := [(3, .int 0), (5, .int 0), (4, .int v4_10), (0, .ref kg), (1, .int 0), (2, .int ask)]) dX4_allOf_70 rfl (by decide) rfl ?_
                      obtain ⟨x130, ex130⟩ : ∃ y : Int32, y = v4_10 + 1 := ⟨_, rfl⟩
                      have tx130 : x130.toInt = v4_10.toInt + 1 := by rw [ex130]; exact z_add rfl (by decide : (1 : Int32).toInt = 1) (by omega) (by omega)
                      refine dv_iinc (v := x130) (lv' := [(4, .int x130), (3, .int 0), (5, .int 0), (0, .ref kg), (1, .int 0), (2, .int ask)]) dX4_allOf_71 (k := 2) rfl (by rw [ex130]; rfl) (by decide) rfl ?_
                      refine dv_goto (tgt := 10) dX4_allOf_74 (by decide) ?_
                      refine dv_sub (loc2 := [(4, .int x130), (3, .int 0), (0, .ref kg), (1, .int 0), (2, .int ask)]) [0, 1, 3, 4, 5] rfl ?_
                      exact ih10 x130 (0 : Int32) ct120 (by omega) (by first | omega | decide | assumption) (by first | omega | decide | assumption) hI
                    · skip
                      exact absurd c129 (by decide)
              · skip
                have c119 : ¬ (v3_10.toInt = 0) := fun q => c119 ((z_eq rfl (by decide : (0 : Int32).toInt = 0)).mpr q)
                refine dv_iconst (v := 1) dX4_allOf_46 (by decide) ?_
                refine dv_goto (tgt := 51) dX4_allOf_47 (by decide) ?_
                refine GW.callV (n := 2) (As := [.int 0, .int 1]) (rest := []) (b := kg) (k_X4_piece_0 l g pe ct104 kg (1 : Int32) (by omega) hI) (fun _ h => h) rfl rfl ⟨by omega, pG_of (by omega)⟩ hs106 (q := (RX4, TX4, 11)) rfl mm_596 mm_598 mm_23 mm_58 mm_599 (by decide +kernel) ⟨Nat.le_of_ble_eq_true rfl, Nat.le_of_ble_eq_true rfl⟩ rfl (Nat.le_of_ble_eq_true rfl) dX4_allOf_51 (Nat.zero_le _) (Nat.zero_le _) rfl (fun ct131 rrr132 hBr132 hoff133 => ?_)
                obtain ⟨r132, rfl, hr132, hI⟩ := hBr132
                refine GW.eq (S2 := [.int r132]) rfl rfl rfl ?_
                rcases hr132 with hr132 | hr132
                · skip
                  obtain rfl := hr132
                  refine dv_istore (lv' := [(5, .int 1), (4, .int v4_10), (3, .int v3_10), (0, .ref kg), (1, .int 0), (2, .int ask)]) dX4_allOf_54 (by decide) rfl ?_
                  refine dv_iload_n dX4_allOf_56 rfl 2 rfl ?_
                  refine dv_if_eq (tgt := 69) dX4_allOf_57 (by decide) (fun c134 => ?_) (fun c134 => ?_)
                  · skip
                    have c134 : v3_10.toInt = 0 := (z_eq rfl (by decide : (0 : Int32).toInt = 0)).mp c134
                    exfalso
                    omega
                  · skip
                    have c134 : ¬ (v3_10.toInt = 0) := fun q => c134 ((z_eq rfl (by decide : (0 : Int32).toInt = 0)).mpr q)
                    refine dv_iload dX4_allOf_60 0 rfl ?_
                    refine dv_if_eq (tgt := 69) dX4_allOf_62 (by decide) (fun c135 => ?_) (fun c135 => ?_)
                    · skip
                      exact absurd c135 (by decide)
                    · skip
                      refine dv_iconst (v := 1) dX4_allOf_65 (by decide) ?_
                      refine dv_goto (tgt := 70) dX4_allOf_66 (by decide) ?_
                      refine dv_istore_n (lv' := [(3, .int 1), (5, .int 1), (4, .int v4_10), (0, .ref kg), (1, .int 0), (2, .int ask)]) dX4_allOf_70 rfl (by decide) rfl ?_
                      obtain ⟨x136, ex136⟩ : ∃ y : Int32, y = v4_10 + 1 := ⟨_, rfl⟩
                      have tx136 : x136.toInt = v4_10.toInt + 1 := by rw [ex136]; exact z_add rfl (by decide : (1 : Int32).toInt = 1) (by omega) (by omega)
                      refine dv_iinc (v := x136) (lv' := [(4, .int x136), (3, .int 1), (5, .int 1), (0, .ref kg), (1, .int 0), (2, .int ask)]) dX4_allOf_71 (k := 2) rfl (by rw [ex136]; rfl) (by decide) rfl ?_
                      refine dv_goto (tgt := 10) dX4_allOf_74 (by decide) ?_
                      refine dv_sub (loc2 := [(4, .int x136), (3, .int 1), (0, .ref kg), (1, .int 0), (2, .int ask)]) [0, 1, 3, 4, 5] rfl ?_
                      exact ih10 x136 (1 : Int32) ct131 (by omega) (by first | omega | decide | assumption) (by first | omega | decide | assumption) hI
                · skip
                  obtain rfl := hr132
                  refine dv_istore (lv' := [(5, .int 0), (4, .int v4_10), (3, .int v3_10), (0, .ref kg), (1, .int 0), (2, .int ask)]) dX4_allOf_54 (by decide) rfl ?_
                  refine dv_iload_n dX4_allOf_56 rfl 2 rfl ?_
                  refine dv_if_eq (tgt := 69) dX4_allOf_57 (by decide) (fun c137 => ?_) (fun c137 => ?_)
                  · skip
                    have c137 : v3_10.toInt = 0 := (z_eq rfl (by decide : (0 : Int32).toInt = 0)).mp c137
                    exfalso
                    omega
                  · skip
                    have c137 : ¬ (v3_10.toInt = 0) := fun q => c137 ((z_eq rfl (by decide : (0 : Int32).toInt = 0)).mpr q)
                    refine dv_iload dX4_allOf_60 0 rfl ?_
                    refine dv_if_eq (tgt := 69) dX4_allOf_62 (by decide) (fun c138 => ?_) (fun c138 => ?_)
                    · skip
                      refine dv_iconst (v := 0) dX4_allOf_69 (by decide) ?_
                      refine dv_istore_n (lv' := [(3, .int 0), (5, .int 0), (4, .int v4_10), (0, .ref kg), (1, .int 0), (2, .int ask)]) dX4_allOf_70 rfl (by decide) rfl ?_
                      obtain ⟨x139, ex139⟩ : ∃ y : Int32, y = v4_10 + 1 := ⟨_, rfl⟩
                      have tx139 : x139.toInt = v4_10.toInt + 1 := by rw [ex139]; exact z_add rfl (by decide : (1 : Int32).toInt = 1) (by omega) (by omega)
                      refine dv_iinc (v := x139) (lv' := [(4, .int x139), (3, .int 0), (5, .int 0), (0, .ref kg), (1, .int 0), (2, .int ask)]) dX4_allOf_71 (k := 2) rfl (by rw [ex139]; rfl) (by decide) rfl ?_
                      refine dv_goto (tgt := 10) dX4_allOf_74 (by decide) ?_
                      refine dv_sub (loc2 := [(4, .int x139), (3, .int 0), (0, .ref kg), (1, .int 0), (2, .int ask)]) [0, 1, 3, 4, 5] rfl ?_
                      exact ih10 x139 (0 : Int32) ct131 (by omega) (by first | omega | decide | assumption) (by first | omega | decide | assumption) hI
                    · skip
                      exact absurd c138 (by decide)
    exact loop10 ((100 - (0 : Int32).toInt : Int).toNat + 1) (0 : Int32) (0 : Int32) ct1 (by omega) (by first | omega | decide | assumption) (by first | omega | decide | assumption) hI
