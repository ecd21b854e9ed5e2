set_option maxHeartbeats 4000000 in
set_option maxRecDepth 100000 in
theorem k_X0_areEnoughBy_3 (l : Launch) (g : zG) (pe : Int32) (ct : Nat → va_E) (who : Int32) (told : Int32) (n : Int32) (hl_who : 0 ≤ who.toInt ∧ who.toInt ≤ 65535) (hl_n : -2147483648 ≤ n.toInt ∧ n.toInt ≤ 3) (hI : Inv8 g idn pe ct) : DM l g pQ false yX0_areEnoughBy cX0_areEnoughBy 6 (some .boolean) ({ frames := 6, cells := 0, slots := 0, locals := 148 }) (fun (ct2 : Nat → va_E) (rr : Option Value) => ∃ (r : Int32), rr = some (.int r) ∧ ((r = 1) ∨ (r = 0)) ∧ Inv8 g idn pe ct2 ∧ zlen (ct2 20) = zlen (ct 20)) ct [.ref 17, .int who, .int told, .int n] := by
  refine DM.K (fun K hK => ?_)
  refine GW.met (own := RX0) (loc := [(0, .ref 17), (1, .int who), (2, .int told), (3, .int n)]) (by decide) rfl rfl (Nat.le_of_ble_eq_true rfl) ?_
  have hpe0 := hI.1
  have hz : zlen (ct 20) = zlen (ct 20) := rfl
  have rg_told := z_rng told
  refine dv_iload_n dX0_areEnoughBy_0 rfl 1 rfl ?_
  refine dv_iload_n dX0_areEnoughBy_1 rfl 2 rfl ?_
  refine dv_iand dX0_areEnoughBy_2 ?_
  refine dv_topi (fun x1 ex1 => ?_)
  have tx1 := z_andl (x := who) (y := told) rfl (by omega)
  rw [← ex1] at tx1
  refine dv_istore (lv' := [(4, .int x1), (0, .ref 17), (1, .int who), (2, .int told), (3, .int n)]) dX0_areEnoughBy_3 (by decide) rfl ?_
  refine dv_iload_n dX0_areEnoughBy_5 rfl 2 rfl ?_
  refine dv_iload_n dX0_areEnoughBy_6 rfl 3 rfl ?_
  refine dv_iconst (v := (-1)) dX0_areEnoughBy_7 (by decide) ?_
  refine dv_ixor dX0_areEnoughBy_8 ?_
  refine dv_topi (fun x2 ex2 => ?_)
  refine dv_iand dX0_areEnoughBy_9 ?_
  refine dv_topi (fun x3 ex3 => ?_)
  have tx3 := z_andl (x := who) (y := x2) rfl (by omega)
  rw [← ex3] at tx3
  refine dv_istore (lv' := [(5, .int x3), (4, .int x1), (0, .ref 17), (1, .int who), (2, .int told), (3, .int n)]) dX0_areEnoughBy_10 (by decide) rfl ?_
  refine dv_iload dX0_areEnoughBy_12 1 rfl ?_
  refine dv_if_eq (tgt := 54) dX0_areEnoughBy_14 (by decide) (fun c4 => ?_) (fun c4 => ?_)
  · skip
    have c4 : x1.toInt = 0 := (z_eq rfl (by decide : (0 : Int32).toInt = 0)).mp c4
    refine dv_iconst (v := 0) dX0_areEnoughBy_54 (by decide) ?_
    have q5 : (0 : Int32).toInt = 0 := by decide
    exact dv_zret dX0_areEnoughBy_55 rfl rfl (by first | exact Nat.zero_le _ | decide) (by first | exact Nat.zero_le _ | decide) (by subst hK; exact ⟨0, rfl, (by first | exact Or.inl ⟨rfl, by omega⟩ | exact Or.inr ⟨rfl, by omega⟩ | exact Or.inl rfl | exact Or.inr rfl | exact Or.inl ⟨rfl, by omega, by omega⟩ | exact (z_01 (by omega) (by omega)).symm), hI, hz⟩)
  · skip
    have c4 : ¬ (x1.toInt = 0) := fun q => c4 ((z_eq rfl (by decide : (0 : Int32).toInt = 0)).mpr q)
    refine dv_iload dX0_areEnoughBy_17 0 rfl ?_
    refine dv_if_eq (tgt := 54) dX0_areEnoughBy_19 (by decide) (fun c6 => ?_) (fun c6 => ?_)
    · skip
      have c6 : x3.toInt = 0 := (z_eq rfl (by decide : (0 : Int32).toInt = 0)).mp c6
      refine dv_iconst (v := 0) dX0_areEnoughBy_54 (by decide) ?_
      have q7 : (0 : Int32).toInt = 0 := by decide
      exact dv_zret dX0_areEnoughBy_55 rfl rfl (by first | exact Nat.zero_le _ | decide) (by first | exact Nat.zero_le _ | decide) (by subst hK; exact ⟨0, rfl, (by first | exact Or.inl ⟨rfl, by omega⟩ | exact Or.inr ⟨rfl, by omega⟩ | exact Or.inl rfl | exact Or.inr rfl | exact Or.inl ⟨rfl, by omega, by omega⟩ | exact (z_01 (by omega) (by omega)).symm), hI, hz⟩)
    · skip
      have c6 : ¬ (x3.toInt = 0) := fun q => c6 ((z_eq rfl (by decide : (0 : Int32).toInt = 0)).mpr q)
      refine dv_iload_n dX0_areEnoughBy_22 rfl 5 rfl ?_
      refine dv_if_le (tgt := 54) dX0_areEnoughBy_23 (by decide) (fun c8 => ?_) (fun c8 => ?_)
      · skip
        have c8 : n.toInt ≤ 0 := (z_le rfl (by decide : (0 : Int32).toInt = 0)).mp c8
        refine dv_iconst (v := 0) dX0_areEnoughBy_54 (by decide) ?_
        have q9 : (0 : Int32).toInt = 0 := by decide
        exact dv_zret dX0_areEnoughBy_55 rfl rfl (by first | exact Nat.zero_le _ | decide) (by first | exact Nat.zero_le _ | decide) (by subst hK; exact ⟨0, rfl, (by first | exact Or.inl ⟨rfl, by omega⟩ | exact Or.inr ⟨rfl, by omega⟩ | exact Or.inl rfl | exact Or.inr rfl | exact Or.inl ⟨rfl, by omega, by omega⟩ | exact (z_01 (by omega) (by omega)).symm), hI, hz⟩)
      · skip
        have c8 : ¬ (n.toInt ≤ 0) := fun q => c8 ((z_le rfl (by decide : (0 : Int32).toInt = 0)).mpr q)
        refine dv_aload_n dX0_areEnoughBy_26 rfl 2 rfl ?_
        refine dv_iload dX0_areEnoughBy_27 1 rfl ?_
        refine dv_iload_n dX0_areEnoughBy_29 rfl 5 rfl ?_
        refine dv_iconst (v := 1) dX0_areEnoughBy_30 (by decide) ?_
        refine dv_isub dX0_areEnoughBy_31 ?_
        refine dv_topi (fun x10 ex10 => ?_)
        have tx10 : x10.toInt = n.toInt - 1 := by rw [ex10]; exact z_sub rfl (by decide : (1 : Int32).toInt = 1) (by omega) (by omega)
        obtain ⟨spc13, tim14, h15, h16, hs12⟩ := a8_17 hI
        refine GW.callV (n := 2) (As := [.int x1, .int x10]) (rest := []) (b := 17) (k_X0_areEnough_2 l g pe ct x1 x10 (by first | omega | decide) (by first | omega | decide) hI) (fun _ h => h) rfl rfl ⟨by decide, rfl⟩ hs12 (q := (RX0, TX0, 5)) rfl mm_745 mm_747 mm_37 mm_56 mm_748 (by decide +kernel) ⟨Nat.le_of_ble_eq_true rfl, Nat.le_of_ble_eq_true rfl⟩ rfl (Nat.le_of_ble_eq_true rfl) dX0_areEnoughBy_32 (Nat.zero_le _) (Nat.zero_le _) rfl (fun ct11 rrr17 hBr17 hoff18 => ?_)
        obtain ⟨r17, rfl, hr17, hI, hzs⟩ := hBr17
        refine GW.eq (S2 := [.int r17]) rfl rfl rfl ?_
        have hz : zlen (ct11 20) = zlen (ct 20) := hzs.trans hz
        rcases hr17 with hr17 | hr17
        · skip
          obtain rfl := hr17
          refine dv_if_eq (tgt := 54) dX0_areEnoughBy_35 (by decide) (fun c19 => ?_) (fun c19 => ?_)
          · skip
            exact absurd c19 (by decide)
          · skip
            refine dv_aload_n dX0_areEnoughBy_38 rfl 2 rfl ?_
            refine dv_iload dX0_areEnoughBy_39 0 rfl ?_
            refine dv_iload_n dX0_areEnoughBy_41 rfl 5 rfl ?_
            refine dv_iconst (v := 1) dX0_areEnoughBy_42 (by decide) ?_
            refine dv_isub dX0_areEnoughBy_43 ?_
            refine dv_topi (fun x20 ex20 => ?_)
            obtain rfl : x10 = x20 := ex10.trans ex20.symm
            obtain ⟨spc23, tim24, h25, h26, hs22⟩ := a8_17 hI
            refine GW.callV (n := 2) (As := [.int x3, .int x10]) (rest := []) (b := 17) (k_X0_areEnough_2 l g pe ct11 x3 x10 (by first | omega | decide) (by first | omega | decide) hI) (fun _ h => h) rfl rfl ⟨by decide, rfl⟩ hs22 (q := (RX0, TX0, 5)) rfl mm_745 mm_747 mm_37 mm_56 mm_748 (by decide +kernel) ⟨Nat.le_of_ble_eq_true rfl, Nat.le_of_ble_eq_true rfl⟩ rfl (Nat.le_of_ble_eq_true rfl) dX0_areEnoughBy_44 (Nat.zero_le _) (Nat.zero_le _) rfl (fun ct21 rrr27 hBr27 hoff28 => ?_)
            obtain ⟨r27, rfl, hr27, hI, hzs⟩ := hBr27
            refine GW.eq (S2 := [.int r27]) rfl rfl rfl ?_
            have hz : zlen (ct21 20) = zlen (ct 20) := hzs.trans hz
            rcases hr27 with hr27 | hr27
            · skip
              obtain rfl := hr27
              refine dv_if_eq (tgt := 54) dX0_areEnoughBy_47 (by decide) (fun c29 => ?_) (fun c29 => ?_)
              · skip
                exact absurd c29 (by decide)
              · skip
                refine dv_iconst (v := 1) dX0_areEnoughBy_50 (by decide) ?_
                refine dv_goto (tgt := 55) dX0_areEnoughBy_51 (by decide) ?_
                have q30 : (1 : Int32).toInt = 1 := by decide
                exact dv_zret dX0_areEnoughBy_55 rfl rfl (by first | exact Nat.zero_le _ | decide) (by first | exact Nat.zero_le _ | decide) (by subst hK; exact ⟨1, rfl, (by first | exact Or.inl ⟨rfl, by omega⟩ | exact Or.inr ⟨rfl, by omega⟩ | exact Or.inl rfl | exact Or.inr rfl | exact Or.inl ⟨rfl, by omega, by omega⟩ | exact (z_01 (by omega) (by omega)).symm), hI, hz⟩)
            · skip
              obtain rfl := hr27
              refine dv_if_eq (tgt := 54) dX0_areEnoughBy_47 (by decide) (fun c31 => ?_) (fun c31 => ?_)
              · skip
                refine dv_iconst (v := 0) dX0_areEnoughBy_54 (by decide) ?_
                have q32 : (0 : Int32).toInt = 0 := by decide
                exact dv_zret dX0_areEnoughBy_55 rfl rfl (by first | exact Nat.zero_le _ | decide) (by first | exact Nat.zero_le _ | decide) (by subst hK; exact ⟨0, rfl, (by first | exact Or.inl ⟨rfl, by omega⟩ | exact Or.inr ⟨rfl, by omega⟩ | exact Or.inl rfl | exact Or.inr rfl | exact Or.inl ⟨rfl, by omega, by omega⟩ | exact (z_01 (by omega) (by omega)).symm), hI, hz⟩)
              · skip
                exact absurd c31 (by decide)
        · skip
          obtain rfl := hr17
          refine dv_if_eq (tgt := 54) dX0_areEnoughBy_35 (by decide) (fun c33 => ?_) (fun c33 => ?_)
          · skip
            refine dv_iconst (v := 0) dX0_areEnoughBy_54 (by decide) ?_
            have q34 : (0 : Int32).toInt = 0 := by decide
            exact dv_zret dX0_areEnoughBy_55 rfl rfl (by first | exact Nat.zero_le _ | decide) (by first | exact Nat.zero_le _ | decide) (by subst hK; exact ⟨0, rfl, (by first | exact Or.inl ⟨rfl, by omega⟩ | exact Or.inr ⟨rfl, by omega⟩ | exact Or.inl rfl | exact Or.inr rfl | exact Or.inl ⟨rfl, by omega, by omega⟩ | exact (z_01 (by omega) (by omega)).symm), hI, hz⟩)
          · skip
            exact absurd c33 (by decide)

set_option maxHeartbeats 4000000 in
set_option maxRecDepth 100000 in
theorem k_X0_areEnough_3 (l : Launch) (g : zG) (pe : Int32) (ct : Nat → va_E) (who : Int32) (n : Int32) (hl_who : 0 ≤ who.toInt ∧ who.toInt ≤ 65535) (hl_n : -2147483648 ≤ n.toInt ∧ n.toInt ≤ 3) (hI : Inv8 g idn pe ct) : DM l g pQ false yX0_areEnough cX0_areEnough 7 (some .boolean) ({ frames := 7, cells := 0, slots := 0, locals := 173 }) (fun (ct2 : Nat → va_E) (rr : Option Value) => ∃ (r : Int32), rr = some (.int r) ∧ ((r = 1) ∨ (r = 0)) ∧ Inv8 g idn pe ct2 ∧ zlen (ct2 20) = zlen (ct 20)) ct [.ref 17, .int who, .int n] := by
  refine DM.K (fun K hK => ?_)
  refine GW.met (own := RX0) (loc := [(0, .ref 17), (1, .int who), (2, .int n)]) (by decide) rfl rfl (Nat.le_of_ble_eq_true rfl) ?_
  have hpe0 := hI.1
  have hz : zlen (ct 20) = zlen (ct 20) := rfl
  refine dv_iload_n dX0_areEnough_0 rfl 1 rfl ?_
  refine GW.callS (n := 1) (As := [.int who]) (rest := []) (k_bce l g pe ct who hI) (fun _ h => Bool.noConfusion h) rfl rfl mm_749 mm_499 mm_62 mm_500 (by decide +kernel) ⟨Nat.le_of_ble_eq_true rfl, Nat.le_of_ble_eq_true rfl⟩ rfl (Nat.le_of_ble_eq_true rfl) dX0_areEnough_1 (Nat.zero_le _) (Nat.zero_le _) rfl (fun ct1 rrr2 hBr2 hoff3 => ?_)
  obtain ⟨r2, rfl, hr2, rfl⟩ := hBr2
  refine GW.eq (S2 := [.int r2]) rfl rfl rfl ?_
  have hqr2 := hr2
  subst r2
  have hbr2 := z_bc (x := who) (by omega) (by omega)
  refine dv_iconst (v := 1) dX0_areEnough_4 (by decide) ?_
  refine dv_icmp_gt (tgt := 10) dX0_areEnough_5 (by decide) (fun c4 => ?_) (fun c4 => ?_)
  · skip
    have c4 : 1 < (bcf who).toInt := (z_lt (by decide : (1 : Int32).toInt = 1) rfl).mp c4
    refine dv_iload_n dX0_areEnough_10 rfl 2 rfl ?_
    refine dv_if_le (tgt := 29) dX0_areEnough_11 (by decide) (fun c5 => ?_) (fun c5 => ?_)
    · skip
      have c5 : n.toInt ≤ 0 := (z_le rfl (by decide : (0 : Int32).toInt = 0)).mp c5
      refine dv_iconst (v := 0) dX0_areEnough_29 (by decide) ?_
      have q6 : (0 : Int32).toInt = 0 := by decide
      exact dv_zret dX0_areEnough_30 rfl rfl (by first | exact Nat.zero_le _ | decide) (by first | exact Nat.zero_le _ | decide) (by subst hK; exact ⟨0, rfl, (by first | exact Or.inl ⟨rfl, by omega⟩ | exact Or.inr ⟨rfl, by omega⟩ | exact Or.inl rfl | exact Or.inr rfl | exact Or.inl ⟨rfl, by omega, by omega⟩ | exact (z_01 (by omega) (by omega)).symm), hI, hz⟩)
    · skip
      have c5 : ¬ (n.toInt ≤ 0) := fun q => c5 ((z_le rfl (by decide : (0 : Int32).toInt = 0)).mpr q)
      refine dv_iload_n dX0_areEnough_14 rfl 1 rfl ?_
      refine dv_iconst (v := 0) dX0_areEnough_15 (by decide) ?_
      refine dv_aload_n dX0_areEnough_16 rfl 0 rfl ?_
      obtain ⟨spc8, tim9, h10, h11, hs7⟩ := a8_17 hI
      refine dv_get (ci := 0) (v := .ref 20) (C := RX0) (T := TX0) (N := 5) ⟨by decide, rfl⟩ hs7 rfl inG0 3 (by decide) mm_163 rfl dX0_areEnough_17 ?_
      obtain ⟨n13, f14, h15, h16, hs12⟩ := a8_20 hI
      have zhs12 : zlen (ct 20) = n13 := by rw [hs12]; rfl
      refine dv_alen 0 ⟨by decide, rfl⟩ hs12 (ty := .int) rfl (v := (nI n13)) (rfl) dX0_areEnough_20 ?_
      refine dv_iconst (v := 1) dX0_areEnough_21 (by decide) ?_
      refine dv_isub dX0_areEnough_22 ?_
      refine dv_topi (fun x17 ex17 => ?_)
      have tx17 : x17.toInt = ((n13 : Nat) : Int) - 1 := by rw [ex17]; exact z_sub (nI_toInt (by omega)) (by decide : (1 : Int32).toInt = 1) (by omega) (by omega)
      refine GW.callSN (n := 3) (As := [.int who, .int 0, .int x17]) (rest := []) (k_X8_within l g pe ct who (0 : Int32) x17 hI) (fun _ h => Bool.noConfusion h) rfl rfl 15 rfl mm_356 mm_52 mm_357 (by decide +kernel) ⟨Nat.le_of_ble_eq_true rfl, Nat.le_of_ble_eq_true rfl⟩ rfl (Nat.le_of_ble_eq_true rfl) dX0_areEnough_23 (Nat.zero_le _) (Nat.zero_le _) rfl (fun ct18 rrr19 hBr19 hoff20 => ?_)
      obtain ⟨r19, rfl, hr19, rfl⟩ := hBr19
      refine GW.eq (S2 := [.int r19]) rfl rfl rfl ?_
      rcases hr19 with hr19 | hr19
      · skip
        obtain ⟨rfl, h21, h22⟩ := hr19
        have h21 : (0 : Int) ≤ who.toInt := h21
        have h22 : who.toInt ≤ x17.toInt := h22
        refine dv_if_ne (tgt := 31) dX0_areEnough_26 (by decide) (fun c23 => ?_) (fun c23 => ?_)
        · skip
          refine dv_aload_n dX0_areEnough_31 rfl 0 rfl ?_
          refine dv_get (ci := 0) (v := .ref 20) (C := RX0) (T := TX0) (N := 5) ⟨by decide, rfl⟩ hs7 rfl inG0 3 (by decide) mm_163 rfl dX0_areEnough_32 ?_
          refine dv_iload_n dX0_areEnough_35 rfl 1 rfl ?_
          refine dv_iald 0 ⟨by decide, rfl⟩ hs12 rfl (z_in rfl (by omega) (by omega)) dX0_areEnough_36 ?_
          refine dv_topi (fun y24 ey24 => ?_)
          refine dv_bipush (v := 10) dX0_areEnough_37 (by decide) ?_
          refine dv_ishr dX0_areEnough_39 ?_
          refine dv_topi (fun x25 ex25 => ?_)
          refine dv_aload_n dX0_areEnough_40 rfl 0 rfl ?_
          refine dv_get (ci := 0) (v := .int tim9) (C := RX0) (T := TX0) (N := 5) ⟨by decide, rfl⟩ hs7 rfl inG0 4 (by decide) mm_164 rfl dX0_areEnough_41 ?_
          refine dv_icmp_eq (tgt := 63) dX0_areEnough_44 (by decide) (fun c26 => ?_) (fun c26 => ?_)
          · skip
            have c26 : x25.toInt = tim9.toInt := (z_eq rfl rfl).mp c26
            refine dv_aload_n dX0_areEnough_63 rfl 0 rfl ?_
            refine dv_get (ci := 0) (v := .ref 20) (C := RX0) (T := TX0) (N := 5) ⟨by decide, rfl⟩ hs7 rfl inG0 3 (by decide) mm_163 rfl dX0_areEnough_64 ?_
            refine dv_iload_n dX0_areEnough_67 rfl 1 rfl ?_
            refine dv_iald 0 ⟨by decide, rfl⟩ hs12 rfl (z_in rfl (by omega) (by omega)) dX0_areEnough_68 ?_
            refine dv_topi (fun y27 ey27 => ?_)
            refine dv_iconst (v := 5) dX0_areEnough_69 (by decide) ?_
            refine dv_ishr dX0_areEnough_70 ?_
            refine dv_topi (fun x28 ex28 => ?_)
            refine dv_bipush (v := 31) dX0_areEnough_71 (by decide) ?_
            refine dv_iand dX0_areEnough_73 ?_
            refine dv_topi (fun x29 ex29 => ?_)
            have tx29 := z_andr (x := x28) (y := 31) (by decide : (31 : Int32).toInt = 31) (by omega)
            rw [← ex29] at tx29
            refine dv_istore_n (lv' := [(3, .int x29), (0, .ref 17), (1, .int who), (2, .int n)]) dX0_areEnough_74 rfl (by decide) rfl ?_
            refine dv_aload_n dX0_areEnough_75 rfl 1 rfl ?_
            refine dv_get (ci := 0) (v := .ref 20) (C := RX0) (T := TX0) (N := 5) ⟨by decide, rfl⟩ hs7 rfl inG0 3 (by decide) mm_163 rfl dX0_areEnough_76 ?_
            refine dv_iload_n dX0_areEnough_79 rfl 2 rfl ?_
            refine dv_iald 0 ⟨by decide, rfl⟩ hs12 rfl (z_in rfl (by omega) (by omega)) dX0_areEnough_80 ?_
            refine dv_topi (fun y30 ey30 => ?_)
            refine dv_bipush (v := 31) dX0_areEnough_81 (by decide) ?_
            refine dv_iand dX0_areEnough_83 ?_
            refine dv_topi (fun x31 ex31 => ?_)
            have tx31 := z_andr (x := y30) (y := 31) (by decide : (31 : Int32).toInt = 31) (by omega)
            rw [← ex31] at tx31
            refine dv_istore (lv' := [(4, .int x31), (3, .int x29), (0, .ref 17), (1, .int who), (2, .int n)]) dX0_areEnough_84 (by decide) rfl ?_
            refine dv_iload_n dX0_areEnough_86 rfl 4 rfl ?_
            refine dv_iload_n dX0_areEnough_87 rfl 1 rfl ?_
            refine dv_icmp_lt (tgt := 97) dX0_areEnough_88 (by decide) (fun c32 => ?_) (fun c32 => ?_)
            · skip
              have c32 : n.toInt < x29.toInt := (z_lt rfl rfl).mp c32
              refine dv_iload_n dX0_areEnough_97 rfl 4 rfl ?_
              refine dv_iload dX0_areEnough_98 0 rfl ?_
              refine dv_icmp_lt (tgt := 107) dX0_areEnough_100 (by decide) (fun c33 => ?_) (fun c33 => ?_)
              · skip
                have c33 : n.toInt < x31.toInt := (z_lt rfl rfl).mp c33
                refine dv_iconst (v := 0) dX0_areEnough_107 (by decide) ?_
                have q34 : (0 : Int32).toInt = 0 := by decide
                exact dv_zret dX0_areEnough_108 rfl rfl (by first | exact Nat.zero_le _ | decide) (by first | exact Nat.zero_le _ | decide) (by subst hK; exact ⟨0, rfl, (by first | exact Or.inl ⟨rfl, by omega⟩ | exact Or.inr ⟨rfl, by omega⟩ | exact Or.inl rfl | exact Or.inr rfl | exact Or.inl ⟨rfl, by omega, by omega⟩ | exact (z_01 (by omega) (by omega)).symm), hI, hz⟩)
              · skip
                have c33 : ¬ (n.toInt < x31.toInt) := fun q => c33 ((z_lt rfl rfl).mpr q)
                refine dv_iconst (v := 1) dX0_areEnough_103 (by decide) ?_
                refine dv_goto (tgt := 108) dX0_areEnough_104 (by decide) ?_
                have q35 : (1 : Int32).toInt = 1 := by decide
                exact dv_zret dX0_areEnough_108 rfl rfl (by first | exact Nat.zero_le _ | decide) (by first | exact Nat.zero_le _ | decide) (by subst hK; exact ⟨1, rfl, (by first | exact Or.inl ⟨rfl, by omega⟩ | exact Or.inr ⟨rfl, by omega⟩ | exact Or.inl rfl | exact Or.inr rfl | exact Or.inl ⟨rfl, by omega, by omega⟩ | exact (z_01 (by omega) (by omega)).symm), hI, hz⟩)
            · skip
              have c32 : ¬ (n.toInt < x29.toInt) := fun q => c32 ((z_lt rfl rfl).mpr q)
              refine dv_iload_n dX0_areEnough_91 rfl 4 rfl ?_
              refine dv_iload dX0_areEnough_92 0 rfl ?_
              refine dv_icmp_lt (tgt := 109) dX0_areEnough_94 (by decide) (fun c36 => ?_) (fun c36 => ?_)
              · skip
                have c36 : n.toInt < x31.toInt := (z_lt rfl rfl).mp c36
                refine dv_iconst (v := 0) dX0_areEnough_109 (by decide) ?_
                refine dv_istore (lv' := [(5, .int 0), (4, .int x31), (3, .int x29), (0, .ref 17), (1, .int who), (2, .int n)]) dX0_areEnough_110 (by decide) rfl ?_
                refine dv_iconst (v := 0) dX0_areEnough_112 (by decide) ?_
                refine dv_istore (lv' := [(6, .int 0), (5, .int 0), (4, .int x31), (3, .int x29), (0, .ref 17), (1, .int who), (2, .int n)]) dX0_areEnough_113 (by decide) rfl ?_
                have loop115 : ∀ (n115 : Nat) (v6_115 : Int32) (v5_115 : Int32) (ct37 : Nat → va_E), ((128 - v6_115.toInt : Int).toNat < n115) → (0 ≤ v6_115.toInt ∧ v6_115.toInt ≤ 128) → (0 ≤ v5_115.toInt ∧ v5_115.toInt ≤ 1) → (zlen (ct37 20) = zlen (ct 20)) → (Inv8 g idn pe ct37) → GW l g pQ pQ false yX0_areEnough cX0_areEnough 7 (some .boolean) RX0 ({ frames := 7, cells := 0, slots := 0, locals := 173 }) K 0 0 ct37 115 [(6, .int v6_115), (5, .int v5_115), (4, .int x31), (3, .int x29), (0, .ref 17), (1, .int who), (2, .int n)] [] := by
                  intro n115
                  induction n115 with
                  | zero =>
                    intro v6_115 v5_115 ct37 hn115 b6_115 b5_115 hz hI
                    exact absurd hn115 (Nat.not_lt_zero _)
                  | succ n115 ih115 =>
                    intro v6_115 v5_115 ct37 hn115 b6_115 b5_115 hz hI
                    refine dv_iload dX0_areEnough_115 0 rfl ?_
                    refine dv_aload_n dX0_areEnough_117 rfl 4 rfl ?_
                    obtain ⟨spc39, tim40, h41, h42, hs38⟩ := a8_17 hI
                    refine dv_get (ci := 0) (v := .int spc39) (C := RX0) (T := TX0) (N := 5) ⟨by decide, rfl⟩ hs38 rfl inG0 1 (by decide) mm_161 rfl dX0_areEnough_118 ?_
                    refine dv_icmp_ge (tgt := 150) dX0_areEnough_121 (by decide) (fun c43 => ?_) (fun c43 => ?_)
                    · skip
                      have c43 : spc39.toInt ≤ v6_115.toInt := (z_le rfl rfl).mp c43
                      refine dv_aload_n dX0_areEnough_150 rfl 4 rfl ?_
                      refine dv_iload_n dX0_areEnough_151 rfl 5 rfl ?_
                      refine dv_iload dX0_areEnough_152 1 rfl ?_
                      refine dv_if_eq (tgt := 161) dX0_areEnough_154 (by decide) (fun c44 => ?_) (fun c44 => ?_)
                      · skip
                        have c44 : v5_115.toInt = 0 := (z_eq rfl (by decide : (0 : Int32).toInt = 0)).mp c44
                        refine dv_iload_n dX0_areEnough_161 rfl 6 rfl ?_
                        refine dv_iconst (v := 1) dX0_areEnough_162 (by decide) ?_
                        refine dv_iadd dX0_areEnough_163 ?_
                        refine dv_topi (fun x45 ex45 => ?_)
                        have tx45 : x45.toInt = n.toInt + 1 := by rw [ex45]; exact z_add rfl (by decide : (1 : Int32).toInt = 1) (by omega) (by omega)
                        refine dv_iload dX0_areEnough_164 1 rfl ?_
                        refine dv_if_eq (tgt := 173) dX0_areEnough_166 (by decide) (fun c46 => ?_) (fun c46 => ?_)
                        · skip
                          have c46 : v5_115.toInt = 0 := (z_eq rfl (by decide : (0 : Int32).toInt = 0)).mp c46
                          refine dv_iload dX0_areEnough_173 2 rfl ?_
                          refine GW.callV (n := 3) (As := [.int who, .int x45, .int x31]) (rest := []) (b := 17) (k_X0_keep l g pe ct37 who x45 x31 (by first | omega | decide) hI (by first | omega | assumption | decide)) (fun _ h => h) rfl rfl ⟨by decide, rfl⟩ hs38 (q := (RX0, TX0, 5)) rfl mm_756 mm_758 mm_39 mm_56 mm_759 (by decide +kernel) ⟨Nat.le_of_ble_eq_true rfl, Nat.le_of_ble_eq_true rfl⟩ rfl (Nat.le_of_ble_eq_true rfl) dX0_areEnough_175 (Nat.zero_le _) (Nat.zero_le _) rfl (fun ct47 rrr48 hBr48 hoff49 => ?_)
                          obtain ⟨rfl, hI, hzs⟩ := hBr48
                          refine GW.eq (S2 := []) rfl rfl rfl ?_
                          have hz : zlen (ct47 20) = zlen (ct 20) := hzs.trans hz
                          refine dv_iload dX0_areEnough_178 1 rfl ?_
                          exact dv_zret dX0_areEnough_180 rfl (by rcases (z_01 (x := v5_115) (by omega) (by omega)) with q | q <;> rw [q] <;> rfl) (by first | exact Nat.zero_le _ | decide) (by first | exact Nat.zero_le _ | decide) (by subst hK; exact ⟨v5_115, rfl, (by first | exact Or.inl ⟨rfl, by omega⟩ | exact Or.inr ⟨rfl, by omega⟩ | exact Or.inl rfl | exact Or.inr rfl | exact Or.inl ⟨rfl, by omega, by omega⟩ | exact (z_01 (by omega) (by omega)).symm), hI, hz⟩)
                        · skip
                          have c46 : ¬ (v5_115.toInt = 0) := fun q => c46 ((z_eq rfl (by decide : (0 : Int32).toInt = 0)).mpr q)
                          refine dv_iload_n dX0_areEnough_169 rfl 6 rfl ?_
                          refine dv_goto (tgt := 175) dX0_areEnough_170 (by decide) ?_
                          refine GW.callV (n := 3) (As := [.int who, .int x45, .int n]) (rest := []) (b := 17) (k_X0_keep l g pe ct37 who x45 n (by first | omega | decide) hI (by first | omega | assumption | decide)) (fun _ h => h) rfl rfl ⟨by decide, rfl⟩ hs38 (q := (RX0, TX0, 5)) rfl mm_756 mm_758 mm_39 mm_56 mm_759 (by decide +kernel) ⟨Nat.le_of_ble_eq_true rfl, Nat.le_of_ble_eq_true rfl⟩ rfl (Nat.le_of_ble_eq_true rfl) dX0_areEnough_175 (Nat.zero_le _) (Nat.zero_le _) rfl (fun ct50 rrr51 hBr51 hoff52 => ?_)
                          obtain ⟨rfl, hI, hzs⟩ := hBr51
                          refine GW.eq (S2 := []) rfl rfl rfl ?_
                          have hz : zlen (ct50 20) = zlen (ct 20) := hzs.trans hz
                          refine dv_iload dX0_areEnough_178 1 rfl ?_
                          exact dv_zret dX0_areEnough_180 rfl (by rcases (z_01 (x := v5_115) (by omega) (by omega)) with q | q <;> rw [q] <;> rfl) (by first | exact Nat.zero_le _ | decide) (by first | exact Nat.zero_le _ | decide) (by subst hK; exact ⟨v5_115, rfl, (by first | exact Or.inl ⟨rfl, by omega⟩ | exact Or.inr ⟨rfl, by omega⟩ | exact Or.inl rfl | exact Or.inr rfl | exact Or.inl ⟨rfl, by omega, by omega⟩ | exact (z_01 (by omega) (by omega)).symm), hI, hz⟩)
                      · skip
                        have c44 : ¬ (v5_115.toInt = 0) := fun q => c44 ((z_eq rfl (by decide : (0 : Int32).toInt = 0)).mpr q)
                        refine dv_iload_n dX0_areEnough_157 rfl 3 rfl ?_
                        refine dv_goto (tgt := 164) dX0_areEnough_158 (by decide) ?_
                        refine dv_iload dX0_areEnough_164 1 rfl ?_
                        refine dv_if_eq (tgt := 173) dX0_areEnough_166 (by decide) (fun c53 => ?_) (fun c53 => ?_)
                        · skip
                          have c53 : v5_115.toInt = 0 := (z_eq rfl (by decide : (0 : Int32).toInt = 0)).mp c53
                          exfalso
                          omega
                        · skip
                          have c53 : ¬ (v5_115.toInt = 0) := fun q => c53 ((z_eq rfl (by decide : (0 : Int32).toInt = 0)).mpr q)
                          refine dv_iload_n dX0_areEnough_169 rfl 6 rfl ?_
                          refine dv_goto (tgt := 175) dX0_areEnough_170 (by decide) ?_
                          refine GW.callV (n := 3) (As := [.int who, .int x29, .int n]) (rest := []) (b := 17) (k_X0_keep l g pe ct37 who x29 n (by first | omega | decide) hI (by first | omega | assumption | decide)) (fun _ h => h) rfl rfl ⟨by decide, rfl⟩ hs38 (q := (RX0, TX0, 5)) rfl mm_756 mm_758 mm_39 mm_56 mm_759 (by decide +kernel) ⟨Nat.le_of_ble_eq_true rfl, Nat.le_of_ble_eq_true rfl⟩ rfl (Nat.le_of_ble_eq_true rfl) dX0_areEnough_175 (Nat.zero_le _) (Nat.zero_le _) rfl (fun ct54 rrr55 hBr55 hoff56 => ?_)
                          obtain ⟨rfl, hI, hzs⟩ := hBr55
                          refine GW.eq (S2 := []) rfl rfl rfl ?_
                          have hz : zlen (ct54 20) = zlen (ct 20) := hzs.trans hz
                          refine dv_iload dX0_areEnough_178 1 rfl ?_
                          exact dv_zret dX0_areEnough_180 rfl (by rcases (z_01 (x := v5_115) (by omega) (by omega)) with q | q <;> rw [q] <;> rfl) (by first | exact Nat.zero_le _ | decide) (by first | exact Nat.zero_le _ | decide) (by subst hK; exact ⟨v5_115, rfl, (by first | exact Or.inl ⟨rfl, by omega⟩ | exact Or.inr ⟨rfl, by omega⟩ | exact Or.inl rfl | exact Or.inr rfl | exact Or.inl ⟨rfl, by omega, by omega⟩ | exact (z_01 (by omega) (by omega)).symm), hI, hz⟩)
                    · skip
                      have c43 : ¬ (spc39.toInt ≤ v6_115.toInt) := fun q => c43 ((z_le rfl rfl).mpr q)
                      refine dv_iload dX0_areEnough_124 1 rfl ?_
                      refine dv_if_ne (tgt := 150) dX0_areEnough_126 (by decide) (fun c57 => ?_) (fun c57 => ?_)
                      · skip
                        have c57 : ¬ (v5_115.toInt = 0) := fun q => c57 ((z_eq rfl (by decide : (0 : Int32).toInt = 0)).mpr q)
                        refine dv_aload_n dX0_areEnough_150 rfl 4 rfl ?_
                        refine dv_iload_n dX0_areEnough_151 rfl 5 rfl ?_
                        refine dv_iload dX0_areEnough_152 1 rfl ?_
                        refine dv_if_eq (tgt := 161) dX0_areEnough_154 (by decide) (fun c58 => ?_) (fun c58 => ?_)
                        · skip
                          have c58 : v5_115.toInt = 0 := (z_eq rfl (by decide : (0 : Int32).toInt = 0)).mp c58
                          exfalso
                          omega
                        · skip
                          have c58 : ¬ (v5_115.toInt = 0) := fun q => c58 ((z_eq rfl (by decide : (0 : Int32).toInt = 0)).mpr q)
                          refine dv_iload_n dX0_areEnough_157 rfl 3 rfl ?_
                          refine dv_goto (tgt := 164) dX0_areEnough_158 (by decide) ?_
                          refine dv_iload dX0_areEnough_164 1 rfl ?_
                          refine dv_if_eq (tgt := 173) dX0_areEnough_166 (by decide) (fun c59 => ?_) (fun c59 => ?_)
                          · skip
                            have c59 : v5_115.toInt = 0 := (z_eq rfl (by decide : (0 : Int32).toInt = 0)).mp c59
                            exfalso
                            omega
                          · skip
                            have c59 : ¬ (v5_115.toInt = 0) := fun q => c59 ((z_eq rfl (by decide : (0 : Int32).toInt = 0)).mpr q)
                            refine dv_iload_n dX0_areEnough_169 rfl 6 rfl ?_
                            refine dv_goto (tgt := 175) dX0_areEnough_170 (by decide) ?_
                            refine GW.callV (n := 3) (As := [.int who, .int x29, .int n]) (rest := []) (b := 17) (k_X0_keep l g pe ct37 who x29 n (by first | omega | decide) hI (by first | omega | assumption | decide)) (fun _ h => h) rfl rfl ⟨by decide, rfl⟩ hs38 (q := (RX0, TX0, 5)) rfl mm_756 mm_758 mm_39 mm_56 mm_759 (by decide +kernel) ⟨Nat.le_of_ble_eq_true rfl, Nat.le_of_ble_eq_true rfl⟩ rfl (Nat.le_of_ble_eq_true rfl) dX0_areEnough_175 (Nat.zero_le _) (Nat.zero_le _) rfl (fun ct60 rrr61 hBr61 hoff62 => ?_)
                            obtain ⟨rfl, hI, hzs⟩ := hBr61
                            refine GW.eq (S2 := []) rfl rfl rfl ?_
                            have hz : zlen (ct60 20) = zlen (ct 20) := hzs.trans hz
                            refine dv_iload dX0_areEnough_178 1 rfl ?_
                            exact dv_zret dX0_areEnough_180 rfl (by rcases (z_01 (x := v5_115) (by omega) (by omega)) with q | q <;> rw [q] <;> rfl) (by first | exact Nat.zero_le _ | decide) (by first | exact Nat.zero_le _ | decide) (by subst hK; exact ⟨v5_115, rfl, (by first | exact Or.inl ⟨rfl, by omega⟩ | exact Or.inr ⟨rfl, by omega⟩ | exact Or.inl rfl | exact Or.inr rfl | exact Or.inl ⟨rfl, by omega, by omega⟩ | exact (z_01 (by omega) (by omega)).symm), hI, hz⟩)
                      · skip
                        have c57 : v5_115.toInt = 0 := (z_eq rfl (by decide : (0 : Int32).toInt = 0)).mp c57
                        refine dv_aload_n dX0_areEnough_129 rfl 4 rfl ?_
                        refine dv_iload_n dX0_areEnough_130 rfl 5 rfl ?_
                        refine dv_aload_n dX0_areEnough_131 rfl 4 rfl ?_
                        refine dv_get (ci := 0) (v := .ref 18) (C := RX0) (T := TX0) (N := 5) ⟨by decide, rfl⟩ hs38 rfl inG0 0 (by decide) mm_160 rfl dX0_areEnough_132 ?_
                        refine dv_iload dX0_areEnough_135 0 rfl ?_
                        obtain ⟨f64, hs63⟩ := a8_18 hI
                        refine dv_iald 0 ⟨by decide, rfl⟩ hs63 rfl (z_in rfl (by omega) (by omega)) dX0_areEnough_137 ?_
                        refine dv_topi (fun y65 ey65 => ?_)
                        refine dv_iload_n dX0_areEnough_138 rfl 6 rfl ?_
                        refine GW.callV (n := 3) (As := [.int who, .int y65, .int n]) (rest := []) (b := 17) (k_X0_areEnoughBy_3 l g pe ct37 who y65 n (by first | omega | decide) (by first | omega | decide) hI) (fun _ h => h) rfl rfl ⟨by decide, rfl⟩ hs38 (q := (RX0, TX0, 5)) rfl mm_760 mm_762 mm_40 mm_56 mm_763 (by decide +kernel) ⟨Nat.le_of_ble_eq_true rfl, Nat.le_of_ble_eq_true rfl⟩ rfl (Nat.le_of_ble_eq_true rfl) dX0_areEnough_139 (Nat.zero_le _) (Nat.zero_le _) rfl (fun ct66 rrr67 hBr67 hoff68 => ?_)
                        obtain ⟨r67, rfl, hr67, hI, hzs⟩ := hBr67
                        refine GW.eq (S2 := [.int r67]) rfl rfl rfl ?_
                        have hz : zlen (ct66 20) = zlen (ct 20) := hzs.trans hz
                        rcases hr67 with hr67 | hr67
                        · skip
                          obtain rfl := hr67
                          refine dv_istore (lv' := [(5, .int 1), (6, .int v6_115), (4, .int x31), (3, .int x29), (0, .ref 17), (1, .int who), (2, .int n)]) dX0_areEnough_142 (by decide) rfl ?_
                          obtain ⟨x69, ex69⟩ : ∃ y : Int32, y = v6_115 + 1 := ⟨_, rfl⟩
                          have tx69 : x69.toInt = v6_115.toInt + 1 := by rw [ex69]; exact z_add rfl (by decide : (1 : Int32).toInt = 1) (by omega) (by omega)
                          refine dv_iinc (v := x69) (lv' := [(6, .int x69), (5, .int 1), (4, .int x31), (3, .int x29), (0, .ref 17), (1, .int who), (2, .int n)]) dX0_areEnough_144 (k := 1) rfl (by rw [ex69]; rfl) (by decide) rfl ?_
                          refine dv_goto (tgt := 115) dX0_areEnough_147 (by decide) ?_
                          exact ih115 x69 (1 : Int32) ct66 (by omega) (by first | omega | decide | assumption) (by first | omega | decide | assumption) hz hI
                        · skip
                          obtain rfl := hr67
                          refine dv_istore (lv' := [(5, .int 0), (6, .int v6_115), (4, .int x31), (3, .int x29), (0, .ref 17), (1, .int who), (2, .int n)]) dX0_areEnough_142 (by decide) rfl ?_
                          obtain ⟨x70, ex70⟩ : ∃ y : Int32, y = v6_115 + 1 := ⟨_, rfl⟩
                          have tx70 : x70.toInt = v6_115.toInt + 1 := by rw [ex70]; exact z_add rfl (by decide : (1 : Int32).toInt = 1) (by omega) (by omega)
                          refine dv_iinc (v := x70) (lv' := [(6, .int x70), (5, .int 0), (4, .int x31), (3, .int x29), (0, .ref 17), (1, .int who), (2, .int n)]) dX0_areEnough_144 (k := 1) rfl (by rw [ex70]; rfl) (by decide) rfl ?_
                          refine dv_goto (tgt := 115) dX0_areEnough_147 (by decide) ?_
                          exact ih115 x70 (0 : Int32) ct66 (by omega) (by first | omega | decide | assumption) (by first | omega | decide | assumption) hz hI
                exact loop115 ((128 - (0 : Int32).toInt : Int).toNat + 1) (0 : Int32) (0 : Int32) ct (by omega) (by first | omega | decide | assumption) (by first | omega | decide | assumption) hz hI
              · skip
                have c36 : ¬ (n.toInt < x31.toInt) := fun q => c36 ((z_lt rfl rfl).mpr q)
                refine dv_iload_n dX0_areEnough_97 rfl 4 rfl ?_
                refine dv_iload dX0_areEnough_98 0 rfl ?_
                refine dv_icmp_lt (tgt := 107) dX0_areEnough_100 (by decide) (fun c71 => ?_) (fun c71 => ?_)
                · skip
                  have c71 : n.toInt < x31.toInt := (z_lt rfl rfl).mp c71
                  refine dv_iconst (v := 0) dX0_areEnough_107 (by decide) ?_
                  have q72 : (0 : Int32).toInt = 0 := by decide
                  exact dv_zret dX0_areEnough_108 rfl rfl (by first | exact Nat.zero_le _ | decide) (by first | exact Nat.zero_le _ | decide) (by subst hK; exact ⟨0, rfl, (by first | exact Or.inl ⟨rfl, by omega⟩ | exact Or.inr ⟨rfl, by omega⟩ | exact Or.inl rfl | exact Or.inr rfl | exact Or.inl ⟨rfl, by omega, by omega⟩ | exact (z_01 (by omega) (by omega)).symm), hI, hz⟩)
                · skip
                  have c71 : ¬ (n.toInt < x31.toInt) := fun q => c71 ((z_lt rfl rfl).mpr q)
                  refine dv_iconst (v := 1) dX0_areEnough_103 (by decide) ?_
                  refine dv_goto (tgt := 108) dX0_areEnough_104 (by decide) ?_
                  have q73 : (1 : Int32).toInt = 1 := by decide
                  exact dv_zret dX0_areEnough_108 rfl rfl (by first | exact Nat.zero_le _ | decide) (by first | exact Nat.zero_le _ | decide) (by subst hK; exact ⟨1, rfl, (by first | exact Or.inl ⟨rfl, by omega⟩ | exact Or.inr ⟨rfl, by omega⟩ | exact Or.inl rfl | exact Or.inr rfl | exact Or.inl ⟨rfl, by omega, by omega⟩ | exact (z_01 (by omega) (by omega)).symm), hI, hz⟩)
          · skip
            have c26 : ¬ (x25.toInt = tim9.toInt) := fun q => c26 ((z_eq rfl rfl).mpr q)
            refine dv_aload_n dX0_areEnough_47 rfl 0 rfl ?_
            refine dv_iload_n dX0_areEnough_48 rfl 1 rfl ?_
            refine dv_aload_n dX0_areEnough_49 rfl 0 rfl ?_
            refine dv_iload_n dX0_areEnough_50 rfl 1 rfl ?_
            refine GW.callV (n := 1) (As := [.int who]) (rest := [.int who, .ref 17]) (b := 17) (k_X0_atLeast l g pe ct who (by first | omega | decide) hI) (fun _ h => h) rfl rfl ⟨by decide, rfl⟩ hs7 (q := (RX0, TX0, 5)) rfl mm_751 mm_753 mm_38 mm_56 mm_754 (by decide +kernel) ⟨Nat.le_of_ble_eq_true rfl, Nat.le_of_ble_eq_true rfl⟩ rfl (Nat.le_of_ble_eq_true rfl) dX0_areEnough_51 (Nat.zero_le _) (Nat.zero_le _) rfl (fun ct74 rrr75 hBr75 hoff76 => ?_)
            obtain ⟨r75, rfl, hr75, hI, hzs⟩ := hBr75
            refine GW.eq (S2 := [.int r75, .int who, .ref 17]) rfl rfl rfl ?_
            have hz : zlen (ct74 20) = zlen (ct 20) := hzs.trans hz
            refine dv_iload_n dX0_areEnough_54 rfl 1 rfl ?_
            refine GW.callS (n := 1) (As := [.int who]) (rest := [.int r75, .int who, .ref 17]) (k_bce l g pe ct74 who hI) (fun _ h => Bool.noConfusion h) rfl rfl mm_749 mm_499 mm_62 mm_500 (by decide +kernel) ⟨Nat.le_of_ble_eq_true rfl, Nat.le_of_ble_eq_true rfl⟩ rfl (Nat.le_of_ble_eq_true rfl) dX0_areEnough_55 (Nat.zero_le _) (Nat.zero_le _) rfl (fun ct77 rrr78 hBr78 hoff79 => ?_)
            obtain ⟨r78, rfl, hr78, rfl⟩ := hBr78
            refine GW.eq (S2 := [.int r78, .int r75, .int who, .ref 17]) rfl rfl rfl ?_
            have hqr78 := hr78
            subst r78
            have hbr78 := z_bc (x := who) (by omega) (by omega)
            refine dv_iconst (v := 1) dX0_areEnough_58 (by decide) ?_
            refine dv_isub dX0_areEnough_59 ?_
            refine dv_topi (fun x80 ex80 => ?_)
            have tx80 : x80.toInt = (bcf who).toInt - 1 := by rw [ex80]; exact z_sub rfl (by decide : (1 : Int32).toInt = 1) (by omega) (by omega)
            obtain ⟨spc83, tim84, h85, h86, hs82⟩ := a8_17 hI
            refine GW.callV (n := 3) (As := [.int who, .int r75, .int x80]) (rest := []) (b := 17) (k_X0_keep l g pe ct74 who r75 x80 (by first | omega | decide) hI (by first | omega | assumption | decide)) (fun _ h => h) rfl rfl ⟨by decide, rfl⟩ hs82 (q := (RX0, TX0, 5)) rfl mm_756 mm_758 mm_39 mm_56 mm_759 (by decide +kernel) ⟨Nat.le_of_ble_eq_true rfl, Nat.le_of_ble_eq_true rfl⟩ rfl (Nat.le_of_ble_eq_true rfl) dX0_areEnough_60 (Nat.zero_le _) (Nat.zero_le _) rfl (fun ct81 rrr87 hBr87 hoff88 => ?_)
            obtain ⟨rfl, hI, hzs⟩ := hBr87
            refine GW.eq (S2 := []) rfl rfl rfl ?_
            have hz : zlen (ct81 20) = zlen (ct 20) := hzs.trans hz
            refine dv_aload_n dX0_areEnough_63 rfl 0 rfl ?_
            obtain ⟨spc90, tim91, h92, h93, hs89⟩ := a8_17 hI
            refine dv_get (ci := 0) (v := .ref 20) (C := RX0) (T := TX0) (N := 5) ⟨by decide, rfl⟩ hs89 rfl inG0 3 (by decide) mm_163 rfl dX0_areEnough_64 ?_
            refine dv_iload_n dX0_areEnough_67 rfl 1 rfl ?_
            obtain ⟨n95, f96, h97, h98, hs94⟩ := a8_20 hI
            have zhs94 : zlen (ct81 20) = n95 := by rw [hs94]; rfl
            refine dv_iald 0 ⟨by decide, rfl⟩ hs94 rfl (z_in rfl (by omega) (by omega)) dX0_areEnough_68 ?_
            refine dv_topi (fun y99 ey99 => ?_)
            refine dv_iconst (v := 5) dX0_areEnough_69 (by decide) ?_
            refine dv_ishr dX0_areEnough_70 ?_
            refine dv_topi (fun x100 ex100 => ?_)
            refine dv_bipush (v := 31) dX0_areEnough_71 (by decide) ?_
            refine dv_iand dX0_areEnough_73 ?_
            refine dv_topi (fun x101 ex101 => ?_)
            have tx101 := z_andr (x := x100) (y := 31) (by decide : (31 : Int32).toInt = 31) (by omega)
            rw [← ex101] at tx101
            refine dv_istore_n (lv' := [(3, .int x101), (0, .ref 17), (1, .int who), (2, .int n)]) dX0_areEnough_74 rfl (by decide) rfl ?_
            refine dv_aload_n dX0_areEnough_75 rfl 1 rfl ?_
            refine dv_get (ci := 0) (v := .ref 20) (C := RX0) (T := TX0) (N := 5) ⟨by decide, rfl⟩ hs89 rfl inG0 3 (by decide) mm_163 rfl dX0_areEnough_76 ?_
            refine dv_iload_n dX0_areEnough_79 rfl 2 rfl ?_
            refine dv_iald 0 ⟨by decide, rfl⟩ hs94 rfl (z_in rfl (by omega) (by omega)) dX0_areEnough_80 ?_
            refine dv_topi (fun y102 ey102 => ?_)
            refine dv_bipush (v := 31) dX0_areEnough_81 (by decide) ?_
            refine dv_iand dX0_areEnough_83 ?_
            refine dv_topi (fun x103 ex103 => ?_)
            have tx103 := z_andr (x := y102) (y := 31) (by decide : (31 : Int32).toInt = 31) (by omega)
            rw [← ex103] at tx103
            refine dv_istore (lv' := [(4, .int x103), (3, .int x101), (0, .ref 17), (1, .int who), (2, .int n)]) dX0_areEnough_84 (by decide) rfl ?_
            refine dv_iload_n dX0_areEnough_86 rfl 4 rfl ?_
            refine dv_iload_n dX0_areEnough_87 rfl 1 rfl ?_
            refine dv_icmp_lt (tgt := 97) dX0_areEnough_88 (by decide) (fun c104 => ?_) (fun c104 => ?_)
            · skip
              have c104 : n.toInt < x101.toInt := (z_lt rfl rfl).mp c104
              refine dv_iload_n dX0_areEnough_97 rfl 4 rfl ?_
              refine dv_iload dX0_areEnough_98 0 rfl ?_
              refine dv_icmp_lt (tgt := 107) dX0_areEnough_100 (by decide) (fun c105 => ?_) (fun c105 => ?_)
              · skip
                have c105 : n.toInt < x103.toInt := (z_lt rfl rfl).mp c105
                refine dv_iconst (v := 0) dX0_areEnough_107 (by decide) ?_
                have q106 : (0 : Int32).toInt = 0 := by decide
                exact dv_zret dX0_areEnough_108 rfl rfl (by first | exact Nat.zero_le _ | decide) (by first | exact Nat.zero_le _ | decide) (by subst hK; exact ⟨0, rfl, (by first | exact Or.inl ⟨rfl, by omega⟩ | exact Or.inr ⟨rfl, by omega⟩ | exact Or.inl rfl | exact Or.inr rfl | exact Or.inl ⟨rfl, by omega, by omega⟩ | exact (z_01 (by omega) (by omega)).symm), hI, hz⟩)
              · skip
                have c105 : ¬ (n.toInt < x103.toInt) := fun q => c105 ((z_lt rfl rfl).mpr q)
                refine dv_iconst (v := 1) dX0_areEnough_103 (by decide) ?_
                refine dv_goto (tgt := 108) dX0_areEnough_104 (by decide) ?_
                have q107 : (1 : Int32).toInt = 1 := by decide
                exact dv_zret dX0_areEnough_108 rfl rfl (by first | exact Nat.zero_le _ | decide) (by first | exact Nat.zero_le _ | decide) (by subst hK; exact ⟨1, rfl, (by first | exact Or.inl ⟨rfl, by omega⟩ | exact Or.inr ⟨rfl, by omega⟩ | exact Or.inl rfl | exact Or.inr rfl | exact Or.inl ⟨rfl, by omega, by omega⟩ | exact (z_01 (by omega) (by omega)).symm), hI, hz⟩)
            · skip
              have c104 : ¬ (n.toInt < x101.toInt) := fun q => c104 ((z_lt rfl rfl).mpr q)
              refine dv_iload_n dX0_areEnough_91 rfl 4 rfl ?_
              refine dv_iload dX0_areEnough_92 0 rfl ?_
              refine dv_icmp_lt (tgt := 109) dX0_areEnough_94 (by decide) (fun c108 => ?_) (fun c108 => ?_)
              · skip
                have c108 : n.toInt < x103.toInt := (z_lt rfl rfl).mp c108
                refine dv_iconst (v := 0) dX0_areEnough_109 (by decide) ?_
                refine dv_istore (lv' := [(5, .int 0), (4, .int x103), (3, .int x101), (0, .ref 17), (1, .int who), (2, .int n)]) dX0_areEnough_110 (by decide) rfl ?_
                refine dv_iconst (v := 0) dX0_areEnough_112 (by decide) ?_
                refine dv_istore (lv' := [(6, .int 0), (5, .int 0), (4, .int x103), (3, .int x101), (0, .ref 17), (1, .int who), (2, .int n)]) dX0_areEnough_113 (by decide) rfl ?_
                have loop115 : ∀ (n115 : Nat) (v6_115 : Int32) (v5_115 : Int32) (ct109 : Nat → va_E), ((128 - v6_115.toInt : Int).toNat < n115) → (0 ≤ v6_115.toInt ∧ v6_115.toInt ≤ 128) → (0 ≤ v5_115.toInt ∧ v5_115.toInt ≤ 1) → (zlen (ct109 20) = zlen (ct 20)) → (Inv8 g idn pe ct109) → GW l g pQ pQ false yX0_areEnough cX0_areEnough 7 (some .boolean) RX0 ({ frames := 7, cells := 0, slots := 0, locals := 173 }) K 0 0 ct109 115 [(6, .int v6_115), (5, .int v5_115), (4, .int x103), (3, .int x101), (0, .ref 17), (1, .int who), (2, .int n)] [] := by
                  intro n115
                  induction n115 with
                  | zero =>
                    intro v6_115 v5_115 ct109 hn115 b6_115 b5_115 hz hI
                    exact absurd hn115 (Nat.not_lt_zero _)
                  | succ n115 ih115 =>
                    intro v6_115 v5_115 ct109 hn115 b6_115 b5_115 hz hI
                    refine dv_iload dX0_areEnough_115 0 rfl ?_
                    refine dv_aload_n dX0_areEnough_117 rfl 4 rfl ?_
                    obtain ⟨spc111, tim112, h113, h114, hs110⟩ := a8_17 hI
                    refine dv_get (ci := 0) (v := .int spc111) (C := RX0) (T := TX0) (N := 5) ⟨by decide, rfl⟩ hs110 rfl inG0 1 (by decide) mm_161 rfl dX0_areEnough_118 ?_
                    refine dv_icmp_ge (tgt := 150) dX0_areEnough_121 (by decide) (fun c115 => ?_) (fun c115 => ?_)
                    · skip
                      have c115 : spc111.toInt ≤ v6_115.toInt := (z_le rfl rfl).mp c115
                      refine dv_aload_n dX0_areEnough_150 rfl 4 rfl ?_
                      refine dv_iload_n dX0_areEnough_151 rfl 5 rfl ?_
                      refine dv_iload dX0_areEnough_152 1 rfl ?_
                      refine dv_if_eq (tgt := 161) dX0_areEnough_154 (by decide) (fun c116 => ?_) (fun c116 => ?_)
                      · skip
                        have c116 : v5_115.toInt = 0 := (z_eq rfl (by decide : (0 : Int32).toInt = 0)).mp c116
                        refine dv_iload_n dX0_areEnough_161 rfl 6 rfl ?_
                        refine dv_iconst (v := 1) dX0_areEnough_162 (by decide) ?_
                        refine dv_iadd dX0_areEnough_163 ?_
                        refine dv_topi (fun x117 ex117 => ?_)
                        have tx117 : x117.toInt = n.toInt + 1 := by rw [ex117]; exact z_add rfl (by decide : (1 : Int32).toInt = 1) (by omega) (by omega)
                        refine dv_iload dX0_areEnough_164 1 rfl ?_
                        refine dv_if_eq (tgt := 173) dX0_areEnough_166 (by decide) (fun c118 => ?_) (fun c118 => ?_)
                        · skip
                          have c118 : v5_115.toInt = 0 := (z_eq rfl (by decide : (0 : Int32).toInt = 0)).mp c118
                          refine dv_iload dX0_areEnough_173 2 rfl ?_
                          refine GW.callV (n := 3) (As := [.int who, .int x117, .int x103]) (rest := []) (b := 17) (k_X0_keep l g pe ct109 who x117 x103 (by first | omega | decide) hI (by first | omega | assumption | decide)) (fun _ h => h) rfl rfl ⟨by decide, rfl⟩ hs110 (q := (RX0, TX0, 5)) rfl mm_756 mm_758 mm_39 mm_56 mm_759 (by decide +kernel) ⟨Nat.le_of_ble_eq_true rfl, Nat.le_of_ble_eq_true rfl⟩ rfl (Nat.le_of_ble_eq_true rfl) dX0_areEnough_175 (Nat.zero_le _) (Nat.zero_le _) rfl (fun ct119 rrr120 hBr120 hoff121 => ?_)
                          obtain ⟨rfl, hI, hzs⟩ := hBr120
                          refine GW.eq (S2 := []) rfl rfl rfl ?_
                          have hz : zlen (ct119 20) = zlen (ct 20) := hzs.trans hz
                          refine dv_iload dX0_areEnough_178 1 rfl ?_
                          exact dv_zret dX0_areEnough_180 rfl (by rcases (z_01 (x := v5_115) (by omega) (by omega)) with q | q <;> rw [q] <;> rfl) (by first | exact Nat.zero_le _ | decide) (by first | exact Nat.zero_le _ | decide) (by subst hK; exact ⟨v5_115, rfl, (by first | exact Or.inl ⟨rfl, by omega⟩ | exact Or.inr ⟨rfl, by omega⟩ | exact Or.inl rfl | exact Or.inr rfl | exact Or.inl ⟨rfl, by omega, by omega⟩ | exact (z_01 (by omega) (by omega)).symm), hI, hz⟩)
                        · skip
                          have c118 : ¬ (v5_115.toInt = 0) := fun q => c118 ((z_eq rfl (by decide : (0 : Int32).toInt = 0)).mpr q)
                          refine dv_iload_n dX0_areEnough_169 rfl 6 rfl ?_
                          refine dv_goto (tgt := 175) dX0_areEnough_170 (by decide) ?_
                          refine GW.callV (n := 3) (As := [.int who, .int x117, .int n]) (rest := []) (b := 17) (k_X0_keep l g pe ct109 who x117 n (by first | omega | decide) hI (by first | omega | assumption | decide)) (fun _ h => h) rfl rfl ⟨by decide, rfl⟩ hs110 (q := (RX0, TX0, 5)) rfl mm_756 mm_758 mm_39 mm_56 mm_759 (by decide +kernel) ⟨Nat.le_of_ble_eq_true rfl, Nat.le_of_ble_eq_true rfl⟩ rfl (Nat.le_of_ble_eq_true rfl) dX0_areEnough_175 (Nat.zero_le _) (Nat.zero_le _) rfl (fun ct122 rrr123 hBr123 hoff124 => ?_)
                          obtain ⟨rfl, hI, hzs⟩ := hBr123
                          refine GW.eq (S2 := []) rfl rfl rfl ?_
                          have hz : zlen (ct122 20) = zlen (ct 20) := hzs.trans hz
                          refine dv_iload dX0_areEnough_178 1 rfl ?_
                          exact dv_zret dX0_areEnough_180 rfl (by rcases (z_01 (x := v5_115) (by omega) (by omega)) with q | q <;> rw [q] <;> rfl) (by first | exact Nat.zero_le _ | decide) (by first | exact Nat.zero_le _ | decide) (by subst hK; exact ⟨v5_115, rfl, (by first | exact Or.inl ⟨rfl, by omega⟩ | exact Or.inr ⟨rfl, by omega⟩ | exact Or.inl rfl | exact Or.inr rfl | exact Or.inl ⟨rfl, by omega, by omega⟩ | exact (z_01 (by omega) (by omega)).symm), hI, hz⟩)
                      · skip
                        have c116 : ¬ (v5_115.toInt = 0) := fun q => c116 ((z_eq rfl (by decide : (0 : Int32).toInt = 0)).mpr q)
                        refine dv_iload_n dX0_areEnough_157 rfl 3 rfl ?_
                        refine dv_goto (tgt := 164) dX0_areEnough_158 (by decide) ?_
                        refine dv_iload dX0_areEnough_164 1 rfl ?_
                        refine dv_if_eq (tgt := 173) dX0_areEnough_166 (by decide) (fun c125 => ?_) (fun c125 => ?_)
                        · skip
                          have c125 : v5_115.toInt = 0 := (z_eq rfl (by decide : (0 : Int32).toInt = 0)).mp c125
                          exfalso
                          omega
                        · skip
                          have c125 : ¬ (v5_115.toInt = 0) := fun q => c125 ((z_eq rfl (by decide : (0 : Int32).toInt = 0)).mpr q)
                          refine dv_iload_n dX0_areEnough_169 rfl 6 rfl ?_
                          refine dv_goto (tgt := 175) dX0_areEnough_170 (by decide) ?_
                          refine GW.callV (n := 3) (As := [.int who, .int x101, .int n]) (rest := []) (b := 17) (k_X0_keep l g pe ct109 who x101 n (by first | omega | decide) hI (by first | omega | assumption | decide)) (fun _ h => h) rfl rfl ⟨by decide, rfl⟩ hs110 (q := (RX0, TX0, 5)) rfl mm_756 mm_758 mm_39 mm_56 mm_759 (by decide +kernel) ⟨Nat.le_of_ble_eq_true rfl, Nat.le_of_ble_eq_true rfl⟩ rfl (Nat.le_of_ble_eq_true rfl) dX0_areEnough_175 (Nat.zero_le _) (Nat.zero_le _) rfl (fun ct126 rrr127 hBr127 hoff128 => ?_)
                          obtain ⟨rfl, hI, hzs⟩ := hBr127
                          refine GW.eq (S2 := []) rfl rfl rfl ?_
                          have hz : zlen (ct126 20) = zlen (ct 20) := hzs.trans hz
                          refine dv_iload dX0_areEnough_178 1 rfl ?_
                          exact dv_zret dX0_areEnough_180 rfl (by rcases (z_01 (x := v5_115) (by omega) (by omega)) with q | q <;> rw [q] <;> rfl) (by first | exact Nat.zero_le _ | decide) (by first | exact Nat.zero_le _ | decide) (by subst hK; exact ⟨v5_115, rfl, (by first | exact Or.inl ⟨rfl, by omega⟩ | exact Or.inr ⟨rfl, by omega⟩ | exact Or.inl rfl | exact Or.inr rfl | exact Or.inl ⟨rfl, by omega, by omega⟩ | exact (z_01 (by omega) (by omega)).symm), hI, hz⟩)
                    · skip
                      have c115 : ¬ (spc111.toInt ≤ v6_115.toInt) := fun q => c115 ((z_le rfl rfl).mpr q)
                      refine dv_iload dX0_areEnough_124 1 rfl ?_
                      refine dv_if_ne (tgt := 150) dX0_areEnough_126 (by decide) (fun c129 => ?_) (fun c129 => ?_)
                      · skip
                        have c129 : ¬ (v5_115.toInt = 0) := fun q => c129 ((z_eq rfl (by decide : (0 : Int32).toInt = 0)).mpr q)
                        refine dv_aload_n dX0_areEnough_150 rfl 4 rfl ?_
                        refine dv_iload_n dX0_areEnough_151 rfl 5 rfl ?_
                        refine dv_iload dX0_areEnough_152 1 rfl ?_
                        refine dv_if_eq (tgt := 161) dX0_areEnough_154 (by decide) (fun c130 => ?_) (fun c130 => ?_)
                        · skip
                          have c130 : v5_115.toInt = 0 := (z_eq rfl (by decide : (0 : Int32).toInt = 0)).mp c130
                          exfalso
                          omega
                        · skip
                          have c130 : ¬ (v5_115.toInt = 0) := fun q => c130 ((z_eq rfl (by decide : (0 : Int32).toInt = 0)).mpr q)
                          refine dv_iload_n dX0_areEnough_157 rfl 3 rfl ?_
                          refine dv_goto (tgt := 164) dX0_areEnough_158 (by decide) ?_
                          refine dv_iload dX0_areEnough_164 1 rfl ?_
                          refine dv_if_eq (tgt := 173) dX0_areEnough_166 (by decide) (fun c131 => ?_) (fun c131 => ?_)
                          · skip
                            have c131 : v5_115.toInt = 0 := (z_eq rfl (by decide : (0 : Int32).toInt = 0)).mp c131
                            exfalso
                            omega
                          · skip
                            have c131 : ¬ (v5_115.toInt = 0) := fun q => c131 ((z_eq rfl (by decide : (0 : Int32).toInt = 0)).mpr q)
                            refine dv_iload_n dX0_areEnough_169 rfl 6 rfl ?_
                            refine dv_goto (tgt := 175) dX0_areEnough_170 (by decide) ?_
                            refine GW.callV (n := 3) (As := [.int who, .int x101, .int n]) (rest := []) (b := 17) (k_X0_keep l g pe ct109 who x101 n (by first | omega | decide) hI (by first | omega | assumption | decide)) (fun _ h => h) rfl rfl ⟨by decide, rfl⟩ hs110 (q := (RX0, TX0, 5)) rfl mm_756 mm_758 mm_39 mm_56 mm_759 (by decide +kernel) ⟨Nat.le_of_ble_eq_true rfl, Nat.le_of_ble_eq_true rfl⟩ rfl (Nat.le_of_ble_eq_true rfl) dX0_areEnough_175 (Nat.zero_le _) (Nat.zero_le _) rfl (fun ct132 rrr133 hBr133 hoff134 => ?_)
                            obtain ⟨rfl, hI, hzs⟩ := hBr133
                            refine GW.eq (S2 := []) rfl rfl rfl ?_
                            have hz : zlen (ct132 20) = zlen (ct 20) := hzs.trans hz
                            refine dv_iload dX0_areEnough_178 1 rfl ?_
                            exact dv_zret dX0_areEnough_180 rfl (by rcases (z_01 (x := v5_115) (by omega) (by omega)) with q | q <;> rw [q] <;> rfl) (by first | exact Nat.zero_le _ | decide) (by first | exact Nat.zero_le _ | decide) (by subst hK; exact ⟨v5_115, rfl, (by first | exact Or.inl ⟨rfl, by omega⟩ | exact Or.inr ⟨rfl, by omega⟩ | exact Or.inl rfl | exact Or.inr rfl | exact Or.inl ⟨rfl, by omega, by omega⟩ | exact (z_01 (by omega) (by omega)).symm), hI, hz⟩)
                      · skip
                        have c129 : v5_115.toInt = 0 := (z_eq rfl (by decide : (0 : Int32).toInt = 0)).mp c129
                        refine dv_aload_n dX0_areEnough_129 rfl 4 rfl ?_
                        refine dv_iload_n dX0_areEnough_130 rfl 5 rfl ?_
                        refine dv_aload_n dX0_areEnough_131 rfl 4 rfl ?_
                        refine dv_get (ci := 0) (v := .ref 18) (C := RX0) (T := TX0) (N := 5) ⟨by decide, rfl⟩ hs110 rfl inG0 0 (by decide) mm_160 rfl dX0_areEnough_132 ?_
                        refine dv_iload dX0_areEnough_135 0 rfl ?_
                        obtain ⟨f136, hs135⟩ := a8_18 hI
                        refine dv_iald 0 ⟨by decide, rfl⟩ hs135 rfl (z_in rfl (by omega) (by omega)) dX0_areEnough_137 ?_
                        refine dv_topi (fun y137 ey137 => ?_)
                        refine dv_iload_n dX0_areEnough_138 rfl 6 rfl ?_
                        refine GW.callV (n := 3) (As := [.int who, .int y137, .int n]) (rest := []) (b := 17) (k_X0_areEnoughBy_3 l g pe ct109 who y137 n (by first | omega | decide) (by first | omega | decide) hI) (fun _ h => h) rfl rfl ⟨by decide, rfl⟩ hs110 (q := (RX0, TX0, 5)) rfl mm_760 mm_762 mm_40 mm_56 mm_763 (by decide +kernel) ⟨Nat.le_of_ble_eq_true rfl, Nat.le_of_ble_eq_true rfl⟩ rfl (Nat.le_of_ble_eq_true rfl) dX0_areEnough_139 (Nat.zero_le _) (Nat.zero_le _) rfl (fun ct138 rrr139 hBr139 hoff140 => ?_)
                        obtain ⟨r139, rfl, hr139, hI, hzs⟩ := hBr139
                        refine GW.eq (S2 := [.int r139]) rfl rfl rfl ?_
                        have hz : zlen (ct138 20) = zlen (ct 20) := hzs.trans hz
                        rcases hr139 with hr139 | hr139
                        · skip
                          obtain rfl := hr139
                          refine dv_istore (lv' := [(5, .int 1), (6, .int v6_115), (4, .int x103), (3, .int x101), (0, .ref 17), (1, .int who), (2, .int n)]) dX0_areEnough_142 (by decide) rfl ?_
                          obtain ⟨x141, ex141⟩ : ∃ y : Int32, y = v6_115 + 1 := ⟨_, rfl⟩
                          have tx141 : x141.toInt = v6_115.toInt + 1 := by rw [ex141]; exact z_add rfl (by decide : (1 : Int32).toInt = 1) (by omega) (by omega)
                          refine dv_iinc (v := x141) (lv' := [(6, .int x141), (5, .int 1), (4, .int x103), (3, .int x101), (0, .ref 17), (1, .int who), (2, .int n)]) dX0_areEnough_144 (k := 1) rfl (by rw [ex141]; rfl) (by decide) rfl ?_
                          refine dv_goto (tgt := 115) dX0_areEnough_147 (by decide) ?_
                          exact ih115 x141 (1 : Int32) ct138 (by omega) (by first | omega | decide | assumption) (by first | omega | decide | assumption) hz hI
                        · skip
                          obtain rfl := hr139
                          refine dv_istore (lv' := [(5, .int 0), (6, .int v6_115), (4, .int x103), (3, .int x101), (0, .ref 17), (1, .int who), (2, .int n)]) dX0_areEnough_142 (by decide) rfl ?_
                          obtain ⟨x142, ex142⟩ : ∃ y : Int32, y = v6_115 + 1 := ⟨_, rfl⟩
                          have tx142 : x142.toInt = v6_115.toInt + 1 := by rw [ex142]; exact z_add rfl (by decide : (1 : Int32).toInt = 1) (by omega) (by omega)
                          refine dv_iinc (v := x142) (lv' := [(6, .int x142), (5, .int 0), (4, .int x103), (3, .int x101), (0, .ref 17), (1, .int who), (2, .int n)]) dX0_areEnough_144 (k := 1) rfl (by rw [ex142]; rfl) (by decide) rfl ?_
                          refine dv_goto (tgt := 115) dX0_areEnough_147 (by decide) ?_
                          exact ih115 x142 (0 : Int32) ct138 (by omega) (by first | omega | decide | assumption) (by first | omega | decide | assumption) hz hI
                exact loop115 ((128 - (0 : Int32).toInt : Int).toNat + 1) (0 : Int32) (0 : Int32) ct81 (by omega) (by first | omega | decide | assumption) (by first | omega | decide | assumption) hz hI
              · skip
                have c108 : ¬ (n.toInt < x103.toInt) := fun q => c108 ((z_lt rfl rfl).mpr q)
                refine dv_iload_n dX0_areEnough_97 rfl 4 rfl ?_
                refine dv_iload dX0_areEnough_98 0 rfl ?_
                refine dv_icmp_lt (tgt := 107) dX0_areEnough_100 (by decide) (fun c143 => ?_) (fun c143 => ?_)
                · skip
                  have c143 : n.toInt < x103.toInt := (z_lt rfl rfl).mp c143
                  refine dv_iconst (v := 0) dX0_areEnough_107 (by decide) ?_
                  have q144 : (0 : Int32).toInt = 0 := by decide
                  exact dv_zret dX0_areEnough_108 rfl rfl (by first | exact Nat.zero_le _ | decide) (by first | exact Nat.zero_le _ | decide) (by subst hK; exact ⟨0, rfl, (by first | exact Or.inl ⟨rfl, by omega⟩ | exact Or.inr ⟨rfl, by omega⟩ | exact Or.inl rfl | exact Or.inr rfl | exact Or.inl ⟨rfl, by omega, by omega⟩ | exact (z_01 (by omega) (by omega)).symm), hI, hz⟩)
                · skip
                  have c143 : ¬ (n.toInt < x103.toInt) := fun q => c143 ((z_lt rfl rfl).mpr q)
                  refine dv_iconst (v := 1) dX0_areEnough_103 (by decide) ?_
                  refine dv_goto (tgt := 108) dX0_areEnough_104 (by decide) ?_
                  have q145 : (1 : Int32).toInt = 1 := by decide
                  exact dv_zret dX0_areEnough_108 rfl rfl (by first | exact Nat.zero_le _ | decide) (by first | exact Nat.zero_le _ | decide) (by subst hK; exact ⟨1, rfl, (by first | exact Or.inl ⟨rfl, by omega⟩ | exact Or.inr ⟨rfl, by omega⟩ | exact Or.inl rfl | exact Or.inr rfl | exact Or.inl ⟨rfl, by omega, by omega⟩ | exact (z_01 (by omega) (by omega)).symm), hI, hz⟩)
        · skip
          exact absurd c23 (by decide)
      · skip
        obtain ⟨rfl, h146⟩ := hr19
        have h146 : ¬ ((0 : Int) ≤ who.toInt ∧ who.toInt ≤ x17.toInt) := h146
        refine dv_if_ne (tgt := 31) dX0_areEnough_26 (by decide) (fun c147 => ?_) (fun c147 => ?_)
        · skip
          exact absurd c147 (by decide)
        · skip
          refine dv_iconst (v := 0) dX0_areEnough_29 (by decide) ?_
          have q148 : (0 : Int32).toInt = 0 := by decide
          exact dv_zret dX0_areEnough_30 rfl rfl (by first | exact Nat.zero_le _ | decide) (by first | exact Nat.zero_le _ | decide) (by subst hK; exact ⟨0, rfl, (by first | exact Or.inl ⟨rfl, by omega⟩ | exact Or.inr ⟨rfl, by omega⟩ | exact Or.inl rfl | exact Or.inr rfl | exact Or.inl ⟨rfl, by omega, by omega⟩ | exact (z_01 (by omega) (by omega)).symm), hI, hz⟩)
  · skip
    have c4 : ¬ (1 < (bcf who).toInt) := fun q => c4 ((z_lt (by decide : (1 : Int32).toInt = 1) rfl).mpr q)
    refine dv_iconst (v := 1) dX0_areEnough_8 (by decide) ?_
    have q149 : (1 : Int32).toInt = 1 := by decide
    exact dv_zret dX0_areEnough_9 rfl rfl (by first | exact Nat.zero_le _ | decide) (by first | exact Nat.zero_le _ | decide) (by subst hK; exact ⟨1, rfl, (by first | exact Or.inl ⟨rfl, by omega⟩ | exact Or.inr ⟨rfl, by omega⟩ | exact Or.inl rfl | exact Or.inr rfl | exact Or.inl ⟨rfl, by omega, by omega⟩ | exact (z_01 (by omega) (by omega)).symm), hI, hz⟩)
