set_option maxHeartbeats 4000000 in
set_option maxRecDepth 100000 in
theorem k_X8_lossOfLine (l : Launch) (g : zG) (pe : Int32) (ct : Nat → va_E) (kb : Nat) (i : Int32) (hf_kb : 55 ≤ kb ∧ kb < 99 ∧ (kb - 55) % 11 = 0) (hI : Inv8 g idn pe ct) : DM l g pCl false yX8_lossOfLine cX8_lossOfLine 5 (some .int) ({ frames := 2, cells := 0, slots := 0, locals := 42 }) (fun (ct2 : Nat → va_E) (rr : Option Value) => ∃ (r : Int32), rr = some (.int r) ∧ ((True)) ∧ ct = ct2) ct [.ref 0, .ref kb, .int i] := by
  refine DM.K (fun K hK => ?_)
  refine GW.met (own := RX8) (loc := [(0, .ref 0), (1, .ref kb), (2, .int i)]) (by decide) rfl rfl (Nat.le_of_ble_eq_true rfl) ?_
  have hpe0 := hI.1
  have rg_i := z_rng i
  refine dv_iconst (v := 0) dX8_lossOfLine_0 (by decide) ?_
  refine dv_istore_n (lv' := [(3, .int 0), (0, .ref 0), (1, .ref kb), (2, .int i)]) dX8_lossOfLine_1 rfl (by decide) rfl ?_
  refine dv_iconst (v := 0) dX8_lossOfLine_2 (by decide) ?_
  refine dv_istore (lv' := [(4, .int 0), (3, .int 0), (0, .ref 0), (1, .ref kb), (2, .int i)]) dX8_lossOfLine_3 (by decide) rfl ?_
  have loop5 : ∀ (n5 : Nat) (v4_5 : Int32) (v3_5 : Int32), ((4 - v4_5.toInt : Int).toNat < n5) → (0 ≤ v4_5.toInt ∧ v4_5.toInt ≤ 4) → GW l g pCl pCl false yX8_lossOfLine cX8_lossOfLine 5 (some .int) RX8 ({ frames := 2, cells := 0, slots := 0, locals := 42 }) K 0 0 ct 5 [(4, .int v4_5), (3, .int v3_5), (0, .ref 0), (1, .ref kb), (2, .int i)] [] := by
    intro n5
    induction n5 with
    | zero =>
      intro v4_5 v3_5 hn5 b4_5
      exact absurd hn5 (Nat.not_lt_zero _)
    | succ n5 ih5 =>
      intro v4_5 v3_5 hn5 b4_5
      refine dv_iload dX8_lossOfLine_5 0 rfl ?_
      refine dv_iconst (v := 4) dX8_lossOfLine_7 (by decide) ?_
      refine dv_icmp_ge (tgt := 37) dX8_lossOfLine_8 (by decide) (fun c1 => ?_) (fun c1 => ?_)
      · skip
        have c1 : 4 ≤ v4_5.toInt := (z_le (by decide : (4 : Int32).toInt = 4) rfl).mp c1
        refine dv_iload_n dX8_lossOfLine_37 rfl 1 rfl ?_
        exact dv_iret dX8_lossOfLine_38 rfl (by first | exact Nat.zero_le _ | decide) (by first | exact Nat.zero_le _ | decide) (by subst hK; exact ⟨v3_5, rfl, (trivial), rfl⟩)
      · skip
        have c1 : ¬ (4 ≤ v4_5.toInt) := fun q => c1 ((z_le (by decide : (4 : Int32).toInt = 4) rfl).mpr q)
        refine dv_iload_n dX8_lossOfLine_11 rfl 1 rfl ?_
        refine dv_aload_n dX8_lossOfLine_12 rfl 2 rfl ?_
        obtain ⟨bk4, dr3, h5, h6, h7, hs2⟩ := a8_0 hI
        refine dv_get (ci := 8) (v := .ref 1) (C := RX8) (T := TX8) (N := 13) ⟨by decide, rfl⟩ hs2 rfl inG8 0 (by decide) mm_303 rfl dX8_lossOfLine_13 ?_
        refine dv_iload dX8_lossOfLine_16 0 rfl ?_
        have hs8 := a8_1 hI
        refine dv_aldq 4 ⟨by decide, rfl⟩ hs8 rfl (z_in rfl (by omega) (by omega)) dX8_lossOfLine_18 (r := (0 + 35 + 5 * v4_5.toInt.toNat)) (zF1_r (x := v4_5) (by omega) (by omega)) ?_
        refine dv_aload_n dX8_lossOfLine_19 rfl 3 rfl ?_
        refine dv_iload_n dX8_lossOfLine_20 rfl 4 rfl ?_
        refine dv_iload dX8_lossOfLine_21 0 rfl ?_
        obtain ⟨lns11, liv12, shw13, h14, h15, h16, h17, hz18, h19, hs10⟩ := a8_40 (kc := kb) (by omega) hI
        have bhz18 := z_b01 hz18
        refine GW.callV (n := 2) (As := [.int i, .int v4_5]) (rest := [.ref (0 + 35 + 5 * v4_5.toInt.toNat), .int v3_5]) (b := kb) (k_X2_nodeAt l g pe ct kb i v4_5 (by omega) hI) sub_pB_pCl rfl rfl ⟨by omega, pB_of (by omega)⟩ hs10 (q := (RX2, TX2, 5)) rfl mm_461 mm_462 mm_463 mm_60 mm_464 (by decide +kernel) ⟨Nat.le_of_ble_eq_true rfl, Nat.le_of_ble_eq_true rfl⟩ rfl (Nat.le_of_ble_eq_true rfl) dX8_lossOfLine_23 (Nat.zero_le _) (Nat.zero_le _) rfl (fun ct9 rrr20 hBr20 hoff21 => ?_)
        obtain ⟨r20, rfl, hr20, rfl⟩ := hBr20
        refine GW.eq (S2 := [.int r20, .ref (0 + 35 + 5 * v4_5.toInt.toNat), .int v3_5]) rfl rfl rfl ?_
        obtain ⟨we24, se25, h26, h27, hs23⟩ := a8_35 (kc := (0 + 35 + 5 * v4_5.toInt.toNat)) (by omega) hI
        refine GW.callV (n := 1) (As := [.int r20]) (rest := [.int v3_5]) (b := (0 + 35 + 5 * v4_5.toInt.toNat)) (k_X3_lossOf l g pe ct (0 + 35 + 5 * v4_5.toInt.toNat) r20 (by omega) hI) sub_pK_pCl rfl rfl ⟨by omega, pK_of (by omega)⟩ hs23 (q := (RX3, TX3, 6)) rfl mm_805 mm_806 mm_807 mm_59 mm_808 (by decide +kernel) ⟨Nat.le_of_ble_eq_true rfl, Nat.le_of_ble_eq_true rfl⟩ rfl (Nat.le_of_ble_eq_true rfl) dX8_lossOfLine_26 (Nat.zero_le _) (Nat.zero_le _) rfl (fun ct22 rrr28 hBr28 hoff29 => ?_)
        obtain ⟨r28, rfl, hr28, rfl⟩ := hBr28
        refine GW.eq (S2 := [.int r28, .int v3_5]) rfl rfl rfl ?_
        refine dv_iadd dX8_lossOfLine_29 ?_
        refine dv_topi (fun x30 ex30 => ?_)
        refine dv_istore_n (lv' := [(3, .int x30), (4, .int v4_5), (0, .ref 0), (1, .ref kb), (2, .int i)]) dX8_lossOfLine_30 rfl (by decide) rfl ?_
        obtain ⟨x31, ex31⟩ : ∃ y : Int32, y = v4_5 + 1 := ⟨_, rfl⟩
        have tx31 : x31.toInt = v4_5.toInt + 1 := by rw [ex31]; exact z_add rfl (by decide : (1 : Int32).toInt = 1) (by omega) (by omega)
        refine dv_iinc (v := x31) (lv' := [(4, .int x31), (3, .int x30), (0, .ref 0), (1, .ref kb), (2, .int i)]) dX8_lossOfLine_31 (k := 1) rfl (by rw [ex31]; rfl) (by decide) rfl ?_
        refine dv_goto (tgt := 5) dX8_lossOfLine_34 (by decide) ?_
        exact ih5 x31 x30 (by omega) (by first | omega | decide | assumption)
  exact loop5 ((4 - (0 : Int32).toInt : Int).toNat + 1) (0 : Int32) (0 : Int32) (by omega) (by first | omega | decide | assumption)

set_option maxHeartbeats 4000000 in
set_option maxRecDepth 100000 in
theorem k_X8_someAlike (l : Launch) (g : zG) (pe : Int32) (ct : Nat → va_E) (wh : Int32) (hI : Inv8 g idn pe ct) : DM l g pCl false yX8_someAlike cX8_someAlike 5 (some .boolean) ({ frames := 1, cells := 0, slots := 0, locals := 21 }) (fun (ct2 : Nat → va_E) (rr : Option Value) => ∃ (r : Int32), rr = some (.int r) ∧ ((r = 1) ∨ (r = 0)) ∧ ct = ct2) ct [.ref 0, .int wh] := by
  refine DM.K (fun K hK => ?_)
  refine GW.met (own := RX8) (loc := [(0, .ref 0), (1, .int wh)]) (by decide) rfl rfl (Nat.le_of_ble_eq_true rfl) ?_
  have hpe0 := hI.1
  have rg_wh := z_rng wh
  refine dv_iconst (v := 0) dX8_someAlike_0 (by decide) ?_
  refine dv_istore_n (lv' := [(2, .int 0), (0, .ref 0), (1, .int wh)]) dX8_someAlike_1 rfl (by decide) rfl ?_
  have loop2 : ∀ (n2 : Nat) (v2_2 : Int32), ((16 - v2_2.toInt : Int).toNat < n2) → (0 ≤ v2_2.toInt ∧ v2_2.toInt ≤ 16) → GW l g pCl pCl false yX8_someAlike cX8_someAlike 5 (some .boolean) RX8 ({ frames := 1, cells := 0, slots := 0, locals := 21 }) K 0 0 ct 2 [(2, .int v2_2), (0, .ref 0), (1, .int wh)] [] := by
    intro n2
    induction n2 with
    | zero =>
      intro v2_2 hn2 b2_2
      exact absurd hn2 (Nat.not_lt_zero _)
    | succ n2 ih2 =>
      intro v2_2 hn2 b2_2
      refine dv_iload_n dX8_someAlike_2 rfl 0 rfl ?_
      refine dv_aload_n dX8_someAlike_3 rfl 1 rfl ?_
      obtain ⟨bk3, dr2, h4, h5, h6, hs1⟩ := a8_0 hI
      refine dv_get (ci := 8) (v := .int pe) (C := RX8) (T := TX8) (N := 13) ⟨by decide, rfl⟩ hs1 rfl inG8 11 (by decide) mm_314 rfl dX8_someAlike_4 ?_
      refine dv_icmp_ge (tgt := 67) dX8_someAlike_7 (by decide) (fun c7 => ?_) (fun c7 => ?_)
      · skip
        have c7 : pe.toInt ≤ v2_2.toInt := (z_le rfl rfl).mp c7
        refine dv_iconst (v := 0) dX8_someAlike_67 (by decide) ?_
        have q8 : (0 : Int32).toInt = 0 := by decide
        exact dv_zret dX8_someAlike_68 rfl rfl (by first | exact Nat.zero_le _ | decide) (by first | exact Nat.zero_le _ | decide) (by subst hK; exact ⟨0, rfl, (by first | exact Or.inl ⟨rfl, by omega⟩ | exact Or.inr ⟨rfl, by omega⟩ | exact Or.inl rfl | exact Or.inr rfl | exact Or.inl ⟨rfl, by omega, by omega⟩ | exact (z_01 (by omega) (by omega)).symm), rfl⟩)
      · skip
        have c7 : ¬ (pe.toInt ≤ v2_2.toInt) := fun q => c7 ((z_le rfl rfl).mpr q)
        refine dv_iload_n dX8_someAlike_10 rfl 2 rfl ?_
        refine dv_istore_n (lv' := [(3, .int wh), (2, .int v2_2), (0, .ref 0), (1, .int wh)]) dX8_someAlike_11 rfl (by decide) rfl ?_
        refine dv_iconst (v := 0) dX8_someAlike_12 (by decide) ?_
        refine dv_istore (lv' := [(4, .int 0), (3, .int wh), (2, .int v2_2), (0, .ref 0), (1, .int wh)]) dX8_someAlike_13 (by decide) rfl ?_
        have loop15 : ∀ (n15 : Nat) (v4_15 : Int32) (v3_15 : Int32), ((4 - v4_15.toInt : Int).toNat < n15) → (0 ≤ v4_15.toInt ∧ v4_15.toInt ≤ 4) → GW l g pCl pCl false yX8_someAlike cX8_someAlike 5 (some .boolean) RX8 ({ frames := 1, cells := 0, slots := 0, locals := 21 }) K 0 0 ct 15 [(4, .int v4_15), (3, .int v3_15), (2, .int v2_2), (0, .ref 0), (1, .int wh)] [] := by
          intro n15
          induction n15 with
          | zero =>
            intro v4_15 v3_15 hn15 b4_15
            exact absurd hn15 (Nat.not_lt_zero _)
          | succ n15 ih15 =>
            intro v4_15 v3_15 hn15 b4_15
            refine dv_iload dX8_someAlike_15 0 rfl ?_
            refine dv_iconst (v := 4) dX8_someAlike_17 (by decide) ?_
            refine dv_icmp_ge (tgt := 51) dX8_someAlike_18 (by decide) (fun c9 => ?_) (fun c9 => ?_)
            · skip
              have c9 : 4 ≤ v4_15.toInt := (z_le (by decide : (4 : Int32).toInt = 4) rfl).mp c9
              refine dv_iload_n dX8_someAlike_51 rfl 1 rfl ?_
              refine GW.callS (n := 1) (As := [.int v3_15]) (rest := []) (k_J6_bitCount_0f7a4 l g pe ct v3_15 hI) (fun _ h => Bool.noConfusion h) rfl rfl mm_504 mm_499 mm_62 mm_500 (by decide +kernel) ⟨Nat.le_of_ble_eq_true rfl, Nat.le_of_ble_eq_true rfl⟩ rfl (Nat.le_of_ble_eq_true rfl) dX8_someAlike_52 (Nat.zero_le _) (Nat.zero_le _) rfl (fun ct10 rrr11 hBr11 hoff12 => ?_)
              obtain ⟨r11, rfl, hr11, rfl⟩ := hBr11
              refine GW.eq (S2 := [.int r11]) rfl rfl rfl ?_
              obtain ⟨hr11_0, hr11_1⟩ := hr11
              have hr11_0 : 0 ≤ r11.toInt := hr11_0
              have hr11_1 : r11.toInt ≤ 63 := hr11_1
              refine dv_iconst (v := 1) dX8_someAlike_55 (by decide) ?_
              refine dv_icmp_le (tgt := 61) dX8_someAlike_56 (by decide) (fun c13 => ?_) (fun c13 => ?_)
              · skip
                have c13 : r11.toInt ≤ 1 := (z_le rfl (by decide : (1 : Int32).toInt = 1)).mp c13
                obtain ⟨x14, ex14⟩ : ∃ y : Int32, y = v2_2 + 1 := ⟨_, rfl⟩
                have tx14 : x14.toInt = v2_2.toInt + 1 := by rw [ex14]; exact z_add rfl (by decide : (1 : Int32).toInt = 1) (by omega) (by omega)
                refine dv_iinc (v := x14) (lv' := [(2, .int x14), (4, .int v4_15), (3, .int v3_15), (0, .ref 0), (1, .int wh)]) dX8_someAlike_61 (k := 2) rfl (by rw [ex14]; rfl) (by decide) rfl ?_
                refine dv_goto (tgt := 2) dX8_someAlike_64 (by decide) ?_
                refine dv_sub (loc2 := [(2, .int x14), (0, .ref 0), (1, .int wh)]) [0, 3, 4] rfl ?_
                exact ih2 x14 (by omega) (by first | omega | decide | assumption)
              · skip
                have c13 : ¬ (r11.toInt ≤ 1) := fun q => c13 ((z_le rfl (by decide : (1 : Int32).toInt = 1)).mpr q)
                refine dv_iconst (v := 1) dX8_someAlike_59 (by decide) ?_
                have q15 : (1 : Int32).toInt = 1 := by decide
                exact dv_zret dX8_someAlike_60 rfl rfl (by first | exact Nat.zero_le _ | decide) (by first | exact Nat.zero_le _ | decide) (by subst hK; exact ⟨1, rfl, (by first | exact Or.inl ⟨rfl, by omega⟩ | exact Or.inr ⟨rfl, by omega⟩ | exact Or.inl rfl | exact Or.inr rfl | exact Or.inl ⟨rfl, by omega, by omega⟩ | exact (z_01 (by omega) (by omega)).symm), rfl⟩)
            · skip
              have c9 : ¬ (4 ≤ v4_15.toInt) := fun q => c9 ((z_le (by decide : (4 : Int32).toInt = 4) rfl).mpr q)
              refine dv_iload_n dX8_someAlike_21 rfl 1 rfl ?_
              refine dv_aload_n dX8_someAlike_22 rfl 3 rfl ?_
              refine dv_get (ci := 8) (v := .ref 1) (C := RX8) (T := TX8) (N := 13) ⟨by decide, rfl⟩ hs1 rfl inG8 0 (by decide) mm_303 rfl dX8_someAlike_23 ?_
              refine dv_iload dX8_someAlike_26 0 rfl ?_
              have hs16 := a8_1 hI
              refine dv_aldq 4 ⟨by decide, rfl⟩ hs16 rfl (z_in rfl (by omega) (by omega)) dX8_someAlike_28 (r := (0 + 35 + 5 * v4_15.toInt.toNat)) (zF1_r (x := v4_15) (by omega) (by omega)) ?_
              refine dv_aload_n dX8_someAlike_29 rfl 3 rfl ?_
              refine dv_get (ci := 8) (v := .ref 1) (C := RX8) (T := TX8) (N := 13) ⟨by decide, rfl⟩ hs1 rfl inG8 0 (by decide) mm_303 rfl dX8_someAlike_30 ?_
              refine dv_iload dX8_someAlike_33 0 rfl ?_
              refine dv_aldq 4 ⟨by decide, rfl⟩ hs16 rfl (z_in rfl (by omega) (by omega)) dX8_someAlike_35 (r := (0 + 35 + 5 * v4_15.toInt.toNat)) (zF1_r (x := v4_15) (by omega) (by omega)) ?_
              refine dv_iload_n dX8_someAlike_36 rfl 2 rfl ?_
              obtain ⟨we19, se20, h21, h22, hs18⟩ := a8_35 (kc := (0 + 35 + 5 * v4_15.toInt.toNat)) (by omega) hI
              refine GW.callV (n := 1) (As := [.int v2_2]) (rest := [.ref (0 + 35 + 5 * v4_15.toInt.toNat), .int v3_15]) (b := (0 + 35 + 5 * v4_15.toInt.toNat)) (k_X3_valueOf l g pe ct (0 + 35 + 5 * v4_15.toInt.toNat) v2_2 (by omega) hI) sub_pK_pCl rfl rfl ⟨by omega, pK_of (by omega)⟩ hs18 (q := (RX3, TX3, 6)) rfl mm_387 mm_388 mm_389 mm_59 mm_390 (by decide +kernel) ⟨Nat.le_of_ble_eq_true rfl, Nat.le_of_ble_eq_true rfl⟩ rfl (Nat.le_of_ble_eq_true rfl) dX8_someAlike_37 (Nat.zero_le _) (Nat.zero_le _) rfl (fun ct17 rrr23 hBr23 hoff24 => ?_)
              obtain ⟨r23, rfl, hr23, rfl⟩ := hBr23
              refine GW.eq (S2 := [.int r23, .ref (0 + 35 + 5 * v4_15.toInt.toNat), .int v3_15]) rfl rfl rfl ?_
              refine GW.callV (n := 1) (As := [.int r23]) (rest := [.int v3_15]) (b := (0 + 35 + 5 * v4_15.toInt.toNat)) (k_X3_whoBelow l g pe ct (0 + 35 + 5 * v4_15.toInt.toNat) r23 (by omega) hI) sub_pK_pCl rfl rfl ⟨by omega, pK_of (by omega)⟩ hs18 (q := (RX3, TX3, 6)) rfl mm_465 mm_466 mm_467 mm_59 mm_468 (by decide +kernel) ⟨Nat.le_of_ble_eq_true rfl, Nat.le_of_ble_eq_true rfl⟩ rfl (Nat.le_of_ble_eq_true rfl) dX8_someAlike_40 (Nat.zero_le _) (Nat.zero_le _) rfl (fun ct25 rrr26 hBr26 hoff27 => ?_)
              obtain ⟨r26, rfl, hr26, rfl⟩ := hBr26
              refine GW.eq (S2 := [.int r26, .int v3_15]) rfl rfl rfl ?_
              refine dv_iand dX8_someAlike_43 ?_
              refine dv_topi (fun x28 ex28 => ?_)
              refine dv_istore_n (lv' := [(3, .int x28), (4, .int v4_15), (2, .int v2_2), (0, .ref 0), (1, .int wh)]) dX8_someAlike_44 rfl (by decide) rfl ?_
              obtain ⟨x29, ex29⟩ : ∃ y : Int32, y = v4_15 + 1 := ⟨_, rfl⟩
              have tx29 : x29.toInt = v4_15.toInt + 1 := by rw [ex29]; exact z_add rfl (by decide : (1 : Int32).toInt = 1) (by omega) (by omega)
              refine dv_iinc (v := x29) (lv' := [(4, .int x29), (3, .int x28), (2, .int v2_2), (0, .ref 0), (1, .int wh)]) dX8_someAlike_45 (k := 1) rfl (by rw [ex29]; rfl) (by decide) rfl ?_
              refine dv_goto (tgt := 15) dX8_someAlike_48 (by decide) ?_
              exact ih15 x29 x28 (by omega) (by first | omega | decide | assumption)
        exact loop15 ((4 - (0 : Int32).toInt : Int).toNat + 1) (0 : Int32) wh (by omega) (by first | omega | decide | assumption)
  exact loop2 ((16 - (0 : Int32).toInt : Int).toNat + 1) (0 : Int32) (by omega) (by first | omega | decide | assumption)

set_option maxHeartbeats 4000000 in
set_option maxRecDepth 100000 in
theorem k_X8_fillColumn (l : Launch) (g : zG) (pe : Int32) (ct : Nat → va_E) (kb : Nat) (c0 : Int32) (lv : Int32) (hf_kb : 55 ≤ kb ∧ kb < 99 ∧ (kb - 55) % 11 = 0) (hl_c0 : 0 ≤ c0.toInt ∧ c0.toInt ≤ 3) (hI : Inv8 g idn pe ct) : DM l g pCl false yX8_fillColumn cX8_fillColumn 6 none ({ frames := 2, cells := 0, slots := 0, locals := 46 }) (fun (ct2 : Nat → va_E) (rr : Option Value) => rr = none ∧ Inv8 g idn pe ct2 ∧ (ct2 0 = ct 0)) ct [.ref 0, .ref kb, .int c0, .int lv] := by
  refine DM.K (fun K hK => ?_)
  refine GW.met (own := RX8) (loc := [(0, .ref 0), (1, .ref kb), (2, .int c0), (3, .int lv)]) (by decide) rfl rfl (Nat.le_of_ble_eq_true rfl) ?_
  have hpe0 := hI.1
  have hk0 : ct 0 = ct 0 := rfl
  obtain ⟨bk3, dr2, h4, h5, h6, hs1⟩ := a8_0 hI
  have rg_lv := z_rng lv
  refine dv_iconst (v := 0) dX8_fillColumn_0 (by decide) ?_
  refine dv_istore (lv' := [(4, .int 0), (0, .ref 0), (1, .ref kb), (2, .int c0), (3, .int lv)]) dX8_fillColumn_1 (by decide) rfl ?_
  have loop3 : ∀ (n3 : Nat) (v4_3 : Int32) (ct7 : Nat → va_E), ((8 - v4_3.toInt : Int).toNat < n3) → (0 ≤ v4_3.toInt ∧ v4_3.toInt ≤ 8) → (ct7 0 = ct 0) → (Inv8 g idn pe ct7) → GW l g pCl pCl false yX8_fillColumn cX8_fillColumn 6 none RX8 ({ frames := 2, cells := 0, slots := 0, locals := 46 }) K 0 0 ct7 3 [(4, .int v4_3), (0, .ref 0), (1, .ref kb), (2, .int c0), (3, .int lv)] [] := by
    intro n3
    induction n3 with
    | zero =>
      intro v4_3 ct7 hn3 b4_3 hk0 hI
      exact absurd hn3 (Nat.not_lt_zero _)
    | succ n3 ih3 =>
      intro v4_3 ct7 hn3 b4_3 hk0 hI
      have hs8 : ct7 0 = .inr (8, [.ref 1, .ref 2, .ref 3, .ref 5, .ref 6, .ref 9, .ref 10, .ref 17, .ref 21, .ref 34, .ref (99 + 3 * dr2), .int pe, .int bk3]) := hk0.trans hs1
      refine dv_iload dX8_fillColumn_3 0 rfl ?_
      refine dv_aload_n dX8_fillColumn_5 rfl 2 rfl ?_
      obtain ⟨lns10, liv11, shw12, h13, h14, h15, h16, hz17, h18, hs9⟩ := a8_40 (kc := kb) (by omega) hI
      have bhz17 := z_b01 hz17
      refine dv_get (ci := 2) (v := .int lns10) (C := RX2) (T := TX2) (N := 5) ⟨by omega, pCl_of (by omega)⟩ hs9 rfl inG2 0 (by decide) mm_285 rfl dX8_fillColumn_6 ?_
      refine dv_icmp_ge (tgt := 54) dX8_fillColumn_9 (by decide) (fun c19 => ?_) (fun c19 => ?_)
      · skip
        have c19 : lns10.toInt ≤ v4_3.toInt := (z_le rfl rfl).mp c19
        exact dv_vret dX8_fillColumn_54 rfl (by first | exact Nat.zero_le _ | decide) (by first | exact Nat.zero_le _ | decide) (by subst hK; exact ⟨rfl, hI, (by assumption)⟩)
      · skip
        have c19 : ¬ (lns10.toInt ≤ v4_3.toInt) := fun q => c19 ((z_le rfl rfl).mpr q)
        refine dv_aload_n dX8_fillColumn_12 rfl 1 rfl ?_
        refine dv_get (ci := 8) (v := .ref 1) (C := RX8) (T := TX8) (N := 13) ⟨by decide, rfl⟩ hs8 rfl inG8 0 (by decide) mm_303 rfl dX8_fillColumn_13 ?_
        refine dv_iload_n dX8_fillColumn_16 rfl 3 rfl ?_
        have hs20 := a8_1 hI
        refine dv_aldq 4 ⟨by decide, rfl⟩ hs20 rfl (z_in rfl (by omega) (by omega)) dX8_fillColumn_17 (r := (0 + 35 + 5 * c0.toInt.toNat)) (zF1_r (x := c0) (by omega) (by omega)) ?_
        refine dv_aload_n dX8_fillColumn_18 rfl 2 rfl ?_
        refine dv_iload dX8_fillColumn_19 0 rfl ?_
        refine GW.callV (n := 1) (As := [.int v4_3]) (rest := [.ref (0 + 35 + 5 * c0.toInt.toNat)]) (b := kb) (k_X2_owner l g pe ct7 kb v4_3 (by omega) hI) sub_pB_pCl rfl rfl ⟨by omega, pB_of (by omega)⟩ hs9 (q := (RX2, TX2, 5)) rfl mm_382 mm_383 mm_384 mm_60 mm_385 (by decide +kernel) ⟨Nat.le_of_ble_eq_true rfl, Nat.le_of_ble_eq_true rfl⟩ rfl (Nat.le_of_ble_eq_true rfl) dX8_fillColumn_21 (Nat.zero_le _) (Nat.zero_le _) rfl (fun ct21 rrr22 hBr22 hoff23 => ?_)
        obtain ⟨r22, rfl, hr22, rfl⟩ := hBr22
        refine GW.eq (S2 := [.int r22, .ref (0 + 35 + 5 * c0.toInt.toNat)]) rfl rfl rfl ?_
        obtain ⟨we26, se27, h28, h29, hs25⟩ := a8_35 (kc := (0 + 35 + 5 * c0.toInt.toNat)) (by omega) hI
        refine GW.callV (n := 1) (As := [.int r22]) (rest := []) (b := (0 + 35 + 5 * c0.toInt.toNat)) (k_X3_valueOf l g pe ct7 (0 + 35 + 5 * c0.toInt.toNat) r22 (by omega) hI) sub_pK_pCl rfl rfl ⟨by omega, pK_of (by omega)⟩ hs25 (q := (RX3, TX3, 6)) rfl mm_387 mm_388 mm_389 mm_59 mm_390 (by decide +kernel) ⟨Nat.le_of_ble_eq_true rfl, Nat.le_of_ble_eq_true rfl⟩ rfl (Nat.le_of_ble_eq_true rfl) dX8_fillColumn_24 (Nat.zero_le _) (Nat.zero_le _) rfl (fun ct24 rrr30 hBr30 hoff31 => ?_)
        obtain ⟨r30, rfl, hr30, rfl⟩ := hBr30
        refine GW.eq (S2 := [.int r30]) rfl rfl rfl ?_
        refine dv_istore (lv' := [(5, .int r30), (4, .int v4_3), (0, .ref 0), (1, .ref kb), (2, .int c0), (3, .int lv)]) dX8_fillColumn_27 (by decide) rfl ?_
        refine dv_aload_n dX8_fillColumn_29 rfl 3 rfl ?_
        refine dv_iload dX8_fillColumn_30 1 rfl ?_
        refine dv_iload_n dX8_fillColumn_32 rfl 4 rfl ?_
        refine dv_aload_n dX8_fillColumn_33 rfl 2 rfl ?_
        refine dv_get (ci := 8) (v := .ref 1) (C := RX8) (T := TX8) (N := 13) ⟨by decide, rfl⟩ hs8 rfl inG8 0 (by decide) mm_303 rfl dX8_fillColumn_34 ?_
        refine dv_iload_n dX8_fillColumn_37 rfl 4 rfl ?_
        refine dv_aldq 4 ⟨by decide, rfl⟩ hs20 rfl (z_in rfl (by omega) (by omega)) dX8_fillColumn_38 (r := (0 + 35 + 5 * c0.toInt.toNat)) (zF1_r (x := c0) (by omega) (by omega)) ?_
        refine dv_iload dX8_fillColumn_39 0 rfl ?_
        refine dv_iload_n dX8_fillColumn_41 rfl 5 rfl ?_
        refine GW.callV (n := 2) (As := [.int r30, .int lv]) (rest := [.int c0, .int v4_3, .ref kb]) (b := (0 + 35 + 5 * c0.toInt.toNat)) (k_X3_raised l g pe ct7 (0 + 35 + 5 * c0.toInt.toNat) r30 lv (by omega) hI) sub_pK_pCl rfl rfl ⟨by omega, pK_of (by omega)⟩ hs25 (q := (RX3, TX3, 6)) rfl mm_391 mm_392 mm_393 mm_59 mm_394 (by decide +kernel) ⟨Nat.le_of_ble_eq_true rfl, Nat.le_of_ble_eq_true rfl⟩ rfl (Nat.le_of_ble_eq_true rfl) dX8_fillColumn_42 (Nat.zero_le _) (Nat.zero_le _) rfl (fun ct32 rrr33 hBr33 hoff34 => ?_)
        obtain ⟨r33, rfl, hr33, rfl⟩ := hBr33
        refine GW.eq (S2 := [.int r33, .int c0, .int v4_3, .ref kb]) rfl rfl rfl ?_
        refine GW.callV (n := 3) (As := [.int v4_3, .int c0, .int r33]) (rest := []) (b := kb) (k_X2_put l g pe ct7 kb v4_3 c0 r33 (by omega) hI) sub_pB_pCl rfl rfl ⟨by omega, pB_of (by omega)⟩ hs9 (q := (RX2, TX2, 5)) rfl mm_396 mm_397 mm_398 mm_60 mm_399 (by decide +kernel) ⟨Nat.le_of_ble_eq_true rfl, Nat.le_of_ble_eq_true rfl⟩ rfl (Nat.le_of_ble_eq_true rfl) dX8_fillColumn_45 (Nat.zero_le _) (Nat.zero_le _) rfl (fun ct35 rrr36 hBr36 hoff37 => ?_)
        obtain ⟨rfl, hI, hk38⟩ := hBr36
        refine GW.eq (S2 := []) rfl rfl rfl ?_
        have hs39 : ct35 0 = .inr (8, [.ref 1, .ref 2, .ref 3, .ref 5, .ref 6, .ref 9, .ref 10, .ref 17, .ref 21, .ref 34, .ref (99 + 3 * dr2), .int pe, .int bk3]) := (hoff37 _ (pB_no (by decide))).trans hs8
        have hs40 : ct35 1 = .inl (g.2 4, 4, .inr (.inr (.inr (.inr (zF1 idn 0))))) := (hoff37 _ (pB_no (by decide))).trans hs20
        have hs41 : ct35 (0 + 35 + 5 * c0.toInt.toNat) = .inr (3, [.int we26, .ref ((0 + 35 + 5 * c0.toInt.toNat) + 1), .ref ((0 + 35 + 5 * c0.toInt.toNat) + 2), .ref ((0 + 35 + 5 * c0.toInt.toNat) + 3), .ref ((0 + 35 + 5 * c0.toInt.toNat) + 4), .int se27]) := (hoff37 _ (pB_no (by omega))).trans hs25
        have hk0 : ct35 0 = ct 0 := hk38.trans hk0
        have hs42 : ct35 0 = .inr (8, [.ref 1, .ref 2, .ref 3, .ref 5, .ref 6, .ref 9, .ref 10, .ref 17, .ref 21, .ref 34, .ref (99 + 3 * dr2), .int pe, .int bk3]) := hk0.trans hs1
        obtain ⟨x43, ex43⟩ : ∃ y : Int32, y = v4_3 + 1 := ⟨_, rfl⟩
        have tx43 : x43.toInt = v4_3.toInt + 1 := by rw [ex43]; exact z_add rfl (by decide : (1 : Int32).toInt = 1) (by omega) (by omega)
        refine dv_iinc (v := x43) (lv' := [(4, .int x43), (5, .int r30), (0, .ref 0), (1, .ref kb), (2, .int c0), (3, .int lv)]) dX8_fillColumn_48 (k := 1) rfl (by rw [ex43]; rfl) (by decide) rfl ?_
        refine dv_goto (tgt := 3) dX8_fillColumn_51 (by decide) ?_
        refine dv_sub (loc2 := [(4, .int x43), (0, .ref 0), (1, .ref kb), (2, .int c0), (3, .int lv)]) [0, 2, 3, 4, 5] rfl ?_
        exact ih3 x43 ct35 (by omega) (by first | omega | decide | assumption) hk0 hI
  exact loop3 ((8 - (0 : Int32).toInt : Int).toNat + 1) (0 : Int32) ct (by omega) (by first | omega | decide | assumption) hk0 hI

set_option maxHeartbeats 4000000 in
set_option maxRecDepth 100000 in
theorem k_X8_tellsPeople (l : Launch) (g : zG) (pe : Int32) (ct : Nat → va_E) (n : Int32) (hI : Inv8 g idn pe ct) : DM l g pCl false yX8_tellsPeople cX8_tellsPeople 5 (some .boolean) ({ frames := 2, cells := 0, slots := 0, locals := 43 }) (fun (ct2 : Nat → va_E) (rr : Option Value) => ∃ (r : Int32), rr = some (.int r) ∧ ((r = 1) ∨ (r = 0)) ∧ ct = ct2) ct [.ref 0, .int n] := by
  refine DM.K (fun K hK => ?_)
  refine GW.met (own := RX8) (loc := [(0, .ref 0), (1, .int n)]) (by decide) rfl rfl (Nat.le_of_ble_eq_true rfl) ?_
  have hpe0 := hI.1
  have rg_n := z_rng n
  refine dv_iconst (v := 0) dX8_tellsPeople_0 (by decide) ?_
  refine dv_istore_n (lv' := [(2, .int 0), (0, .ref 0), (1, .int n)]) dX8_tellsPeople_1 rfl (by decide) rfl ?_
  refine dv_iconst (v := 0) dX8_tellsPeople_2 (by decide) ?_
  refine dv_istore_n (lv' := [(3, .int 0), (2, .int 0), (0, .ref 0), (1, .int n)]) dX8_tellsPeople_3 rfl (by decide) rfl ?_
  have loop4 : ∀ (n4 : Nat) (v3_4 : Int32) (v2_4 : Int32), ((n.toInt - v3_4.toInt : Int).toNat < n4) → (0 ≤ v3_4.toInt ∧ v3_4.toInt ≤ 2147483647) → GW l g pCl pCl false yX8_tellsPeople cX8_tellsPeople 5 (some .boolean) RX8 ({ frames := 2, cells := 0, slots := 0, locals := 43 }) K 0 0 ct 4 [(3, .int v3_4), (2, .int v2_4), (0, .ref 0), (1, .int n)] [] := by
    intro n4
    induction n4 with
    | zero =>
      intro v3_4 v2_4 hn4 b3_4
      exact absurd hn4 (Nat.not_lt_zero _)
    | succ n4 ih4 =>
      intro v3_4 v2_4 hn4 b3_4
      refine dv_iload_n dX8_tellsPeople_4 rfl 0 rfl ?_
      refine dv_iload_n dX8_tellsPeople_5 rfl 3 rfl ?_
      refine dv_icmp_ge (tgt := 53) dX8_tellsPeople_6 (by decide) (fun c1 => ?_) (fun c1 => ?_)
      · skip
        have c1 : n.toInt ≤ v3_4.toInt := (z_le rfl rfl).mp c1
        refine dv_iconst (v := 1) dX8_tellsPeople_53 (by decide) ?_
        have q2 : (1 : Int32).toInt = 1 := by decide
        exact dv_zret dX8_tellsPeople_54 rfl rfl (by first | exact Nat.zero_le _ | decide) (by first | exact Nat.zero_le _ | decide) (by subst hK; exact ⟨1, rfl, (by first | exact Or.inl ⟨rfl, by omega⟩ | exact Or.inr ⟨rfl, by omega⟩ | exact Or.inl rfl | exact Or.inr rfl | exact Or.inl ⟨rfl, by omega, by omega⟩ | exact (z_01 (by omega) (by omega)).symm), rfl⟩)
      · skip
        have c1 : ¬ (n.toInt ≤ v3_4.toInt) := fun q => c1 ((z_le rfl rfl).mpr q)
        refine dv_aload_n dX8_tellsPeople_9 rfl 2 rfl ?_
        obtain ⟨bk5, dr4, h6, h7, h8, hs3⟩ := a8_0 hI
        refine dv_get (ci := 8) (v := .ref 3) (C := RX8) (T := TX8) (N := 13) ⟨by decide, rfl⟩ hs3 rfl inG8 2 (by decide) mm_305 rfl dX8_tellsPeople_10 ?_
        refine dv_iload_n dX8_tellsPeople_13 rfl 0 rfl ?_
        obtain ⟨len11, h12, h13, hs10⟩ := a8_3 hI
        refine GW.callV (n := 1) (As := [.int v3_4]) (rest := []) (b := 3) (k_X7_byteAt l g pe ct v3_4 hI) sub_pT_pCl rfl rfl ⟨by decide, rfl⟩ hs10 (q := (RX7, TX7, 2)) rfl mm_365 mm_366 mm_367 mm_53 mm_368 (by decide +kernel) ⟨Nat.le_of_ble_eq_true rfl, Nat.le_of_ble_eq_true rfl⟩ rfl (Nat.le_of_ble_eq_true rfl) dX8_tellsPeople_14 (Nat.zero_le _) (Nat.zero_le _) rfl (fun ct9 rrr14 hBr14 hoff15 => ?_)
        obtain ⟨r14, rfl, hr14, rfl⟩ := hBr14
        refine GW.eq (S2 := [.int r14]) rfl rfl rfl ?_
        refine dv_istore (lv' := [(4, .int r14), (3, .int v3_4), (2, .int v2_4), (0, .ref 0), (1, .int n)]) dX8_tellsPeople_17 (by decide) rfl ?_
        refine dv_aload_n dX8_tellsPeople_19 rfl 3 rfl ?_
        refine dv_iload dX8_tellsPeople_20 0 rfl ?_
        refine GW.callV (n := 1) (As := [.int r14]) (rest := []) (b := 0) (k_X8_isPerson l g pe ct r14 hI) (fun _ h => h) rfl rfl ⟨by decide, rfl⟩ hs3 (q := (RX8, TX8, 13)) rfl mm_370 mm_372 mm_1 mm_52 mm_373 (by decide +kernel) ⟨Nat.le_of_ble_eq_true rfl, Nat.le_of_ble_eq_true rfl⟩ rfl (Nat.le_of_ble_eq_true rfl) dX8_tellsPeople_22 (Nat.zero_le _) (Nat.zero_le _) rfl (fun ct16 rrr17 hBr17 hoff18 => ?_)
        obtain ⟨r17, rfl, hr17, rfl⟩ := hBr17
        refine GW.eq (S2 := [.int r17]) rfl rfl rfl ?_
        rcases hr17 with hr17 | hr17
        · skip
          obtain ⟨rfl, h19, h20⟩ := hr17
          have h19 : 0 ≤ r14.toInt := h19
          have h20 : r14.toInt < pe.toInt := h20
          refine dv_if_eq (tgt := 38) dX8_tellsPeople_25 (by decide) (fun c21 => ?_) (fun c21 => ?_)
          · skip
            exact absurd c21 (by decide)
          · skip
            refine dv_iload_n dX8_tellsPeople_28 rfl 2 rfl ?_
            refine dv_iload dX8_tellsPeople_29 0 rfl ?_
            refine dv_ishr dX8_tellsPeople_31 ?_
            refine dv_topi (fun x22 ex22 => ?_)
            refine dv_iconst (v := 1) dX8_tellsPeople_32 (by decide) ?_
            refine dv_iand dX8_tellsPeople_33 ?_
            refine dv_topi (fun x23 ex23 => ?_)
            have tx23 := z_andr (x := x22) (y := 1) (by decide : (1 : Int32).toInt = 1) (by omega)
            rw [← ex23] at tx23
            refine dv_iconst (v := 1) dX8_tellsPeople_34 (by decide) ?_
            refine dv_icmp_ne (tgt := 40) dX8_tellsPeople_35 (by decide) (fun c24 => ?_) (fun c24 => ?_)
            · skip
              have c24 : ¬ (x23.toInt = 1) := fun q => c24 ((z_eq rfl (by decide : (1 : Int32).toInt = 1)).mpr q)
              refine dv_iload_n dX8_tellsPeople_40 rfl 2 rfl ?_
              refine dv_iconst (v := 1) dX8_tellsPeople_41 (by decide) ?_
              refine dv_iload dX8_tellsPeople_42 0 rfl ?_
              refine dv_ishl dX8_tellsPeople_44 ?_
              refine dv_topi (fun x25 ex25 => ?_)
              have tx25 := z_shl1 (y := r14) rfl (by omega) (k := 15) (by decide) (by omega)
              rw [← ex25] at tx25
              refine dv_ior dX8_tellsPeople_45 ?_
              refine dv_topi (fun x26 ex26 => ?_)
              refine dv_istore_n (lv' := [(2, .int x26), (4, .int r14), (3, .int v3_4), (0, .ref 0), (1, .int n)]) dX8_tellsPeople_46 rfl (by decide) rfl ?_
              obtain ⟨x27, ex27⟩ : ∃ y : Int32, y = v3_4 + 1 := ⟨_, rfl⟩
              have tx27 : x27.toInt = v3_4.toInt + 1 := by rw [ex27]; exact z_add rfl (by decide : (1 : Int32).toInt = 1) (by omega) (by omega)
              refine dv_iinc (v := x27) (lv' := [(3, .int x27), (2, .int x26), (4, .int r14), (0, .ref 0), (1, .int n)]) dX8_tellsPeople_47 (k := 2) rfl (by rw [ex27]; rfl) (by decide) rfl ?_
              refine dv_goto (tgt := 4) dX8_tellsPeople_50 (by decide) ?_
              refine dv_sub (loc2 := [(3, .int x27), (2, .int x26), (0, .ref 0), (1, .int n)]) [0, 1, 3, 4] rfl ?_
              exact ih4 x27 x26 (by omega) (by first | omega | decide | assumption)
            · skip
              have c24 : x23.toInt = 1 := (z_eq rfl (by decide : (1 : Int32).toInt = 1)).mp c24
              refine dv_iconst (v := 0) dX8_tellsPeople_38 (by decide) ?_
              have q28 : (0 : Int32).toInt = 0 := by decide
              exact dv_zret dX8_tellsPeople_39 rfl rfl (by first | exact Nat.zero_le _ | decide) (by first | exact Nat.zero_le _ | decide) (by subst hK; exact ⟨0, rfl, (by first | exact Or.inl ⟨rfl, by omega⟩ | exact Or.inr ⟨rfl, by omega⟩ | exact Or.inl rfl | exact Or.inr rfl | exact Or.inl ⟨rfl, by omega, by omega⟩ | exact (z_01 (by omega) (by omega)).symm), rfl⟩)
        · skip
          obtain ⟨rfl, h29⟩ := hr17
          have h29 : ¬ (0 ≤ r14.toInt ∧ r14.toInt < pe.toInt) := h29
          refine dv_if_eq (tgt := 38) dX8_tellsPeople_25 (by decide) (fun c30 => ?_) (fun c30 => ?_)
          · skip
            refine dv_iconst (v := 0) dX8_tellsPeople_38 (by decide) ?_
            have q31 : (0 : Int32).toInt = 0 := by decide
            exact dv_zret dX8_tellsPeople_39 rfl rfl (by first | exact Nat.zero_le _ | decide) (by first | exact Nat.zero_le _ | decide) (by subst hK; exact ⟨0, rfl, (by first | exact Or.inl ⟨rfl, by omega⟩ | exact Or.inr ⟨rfl, by omega⟩ | exact Or.inl rfl | exact Or.inr rfl | exact Or.inl ⟨rfl, by omega, by omega⟩ | exact (z_01 (by omega) (by omega)).symm), rfl⟩)
          · skip
            exact absurd c30 (by decide)
  exact loop4 ((n.toInt - (0 : Int32).toInt : Int).toNat + 1) (0 : Int32) (0 : Int32) (by omega) (by first | omega | decide | assumption)

set_option maxHeartbeats 4000000 in
set_option maxRecDepth 100000 in
theorem k_X8_prepareBlursOf (l : Launch) (g : zG) (pe : Int32) (ct : Nat → va_E) (c0 : Int32) (i : Int32) (v : Int32) (hl_c0 : 0 ≤ c0.toInt ∧ c0.toInt ≤ 3) (hI : Inv8 g idn pe ct) : DM l g pCl false yX8_prepareBlursOf cX8_prepareBlursOf 7 none ({ frames := 3, cells := 0, slots := 0, locals := 67 }) (fun (ct2 : Nat → va_E) (rr : Option Value) => rr = none ∧ Inv8 g idn pe ct2) ct [.ref 0, .int c0, .int i, .int v] := by
  refine DM.K (fun K hK => ?_)
  refine GW.met (own := RX8) (loc := [(0, .ref 0), (1, .int c0), (2, .int i), (3, .int v)]) (by decide) rfl rfl (Nat.le_of_ble_eq_true rfl) ?_
  have hpe0 := hI.1
  have rg_i := z_rng i
  have rg_v := z_rng v
  refine dv_iconst (v := (-1)) dX8_prepareBlursOf_0 (by decide) ?_
  refine dv_istore (lv' := [(4, .int (-1)), (0, .ref 0), (1, .int c0), (2, .int i), (3, .int v)]) dX8_prepareBlursOf_1 (by decide) rfl ?_
  refine dv_iconst (v := 0) dX8_prepareBlursOf_3 (by decide) ?_
  refine dv_istore (lv' := [(5, .int 0), (4, .int (-1)), (0, .ref 0), (1, .int c0), (2, .int i), (3, .int v)]) dX8_prepareBlursOf_4 (by decide) rfl ?_
  have loop6 : ∀ (n6 : Nat) (v5_6 : Int32) (v4_6 : Int32) (ct1 : Nat → va_E), ((5 - v5_6.toInt : Int).toNat < n6) → (0 ≤ v5_6.toInt ∧ v5_6.toInt ≤ 5) → (Inv8 g idn pe ct1) → GW l g pCl pCl false yX8_prepareBlursOf cX8_prepareBlursOf 7 none RX8 ({ frames := 3, cells := 0, slots := 0, locals := 67 }) K 0 0 ct1 6 [(5, .int v5_6), (4, .int v4_6), (0, .ref 0), (1, .int c0), (2, .int i), (3, .int v)] [] := by
    intro n6
    induction n6 with
    | zero =>
      intro v5_6 v4_6 ct1 hn6 b5_6 hI
      exact absurd hn6 (Nat.not_lt_zero _)
    | succ n6 ih6 =>
      intro v5_6 v4_6 ct1 hn6 b5_6 hI
      refine dv_iload dX8_prepareBlursOf_6 0 rfl ?_
      refine dv_iconst (v := 5) dX8_prepareBlursOf_8 (by decide) ?_
      refine dv_icmp_ge (tgt := 86) dX8_prepareBlursOf_9 (by decide) (fun c2 => ?_) (fun c2 => ?_)
      · skip
        have c2 : 5 ≤ v5_6.toInt := (z_le (by decide : (5 : Int32).toInt = 5) rfl).mp c2
        exact dv_vret dX8_prepareBlursOf_86 rfl (by first | exact Nat.zero_le _ | decide) (by first | exact Nat.zero_le _ | decide) (by subst hK; exact ⟨rfl, hI⟩)
      · skip
        have c2 : ¬ (5 ≤ v5_6.toInt) := fun q => c2 ((z_le (by decide : (5 : Int32).toInt = 5) rfl).mpr q)
        refine dv_aload_n dX8_prepareBlursOf_12 rfl 2 rfl ?_
        obtain ⟨bk5, dr4, h6, h7, h8, hs3⟩ := a8_0 hI
        refine dv_get (ci := 8) (v := .ref 1) (C := RX8) (T := TX8) (N := 13) ⟨by decide, rfl⟩ hs3 rfl inG8 0 (by decide) mm_303 rfl dX8_prepareBlursOf_13 ?_
        refine dv_iload_n dX8_prepareBlursOf_16 rfl 3 rfl ?_
        have hs9 := a8_1 hI
        refine dv_aldq 4 ⟨by decide, rfl⟩ hs9 rfl (z_in rfl (by omega) (by omega)) dX8_prepareBlursOf_17 (r := (0 + 35 + 5 * c0.toInt.toNat)) (zF1_r (x := c0) (by omega) (by omega)) ?_
        refine dv_iload_n dX8_prepareBlursOf_18 rfl 5 rfl ?_
        refine dv_iload dX8_prepareBlursOf_19 0 rfl ?_
        obtain ⟨we12, se13, h14, h15, hs11⟩ := a8_35 (kc := (0 + 35 + 5 * c0.toInt.toNat)) (by omega) hI
        refine GW.callV (n := 2) (As := [.int v, .int v5_6]) (rest := []) (b := (0 + 35 + 5 * c0.toInt.toNat)) (k_X3_raised l g pe ct1 (0 + 35 + 5 * c0.toInt.toNat) v v5_6 (by omega) hI) sub_pK_pCl rfl rfl ⟨by omega, pK_of (by omega)⟩ hs11 (q := (RX3, TX3, 6)) rfl mm_391 mm_392 mm_393 mm_59 mm_394 (by decide +kernel) ⟨Nat.le_of_ble_eq_true rfl, Nat.le_of_ble_eq_true rfl⟩ rfl (Nat.le_of_ble_eq_true rfl) dX8_prepareBlursOf_21 (Nat.zero_le _) (Nat.zero_le _) rfl (fun ct10 rrr16 hBr16 hoff17 => ?_)
        obtain ⟨r16, rfl, hr16, rfl⟩ := hBr16
        refine GW.eq (S2 := [.int r16]) rfl rfl rfl ?_
        refine dv_istore (lv' := [(6, .int r16), (5, .int v5_6), (4, .int v4_6), (0, .ref 0), (1, .int c0), (2, .int i), (3, .int v)]) dX8_prepareBlursOf_24 (by decide) rfl ?_
        refine dv_aload_n dX8_prepareBlursOf_26 rfl 3 rfl ?_
        refine dv_get (ci := 8) (v := .ref 21) (C := RX8) (T := TX8) (N := 13) ⟨by decide, rfl⟩ hs3 rfl inG8 8 (by decide) mm_311 rfl dX8_prepareBlursOf_27 ?_
        refine dv_iload_n dX8_prepareBlursOf_30 rfl 4 rfl ?_
        refine dv_iload dX8_prepareBlursOf_31 1 rfl ?_
        refine dv_iload_n dX8_prepareBlursOf_33 rfl 5 rfl ?_
        refine dv_aload_n dX8_prepareBlursOf_34 rfl 3 rfl ?_
        refine dv_get (ci := 8) (v := .ref 1) (C := RX8) (T := TX8) (N := 13) ⟨by decide, rfl⟩ hs3 rfl inG8 0 (by decide) mm_303 rfl dX8_prepareBlursOf_35 ?_
        refine dv_iload_n dX8_prepareBlursOf_38 rfl 4 rfl ?_
        refine dv_aldq 4 ⟨by decide, rfl⟩ hs9 rfl (z_in rfl (by omega) (by omega)) dX8_prepareBlursOf_39 (r := (0 + 35 + 5 * c0.toInt.toNat)) (zF1_r (x := c0) (by omega) (by omega)) ?_
        refine dv_iload dX8_prepareBlursOf_40 0 rfl ?_
        refine GW.callV (n := 1) (As := [.int r16]) (rest := [.int i, .int v5_6, .int c0, .ref 21]) (b := (0 + 35 + 5 * c0.toInt.toNat)) (k_X3_whoBelow l g pe ct1 (0 + 35 + 5 * c0.toInt.toNat) r16 (by omega) hI) sub_pK_pCl rfl rfl ⟨by omega, pK_of (by omega)⟩ hs11 (q := (RX3, TX3, 6)) rfl mm_465 mm_466 mm_467 mm_59 mm_468 (by decide +kernel) ⟨Nat.le_of_ble_eq_true rfl, Nat.le_of_ble_eq_true rfl⟩ rfl (Nat.le_of_ble_eq_true rfl) dX8_prepareBlursOf_42 (Nat.zero_le _) (Nat.zero_le _) rfl (fun ct18 rrr19 hBr19 hoff20 => ?_)
        obtain ⟨r19, rfl, hr19, rfl⟩ := hBr19
        refine GW.eq (S2 := [.int r19, .int i, .int v5_6, .int c0, .ref 21]) rfl rfl rfl ?_
        refine dv_aload_n dX8_prepareBlursOf_45 rfl 3 rfl ?_
        refine dv_get (ci := 8) (v := .ref 1) (C := RX8) (T := TX8) (N := 13) ⟨by decide, rfl⟩ hs3 rfl inG8 0 (by decide) mm_303 rfl dX8_prepareBlursOf_46 ?_
        refine dv_iload_n dX8_prepareBlursOf_49 rfl 4 rfl ?_
        refine dv_aldq 4 ⟨by decide, rfl⟩ hs9 rfl (z_in rfl (by omega) (by omega)) dX8_prepareBlursOf_50 (r := (0 + 35 + 5 * c0.toInt.toNat)) (zF1_r (x := c0) (by omega) (by omega)) ?_
        refine dv_iload dX8_prepareBlursOf_51 0 rfl ?_
        refine GW.callV (n := 1) (As := [.int r16]) (rest := [.int r19, .int i, .int v5_6, .int c0, .ref 21]) (b := (0 + 35 + 5 * c0.toInt.toNat)) (k_X3_lossOf l g pe ct1 (0 + 35 + 5 * c0.toInt.toNat) r16 (by omega) hI) sub_pK_pCl rfl rfl ⟨by omega, pK_of (by omega)⟩ hs11 (q := (RX3, TX3, 6)) rfl mm_805 mm_806 mm_807 mm_59 mm_808 (by decide +kernel) ⟨Nat.le_of_ble_eq_true rfl, Nat.le_of_ble_eq_true rfl⟩ rfl (Nat.le_of_ble_eq_true rfl) dX8_prepareBlursOf_53 (Nat.zero_le _) (Nat.zero_le _) rfl (fun ct21 rrr22 hBr22 hoff23 => ?_)
        obtain ⟨r22, rfl, hr22, rfl⟩ := hBr22
        refine GW.eq (S2 := [.int r22, .int r19, .int i, .int v5_6, .int c0, .ref 21]) rfl rfl rfl ?_
        obtain ⟨lst26, lrw27, lct28, h29, h30, hs25⟩ := a8_21 hI
        refine GW.callV (n := 5) (As := [.int c0, .int v5_6, .int i, .int r19, .int r22]) (rest := []) (b := 21) (k_X1_put l g pe ct1 c0 v5_6 i r19 r22 hI) sub_pBl_pCl rfl rfl ⟨by decide, rfl⟩ hs25 (q := (RX1, TX1, 7)) rfl mm_814 mm_815 mm_816 mm_57 mm_817 (by decide +kernel) ⟨Nat.le_of_ble_eq_true rfl, Nat.le_of_ble_eq_true rfl⟩ rfl (Nat.le_of_ble_eq_true rfl) dX8_prepareBlursOf_56 (Nat.zero_le _) (Nat.zero_le _) rfl (fun ct24 rrr31 hBr31 hoff32 => ?_)
        obtain ⟨rfl, hI⟩ := hBr31
        refine GW.eq (S2 := []) rfl rfl rfl ?_
        have hs33 : ct24 0 = .inr (8, [.ref 1, .ref 2, .ref 3, .ref 5, .ref 6, .ref 9, .ref 10, .ref 17, .ref 21, .ref 34, .ref (99 + 3 * dr4), .int pe, .int bk5]) := (hoff32 _ (pBl_no (by decide))).trans hs3
        have hs34 : ct24 1 = .inl (g.2 4, 4, .inr (.inr (.inr (.inr (zF1 idn 0))))) := (hoff32 _ (pBl_no (by decide))).trans hs9
        have hs35 : ct24 (0 + 35 + 5 * c0.toInt.toNat) = .inr (3, [.int we12, .ref ((0 + 35 + 5 * c0.toInt.toNat) + 1), .ref ((0 + 35 + 5 * c0.toInt.toNat) + 2), .ref ((0 + 35 + 5 * c0.toInt.toNat) + 3), .ref ((0 + 35 + 5 * c0.toInt.toNat) + 4), .int se13]) := (hoff32 _ (pBl_no (by omega))).trans hs11
        refine dv_iload dX8_prepareBlursOf_59 0 rfl ?_
        refine dv_iload dX8_prepareBlursOf_61 2 rfl ?_
        refine dv_icmp_eq (tgt := 76) dX8_prepareBlursOf_63 (by decide) (fun c36 => ?_) (fun c36 => ?_)
        · skip
          have c36 : r16.toInt = v4_6.toInt := (z_eq rfl rfl).mp c36
          refine dv_iload dX8_prepareBlursOf_76 0 rfl ?_
          refine dv_istore (lv' := [(4, .int r16), (6, .int r16), (5, .int v5_6), (0, .ref 0), (1, .int c0), (2, .int i), (3, .int v)]) dX8_prepareBlursOf_78 (by decide) rfl ?_
          obtain ⟨x37, ex37⟩ : ∃ y : Int32, y = v5_6 + 1 := ⟨_, rfl⟩
          have tx37 : x37.toInt = v5_6.toInt + 1 := by rw [ex37]; exact z_add rfl (by decide : (1 : Int32).toInt = 1) (by omega) (by omega)
          refine dv_iinc (v := x37) (lv' := [(5, .int x37), (4, .int r16), (6, .int r16), (0, .ref 0), (1, .int c0), (2, .int i), (3, .int v)]) dX8_prepareBlursOf_80 (k := 2) rfl (by rw [ex37]; rfl) (by decide) rfl ?_
          refine dv_goto (tgt := 6) dX8_prepareBlursOf_83 (by decide) ?_
          refine dv_sub (loc2 := [(5, .int x37), (4, .int r16), (0, .ref 0), (1, .int c0), (2, .int i), (3, .int v)]) [0, 1, 3, 4, 5, 6] rfl ?_
          exact ih6 x37 r16 ct24 (by omega) (by first | omega | decide | assumption) hI
        · skip
          have c36 : ¬ (r16.toInt = v4_6.toInt) := fun q => c36 ((z_eq rfl rfl).mpr q)
          refine dv_aload_n dX8_prepareBlursOf_66 rfl 3 rfl ?_
          refine dv_get (ci := 8) (v := .ref 21) (C := RX8) (T := TX8) (N := 13) ⟨by decide, rfl⟩ hs33 rfl inG8 8 (by decide) mm_311 rfl dX8_prepareBlursOf_67 ?_
          refine dv_iload_n dX8_prepareBlursOf_70 rfl 4 rfl ?_
          refine dv_iload dX8_prepareBlursOf_71 1 rfl ?_
          obtain ⟨lst40, lrw41, lct42, h43, h44, hs39⟩ := a8_21 hI
          refine GW.callV (n := 2) (As := [.int c0, .int v5_6]) (rest := []) (b := 21) (k_X1_raiseTop l g pe ct24 c0 v5_6 hI) sub_pBl_pCl rfl rfl ⟨by decide, rfl⟩ hs39 (q := (RX1, TX1, 7)) rfl mm_821 mm_822 mm_823 mm_57 mm_824 (by decide +kernel) ⟨Nat.le_of_ble_eq_true rfl, Nat.le_of_ble_eq_true rfl⟩ rfl (Nat.le_of_ble_eq_true rfl) dX8_prepareBlursOf_73 (Nat.zero_le _) (Nat.zero_le _) rfl (fun ct38 rrr45 hBr45 hoff46 => ?_)
          obtain ⟨rfl, hI⟩ := hBr45
          refine GW.eq (S2 := []) rfl rfl rfl ?_
          have hs47 : ct38 0 = .inr (8, [.ref 1, .ref 2, .ref 3, .ref 5, .ref 6, .ref 9, .ref 10, .ref 17, .ref 21, .ref 34, .ref (99 + 3 * dr4), .int pe, .int bk5]) := (hoff46 _ (pBl_no (by decide))).trans hs33
          have hs48 : ct38 1 = .inl (g.2 4, 4, .inr (.inr (.inr (.inr (zF1 idn 0))))) := (hoff46 _ (pBl_no (by decide))).trans hs34
          have hs49 : ct38 (0 + 35 + 5 * c0.toInt.toNat) = .inr (3, [.int we12, .ref ((0 + 35 + 5 * c0.toInt.toNat) + 1), .ref ((0 + 35 + 5 * c0.toInt.toNat) + 2), .ref ((0 + 35 + 5 * c0.toInt.toNat) + 3), .ref ((0 + 35 + 5 * c0.toInt.toNat) + 4), .int se13]) := (hoff46 _ (pBl_no (by omega))).trans hs35
          refine dv_iload dX8_prepareBlursOf_76 0 rfl ?_
          refine dv_istore (lv' := [(4, .int r16), (6, .int r16), (5, .int v5_6), (0, .ref 0), (1, .int c0), (2, .int i), (3, .int v)]) dX8_prepareBlursOf_78 (by decide) rfl ?_
          obtain ⟨x50, ex50⟩ : ∃ y : Int32, y = v5_6 + 1 := ⟨_, rfl⟩
          have tx50 : x50.toInt = v5_6.toInt + 1 := by rw [ex50]; exact z_add rfl (by decide : (1 : Int32).toInt = 1) (by omega) (by omega)
          refine dv_iinc (v := x50) (lv' := [(5, .int x50), (4, .int r16), (6, .int r16), (0, .ref 0), (1, .int c0), (2, .int i), (3, .int v)]) dX8_prepareBlursOf_80 (k := 2) rfl (by rw [ex50]; rfl) (by decide) rfl ?_
          refine dv_goto (tgt := 6) dX8_prepareBlursOf_83 (by decide) ?_
          refine dv_sub (loc2 := [(5, .int x50), (4, .int r16), (0, .ref 0), (1, .int c0), (2, .int i), (3, .int v)]) [0, 1, 3, 4, 5, 6] rfl ?_
          exact ih6 x50 r16 ct38 (by omega) (by first | omega | decide | assumption) hI
  exact loop6 ((5 - (0 : Int32).toInt : Int).toNat + 1) (0 : Int32) (-1 : Int32) ct (by omega) (by first | omega | decide | assumption) hI

set_option maxHeartbeats 4000000 in
set_option maxRecDepth 100000 in
theorem k_X8_prepareBlurs (l : Launch) (g : zG) (pe : Int32) (ct : Nat → va_E) (n : Int32) (hI : Inv8 g idn pe ct) : DM l g pCl false yX8_prepareBlurs cX8_prepareBlurs 4 none ({ frames := 4, cells := 0, slots := 0, locals := 93 }) (fun (ct2 : Nat → va_E) (rr : Option Value) => rr = none ∧ Inv8 g idn pe ct2) ct [.ref 0, .int n] := by
  refine DM.K (fun K hK => ?_)
  refine GW.met (own := RX8) (loc := [(0, .ref 0), (1, .int n)]) (by decide) rfl rfl (Nat.le_of_ble_eq_true rfl) ?_
  have hpe0 := hI.1
  have rg_n := z_rng n
  refine dv_aload_n dX8_prepareBlurs_0 rfl 0 rfl ?_
  obtain ⟨bk3, dr2, h4, h5, h6, hs1⟩ := a8_0 hI
  refine dv_get (ci := 8) (v := .ref 21) (C := RX8) (T := TX8) (N := 13) ⟨by decide, rfl⟩ hs1 rfl inG8 8 (by decide) mm_311 rfl dX8_prepareBlurs_1 ?_
  obtain ⟨lst9, lrw10, lct11, h12, h13, hs8⟩ := a8_21 hI
  refine GW.callV (n := 0) (As := []) (rest := []) (b := 21) (k_X1_clear l g pe ct  hI) sub_pBl_pCl rfl rfl ⟨by decide, rfl⟩ hs8 (q := (RX1, TX1, 7)) rfl mm_797 mm_798 mm_799 mm_57 mm_800 (by decide +kernel) ⟨Nat.le_of_ble_eq_true rfl, Nat.le_of_ble_eq_true rfl⟩ rfl (Nat.le_of_ble_eq_true rfl) dX8_prepareBlurs_4 (Nat.zero_le _) (Nat.zero_le _) rfl (fun ct7 rrr14 hBr14 hoff15 => ?_)
  obtain ⟨rfl, hI⟩ := hBr14
  refine GW.eq (S2 := []) rfl rfl rfl ?_
  have hs16 : ct7 0 = .inr (8, [.ref 1, .ref 2, .ref 3, .ref 5, .ref 6, .ref 9, .ref 10, .ref 17, .ref 21, .ref 34, .ref (99 + 3 * dr2), .int pe, .int bk3]) := (hoff15 _ (pBl_no (by decide))).trans hs1
  refine dv_iconst (v := 0) dX8_prepareBlurs_7 (by decide) ?_
  refine dv_istore_n (lv' := [(2, .int 0), (0, .ref 0), (1, .int n)]) dX8_prepareBlurs_8 rfl (by decide) rfl ?_
  have loop9 : ∀ (n9 : Nat) (v2_9 : Int32) (ct17 : Nat → va_E), ((4 - v2_9.toInt : Int).toNat < n9) → (0 ≤ v2_9.toInt ∧ v2_9.toInt ≤ 4) → (Inv8 g idn pe ct17) → GW l g pCl pCl false yX8_prepareBlurs cX8_prepareBlurs 4 none RX8 ({ frames := 4, cells := 0, slots := 0, locals := 93 }) K 0 0 ct17 9 [(2, .int v2_9), (0, .ref 0), (1, .int n)] [] := by
    intro n9
    induction n9 with
    | zero =>
      intro v2_9 ct17 hn9 b2_9 hI
      exact absurd hn9 (Nat.not_lt_zero _)
    | succ n9 ih9 =>
      intro v2_9 ct17 hn9 b2_9 hI
      refine dv_iload_n dX8_prepareBlurs_9 rfl 0 rfl ?_
      refine dv_iconst (v := 4) dX8_prepareBlurs_10 (by decide) ?_
      refine dv_icmp_ge (tgt := 56) dX8_prepareBlurs_11 (by decide) (fun c18 => ?_) (fun c18 => ?_)
      · skip
        have c18 : 4 ≤ v2_9.toInt := (z_le (by decide : (4 : Int32).toInt = 4) rfl).mp c18
        exact dv_vret dX8_prepareBlurs_56 rfl (by first | exact Nat.zero_le _ | decide) (by first | exact Nat.zero_le _ | decide) (by subst hK; exact ⟨rfl, hI⟩)
      · skip
        have c18 : ¬ (4 ≤ v2_9.toInt) := fun q => c18 ((z_le (by decide : (4 : Int32).toInt = 4) rfl).mpr q)
        refine dv_iconst (v := 0) dX8_prepareBlurs_14 (by decide) ?_
        refine dv_istore_n (lv' := [(3, .int 0), (2, .int v2_9), (0, .ref 0), (1, .int n)]) dX8_prepareBlurs_15 rfl (by decide) rfl ?_
        have loop16 : ∀ (n16 : Nat) (v3_16 : Int32) (ct19 : Nat → va_E), ((n.toInt - v3_16.toInt : Int).toNat < n16) → (0 ≤ v3_16.toInt ∧ v3_16.toInt ≤ 2147483647) → (Inv8 g idn pe ct19) → GW l g pCl pCl false yX8_prepareBlurs cX8_prepareBlurs 4 none RX8 ({ frames := 4, cells := 0, slots := 0, locals := 93 }) K 0 0 ct19 16 [(3, .int v3_16), (2, .int v2_9), (0, .ref 0), (1, .int n)] [] := by
          intro n16
          induction n16 with
          | zero =>
            intro v3_16 ct19 hn16 b3_16 hI
            exact absurd hn16 (Nat.not_lt_zero _)
          | succ n16 ih16 =>
            intro v3_16 ct19 hn16 b3_16 hI
            refine dv_iload_n dX8_prepareBlurs_16 rfl 0 rfl ?_
            refine dv_iload_n dX8_prepareBlurs_17 rfl 3 rfl ?_
            refine dv_icmp_ge (tgt := 50) dX8_prepareBlurs_18 (by decide) (fun c20 => ?_) (fun c20 => ?_)
            · skip
              have c20 : n.toInt ≤ v3_16.toInt := (z_le rfl rfl).mp c20
              obtain ⟨x21, ex21⟩ : ∃ y : Int32, y = v2_9 + 1 := ⟨_, rfl⟩
              have tx21 : x21.toInt = v2_9.toInt + 1 := by rw [ex21]; exact z_add rfl (by decide : (1 : Int32).toInt = 1) (by omega) (by omega)
              refine dv_iinc (v := x21) (lv' := [(2, .int x21), (3, .int v3_16), (0, .ref 0), (1, .int n)]) dX8_prepareBlurs_50 (k := 1) rfl (by rw [ex21]; rfl) (by decide) rfl ?_
              refine dv_goto (tgt := 9) dX8_prepareBlurs_53 (by decide) ?_
              refine dv_sub (loc2 := [(2, .int x21), (0, .ref 0), (1, .int n)]) [0, 2, 3] rfl ?_
              exact ih9 x21 ct19 (by omega) (by first | omega | decide | assumption) hI
            · skip
              have c20 : ¬ (n.toInt ≤ v3_16.toInt) := fun q => c20 ((z_le rfl rfl).mpr q)
              refine dv_aload_n dX8_prepareBlurs_21 rfl 2 rfl ?_
              refine dv_iload_n dX8_prepareBlurs_22 rfl 1 rfl ?_
              refine dv_iload_n dX8_prepareBlurs_23 rfl 0 rfl ?_
              refine dv_aload_n dX8_prepareBlurs_24 rfl 2 rfl ?_
              obtain ⟨bk24, dr23, h25, h26, h27, hs22⟩ := a8_0 hI
              refine dv_get (ci := 8) (v := .ref 1) (C := RX8) (T := TX8) (N := 13) ⟨by decide, rfl⟩ hs22 rfl inG8 0 (by decide) mm_303 rfl dX8_prepareBlurs_25 ?_
              refine dv_iload_n dX8_prepareBlurs_28 rfl 1 rfl ?_
              have hs28 := a8_1 hI
              refine dv_aldq 4 ⟨by decide, rfl⟩ hs28 rfl (z_in rfl (by omega) (by omega)) dX8_prepareBlurs_29 (r := (0 + 35 + 5 * v2_9.toInt.toNat)) (zF1_r (x := v2_9) (by omega) (by omega)) ?_
              refine dv_aload_n dX8_prepareBlurs_30 rfl 2 rfl ?_
              refine dv_get (ci := 8) (v := .ref 3) (C := RX8) (T := TX8) (N := 13) ⟨by decide, rfl⟩ hs22 rfl inG8 2 (by decide) mm_305 rfl dX8_prepareBlurs_31 ?_
              refine dv_iload_n dX8_prepareBlurs_34 rfl 0 rfl ?_
              obtain ⟨len31, h32, h33, hs30⟩ := a8_3 hI
              refine GW.callV (n := 1) (As := [.int v3_16]) (rest := [.ref (0 + 35 + 5 * v2_9.toInt.toNat), .int v3_16, .int v2_9, .ref 0]) (b := 3) (k_X7_byteAt l g pe ct19 v3_16 hI) sub_pT_pCl rfl rfl ⟨by decide, rfl⟩ hs30 (q := (RX7, TX7, 2)) rfl mm_365 mm_366 mm_367 mm_53 mm_368 (by decide +kernel) ⟨Nat.le_of_ble_eq_true rfl, Nat.le_of_ble_eq_true rfl⟩ rfl (Nat.le_of_ble_eq_true rfl) dX8_prepareBlurs_35 (Nat.zero_le _) (Nat.zero_le _) rfl (fun ct29 rrr34 hBr34 hoff35 => ?_)
              obtain ⟨r34, rfl, hr34, rfl⟩ := hBr34
              refine GW.eq (S2 := [.int r34, .ref (0 + 35 + 5 * v2_9.toInt.toNat), .int v3_16, .int v2_9, .ref 0]) rfl rfl rfl ?_
              obtain ⟨we38, se39, h40, h41, hs37⟩ := a8_35 (kc := (0 + 35 + 5 * v2_9.toInt.toNat)) (by omega) hI
              refine GW.callV (n := 1) (As := [.int r34]) (rest := [.int v3_16, .int v2_9, .ref 0]) (b := (0 + 35 + 5 * v2_9.toInt.toNat)) (k_X3_valueOf l g pe ct19 (0 + 35 + 5 * v2_9.toInt.toNat) r34 (by omega) hI) sub_pK_pCl rfl rfl ⟨by omega, pK_of (by omega)⟩ hs37 (q := (RX3, TX3, 6)) rfl mm_387 mm_388 mm_389 mm_59 mm_390 (by decide +kernel) ⟨Nat.le_of_ble_eq_true rfl, Nat.le_of_ble_eq_true rfl⟩ rfl (Nat.le_of_ble_eq_true rfl) dX8_prepareBlurs_38 (Nat.zero_le _) (Nat.zero_le _) rfl (fun ct36 rrr42 hBr42 hoff43 => ?_)
              obtain ⟨r42, rfl, hr42, rfl⟩ := hBr42
              refine GW.eq (S2 := [.int r42, .int v3_16, .int v2_9, .ref 0]) rfl rfl rfl ?_
              refine GW.callV (n := 3) (As := [.int v2_9, .int v3_16, .int r42]) (rest := []) (b := 0) (k_X8_prepareBlursOf l g pe ct19 v2_9 v3_16 r42 (by first | omega | decide) hI) (fun _ h => h) rfl rfl ⟨by decide, rfl⟩ hs22 (q := (RX8, TX8, 13)) rfl mm_801 mm_803 mm_45 mm_52 mm_804 (by decide +kernel) ⟨Nat.le_of_ble_eq_true rfl, Nat.le_of_ble_eq_true rfl⟩ rfl (Nat.le_of_ble_eq_true rfl) dX8_prepareBlurs_41 (Nat.zero_le _) (Nat.zero_le _) rfl (fun ct44 rrr45 hBr45 hoff46 => ?_)
              obtain ⟨rfl, hI⟩ := hBr45
              refine GW.eq (S2 := []) rfl rfl rfl ?_
              obtain ⟨x47, ex47⟩ : ∃ y : Int32, y = v3_16 + 1 := ⟨_, rfl⟩
              have tx47 : x47.toInt = v3_16.toInt + 1 := by rw [ex47]; exact z_add rfl (by decide : (1 : Int32).toInt = 1) (by omega) (by omega)
              refine dv_iinc (v := x47) (lv' := [(3, .int x47), (2, .int v2_9), (0, .ref 0), (1, .int n)]) dX8_prepareBlurs_44 (k := 0) rfl (by rw [ex47]; rfl) (by decide) rfl ?_
              refine dv_goto (tgt := 16) dX8_prepareBlurs_47 (by decide) ?_
              exact ih16 x47 ct44 (by omega) (by first | omega | decide | assumption) hI
        exact loop16 ((n.toInt - (0 : Int32).toInt : Int).toNat + 1) (0 : Int32) ct17 (by omega) (by first | omega | decide | assumption) hI
  exact loop9 ((4 - (0 : Int32).toInt : Int).toNat + 1) (0 : Int32) ct7 (by omega) (by first | omega | decide | assumption) hI
