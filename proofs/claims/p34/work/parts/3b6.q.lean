set_option maxHeartbeats 4000000 in
set_option maxRecDepth 100000 in
theorem f_fits (l : Launch) (g : zG) (pe : Int32) (ct : Nat → va_E) (b : Int32) (i : Int32) (kn : Int32) (hI : Inv8 g idn pe ct) : DM l g pAll false yX8_fits cX8_fits 4 (some .int) ({ frames := 5, cells := 0, slots := 0, locals := 117 }) (fun (ct2 : Nat → va_E) (rr : Option Value) => ∃ (r : Int32), rr = some (.int r) ∧ (((r = qFits l g pe ct b i kn) ∧ (True))) ∧ Inv8 g idn pe ct2 ∧ (∀ k, ¬ dIn pM k → ct2 k = ct k)) ct [.ref 0, .int b, .int i, .int kn] := by
  refine DM.K (fun K hK => ?_)
  refine GW.met (own := RX8) (loc := [(0, .ref 0), (1, .int b), (2, .int i), (3, .int kn)]) (by decide) rfl rfl (Nat.le_of_ble_eq_true rfl) ?_
  have hpe0 := hI.1
  have hof : ∀ k, ¬ dIn pM k → ct k = ct k := fun _ _ => rfl
  have rg_b := z_rng b
  have rg_i := z_rng i
  have rg_kn := z_rng kn
  obtain ⟨bk3, dr2, h4, h5, h6, hs1⟩ := a8_0 hI
  have hzb : (bkF ct).toInt = bk3.toInt := by unfold bkF; rw [hs1]; rfl
  have hI0 := hI
  refine dv_aload_n dX8_fits_0 rfl 0 rfl ?_
  refine dv_iload_n dX8_fits_1 rfl 1 rfl ?_
  refine dv_iload_n dX8_fits_2 rfl 2 rfl ?_
  refine GW.callV (n := 2) (As := [.int b, .int i]) (rest := []) (b := 0) (f_isLine l g pe ct b i hI) sub_pCl_pAll rfl rfl ⟨by decide, rfl⟩ hs1 (q := (RX8, TX8, 13)) rfl mm_411 mm_413 mm_3 mm_52 mm_414 (by decide +kernel) ⟨Nat.le_of_ble_eq_true rfl, Nat.le_of_ble_eq_true rfl⟩ rfl (Nat.le_of_ble_eq_true rfl) dX8_fits_3 (Nat.zero_le _) (Nat.zero_le _) rfl (fun ct7 rrr8 hBr8 hoff9 => ?_)
  obtain ⟨r8, rfl, hr8, rfl⟩ := hBr8
  refine GW.eq (S2 := [.int r8]) rfl rfl rfl ?_
  rcases hr8 with hr8 | hr8
  · skip
    obtain ⟨rfl, h10, h11, h12, h13, h14⟩ := hr8
    have h10 : LIN ct b i = true := h10
    have h11 : 0 ≤ b.toInt ∧ b.toInt ≤ 3 := h11
    have h12 : 0 ≤ i.toInt ∧ i.toInt ≤ 7 := h12
    have h13 : b.toInt < (bkF ct).toInt := h13
    have h14 : i.toInt < (lnF ct b.toInt.toNat).toInt := h14
    refine dv_if_eq (tgt := 16) dX8_fits_6 (by decide) (fun c15 => ?_) (fun c15 => ?_)
    · skip
      exact absurd c15 (by decide)
    · skip
      refine dv_iload_n dX8_fits_9 rfl 3 rfl ?_
      refine GW.callS (n := 1) (As := [.int kn]) (rest := []) (k_X8_areGossips l g pe ct kn hI) (fun _ h => Bool.noConfusion h) rfl rfl mm_419 mm_420 mm_52 mm_421 (by decide +kernel) ⟨Nat.le_of_ble_eq_true rfl, Nat.le_of_ble_eq_true rfl⟩ rfl (Nat.le_of_ble_eq_true rfl) dX8_fits_10 (Nat.zero_le _) (Nat.zero_le _) rfl (fun ct16 rrr17 hBr17 hoff18 => ?_)
      obtain ⟨r17, rfl, hr17, rfl⟩ := hBr17
      refine GW.eq (S2 := [.int r17]) rfl rfl rfl ?_
      rcases hr17 with hr17 | hr17
      · skip
        obtain ⟨rfl, h19, h20⟩ := hr17
        have h19 : 0 ≤ kn.toInt := h19
        have h20 : kn.toInt ≤ 255 := h20
        refine dv_if_ne (tgt := 18) dX8_fits_13 (by decide) (fun c21 => ?_) (fun c21 => ?_)
        · skip
          refine dv_aload_n dX8_fits_18 rfl 0 rfl ?_
          refine dv_iload_n dX8_fits_19 rfl 1 rfl ?_
          refine dv_iload_n dX8_fits_20 rfl 2 rfl ?_
          refine GW.callV (n := 2) (As := [.int b, .int i]) (rest := []) (b := 0) (f_isLive l g pe ct b i hI) sub_pCl_pAll rfl rfl ⟨by decide, rfl⟩ hs1 (q := (RX8, TX8, 13)) rfl mm_422 mm_424 mm_5 mm_52 mm_425 (by decide +kernel) ⟨Nat.le_of_ble_eq_true rfl, Nat.le_of_ble_eq_true rfl⟩ rfl (Nat.le_of_ble_eq_true rfl) dX8_fits_21 (Nat.zero_le _) (Nat.zero_le _) rfl (fun ct22 rrr23 hBr23 hoff24 => ?_)
          obtain ⟨r23, rfl, hr23, rfl⟩ := hBr23
          refine GW.eq (S2 := [.int r23]) rfl rfl rfl ?_
          rcases hr23 with hr23 | hr23
          · skip
            obtain ⟨rfl, h25, h26, h27, h28⟩ := hr23
            have h25 : LIV ct b i = true := h25
            have h26 : 0 ≤ b.toInt ∧ b.toInt ≤ 3 := h26
            have h27 : 0 ≤ i.toInt ∧ i.toInt ≤ 7 := h27
            have h28 : LIN ct b i = true := h28
            refine dv_if_ne (tgt := 30) dX8_fits_24 (by decide) (fun c29 => ?_) (fun c29 => ?_)
            · skip
              refine dv_aload_n dX8_fits_30 rfl 0 rfl ?_
              refine dv_iload_n dX8_fits_31 rfl 1 rfl ?_
              refine dv_iload_n dX8_fits_32 rfl 3 rfl ?_
              refine GW.callV (n := 2) (As := [.int b, .int kn]) (rest := []) (b := 0) (f_fit l g pe ct b kn (by first | omega | decide) (by first | omega | decide) hI) (fun _ h => h) rfl rfl ⟨by decide, rfl⟩ hs1 (q := (RX8, TX8, 13)) rfl mm_426 mm_428 mm_6 mm_52 mm_429 (by decide +kernel) ⟨Nat.le_of_ble_eq_true rfl, Nat.le_of_ble_eq_true rfl⟩ rfl (Nat.le_of_ble_eq_true rfl) dX8_fits_33 (Nat.zero_le _) (Nat.zero_le _) rfl (fun ct30 rrr31 hBr31 hoff32 => ?_)
              obtain ⟨rfl, hI, hcf40, hk33, hk34, hk35, hk36, hk37, hk38, hk39⟩ := hBr31
              have hof : ∀ k, ¬ dIn pM k → ct30 k = ct k := fun k hk => (hcf40 k hk).trans (hof k hk)
              refine GW.eq (S2 := []) rfl rfl rfl ?_
              have hs41 : ct30 0 = .inr (8, [.ref 1, .ref 2, .ref 3, .ref 5, .ref 6, .ref 9, .ref 10, .ref 17, .ref 21, .ref 34, .ref (99 + 3 * dr2), .int pe, .int bk3]) := (hcf40 _ (pM_no (by decide))).trans hs1
              obtain ⟨lk42, fd43, hq44⟩ := hk33
              obtain ⟨fF45, hq46, hf47⟩ := hk34
              obtain ⟨fD48, hq49, hd50⟩ := hk35
              obtain ⟨lnfF45, e1fF45⟩ : ∃ z : Int32, z = lnF ct b.toInt.toNat := ⟨_, rfl⟩
              obtain ⟨lvfF45, e2fF45⟩ : ∃ z : Int32, z = lvF ct b.toInt.toNat := ⟨_, rfl⟩
              rw [← e1fF45, ← e2fF45] at hq44
              obtain ⟨lns52, liv53, lak54, fnd55, h56, h57, h58, h59, hs51⟩ := a8_10 hI
              have hs60 := hq44
              cases (hq44.symm.trans hs51)
              obtain ⟨f62, hp63, hs61⟩ := a8_12 hI
              have hs64 := hq46
              cases (hq46.symm.trans hs61)
              obtain ⟨f66, hs65⟩ := a8_11 hI
              have hs67 := hq49
              cases (hq49.symm.trans hs65)
              refine dv_aload_n dX8_fits_36 rfl 0 rfl ?_
              refine dv_get (ci := 8) (v := .ref 10) (C := RX8) (T := TX8) (N := 13) ⟨by decide, rfl⟩ hs41 rfl inG8 6 (by decide) mm_309 rfl dX8_fits_37 ?_
              refine dv_get (ci := 6) (v := .ref 12) (C := RX6) (T := TX6) (N := 10) ⟨by decide, rfl⟩ hs60 rfl inG6 5 (by decide) mm_126 rfl dX8_fits_40 ?_
              refine dv_iload_n dX8_fits_43 rfl 2 rfl ?_
              refine dv_iald 0 ⟨by decide, rfl⟩ hs64 rfl (z_in rfl (by omega) (by omega)) dX8_fits_44 ?_
              refine dv_topi (fun y68 ey68 => ?_)
              have hy68 := hp63 _ (z_clt (x := i) rfl (by omega) (by omega))
              rw [← ey68] at hy68
              have hy68 : 0 ≤ y68.toInt ∧ y68.toInt ≤ 65535 := hy68
              exact dv_iret dX8_fits_45 rfl (by first | exact Nat.zero_le _ | decide) (by first | exact Nat.zero_le _ | decide) (by subst hK; exact ⟨y68, rfl, (⟨by unfold qFits gLn; rw [if_pos ⟨by assumption, by omega, by omega⟩]; rw [if_pos (by assumption)]; exact ey68.trans ((hf47 _ (by have := z_clI (x := i) (by omega); omega)).trans (congrArg _ (z_cl (by omega)))), trivial⟩), hI, hof⟩)
            · skip
              exact absurd c29 (by decide)
          · skip
            obtain ⟨rfl, h69⟩ := hr23
            have h69 : LIV ct b i = false := h69
            refine dv_if_ne (tgt := 30) dX8_fits_24 (by decide) (fun c70 => ?_) (fun c70 => ?_)
            · skip
              exact absurd c70 (by decide)
            · skip
              refine dv_bipush (v := (-2)) dX8_fits_27 (by decide) ?_
              have q71 : ((-2) : Int32).toInt = -2 := by decide
              exact dv_iret dX8_fits_29 rfl (by first | exact Nat.zero_le _ | decide) (by first | exact Nat.zero_le _ | decide) (by subst hK; exact ⟨(-2), rfl, (⟨by unfold qFits gLn; rw [if_pos ⟨by assumption, by omega, by omega⟩]; rw [if_neg (by rw [show LIV ct b i = false by assumption]; decide)], trivial⟩), hI, hof⟩)
        · skip
          exact absurd c21 (by decide)
      · skip
        obtain ⟨rfl, h72⟩ := hr17
        have h72 : ¬ (0 ≤ kn.toInt ∧ kn.toInt ≤ 255) := h72
        refine dv_if_ne (tgt := 18) dX8_fits_13 (by decide) (fun c73 => ?_) (fun c73 => ?_)
        · skip
          exact absurd c73 (by decide)
        · skip
          refine dv_iconst (v := (-1)) dX8_fits_16 (by decide) ?_
          have q74 : ((-1) : Int32).toInt = -1 := by decide
          exact dv_iret dX8_fits_17 rfl (by first | exact Nat.zero_le _ | decide) (by first | exact Nat.zero_le _ | decide) (by subst hK; exact ⟨(-1), rfl, (⟨by unfold qFits gLn; first | rw [if_neg (fun q => by have q1 := q.1; rw [show LIN ct b i = false by assumption] at q1; exact absurd q1 (by decide))] | rw [if_neg (fun q => by have q1 := q.2.1; have q2 := q.2.2; omega)], trivial⟩), hI, hof⟩)
  · skip
    obtain ⟨rfl, h75⟩ := hr8
    have h75 : LIN ct b i = false := h75
    refine dv_if_eq (tgt := 16) dX8_fits_6 (by decide) (fun c76 => ?_) (fun c76 => ?_)
    · skip
      refine dv_iconst (v := (-1)) dX8_fits_16 (by decide) ?_
      have q77 : ((-1) : Int32).toInt = -1 := by decide
      exact dv_iret dX8_fits_17 rfl (by first | exact Nat.zero_le _ | decide) (by first | exact Nat.zero_le _ | decide) (by subst hK; exact ⟨(-1), rfl, (⟨by unfold qFits gLn; first | rw [if_neg (fun q => by have q1 := q.1; rw [show LIN ct b i = false by assumption] at q1; exact absurd q1 (by decide))] | rw [if_neg (fun q => by have q1 := q.2.1; have q2 := q.2.2; omega)], trivial⟩), hI, hof⟩)
    · skip
      exact absurd c76 (by decide)

set_option maxHeartbeats 4000000 in
set_option maxRecDepth 100000 in
theorem f_givings (l : Launch) (g : zG) (pe : Int32) (ct : Nat → va_E) (b : Int32) (kn : Int32) (hI : Inv8 g idn pe ct) : DM l g pAll false yX8_givings cX8_givings 3 (some .long) ({ frames := 5, cells := 0, slots := 0, locals := 117 }) (fun (ct2 : Nat → va_E) (rr : Option Value) => ∃ (r : Int64), rr = some (.long r) ∧ (((r = qGiv l g pe ct b kn) ∧ (True))) ∧ Inv8 g idn pe ct2 ∧ (∀ k, ¬ dIn pM k → ct2 k = ct k)) ct [.ref 0, .int b, .int kn] := by
  refine DM.K (fun K hK => ?_)
  refine GW.met (own := RX8) (loc := [(0, .ref 0), (1, .int b), (2, .int kn)]) (by decide) rfl rfl (Nat.le_of_ble_eq_true rfl) ?_
  have hpe0 := hI.1
  have hof : ∀ k, ¬ dIn pM k → ct k = ct k := fun _ _ => rfl
  have rg_b := z_rng b
  have rg_kn := z_rng kn
  obtain ⟨bk3, dr2, h4, h5, h6, hs1⟩ := a8_0 hI
  have hzb : (bkF ct).toInt = bk3.toInt := by unfold bkF; rw [hs1]; rfl
  have hI0 := hI
  refine dv_aload_n dX8_givings_0 rfl 0 rfl ?_
  refine dv_iload_n dX8_givings_1 rfl 1 rfl ?_
  refine GW.callV (n := 1) (As := [.int b]) (rest := []) (b := 0) (f_isBook l g pe ct b hI) sub_pCl_pAll rfl rfl ⟨by decide, rfl⟩ hs1 (q := (RX8, TX8, 13)) rfl mm_415 mm_417 mm_4 mm_52 mm_418 (by decide +kernel) ⟨Nat.le_of_ble_eq_true rfl, Nat.le_of_ble_eq_true rfl⟩ rfl (Nat.le_of_ble_eq_true rfl) dX8_givings_2 (Nat.zero_le _) (Nat.zero_le _) rfl (fun ct7 rrr8 hBr8 hoff9 => ?_)
  obtain ⟨r8, rfl, hr8, rfl⟩ := hBr8
  refine GW.eq (S2 := [.int r8]) rfl rfl rfl ?_
  rcases hr8 with hr8 | hr8
  · skip
    obtain ⟨rfl, h10, h11, h12⟩ := hr8
    have h10 : 0 ≤ b.toInt := h10
    have h11 : b.toInt < (bkF ct).toInt := h11
    have h12 : b.toInt ≤ 3 := h12
    refine dv_if_eq (tgt := 15) dX8_givings_5 (by decide) (fun c13 => ?_) (fun c13 => ?_)
    · skip
      exact absurd c13 (by decide)
    · skip
      refine dv_iload_n dX8_givings_8 rfl 2 rfl ?_
      refine GW.callS (n := 1) (As := [.int kn]) (rest := []) (k_X8_areGossips l g pe ct kn hI) (fun _ h => Bool.noConfusion h) rfl rfl mm_419 mm_420 mm_52 mm_421 (by decide +kernel) ⟨Nat.le_of_ble_eq_true rfl, Nat.le_of_ble_eq_true rfl⟩ rfl (Nat.le_of_ble_eq_true rfl) dX8_givings_9 (Nat.zero_le _) (Nat.zero_le _) rfl (fun ct14 rrr15 hBr15 hoff16 => ?_)
      obtain ⟨r15, rfl, hr15, rfl⟩ := hBr15
      refine GW.eq (S2 := [.int r15]) rfl rfl rfl ?_
      rcases hr15 with hr15 | hr15
      · skip
        obtain ⟨rfl, h17, h18⟩ := hr15
        have h17 : 0 ≤ kn.toInt := h17
        have h18 : kn.toInt ≤ 255 := h18
        refine dv_if_ne (tgt := 19) dX8_givings_12 (by decide) (fun c19 => ?_) (fun c19 => ?_)
        · skip
          refine dv_aload_n dX8_givings_19 rfl 0 rfl ?_
          refine dv_iload_n dX8_givings_20 rfl 1 rfl ?_
          refine dv_iload_n dX8_givings_21 rfl 2 rfl ?_
          refine GW.callV (n := 2) (As := [.int b, .int kn]) (rest := []) (b := 0) (f_fit l g pe ct b kn (by first | omega | decide) (by first | omega | decide) hI) (fun _ h => h) rfl rfl ⟨by decide, rfl⟩ hs1 (q := (RX8, TX8, 13)) rfl mm_426 mm_428 mm_6 mm_52 mm_429 (by decide +kernel) ⟨Nat.le_of_ble_eq_true rfl, Nat.le_of_ble_eq_true rfl⟩ rfl (Nat.le_of_ble_eq_true rfl) dX8_givings_22 (Nat.zero_le _) (Nat.zero_le _) rfl (fun ct20 rrr21 hBr21 hoff22 => ?_)
          obtain ⟨rfl, hI, hcf30, hk23, hk24, hk25, hk26, hk27, hk28, hk29⟩ := hBr21
          have hof : ∀ k, ¬ dIn pM k → ct20 k = ct k := fun k hk => (hcf30 k hk).trans (hof k hk)
          refine GW.eq (S2 := []) rfl rfl rfl ?_
          have hs31 : ct20 0 = .inr (8, [.ref 1, .ref 2, .ref 3, .ref 5, .ref 6, .ref 9, .ref 10, .ref 17, .ref 21, .ref 34, .ref (99 + 3 * dr2), .int pe, .int bk3]) := (hcf30 _ (pM_no (by decide))).trans hs1
          obtain ⟨lk32, fd33, hq34⟩ := hk23
          obtain ⟨fF35, hq36, hf37⟩ := hk24
          obtain ⟨fD38, hq39, hd40⟩ := hk25
          obtain ⟨lnfF35, e1fF35⟩ : ∃ z : Int32, z = lnF ct b.toInt.toNat := ⟨_, rfl⟩
          obtain ⟨lvfF35, e2fF35⟩ : ∃ z : Int32, z = lvF ct b.toInt.toNat := ⟨_, rfl⟩
          rw [← e1fF35, ← e2fF35] at hq34
          obtain ⟨lns42, liv43, lak44, fnd45, h46, h47, h48, h49, hs41⟩ := a8_10 hI
          have hs50 := hq34
          cases (hq34.symm.trans hs41)
          obtain ⟨f52, hp53, hs51⟩ := a8_12 hI
          have hs54 := hq36
          cases (hq36.symm.trans hs51)
          obtain ⟨f56, hs55⟩ := a8_11 hI
          have hs57 := hq39
          cases (hq39.symm.trans hs55)
          have hlvb : lvfF35.toInt < ((2 ^ lnfF35.toInt.toNat : Nat) : Int) := by rw [e1fF35, e2fF35]; exact lvF_lt hI0 (by omega)
          refine dv_aload_n dX8_givings_25 rfl 0 rfl ?_
          refine dv_get (ci := 8) (v := .ref 10) (C := RX8) (T := TX8) (N := 13) ⟨by decide, rfl⟩ hs31 rfl inG8 6 (by decide) mm_309 rfl dX8_givings_26 ?_
          refine GW.callV (n := 0) (As := []) (rest := []) (b := 10) (f_number l g pe ct20 lnfF35 lvfF35 lk32 fd33 fF35 hI hs50 hs54 (hlvb)) sub_pM_pAll rfl rfl ⟨by decide, rfl⟩ hs50 (q := (RX6, TX6, 10)) rfl mm_478 mm_479 mm_480 mm_55 mm_481 (by decide +kernel) ⟨Nat.le_of_ble_eq_true rfl, Nat.le_of_ble_eq_true rfl⟩ rfl (Nat.le_of_ble_eq_true rfl) dX8_givings_29 (Nat.zero_le _) (Nat.zero_le _) rfl (fun ct58 rrr59 hBr59 hoff60 => ?_)
          obtain ⟨r59, rfl, hr59, hI, hk61, hk62, hk63, hk64, hk65, hk66⟩ := hBr59
          have hof : ∀ k, ¬ dIn pM k → ct58 k = ct k := fun k hk => (hoff60 k hk).trans (hof k hk)
          refine GW.eq (S2 := [.long r59]) rfl rfl rfl ?_
          have hs67 : ct58 0 = .inr (8, [.ref 1, .ref 2, .ref 3, .ref 5, .ref 6, .ref 9, .ref 10, .ref 17, .ref 21, .ref 34, .ref (99 + 3 * dr2), .int pe, .int bk3]) := (hoff60 _ (pM_no (by decide))).trans hs31
          have hs68 : ct58 10 = .inr (6, [.int lnfF35, .int lvfF35, .int lk32, .int fd33, .ref 11, .ref 12, .ref 13, .ref 14, .ref 15, .ref 16]) := hk61.trans hs50
          have hs69 : ct58 11 = .inl (g.2 0, 8, .inl fD38) := hk62.trans hs57
          have hs70 : ct58 12 = .inl (g.2 0, 8, .inl fF35) := hk63.trans hs54
          have h71 := hr59
          have h71 : r59 = i64 (gvP (fun z9 q9 => ib (fF35 z9) q9) lnfF35.toInt.toNat 16 lvfF35.toInt.toNat) := h71
          exact dv_lret dX8_givings_32 rfl (by first | exact Nat.zero_le _ | decide) (by first | exact Nat.zero_le _ | decide) (by subst hK; exact ⟨r59, rfl, (⟨by unfold qGiv; rw [if_pos ⟨by omega, by omega, by omega, by omega⟩]; unfold qWays; rw [← e1fF35, ← e2fF35, gvP_c (F2 := fun i p => ib (fF35 i) p) (fun k hk p => by rw [hf37 k (by omega)])]; exact h71, trivial⟩), hI, hof⟩)
        · skip
          exact absurd c19 (by decide)
      · skip
        obtain ⟨rfl, h72⟩ := hr15
        have h72 : ¬ (0 ≤ kn.toInt ∧ kn.toInt ≤ 255) := h72
        refine dv_if_ne (tgt := 19) dX8_givings_12 (by decide) (fun c73 => ?_) (fun c73 => ?_)
        · skip
          exact absurd c73 (by decide)
        · skip
          refine dv_ldc2 mm_477 dX8_givings_15 ?_
          exact dv_lret dX8_givings_18 rfl (by first | exact Nat.zero_le _ | decide) (by first | exact Nat.zero_le _ | decide) (by subst hK; exact ⟨(-1), rfl, (⟨by unfold qGiv; rw [if_neg (fun q => by have q1 := q.1; have q2 := q.2.1; have q3 := q.2.2.1; have q4 := q.2.2.2; omega)], trivial⟩), hI, hof⟩)
  · skip
    obtain ⟨rfl, h74⟩ := hr8
    have h74 : ¬ (0 ≤ b.toInt ∧ b.toInt < (bkF ct).toInt) := h74
    refine dv_if_eq (tgt := 15) dX8_givings_5 (by decide) (fun c75 => ?_) (fun c75 => ?_)
    · skip
      refine dv_ldc2 mm_477 dX8_givings_15 ?_
      exact dv_lret dX8_givings_18 rfl (by first | exact Nat.zero_le _ | decide) (by first | exact Nat.zero_le _ | decide) (by subst hK; exact ⟨(-1), rfl, (⟨by unfold qGiv; rw [if_neg (fun q => by have q1 := q.1; have q2 := q.2.1; have q3 := q.2.2.1; have q4 := q.2.2.2; omega)], trivial⟩), hI, hof⟩)
    · skip
      exact absurd c75 (by decide)

set_option maxHeartbeats 4000000 in
set_option maxRecDepth 100000 in
theorem f_mustBe (l : Launch) (g : zG) (pe : Int32) (ct : Nat → va_E) (b : Int32) (i : Int32) (p0 : Int32) (kn : Int32) (hI : Inv8 g idn pe ct) : DM l g pAll false yX8_mustBe cX8_mustBe 6 (some .int) ({ frames := 5, cells := 0, slots := 0, locals := 117 }) (fun (ct2 : Nat → va_E) (rr : Option Value) => ∃ (r : Int32), rr = some (.int r) ∧ (((r = qMust l g pe ct b i p0 kn) ∧ (True))) ∧ Inv8 g idn pe ct2 ∧ (∀ k, ¬ dIn pM k → ct2 k = ct k)) ct [.ref 0, .int b, .int i, .int p0, .int kn] := by
  refine DM.K (fun K hK => ?_)
  refine GW.met (own := RX8) (loc := [(0, .ref 0), (1, .int b), (2, .int i), (3, .int p0), (4, .int kn)]) (by decide) rfl rfl (Nat.le_of_ble_eq_true rfl) ?_
  have hpe0 := hI.1
  have hof : ∀ k, ¬ dIn pM k → ct k = ct k := fun _ _ => rfl
  have rg_b := z_rng b
  have rg_i := z_rng i
  have rg_p0 := z_rng p0
  have rg_kn := z_rng kn
  obtain ⟨bk3, dr2, h4, h5, h6, hs1⟩ := a8_0 hI
  have hzb : (bkF ct).toInt = bk3.toInt := by unfold bkF; rw [hs1]; rfl
  have hI0 := hI
  refine dv_aload_n dX8_mustBe_0 rfl 0 rfl ?_
  refine dv_iload_n dX8_mustBe_1 rfl 1 rfl ?_
  refine dv_iload_n dX8_mustBe_2 rfl 2 rfl ?_
  refine GW.callV (n := 2) (As := [.int b, .int i]) (rest := []) (b := 0) (f_isLine l g pe ct b i hI) sub_pCl_pAll rfl rfl ⟨by decide, rfl⟩ hs1 (q := (RX8, TX8, 13)) rfl mm_411 mm_413 mm_3 mm_52 mm_414 (by decide +kernel) ⟨Nat.le_of_ble_eq_true rfl, Nat.le_of_ble_eq_true rfl⟩ rfl (Nat.le_of_ble_eq_true rfl) dX8_mustBe_3 (Nat.zero_le _) (Nat.zero_le _) rfl (fun ct7 rrr8 hBr8 hoff9 => ?_)
  obtain ⟨r8, rfl, hr8, rfl⟩ := hBr8
  refine GW.eq (S2 := [.int r8]) rfl rfl rfl ?_
  rcases hr8 with hr8 | hr8
  · skip
    obtain ⟨rfl, h10, h11, h12, h13, h14⟩ := hr8
    have h10 : LIN ct b i = true := h10
    have h11 : 0 ≤ b.toInt ∧ b.toInt ≤ 3 := h11
    have h12 : 0 ≤ i.toInt ∧ i.toInt ≤ 7 := h12
    have h13 : b.toInt < (bkF ct).toInt := h13
    have h14 : i.toInt < (lnF ct b.toInt.toNat).toInt := h14
    refine dv_if_eq (tgt := 25) dX8_mustBe_6 (by decide) (fun c15 => ?_) (fun c15 => ?_)
    · skip
      exact absurd c15 (by decide)
    · skip
      refine dv_aload_n dX8_mustBe_9 rfl 0 rfl ?_
      refine dv_iload_n dX8_mustBe_10 rfl 3 rfl ?_
      refine GW.callV (n := 1) (As := [.int p0]) (rest := []) (b := 0) (k_X8_isPerson l g pe ct p0 hI) sub_pCl_pAll rfl rfl ⟨by decide, rfl⟩ hs1 (q := (RX8, TX8, 13)) rfl mm_370 mm_372 mm_1 mm_52 mm_373 (by decide +kernel) ⟨Nat.le_of_ble_eq_true rfl, Nat.le_of_ble_eq_true rfl⟩ rfl (Nat.le_of_ble_eq_true rfl) dX8_mustBe_11 (Nat.zero_le _) (Nat.zero_le _) rfl (fun ct16 rrr17 hBr17 hoff18 => ?_)
      obtain ⟨r17, rfl, hr17, rfl⟩ := hBr17
      refine GW.eq (S2 := [.int r17]) rfl rfl rfl ?_
      rcases hr17 with hr17 | hr17
      · skip
        obtain ⟨rfl, h19, h20⟩ := hr17
        have h19 : 0 ≤ p0.toInt := h19
        have h20 : p0.toInt < pe.toInt := h20
        refine dv_if_eq (tgt := 25) dX8_mustBe_14 (by decide) (fun c21 => ?_) (fun c21 => ?_)
        · skip
          exact absurd c21 (by decide)
        · skip
          refine dv_iload dX8_mustBe_17 4 rfl ?_
          refine GW.callS (n := 1) (As := [.int kn]) (rest := []) (k_X8_areGossips l g pe ct kn hI) (fun _ h => Bool.noConfusion h) rfl rfl mm_419 mm_420 mm_52 mm_421 (by decide +kernel) ⟨Nat.le_of_ble_eq_true rfl, Nat.le_of_ble_eq_true rfl⟩ rfl (Nat.le_of_ble_eq_true rfl) dX8_mustBe_19 (Nat.zero_le _) (Nat.zero_le _) rfl (fun ct22 rrr23 hBr23 hoff24 => ?_)
          obtain ⟨r23, rfl, hr23, rfl⟩ := hBr23
          refine GW.eq (S2 := [.int r23]) rfl rfl rfl ?_
          rcases hr23 with hr23 | hr23
          · skip
            obtain ⟨rfl, h25, h26⟩ := hr23
            have h25 : 0 ≤ kn.toInt := h25
            have h26 : kn.toInt ≤ 255 := h26
            refine dv_if_ne (tgt := 27) dX8_mustBe_22 (by decide) (fun c27 => ?_) (fun c27 => ?_)
            · skip
              refine dv_aload_n dX8_mustBe_27 rfl 0 rfl ?_
              refine dv_iload_n dX8_mustBe_28 rfl 1 rfl ?_
              refine dv_iload_n dX8_mustBe_29 rfl 2 rfl ?_
              refine GW.callV (n := 2) (As := [.int b, .int i]) (rest := []) (b := 0) (f_isLive l g pe ct b i hI) sub_pCl_pAll rfl rfl ⟨by decide, rfl⟩ hs1 (q := (RX8, TX8, 13)) rfl mm_422 mm_424 mm_5 mm_52 mm_425 (by decide +kernel) ⟨Nat.le_of_ble_eq_true rfl, Nat.le_of_ble_eq_true rfl⟩ rfl (Nat.le_of_ble_eq_true rfl) dX8_mustBe_30 (Nat.zero_le _) (Nat.zero_le _) rfl (fun ct28 rrr29 hBr29 hoff30 => ?_)
              obtain ⟨r29, rfl, hr29, rfl⟩ := hBr29
              refine GW.eq (S2 := [.int r29]) rfl rfl rfl ?_
              rcases hr29 with hr29 | hr29
              · skip
                obtain ⟨rfl, h31, h32, h33, h34⟩ := hr29
                have h31 : LIV ct b i = true := h31
                have h32 : 0 ≤ b.toInt ∧ b.toInt ≤ 3 := h32
                have h33 : 0 ≤ i.toInt ∧ i.toInt ≤ 7 := h33
                have h34 : LIN ct b i = true := h34
                refine dv_if_ne (tgt := 39) dX8_mustBe_33 (by decide) (fun c35 => ?_) (fun c35 => ?_)
                · skip
                  refine dv_aload_n dX8_mustBe_39 rfl 0 rfl ?_
                  refine dv_iload_n dX8_mustBe_40 rfl 1 rfl ?_
                  refine dv_iload dX8_mustBe_41 4 rfl ?_
                  refine GW.callV (n := 2) (As := [.int b, .int kn]) (rest := []) (b := 0) (f_fit l g pe ct b kn (by first | omega | decide) (by first | omega | decide) hI) (fun _ h => h) rfl rfl ⟨by decide, rfl⟩ hs1 (q := (RX8, TX8, 13)) rfl mm_426 mm_428 mm_6 mm_52 mm_429 (by decide +kernel) ⟨Nat.le_of_ble_eq_true rfl, Nat.le_of_ble_eq_true rfl⟩ rfl (Nat.le_of_ble_eq_true rfl) dX8_mustBe_43 (Nat.zero_le _) (Nat.zero_le _) rfl (fun ct36 rrr37 hBr37 hoff38 => ?_)
                  obtain ⟨rfl, hI, hcf46, hk39, hk40, hk41, hk42, hk43, hk44, hk45⟩ := hBr37
                  have hof : ∀ k, ¬ dIn pM k → ct36 k = ct k := fun k hk => (hcf46 k hk).trans (hof k hk)
                  refine GW.eq (S2 := []) rfl rfl rfl ?_
                  have hs47 : ct36 0 = .inr (8, [.ref 1, .ref 2, .ref 3, .ref 5, .ref 6, .ref 9, .ref 10, .ref 17, .ref 21, .ref 34, .ref (99 + 3 * dr2), .int pe, .int bk3]) := (hcf46 _ (pM_no (by decide))).trans hs1
                  obtain ⟨lk48, fd49, hq50⟩ := hk39
                  obtain ⟨fF51, hq52, hf53⟩ := hk40
                  obtain ⟨fD54, hq55, hd56⟩ := hk41
                  obtain ⟨lnfF51, e1fF51⟩ : ∃ z : Int32, z = lnF ct b.toInt.toNat := ⟨_, rfl⟩
                  obtain ⟨lvfF51, e2fF51⟩ : ∃ z : Int32, z = lvF ct b.toInt.toNat := ⟨_, rfl⟩
                  rw [← e1fF51, ← e2fF51] at hq50
                  obtain ⟨lns58, liv59, lak60, fnd61, h62, h63, h64, h65, hs57⟩ := a8_10 hI
                  have hs66 := hq50
                  cases (hq50.symm.trans hs57)
                  obtain ⟨f68, hp69, hs67⟩ := a8_12 hI
                  have hs70 := hq52
                  cases (hq52.symm.trans hs67)
                  obtain ⟨f72, hs71⟩ := a8_11 hI
                  have hs73 := hq55
                  cases (hq55.symm.trans hs71)
                  refine dv_aload_n dX8_mustBe_46 rfl 0 rfl ?_
                  refine dv_get (ci := 8) (v := .ref 10) (C := RX8) (T := TX8) (N := 13) ⟨by decide, rfl⟩ hs47 rfl inG8 6 (by decide) mm_309 rfl dX8_mustBe_47 ?_
                  refine GW.callV (n := 0) (As := []) (rest := []) (b := 10) (f_weigh l g pe ct36 lnfF51 lvfF51 lk48 fd49 fF51 hI hs66 hs70) sub_pM_pAll rfl rfl ⟨by decide, rfl⟩ hs66 (q := (RX6, TX6, 10)) rfl mm_490 mm_491 mm_492 mm_55 mm_493 (by decide +kernel) ⟨Nat.le_of_ble_eq_true rfl, Nat.le_of_ble_eq_true rfl⟩ rfl (Nat.le_of_ble_eq_true rfl) dX8_mustBe_50 (Nat.zero_le _) (Nat.zero_le _) rfl (fun ct74 rrr75 hBr75 hoff76 => ?_)
                  obtain ⟨rfl, hI, hk77, hk78, hk79, hk80, hk81, hk82⟩ := hBr75
                  have hof : ∀ k, ¬ dIn pM k → ct74 k = ct k := fun k hk => (hoff76 k hk).trans (hof k hk)
                  refine GW.eq (S2 := []) rfl rfl rfl ?_
                  have hs83 : ct74 0 = .inr (8, [.ref 1, .ref 2, .ref 3, .ref 5, .ref 6, .ref 9, .ref 10, .ref 17, .ref 21, .ref 34, .ref (99 + 3 * dr2), .int pe, .int bk3]) := (hoff76 _ (pM_no (by decide))).trans hs47
                  obtain ⟨lk84, elk84⟩ : ∃ z : Int32, z = (wLak lnfF51 lvfF51 fF51) := ⟨_, rfl⟩
                  rw [← elk84] at hk77
                  obtain ⟨fM85, hq86, hm87⟩ := hk78
                  obtain ⟨lns89, liv90, lak91, fnd92, h93, h94, h95, h96, hs88⟩ := a8_10 hI
                  have hs97 := hk77
                  cases (hk77.symm.trans hs88)
                  obtain ⟨f99, hp100, hs98⟩ := a8_13 hI
                  have hs101 := hq86
                  cases (hq86.symm.trans hs98)
                  have hs102 : ct74 11 = .inl (g.2 0, 8, .inl fD54) := hk79.trans hs73
                  have hs103 : ct74 12 = .inl (g.2 0, 8, .inl fF51) := hk80.trans hs70
                  refine dv_aload_n dX8_mustBe_53 rfl 0 rfl ?_
                  refine dv_get (ci := 8) (v := .ref 10) (C := RX8) (T := TX8) (N := 13) ⟨by decide, rfl⟩ hs83 rfl inG8 6 (by decide) mm_309 rfl dX8_mustBe_54 ?_
                  refine dv_get (ci := 6) (v := .ref 13) (C := RX6) (T := TX6) (N := 10) ⟨by decide, rfl⟩ hs97 rfl inG6 6 (by decide) mm_128 rfl dX8_mustBe_57 ?_
                  refine dv_iload_n dX8_mustBe_60 rfl 2 rfl ?_
                  refine dv_iald 0 ⟨by decide, rfl⟩ hs101 rfl (z_in rfl (by omega) (by omega)) dX8_mustBe_61 ?_
                  refine dv_topi (fun y104 ey104 => ?_)
                  have hy104 := hp100 _ (z_clt (x := i) rfl (by omega) (by omega))
                  rw [← ey104] at hy104
                  have hy104 : 0 ≤ y104.toInt ∧ y104.toInt ≤ 65535 := hy104
                  have hmay : y104 = qMay l g pe ct b kn i.toInt.toNat := by
                    unfold qMay
                    rw [ey104, hm87 _ (by have := z_clI (x := i) (by omega); omega), ← e1fF51, ← e2fF51, show Int32.toNatClampNeg i = i.toInt.toNat from z_cl (by omega)]
                    exact wMay_c hf53 (by omega)
                  refine dv_istore (lv' := [(5, .int y104), (0, .ref 0), (1, .int b), (2, .int i), (3, .int p0), (4, .int kn)]) dX8_mustBe_62 (by decide) rfl ?_
                  refine dv_iload dX8_mustBe_64 0 rfl ?_
                  refine dv_iload_n dX8_mustBe_66 rfl 4 rfl ?_
                  refine dv_ishr dX8_mustBe_67 ?_
                  refine dv_topi (fun x105 ex105 => ?_)
                  have tx105 := z_shr (x := y104) rfl (by omega) p0
                  rw [← ex105] at tx105
                  refine dv_iconst (v := 1) dX8_mustBe_68 (by decide) ?_
                  refine dv_iand dX8_mustBe_69 ?_
                  refine dv_topi (fun x106 ex106 => ?_)
                  have tx106 := z_andr (x := x105) (y := 1) (by decide : (1 : Int32).toInt = 1) (by omega)
                  rw [← ex106] at tx106
                  refine dv_if_ne (tgt := 75) dX8_mustBe_70 (by decide) (fun c107 => ?_) (fun c107 => ?_)
                  · skip
                    have c107 : ¬ (x106.toInt = 0) := fun q => c107 ((z_eq rfl (by decide : (0 : Int32).toInt = 0)).mpr q)
                    have hpb : ib y104 (p0.toInt.toNat) = true := by
                      rcases zb_ask (x := y104) (y := p0) (p := p0.toInt.toNat) (by omega) (by omega) (by omega) (ex106.trans (by rw [ex105])) with ⟨q1, q2⟩ | ⟨q1, q2⟩
                      · first | exact q2 | (exfalso; omega)
                      · first | exact q2 | (exfalso; omega)
                    refine dv_iload dX8_mustBe_75 0 rfl ?_
                    refine GW.callS (n := 1) (As := [.int y104]) (rest := []) (k_bce l g pe ct74 y104 hI) (fun _ h => Bool.noConfusion h) rfl rfl mm_504 mm_499 mm_62 mm_500 (by decide +kernel) ⟨Nat.le_of_ble_eq_true rfl, Nat.le_of_ble_eq_true rfl⟩ rfl (Nat.le_of_ble_eq_true rfl) dX8_mustBe_77 (Nat.zero_le _) (Nat.zero_le _) rfl (fun ct108 rrr109 hBr109 hoff110 => ?_)
                    obtain ⟨r109, rfl, hr109, rfl⟩ := hBr109
                    refine GW.eq (S2 := [.int r109]) rfl rfl rfl ?_
                    have hqr109 := hr109
                    subst r109
                    have hbr109 := z_bc (x := y104) (by omega) (by omega)
                    refine dv_iconst (v := 1) dX8_mustBe_80 (by decide) ?_
                    refine dv_icmp_ne (tgt := 88) dX8_mustBe_81 (by decide) (fun c111 => ?_) (fun c111 => ?_)
                    · skip
                      have c111 : ¬ ((bcf y104).toInt = 1) := fun q => c111 ((z_eq rfl (by decide : (1 : Int32).toInt = 1)).mpr q)
                      refine dv_iconst (v := 1) dX8_mustBe_88 (by decide) ?_
                      have q112 : (1 : Int32).toInt = 1 := by decide
                      exact dv_iret dX8_mustBe_89 rfl (by first | exact Nat.zero_le _ | decide) (by first | exact Nat.zero_le _ | decide) (by subst hK; exact ⟨1, rfl, (⟨by unfold qMust; rw [if_pos ⟨by assumption, ⟨by omega, by omega⟩, by omega, by omega⟩]; rw [if_pos (by assumption)]; rw [← hmay]; rw [if_pos hpb, if_neg (by omega)], trivial⟩), hI, hof⟩)
                    · skip
                      have c111 : (bcf y104).toInt = 1 := (z_eq rfl (by decide : (1 : Int32).toInt = 1)).mp c111
                      refine dv_iconst (v := 2) dX8_mustBe_84 (by decide) ?_
                      refine dv_goto (tgt := 89) dX8_mustBe_85 (by decide) ?_
                      have q113 : (2 : Int32).toInt = 2 := by decide
                      exact dv_iret dX8_mustBe_89 rfl (by first | exact Nat.zero_le _ | decide) (by first | exact Nat.zero_le _ | decide) (by subst hK; exact ⟨2, rfl, (⟨by unfold qMust; rw [if_pos ⟨by assumption, ⟨by omega, by omega⟩, by omega, by omega⟩]; rw [if_pos (by assumption)]; rw [← hmay]; rw [if_pos hpb, if_pos (by omega)], trivial⟩), hI, hof⟩)
                  · skip
                    have c107 : x106.toInt = 0 := (z_eq rfl (by decide : (0 : Int32).toInt = 0)).mp c107
                    have hpb : ib y104 (p0.toInt.toNat) = false := by
                      rcases zb_ask (x := y104) (y := p0) (p := p0.toInt.toNat) (by omega) (by omega) (by omega) (ex106.trans (by rw [ex105])) with ⟨q1, q2⟩ | ⟨q1, q2⟩
                      · first | exact q2 | (exfalso; omega)
                      · first | exact q2 | (exfalso; omega)
                    refine dv_iconst (v := 0) dX8_mustBe_73 (by decide) ?_
                    have q114 : (0 : Int32).toInt = 0 := by decide
                    exact dv_iret dX8_mustBe_74 rfl (by first | exact Nat.zero_le _ | decide) (by first | exact Nat.zero_le _ | decide) (by subst hK; exact ⟨0, rfl, (⟨by unfold qMust; rw [if_pos ⟨by assumption, ⟨by omega, by omega⟩, by omega, by omega⟩]; rw [if_pos (by assumption)]; rw [← hmay]; rw [if_neg (by rw [hpb]; decide)], trivial⟩), hI, hof⟩)
                · skip
                  exact absurd c35 (by decide)
              · skip
                obtain ⟨rfl, h115⟩ := hr29
                have h115 : LIV ct b i = false := h115
                refine dv_if_ne (tgt := 39) dX8_mustBe_33 (by decide) (fun c116 => ?_) (fun c116 => ?_)
                · skip
                  exact absurd c116 (by decide)
                · skip
                  refine dv_bipush (v := (-2)) dX8_mustBe_36 (by decide) ?_
                  have q117 : ((-2) : Int32).toInt = -2 := by decide
                  exact dv_iret dX8_mustBe_38 rfl (by first | exact Nat.zero_le _ | decide) (by first | exact Nat.zero_le _ | decide) (by subst hK; exact ⟨(-2), rfl, (⟨by unfold qMust; rw [if_pos ⟨by assumption, ⟨by omega, by omega⟩, by omega, by omega⟩]; rw [if_neg (by rw [show LIV ct b i = false by assumption]; decide)], trivial⟩), hI, hof⟩)
            · skip
              exact absurd c27 (by decide)
          · skip
            obtain ⟨rfl, h118⟩ := hr23
            have h118 : ¬ (0 ≤ kn.toInt ∧ kn.toInt ≤ 255) := h118
            refine dv_if_ne (tgt := 27) dX8_mustBe_22 (by decide) (fun c119 => ?_) (fun c119 => ?_)
            · skip
              exact absurd c119 (by decide)
            · skip
              refine dv_iconst (v := (-1)) dX8_mustBe_25 (by decide) ?_
              have q120 : ((-1) : Int32).toInt = -1 := by decide
              exact dv_iret dX8_mustBe_26 rfl (by first | exact Nat.zero_le _ | decide) (by first | exact Nat.zero_le _ | decide) (by subst hK; exact ⟨(-1), rfl, (⟨by unfold qMust; first | rw [if_neg (fun q => by have q1 := q.1; rw [show LIN ct b i = false by assumption] at q1; exact absurd q1 (by decide))] | rw [if_neg (fun q => by have q1 := q.2.2.1; have q2 := q.2.2.2; omega)] | rw [if_neg (fun q => by have q1 := q.2.1.1; have q2 := q.2.1.2; omega)], trivial⟩), hI, hof⟩)
      · skip
        obtain ⟨rfl, h121⟩ := hr17
        have h121 : ¬ (0 ≤ p0.toInt ∧ p0.toInt < pe.toInt) := h121
        refine dv_if_eq (tgt := 25) dX8_mustBe_14 (by decide) (fun c122 => ?_) (fun c122 => ?_)
        · skip
          refine dv_iconst (v := (-1)) dX8_mustBe_25 (by decide) ?_
          have q123 : ((-1) : Int32).toInt = -1 := by decide
          exact dv_iret dX8_mustBe_26 rfl (by first | exact Nat.zero_le _ | decide) (by first | exact Nat.zero_le _ | decide) (by subst hK; exact ⟨(-1), rfl, (⟨by unfold qMust; first | rw [if_neg (fun q => by have q1 := q.1; rw [show LIN ct b i = false by assumption] at q1; exact absurd q1 (by decide))] | rw [if_neg (fun q => by have q1 := q.2.2.1; have q2 := q.2.2.2; omega)] | rw [if_neg (fun q => by have q1 := q.2.1.1; have q2 := q.2.1.2; omega)], trivial⟩), hI, hof⟩)
        · skip
          exact absurd c122 (by decide)
  · skip
    obtain ⟨rfl, h124⟩ := hr8
    have h124 : LIN ct b i = false := h124
    refine dv_if_eq (tgt := 25) dX8_mustBe_6 (by decide) (fun c125 => ?_) (fun c125 => ?_)
    · skip
      refine dv_iconst (v := (-1)) dX8_mustBe_25 (by decide) ?_
      have q126 : ((-1) : Int32).toInt = -1 := by decide
      exact dv_iret dX8_mustBe_26 rfl (by first | exact Nat.zero_le _ | decide) (by first | exact Nat.zero_le _ | decide) (by subst hK; exact ⟨(-1), rfl, (⟨by unfold qMust; first | rw [if_neg (fun q => by have q1 := q.1; rw [show LIN ct b i = false by assumption] at q1; exact absurd q1 (by decide))] | rw [if_neg (fun q => by have q1 := q.2.2.1; have q2 := q.2.2.2; omega)] | rw [if_neg (fun q => by have q1 := q.2.1.1; have q2 := q.2.1.2; omega)], trivial⟩), hI, hof⟩)
    · skip
      exact absurd c125 (by decide)

set_option maxHeartbeats 4000000 in
set_option maxRecDepth 100000 in
theorem f_giving (l : Launch) (g : zG) (pe : Int32) (ct : Nat → va_E) (b : Int32) (i : Int32) (kn : Int32) (hI : Inv8 g idn pe ct) : DM l g pAll false yX8_giving cX8_giving 5 (some .int) ({ frames := 5, cells := 0, slots := 0, locals := 117 }) (fun (ct2 : Nat → va_E) (rr : Option Value) => ∃ (r : Int32), rr = some (.int r) ∧ (((r = qGvg l g pe ct b i kn) ∧ (True))) ∧ Inv8 g idn pe ct2 ∧ (∀ k, ¬ dIn pM k → ct2 k = ct k)) ct [.ref 0, .int b, .int i, .int kn] := by
  refine DM.K (fun K hK => ?_)
  refine GW.met (own := RX8) (loc := [(0, .ref 0), (1, .int b), (2, .int i), (3, .int kn)]) (by decide) rfl rfl (Nat.le_of_ble_eq_true rfl) ?_
  have hpe0 := hI.1
  have hof : ∀ k, ¬ dIn pM k → ct k = ct k := fun _ _ => rfl
  have rg_b := z_rng b
  have rg_i := z_rng i
  have rg_kn := z_rng kn
  obtain ⟨bk3, dr2, h4, h5, h6, hs1⟩ := a8_0 hI
  have hzb : (bkF ct).toInt = bk3.toInt := by unfold bkF; rw [hs1]; rfl
  have hI0 := hI
  refine dv_aload_n dX8_giving_0 rfl 0 rfl ?_
  refine dv_iload_n dX8_giving_1 rfl 1 rfl ?_
  refine dv_iload_n dX8_giving_2 rfl 2 rfl ?_
  refine GW.callV (n := 2) (As := [.int b, .int i]) (rest := []) (b := 0) (f_isLine l g pe ct b i hI) sub_pCl_pAll rfl rfl ⟨by decide, rfl⟩ hs1 (q := (RX8, TX8, 13)) rfl mm_411 mm_413 mm_3 mm_52 mm_414 (by decide +kernel) ⟨Nat.le_of_ble_eq_true rfl, Nat.le_of_ble_eq_true rfl⟩ rfl (Nat.le_of_ble_eq_true rfl) dX8_giving_3 (Nat.zero_le _) (Nat.zero_le _) rfl (fun ct7 rrr8 hBr8 hoff9 => ?_)
  obtain ⟨r8, rfl, hr8, rfl⟩ := hBr8
  refine GW.eq (S2 := [.int r8]) rfl rfl rfl ?_
  rcases hr8 with hr8 | hr8
  · skip
    obtain ⟨rfl, h10, h11, h12, h13, h14⟩ := hr8
    have h10 : LIN ct b i = true := h10
    have h11 : 0 ≤ b.toInt ∧ b.toInt ≤ 3 := h11
    have h12 : 0 ≤ i.toInt ∧ i.toInt ≤ 7 := h12
    have h13 : b.toInt < (bkF ct).toInt := h13
    have h14 : i.toInt < (lnF ct b.toInt.toNat).toInt := h14
    refine dv_if_eq (tgt := 16) dX8_giving_6 (by decide) (fun c15 => ?_) (fun c15 => ?_)
    · skip
      exact absurd c15 (by decide)
    · skip
      refine dv_iload_n dX8_giving_9 rfl 3 rfl ?_
      refine GW.callS (n := 1) (As := [.int kn]) (rest := []) (k_X8_areGossips l g pe ct kn hI) (fun _ h => Bool.noConfusion h) rfl rfl mm_419 mm_420 mm_52 mm_421 (by decide +kernel) ⟨Nat.le_of_ble_eq_true rfl, Nat.le_of_ble_eq_true rfl⟩ rfl (Nat.le_of_ble_eq_true rfl) dX8_giving_10 (Nat.zero_le _) (Nat.zero_le _) rfl (fun ct16 rrr17 hBr17 hoff18 => ?_)
      obtain ⟨r17, rfl, hr17, rfl⟩ := hBr17
      refine GW.eq (S2 := [.int r17]) rfl rfl rfl ?_
      rcases hr17 with hr17 | hr17
      · skip
        obtain ⟨rfl, h19, h20⟩ := hr17
        have h19 : 0 ≤ kn.toInt := h19
        have h20 : kn.toInt ≤ 255 := h20
        refine dv_if_ne (tgt := 18) dX8_giving_13 (by decide) (fun c21 => ?_) (fun c21 => ?_)
        · skip
          refine dv_aload_n dX8_giving_18 rfl 0 rfl ?_
          refine dv_iload_n dX8_giving_19 rfl 1 rfl ?_
          refine dv_iload_n dX8_giving_20 rfl 2 rfl ?_
          refine GW.callV (n := 2) (As := [.int b, .int i]) (rest := []) (b := 0) (f_isLive l g pe ct b i hI) sub_pCl_pAll rfl rfl ⟨by decide, rfl⟩ hs1 (q := (RX8, TX8, 13)) rfl mm_422 mm_424 mm_5 mm_52 mm_425 (by decide +kernel) ⟨Nat.le_of_ble_eq_true rfl, Nat.le_of_ble_eq_true rfl⟩ rfl (Nat.le_of_ble_eq_true rfl) dX8_giving_21 (Nat.zero_le _) (Nat.zero_le _) rfl (fun ct22 rrr23 hBr23 hoff24 => ?_)
          obtain ⟨r23, rfl, hr23, rfl⟩ := hBr23
          refine GW.eq (S2 := [.int r23]) rfl rfl rfl ?_
          rcases hr23 with hr23 | hr23
          · skip
            obtain ⟨rfl, h25, h26, h27, h28⟩ := hr23
            have h25 : LIV ct b i = true := h25
            have h26 : 0 ≤ b.toInt ∧ b.toInt ≤ 3 := h26
            have h27 : 0 ≤ i.toInt ∧ i.toInt ≤ 7 := h27
            have h28 : LIN ct b i = true := h28
            refine dv_if_ne (tgt := 30) dX8_giving_24 (by decide) (fun c29 => ?_) (fun c29 => ?_)
            · skip
              refine dv_aload_n dX8_giving_30 rfl 0 rfl ?_
              refine dv_iload_n dX8_giving_31 rfl 1 rfl ?_
              refine dv_iload_n dX8_giving_32 rfl 3 rfl ?_
              refine GW.callV (n := 2) (As := [.int b, .int kn]) (rest := []) (b := 0) (f_fit l g pe ct b kn (by first | omega | decide) (by first | omega | decide) hI) (fun _ h => h) rfl rfl ⟨by decide, rfl⟩ hs1 (q := (RX8, TX8, 13)) rfl mm_426 mm_428 mm_6 mm_52 mm_429 (by decide +kernel) ⟨Nat.le_of_ble_eq_true rfl, Nat.le_of_ble_eq_true rfl⟩ rfl (Nat.le_of_ble_eq_true rfl) dX8_giving_33 (Nat.zero_le _) (Nat.zero_le _) rfl (fun ct30 rrr31 hBr31 hoff32 => ?_)
              obtain ⟨rfl, hI, hcf40, hk33, hk34, hk35, hk36, hk37, hk38, hk39⟩ := hBr31
              have hof : ∀ k, ¬ dIn pM k → ct30 k = ct k := fun k hk => (hcf40 k hk).trans (hof k hk)
              refine GW.eq (S2 := []) rfl rfl rfl ?_
              have hs41 : ct30 0 = .inr (8, [.ref 1, .ref 2, .ref 3, .ref 5, .ref 6, .ref 9, .ref 10, .ref 17, .ref 21, .ref 34, .ref (99 + 3 * dr2), .int pe, .int bk3]) := (hcf40 _ (pM_no (by decide))).trans hs1
              obtain ⟨lk42, fd43, hq44⟩ := hk33
              obtain ⟨fF45, hq46, hf47⟩ := hk34
              obtain ⟨fD48, hq49, hd50⟩ := hk35
              obtain ⟨lnfF45, e1fF45⟩ : ∃ z : Int32, z = lnF ct b.toInt.toNat := ⟨_, rfl⟩
              obtain ⟨lvfF45, e2fF45⟩ : ∃ z : Int32, z = lvF ct b.toInt.toNat := ⟨_, rfl⟩
              rw [← e1fF45, ← e2fF45] at hq44
              obtain ⟨lns52, liv53, lak54, fnd55, h56, h57, h58, h59, hs51⟩ := a8_10 hI
              have hs60 := hq44
              cases (hq44.symm.trans hs51)
              obtain ⟨f62, hp63, hs61⟩ := a8_12 hI
              have hs64 := hq46
              cases (hq46.symm.trans hs61)
              obtain ⟨f66, hs65⟩ := a8_11 hI
              have hs67 := hq49
              cases (hq49.symm.trans hs65)
              refine dv_aload_n dX8_giving_36 rfl 0 rfl ?_
              refine dv_get (ci := 8) (v := .ref 10) (C := RX8) (T := TX8) (N := 13) ⟨by decide, rfl⟩ hs41 rfl inG8 6 (by decide) mm_309 rfl dX8_giving_37 ?_
              refine dv_iload_n dX8_giving_40 rfl 2 rfl ?_
              refine GW.callV (n := 1) (As := [.int i]) (rest := []) (b := 10) (f_least l g pe ct30 i lnfF45 lvfF45 lk42 fd43 fF45 hI hs60 hs64) sub_pM_pAll rfl rfl ⟨by decide, rfl⟩ hs60 (q := (RX6, TX6, 10)) rfl mm_881 mm_882 mm_883 mm_55 mm_884 (by decide +kernel) ⟨Nat.le_of_ble_eq_true rfl, Nat.le_of_ble_eq_true rfl⟩ rfl (Nat.le_of_ble_eq_true rfl) dX8_giving_41 (Nat.zero_le _) (Nat.zero_le _) rfl (fun ct68 rrr69 hBr69 hoff70 => ?_)
              obtain ⟨r69, rfl, hr69, hI, hk71, hk72, hk73⟩ := hBr69
              have hof : ∀ k, ¬ dIn pM k → ct68 k = ct k := fun k hk => (hoff70 k hk).trans (hof k hk)
              refine GW.eq (S2 := [.int r69]) rfl rfl rfl ?_
              have hs74 : ct68 0 = .inr (8, [.ref 1, .ref 2, .ref 3, .ref 5, .ref 6, .ref 9, .ref 10, .ref 17, .ref 21, .ref 34, .ref (99 + 3 * dr2), .int pe, .int bk3]) := (hoff70 _ (pM_no (by decide))).trans hs41
              have hs75 : ct68 11 = .inl (g.2 0, 8, .inl fD48) := hk71.trans hs67
              have h76 := hr69
              have h76 : r69 = (lsS lnfF45 lvfF45 fF45 ((min (i.toInt + 1) lnfF45.toInt).toNat)).2 := h76
              have hlst : r69 = qLst l g pe ct b i kn := by
                unfold qLst
                rw [h76, ← e1fF45, ← e2fF45]
                exact (lsS_c hf47 _ (by omega)).1
              refine dv_istore (lv' := [(4, .int r69), (0, .ref 0), (1, .int b), (2, .int i), (3, .int kn)]) dX8_giving_44 (by decide) rfl ?_
              refine dv_iload dX8_giving_46 0 rfl ?_
              refine dv_iconst (v := (-1)) dX8_giving_48 (by decide) ?_
              refine dv_icmp_ne (tgt := 57) dX8_giving_49 (by decide) (fun c77 => ?_) (fun c77 => ?_)
              · skip
                have c77 : ¬ (r69.toInt = (-1)) := fun q => c77 ((z_eq rfl (by decide : ((-1) : Int32).toInt = (-1))).mpr q)
                refine dv_iload dX8_giving_57 0 rfl ?_
                exact dv_iret dX8_giving_59 rfl (by first | exact Nat.zero_le _ | decide) (by first | exact Nat.zero_le _ | decide) (by subst hK; exact ⟨r69, rfl, (⟨by unfold qGvg gLn; rw [if_pos ⟨by assumption, by omega, by omega⟩]; rw [if_pos (by assumption)]; rw [← hlst]; rw [if_neg (by omega)], trivial⟩), hI, hof⟩)
              · skip
                have c77 : r69.toInt = (-1) := (z_eq rfl (by decide : ((-1) : Int32).toInt = (-1))).mp c77
                refine dv_bipush (v := (-2)) dX8_giving_52 (by decide) ?_
                refine dv_goto (tgt := 59) dX8_giving_54 (by decide) ?_
                have q78 : ((-2) : Int32).toInt = -2 := by decide
                exact dv_iret dX8_giving_59 rfl (by first | exact Nat.zero_le _ | decide) (by first | exact Nat.zero_le _ | decide) (by subst hK; exact ⟨(-2), rfl, (⟨by unfold qGvg gLn; rw [if_pos ⟨by assumption, by omega, by omega⟩]; rw [if_pos (by assumption)]; rw [← hlst]; rw [if_pos (by omega)], trivial⟩), hI, hof⟩)
            · skip
              exact absurd c29 (by decide)
          · skip
            obtain ⟨rfl, h79⟩ := hr23
            have h79 : LIV ct b i = false := h79
            refine dv_if_ne (tgt := 30) dX8_giving_24 (by decide) (fun c80 => ?_) (fun c80 => ?_)
            · skip
              exact absurd c80 (by decide)
            · skip
              refine dv_bipush (v := (-2)) dX8_giving_27 (by decide) ?_
              have q81 : ((-2) : Int32).toInt = -2 := by decide
              exact dv_iret dX8_giving_29 rfl (by first | exact Nat.zero_le _ | decide) (by first | exact Nat.zero_le _ | decide) (by subst hK; exact ⟨(-2), rfl, (⟨by unfold qGvg gLn; rw [if_pos ⟨by assumption, by omega, by omega⟩]; rw [if_neg (by rw [show LIV ct b i = false by assumption]; decide)], trivial⟩), hI, hof⟩)
        · skip
          exact absurd c21 (by decide)
      · skip
        obtain ⟨rfl, h82⟩ := hr17
        have h82 : ¬ (0 ≤ kn.toInt ∧ kn.toInt ≤ 255) := h82
        refine dv_if_ne (tgt := 18) dX8_giving_13 (by decide) (fun c83 => ?_) (fun c83 => ?_)
        · skip
          exact absurd c83 (by decide)
        · skip
          refine dv_iconst (v := (-1)) dX8_giving_16 (by decide) ?_
          have q84 : ((-1) : Int32).toInt = -1 := by decide
          exact dv_iret dX8_giving_17 rfl (by first | exact Nat.zero_le _ | decide) (by first | exact Nat.zero_le _ | decide) (by subst hK; exact ⟨(-1), rfl, (⟨by unfold qGvg gLn; first | rw [if_neg (fun q => by have q1 := q.1; rw [show LIN ct b i = false by assumption] at q1; exact absurd q1 (by decide))] | rw [if_neg (fun q => by have q1 := q.2.1; have q2 := q.2.2; omega)], trivial⟩), hI, hof⟩)
  · skip
    obtain ⟨rfl, h85⟩ := hr8
    have h85 : LIN ct b i = false := h85
    refine dv_if_eq (tgt := 16) dX8_giving_6 (by decide) (fun c86 => ?_) (fun c86 => ?_)
    · skip
      refine dv_iconst (v := (-1)) dX8_giving_16 (by decide) ?_
      have q87 : ((-1) : Int32).toInt = -1 := by decide
      exact dv_iret dX8_giving_17 rfl (by first | exact Nat.zero_le _ | decide) (by first | exact Nat.zero_le _ | decide) (by subst hK; exact ⟨(-1), rfl, (⟨by unfold qGvg gLn; first | rw [if_neg (fun q => by have q1 := q.1; rw [show LIN ct b i = false by assumption] at q1; exact absurd q1 (by decide))] | rw [if_neg (fun q => by have q1 := q.2.1; have q2 := q.2.2; omega)], trivial⟩), hI, hof⟩)
    · skip
      exact absurd c86 (by decide)

set_option maxHeartbeats 4000000 in
set_option maxRecDepth 100000 in
theorem f_tooFew (l : Launch) (g : zG) (pe : Int32) (ct : Nat → va_E) (b : Int32) (kn : Int32) (hI : Inv8 g idn pe ct) : DM l g pAll false yX8_tooFew cX8_tooFew 3 (some .int) ({ frames := 5, cells := 0, slots := 0, locals := 117 }) (fun (ct2 : Nat → va_E) (rr : Option Value) => ∃ (r : Int32), rr = some (.int r) ∧ (((r = qFew l g pe ct b kn) ∧ (True))) ∧ Inv8 g idn pe ct2 ∧ (∀ k, ¬ dIn pM k → ct2 k = ct k)) ct [.ref 0, .int b, .int kn] := by
  refine DM.K (fun K hK => ?_)
  refine GW.met (own := RX8) (loc := [(0, .ref 0), (1, .int b), (2, .int kn)]) (by decide) rfl rfl (Nat.le_of_ble_eq_true rfl) ?_
  have hpe0 := hI.1
  have hof : ∀ k, ¬ dIn pM k → ct k = ct k := fun _ _ => rfl
  have rg_b := z_rng b
  have rg_kn := z_rng kn
  obtain ⟨bk3, dr2, h4, h5, h6, hs1⟩ := a8_0 hI
  have hzb : (bkF ct).toInt = bk3.toInt := by unfold bkF; rw [hs1]; rfl
  have hI0 := hI
  refine dv_aload_n dX8_tooFew_0 rfl 0 rfl ?_
  refine dv_iload_n dX8_tooFew_1 rfl 1 rfl ?_
  refine GW.callV (n := 1) (As := [.int b]) (rest := []) (b := 0) (f_isBook l g pe ct b hI) sub_pCl_pAll rfl rfl ⟨by decide, rfl⟩ hs1 (q := (RX8, TX8, 13)) rfl mm_415 mm_417 mm_4 mm_52 mm_418 (by decide +kernel) ⟨Nat.le_of_ble_eq_true rfl, Nat.le_of_ble_eq_true rfl⟩ rfl (Nat.le_of_ble_eq_true rfl) dX8_tooFew_2 (Nat.zero_le _) (Nat.zero_le _) rfl (fun ct7 rrr8 hBr8 hoff9 => ?_)
  obtain ⟨r8, rfl, hr8, rfl⟩ := hBr8
  refine GW.eq (S2 := [.int r8]) rfl rfl rfl ?_
  rcases hr8 with hr8 | hr8
  · skip
    obtain ⟨rfl, h10, h11, h12⟩ := hr8
    have h10 : 0 ≤ b.toInt := h10
    have h11 : b.toInt < (bkF ct).toInt := h11
    have h12 : b.toInt ≤ 3 := h12
    refine dv_if_eq (tgt := 15) dX8_tooFew_5 (by decide) (fun c13 => ?_) (fun c13 => ?_)
    · skip
      exact absurd c13 (by decide)
    · skip
      refine dv_iload_n dX8_tooFew_8 rfl 2 rfl ?_
      refine GW.callS (n := 1) (As := [.int kn]) (rest := []) (k_X8_areGossips l g pe ct kn hI) (fun _ h => Bool.noConfusion h) rfl rfl mm_419 mm_420 mm_52 mm_421 (by decide +kernel) ⟨Nat.le_of_ble_eq_true rfl, Nat.le_of_ble_eq_true rfl⟩ rfl (Nat.le_of_ble_eq_true rfl) dX8_tooFew_9 (Nat.zero_le _) (Nat.zero_le _) rfl (fun ct14 rrr15 hBr15 hoff16 => ?_)
      obtain ⟨r15, rfl, hr15, rfl⟩ := hBr15
      refine GW.eq (S2 := [.int r15]) rfl rfl rfl ?_
      rcases hr15 with hr15 | hr15
      · skip
        obtain ⟨rfl, h17, h18⟩ := hr15
        have h17 : 0 ≤ kn.toInt := h17
        have h18 : kn.toInt ≤ 255 := h18
        refine dv_if_ne (tgt := 17) dX8_tooFew_12 (by decide) (fun c19 => ?_) (fun c19 => ?_)
        · skip
          refine dv_aload_n dX8_tooFew_17 rfl 0 rfl ?_
          refine dv_iload_n dX8_tooFew_18 rfl 1 rfl ?_
          refine dv_iload_n dX8_tooFew_19 rfl 2 rfl ?_
          refine GW.callV (n := 2) (As := [.int b, .int kn]) (rest := []) (b := 0) (f_fit l g pe ct b kn (by first | omega | decide) (by first | omega | decide) hI) (fun _ h => h) rfl rfl ⟨by decide, rfl⟩ hs1 (q := (RX8, TX8, 13)) rfl mm_426 mm_428 mm_6 mm_52 mm_429 (by decide +kernel) ⟨Nat.le_of_ble_eq_true rfl, Nat.le_of_ble_eq_true rfl⟩ rfl (Nat.le_of_ble_eq_true rfl) dX8_tooFew_20 (Nat.zero_le _) (Nat.zero_le _) rfl (fun ct20 rrr21 hBr21 hoff22 => ?_)
          obtain ⟨rfl, hI, hcf30, hk23, hk24, hk25, hk26, hk27, hk28, hk29⟩ := hBr21
          have hof : ∀ k, ¬ dIn pM k → ct20 k = ct k := fun k hk => (hcf30 k hk).trans (hof k hk)
          refine GW.eq (S2 := []) rfl rfl rfl ?_
          have hs31 : ct20 0 = .inr (8, [.ref 1, .ref 2, .ref 3, .ref 5, .ref 6, .ref 9, .ref 10, .ref 17, .ref 21, .ref 34, .ref (99 + 3 * dr2), .int pe, .int bk3]) := (hcf30 _ (pM_no (by decide))).trans hs1
          obtain ⟨lk32, fd33, hq34⟩ := hk23
          obtain ⟨fF35, hq36, hf37⟩ := hk24
          obtain ⟨fD38, hq39, hd40⟩ := hk25
          obtain ⟨lnfF35, e1fF35⟩ : ∃ z : Int32, z = lnF ct b.toInt.toNat := ⟨_, rfl⟩
          obtain ⟨lvfF35, e2fF35⟩ : ∃ z : Int32, z = lvF ct b.toInt.toNat := ⟨_, rfl⟩
          rw [← e1fF35, ← e2fF35] at hq34
          obtain ⟨lns42, liv43, lak44, fnd45, h46, h47, h48, h49, hs41⟩ := a8_10 hI
          have hs50 := hq34
          cases (hq34.symm.trans hs41)
          obtain ⟨f52, hp53, hs51⟩ := a8_12 hI
          have hs54 := hq36
          cases (hq36.symm.trans hs51)
          obtain ⟨f56, hs55⟩ := a8_11 hI
          have hs57 := hq39
          cases (hq39.symm.trans hs55)
          refine dv_aload_n dX8_tooFew_23 rfl 0 rfl ?_
          refine dv_get (ci := 8) (v := .ref 10) (C := RX8) (T := TX8) (N := 13) ⟨by decide, rfl⟩ hs31 rfl inG8 6 (by decide) mm_309 rfl dX8_tooFew_24 ?_
          refine GW.callV (n := 0) (As := []) (rest := []) (b := 10) (f_weigh l g pe ct20 lnfF35 lvfF35 lk32 fd33 fF35 hI hs50 hs54) sub_pM_pAll rfl rfl ⟨by decide, rfl⟩ hs50 (q := (RX6, TX6, 10)) rfl mm_490 mm_491 mm_492 mm_55 mm_493 (by decide +kernel) ⟨Nat.le_of_ble_eq_true rfl, Nat.le_of_ble_eq_true rfl⟩ rfl (Nat.le_of_ble_eq_true rfl) dX8_tooFew_27 (Nat.zero_le _) (Nat.zero_le _) rfl (fun ct58 rrr59 hBr59 hoff60 => ?_)
          obtain ⟨rfl, hI, hk61, hk62, hk63, hk64, hk65, hk66⟩ := hBr59
          have hof : ∀ k, ¬ dIn pM k → ct58 k = ct k := fun k hk => (hoff60 k hk).trans (hof k hk)
          refine GW.eq (S2 := []) rfl rfl rfl ?_
          have hs67 : ct58 0 = .inr (8, [.ref 1, .ref 2, .ref 3, .ref 5, .ref 6, .ref 9, .ref 10, .ref 17, .ref 21, .ref 34, .ref (99 + 3 * dr2), .int pe, .int bk3]) := (hoff60 _ (pM_no (by decide))).trans hs31
          obtain ⟨lk68, elk68⟩ : ∃ z : Int32, z = (wLak lnfF35 lvfF35 fF35) := ⟨_, rfl⟩
          rw [← elk68] at hk61
          obtain ⟨fM69, hq70, hm71⟩ := hk62
          obtain ⟨lns73, liv74, lak75, fnd76, h77, h78, h79, h80, hs72⟩ := a8_10 hI
          have hs81 := hk61
          cases (hk61.symm.trans hs72)
          obtain ⟨f83, hp84, hs82⟩ := a8_13 hI
          have hs85 := hq70
          cases (hq70.symm.trans hs82)
          have hs86 : ct58 11 = .inl (g.2 0, 8, .inl fD38) := hk63.trans hs57
          have hs87 : ct58 12 = .inl (g.2 0, 8, .inl fF35) := hk64.trans hs54
          refine dv_aload_n dX8_tooFew_30 rfl 0 rfl ?_
          refine dv_get (ci := 8) (v := .ref 10) (C := RX8) (T := TX8) (N := 13) ⟨by decide, rfl⟩ hs67 rfl inG8 6 (by decide) mm_309 rfl dX8_tooFew_31 ?_
          refine dv_get (ci := 6) (v := .int lk68) (C := RX6) (T := TX6) (N := 10) ⟨by decide, rfl⟩ hs81 rfl inG6 2 (by decide) mm_120 rfl dX8_tooFew_34 ?_
          exact dv_iret dX8_tooFew_37 rfl (by first | exact Nat.zero_le _ | decide) (by first | exact Nat.zero_le _ | decide) (by subst hK; exact ⟨lk68, rfl, (⟨by unfold qFew gBk; rw [if_pos ⟨by omega, by omega, by omega, by omega⟩, ← e1fF35, ← e2fF35, elk68]; exact wLak_c hf37, trivial⟩), hI, hof⟩)
        · skip
          exact absurd c19 (by decide)
      · skip
        obtain ⟨rfl, h88⟩ := hr15
        have h88 : ¬ (0 ≤ kn.toInt ∧ kn.toInt ≤ 255) := h88
        refine dv_if_ne (tgt := 17) dX8_tooFew_12 (by decide) (fun c89 => ?_) (fun c89 => ?_)
        · skip
          exact absurd c89 (by decide)
        · skip
          refine dv_iconst (v := (-1)) dX8_tooFew_15 (by decide) ?_
          have q90 : ((-1) : Int32).toInt = -1 := by decide
          exact dv_iret dX8_tooFew_16 rfl (by first | exact Nat.zero_le _ | decide) (by first | exact Nat.zero_le _ | decide) (by subst hK; exact ⟨(-1), rfl, (⟨by unfold qFew gBk; rw [if_neg (fun q => by have q1 := q.1; have q2 := q.2.1; have q3 := q.2.2.1; have q4 := q.2.2.2; omega)], trivial⟩), hI, hof⟩)
  · skip
    obtain ⟨rfl, h91⟩ := hr8
    have h91 : ¬ (0 ≤ b.toInt ∧ b.toInt < (bkF ct).toInt) := h91
    refine dv_if_eq (tgt := 15) dX8_tooFew_5 (by decide) (fun c92 => ?_) (fun c92 => ?_)
    · skip
      refine dv_iconst (v := (-1)) dX8_tooFew_15 (by decide) ?_
      have q93 : ((-1) : Int32).toInt = -1 := by decide
      exact dv_iret dX8_tooFew_16 rfl (by first | exact Nat.zero_le _ | decide) (by first | exact Nat.zero_le _ | decide) (by subst hK; exact ⟨(-1), rfl, (⟨by unfold qFew gBk; rw [if_neg (fun q => by have q1 := q.1; have q2 := q.2.1; have q3 := q.2.2.1; have q4 := q.2.2.2; omega)], trivial⟩), hI, hof⟩)
    · skip
      exact absurd c92 (by decide)

set_option maxHeartbeats 4000000 in
set_option maxRecDepth 100000 in
theorem f_steps (l : Launch) (g : zG) (pe : Int32) (ct : Nat → va_E) (b : Int32) (kn : Int32) (wh : Int32) (hI : Inv8 g idn pe ct) : DM l g pAll false yX8_steps cX8_steps 5 (some .int) ({ frames := 5, cells := 0, slots := 0, locals := 117 }) (fun (ct2 : Nat → va_E) (rr : Option Value) => ∃ (r : Int32), rr = some (.int r) ∧ (((r = qStp l g pe ct b kn wh) ∧ (True))) ∧ Inv8 g idn pe ct2 ∧ (∀ k, ¬ dIn pM k → ct2 k = ct k)) ct [.ref 0, .int b, .int kn, .int wh] := by
  refine DM.K (fun K hK => ?_)
  refine GW.met (own := RX8) (loc := [(0, .ref 0), (1, .int b), (2, .int kn), (3, .int wh)]) (by decide) rfl rfl (Nat.le_of_ble_eq_true rfl) ?_
  have hpe0 := hI.1
  have hof : ∀ k, ¬ dIn pM k → ct k = ct k := fun _ _ => rfl
  have rg_b := z_rng b
  have rg_kn := z_rng kn
  have rg_wh := z_rng wh
  obtain ⟨bk3, dr2, h4, h5, h6, hs1⟩ := a8_0 hI
  have hzb : (bkF ct).toInt = bk3.toInt := by unfold bkF; rw [hs1]; rfl
  have hI0 := hI
  refine dv_aload_n dX8_steps_0 rfl 0 rfl ?_
  refine dv_iload_n dX8_steps_1 rfl 1 rfl ?_
  refine GW.callV (n := 1) (As := [.int b]) (rest := []) (b := 0) (f_isBook l g pe ct b hI) sub_pCl_pAll rfl rfl ⟨by decide, rfl⟩ hs1 (q := (RX8, TX8, 13)) rfl mm_415 mm_417 mm_4 mm_52 mm_418 (by decide +kernel) ⟨Nat.le_of_ble_eq_true rfl, Nat.le_of_ble_eq_true rfl⟩ rfl (Nat.le_of_ble_eq_true rfl) dX8_steps_2 (Nat.zero_le _) (Nat.zero_le _) rfl (fun ct7 rrr8 hBr8 hoff9 => ?_)
  obtain ⟨r8, rfl, hr8, rfl⟩ := hBr8
  refine GW.eq (S2 := [.int r8]) rfl rfl rfl ?_
  rcases hr8 with hr8 | hr8
  · skip
    obtain ⟨rfl, h10, h11, h12⟩ := hr8
    have h10 : 0 ≤ b.toInt := h10
    have h11 : b.toInt < (bkF ct).toInt := h11
    have h12 : b.toInt ≤ 3 := h12
    refine dv_if_eq (tgt := 15) dX8_steps_5 (by decide) (fun c13 => ?_) (fun c13 => ?_)
    · skip
      exact absurd c13 (by decide)
    · skip
      refine dv_iload_n dX8_steps_8 rfl 2 rfl ?_
      refine GW.callS (n := 1) (As := [.int kn]) (rest := []) (k_X8_areGossips l g pe ct kn hI) (fun _ h => Bool.noConfusion h) rfl rfl mm_419 mm_420 mm_52 mm_421 (by decide +kernel) ⟨Nat.le_of_ble_eq_true rfl, Nat.le_of_ble_eq_true rfl⟩ rfl (Nat.le_of_ble_eq_true rfl) dX8_steps_9 (Nat.zero_le _) (Nat.zero_le _) rfl (fun ct14 rrr15 hBr15 hoff16 => ?_)
      obtain ⟨r15, rfl, hr15, rfl⟩ := hBr15
      refine GW.eq (S2 := [.int r15]) rfl rfl rfl ?_
      rcases hr15 with hr15 | hr15
      · skip
        obtain ⟨rfl, h17, h18⟩ := hr15
        have h17 : 0 ≤ kn.toInt := h17
        have h18 : kn.toInt ≤ 255 := h18
        refine dv_if_ne (tgt := 17) dX8_steps_12 (by decide) (fun c19 => ?_) (fun c19 => ?_)
        · skip
          refine dv_iload_n dX8_steps_17 rfl 3 rfl ?_
          refine dv_iconst (v := (-1)) dX8_steps_18 (by decide) ?_
          refine dv_icmp_eq (tgt := 39) dX8_steps_19 (by decide) (fun c20 => ?_) (fun c20 => ?_)
          · skip
            have c20 : wh.toInt = (-1) := (z_eq rfl (by decide : ((-1) : Int32).toInt = (-1))).mp c20
            refine dv_iload_n dX8_steps_39 rfl 3 rfl ?_
            refine dv_iconst (v := 0) dX8_steps_40 (by decide) ?_
            refine dv_bipush (v := 7) dX8_steps_41 (by decide) ?_
            refine GW.callS (n := 3) (As := [.int wh, .int 0, .int 7]) (rest := []) (k_X8_within l g pe ct wh (0 : Int32) (7 : Int32) hI) (fun _ h => Bool.noConfusion h) rfl rfl mm_355 mm_356 mm_52 mm_357 (by decide +kernel) ⟨Nat.le_of_ble_eq_true rfl, Nat.le_of_ble_eq_true rfl⟩ rfl (Nat.le_of_ble_eq_true rfl) dX8_steps_43 (Nat.zero_le _) (Nat.zero_le _) rfl (fun ct21 rrr22 hBr22 hoff23 => ?_)
            obtain ⟨r22, rfl, hr22, rfl⟩ := hBr22
            refine GW.eq (S2 := [.int r22]) rfl rfl rfl ?_
            rcases hr22 with hr22 | hr22
            · skip
              obtain ⟨rfl, h24, h25⟩ := hr22
              have h24 : (0 : Int) ≤ wh.toInt := h24
              have h25 : wh.toInt ≤ (7 : Int) := h25
              exfalso
              omega
            · skip
              obtain ⟨rfl, h26⟩ := hr22
              have h26 : ¬ ((0 : Int) ≤ wh.toInt ∧ wh.toInt ≤ (7 : Int)) := h26
              refine dv_if_eq (tgt := 61) dX8_steps_46 (by decide) (fun c27 => ?_) (fun c27 => ?_)
              · skip
                refine dv_aload_n dX8_steps_61 rfl 0 rfl ?_
                refine dv_iload_n dX8_steps_62 rfl 1 rfl ?_
                refine dv_iload_n dX8_steps_63 rfl 2 rfl ?_
                refine GW.callV (n := 2) (As := [.int b, .int kn]) (rest := []) (b := 0) (f_fit l g pe ct b kn (by first | omega | decide) (by first | omega | decide) hI) (fun _ h => h) rfl rfl ⟨by decide, rfl⟩ hs1 (q := (RX8, TX8, 13)) rfl mm_426 mm_428 mm_6 mm_52 mm_429 (by decide +kernel) ⟨Nat.le_of_ble_eq_true rfl, Nat.le_of_ble_eq_true rfl⟩ rfl (Nat.le_of_ble_eq_true rfl) dX8_steps_64 (Nat.zero_le _) (Nat.zero_le _) rfl (fun ct28 rrr29 hBr29 hoff30 => ?_)
                obtain ⟨rfl, hI, hcf38, hk31, hk32, hk33, hk34, hk35, hk36, hk37⟩ := hBr29
                have hof : ∀ k, ¬ dIn pM k → ct28 k = ct k := fun k hk => (hcf38 k hk).trans (hof k hk)
                refine GW.eq (S2 := []) rfl rfl rfl ?_
                have hs39 : ct28 0 = .inr (8, [.ref 1, .ref 2, .ref 3, .ref 5, .ref 6, .ref 9, .ref 10, .ref 17, .ref 21, .ref 34, .ref (99 + 3 * dr2), .int pe, .int bk3]) := (hcf38 _ (pM_no (by decide))).trans hs1
                obtain ⟨lk40, fd41, hq42⟩ := hk31
                obtain ⟨fF43, hq44, hf45⟩ := hk32
                obtain ⟨fD46, hq47, hd48⟩ := hk33
                obtain ⟨lnfF43, e1fF43⟩ : ∃ z : Int32, z = lnF ct b.toInt.toNat := ⟨_, rfl⟩
                obtain ⟨lvfF43, e2fF43⟩ : ∃ z : Int32, z = lvF ct b.toInt.toNat := ⟨_, rfl⟩
                rw [← e1fF43, ← e2fF43] at hq42
                obtain ⟨lns50, liv51, lak52, fnd53, h54, h55, h56, h57, hs49⟩ := a8_10 hI
                have hs58 := hq42
                cases (hq42.symm.trans hs49)
                obtain ⟨f60, hp61, hs59⟩ := a8_12 hI
                have hs62 := hq44
                cases (hq44.symm.trans hs59)
                obtain ⟨f64, hs63⟩ := a8_11 hI
                have hs65 := hq47
                cases (hq47.symm.trans hs63)
                refine dv_aload_n dX8_steps_67 rfl 0 rfl ?_
                refine dv_get (ci := 8) (v := .ref 10) (C := RX8) (T := TX8) (N := 13) ⟨by decide, rfl⟩ hs39 rfl inG8 6 (by decide) mm_309 rfl dX8_steps_68 ?_
                refine GW.callV (n := 0) (As := []) (rest := []) (b := 10) (f_stepByStep l g pe ct28 lnfF43 lvfF43 lk40 fd41 fF43 hI hs58 hs62) sub_pM_pAll rfl rfl ⟨by decide, rfl⟩ hs58 (q := (RX6, TX6, 10)) rfl mm_513 mm_514 mm_515 mm_55 mm_516 (by decide +kernel) ⟨Nat.le_of_ble_eq_true rfl, Nat.le_of_ble_eq_true rfl⟩ rfl (Nat.le_of_ble_eq_true rfl) dX8_steps_71 (Nat.zero_le _) (Nat.zero_le _) rfl (fun ct66 rrr67 hBr67 hoff68 => ?_)
                obtain ⟨r67, rfl, hr67, hI, hk69, hk70, hk71, hk72, hk73, hk74, hk75⟩ := hBr67
                have hof : ∀ k, ¬ dIn pM k → ct66 k = ct k := fun k hk => (hoff68 k hk).trans (hof k hk)
                refine GW.eq (S2 := [.int r67]) rfl rfl rfl ?_
                have hs76 : ct66 0 = .inr (8, [.ref 1, .ref 2, .ref 3, .ref 5, .ref 6, .ref 9, .ref 10, .ref 17, .ref 21, .ref 34, .ref (99 + 3 * dr2), .int pe, .int bk3]) := (hoff68 _ (pM_no (by decide))).trans hs39
                obtain ⟨fd77, efd77⟩ : ∃ z : Int32, z = (stS lnfF43.toInt.toNat fF43 9).1 := ⟨_, rfl⟩
                rw [← efd77] at hk69
                obtain ⟨fL78, hq79, hs80⟩ := hk70
                obtain ⟨lns82, liv83, lak84, fnd85, h86, h87, h88, h89, hs81⟩ := a8_10 hI
                have hs90 := hk69
                cases (hk69.symm.trans hs81)
                obtain ⟨f92, hs91⟩ := a8_16 hI
                have hs93 := hq79
                cases (hq79.symm.trans hs91)
                have hs94 : ct66 11 = .inl (g.2 0, 8, .inl fD46) := hk71.trans hs65
                have hs95 : ct66 12 = .inl (g.2 0, 8, .inl fF43) := hk72.trans hs62
                have h96 := hr67
                have h96 : r67 = nI (stS lnfF43.toInt.toNat fF43 9).2.2.2 := h96
                obtain ⟨qs1, qs2, qs3, qs4⟩ := stS_c (n := lnfF43.toInt.toNat) (by omega) hf45 9
                have hrd := h96
                have hqs : qSt l g pe ct b kn = stS lnfF43.toInt.toNat (FIT l g pe ct b kn) 9 := by unfold qSt; rw [← e1fF43]
                refine dv_istore (lv' := [(4, .int r67), (0, .ref 0), (1, .int b), (2, .int kn), (3, .int wh)]) dX8_steps_74 (by decide) rfl ?_
                refine dv_iload_n dX8_steps_76 rfl 4 rfl ?_
                refine dv_iconst (v := (-1)) dX8_steps_77 (by decide) ?_
                refine dv_icmp_ne (tgt := 84) dX8_steps_78 (by decide) (fun c97 => ?_) (fun c97 => ?_)
                · skip
                  have c97 : ¬ (wh.toInt = (-1)) := fun q => c97 ((z_eq rfl (by decide : ((-1) : Int32).toInt = (-1))).mpr q)
                  refine dv_iload_n dX8_steps_84 rfl 4 rfl ?_
                  refine dv_bipush (v := 8) dX8_steps_85 (by decide) ?_
                  refine dv_icmp_ne (tgt := 100) dX8_steps_87 (by decide) (fun c98 => ?_) (fun c98 => ?_)
                  · skip
                    have c98 : ¬ (wh.toInt = 8) := fun q => c98 ((z_eq rfl (by decide : (8 : Int32).toInt = 8)).mpr q)
                    refine dv_aload_n dX8_steps_100 rfl 1 rfl ?_
                    refine dv_get (ci := 8) (v := .ref 10) (C := RX8) (T := TX8) (N := 13) ⟨by decide, rfl⟩ hs76 rfl inG8 6 (by decide) mm_309 rfl dX8_steps_101 ?_
                    refine dv_iload_n dX8_steps_104 rfl 4 rfl ?_
                    refine GW.callV (n := 1) (As := [.int wh]) (rest := []) (b := 10) (f_left l g pe ct66 wh lnfF43 lvfF43 lk40 fd77 fL78 hI hs90 hs93) sub_pM_pAll rfl rfl ⟨by decide, rfl⟩ hs90 (q := (RX6, TX6, 10)) rfl mm_521 mm_522 mm_523 mm_55 mm_524 (by decide +kernel) ⟨Nat.le_of_ble_eq_true rfl, Nat.le_of_ble_eq_true rfl⟩ rfl (Nat.le_of_ble_eq_true rfl) dX8_steps_105 (Nat.zero_le _) (Nat.zero_le _) rfl (fun ct99 rrr100 hBr100 hoff101 => ?_)
                    obtain ⟨r100, rfl, hr100, rfl⟩ := hBr100
                    refine GW.eq (S2 := [.int r100]) rfl rfl rfl ?_
                    have h102 := hr100
                    have h102 : r100 = if 0 ≤ wh.toInt ∧ wh.toInt ≤ 7 then fL78 (Int32.toNatClampNeg wh) else 0 := h102
                    exact dv_iret dX8_steps_108 rfl (by first | exact Nat.zero_le _ | decide) (by first | exact Nat.zero_le _ | decide) (by subst hK; exact ⟨r100, rfl, (⟨by first | (exfalso; omega) | skip; unfold qStp; rw [if_neg (fun q => q ⟨by omega, by omega, by omega, by omega⟩)]; rw [if_neg (by omega), if_neg (by omega), if_pos (by assumption), if_pos (by assumption), hqs, ← qs2 _ (by omega), ← hs80 _ (by omega), h102, if_pos ⟨by omega, by omega⟩]; exact congrArg _ (z_cl (by omega)), trivial⟩), hI, hof⟩)
                  · skip
                    have c98 : wh.toInt = 8 := (z_eq rfl (by decide : (8 : Int32).toInt = 8)).mp c98
                    exfalso
                    omega
                · skip
                  have c97 : wh.toInt = (-1) := (z_eq rfl (by decide : ((-1) : Int32).toInt = (-1))).mp c97
                  refine dv_iload dX8_steps_81 0 rfl ?_
                  exact dv_iret dX8_steps_83 rfl (by first | exact Nat.zero_le _ | decide) (by first | exact Nat.zero_le _ | decide) (by subst hK; exact ⟨r67, rfl, (⟨by unfold qStp; rw [if_neg (fun q => q ⟨by omega, by omega, by omega, by omega⟩)]; rw [if_pos (by omega), hqs, ← qs4]; exact hrd, trivial⟩), hI, hof⟩)
              · skip
                exact absurd c27 (by decide)
          · skip
            have c20 : ¬ (wh.toInt = (-1)) := fun q => c20 ((z_eq rfl (by decide : ((-1) : Int32).toInt = (-1))).mpr q)
            refine dv_iload_n dX8_steps_22 rfl 3 rfl ?_
            refine dv_bipush (v := 8) dX8_steps_23 (by decide) ?_
            refine dv_icmp_eq (tgt := 39) dX8_steps_25 (by decide) (fun c103 => ?_) (fun c103 => ?_)
            · skip
              have c103 : wh.toInt = 8 := (z_eq rfl (by decide : (8 : Int32).toInt = 8)).mp c103
              refine dv_iload_n dX8_steps_39 rfl 3 rfl ?_
              refine dv_iconst (v := 0) dX8_steps_40 (by decide) ?_
              refine dv_bipush (v := 7) dX8_steps_41 (by decide) ?_
              refine GW.callS (n := 3) (As := [.int wh, .int 0, .int 7]) (rest := []) (k_X8_within l g pe ct wh (0 : Int32) (7 : Int32) hI) (fun _ h => Bool.noConfusion h) rfl rfl mm_355 mm_356 mm_52 mm_357 (by decide +kernel) ⟨Nat.le_of_ble_eq_true rfl, Nat.le_of_ble_eq_true rfl⟩ rfl (Nat.le_of_ble_eq_true rfl) dX8_steps_43 (Nat.zero_le _) (Nat.zero_le _) rfl (fun ct104 rrr105 hBr105 hoff106 => ?_)
              obtain ⟨r105, rfl, hr105, rfl⟩ := hBr105
              refine GW.eq (S2 := [.int r105]) rfl rfl rfl ?_
              rcases hr105 with hr105 | hr105
              · skip
                obtain ⟨rfl, h107, h108⟩ := hr105
                have h107 : (0 : Int) ≤ wh.toInt := h107
                have h108 : wh.toInt ≤ (7 : Int) := h108
                exfalso
                omega
              · skip
                obtain ⟨rfl, h109⟩ := hr105
                have h109 : ¬ ((0 : Int) ≤ wh.toInt ∧ wh.toInt ≤ (7 : Int)) := h109
                refine dv_if_eq (tgt := 61) dX8_steps_46 (by decide) (fun c110 => ?_) (fun c110 => ?_)
                · skip
                  refine dv_aload_n dX8_steps_61 rfl 0 rfl ?_
                  refine dv_iload_n dX8_steps_62 rfl 1 rfl ?_
                  refine dv_iload_n dX8_steps_63 rfl 2 rfl ?_
                  refine GW.callV (n := 2) (As := [.int b, .int kn]) (rest := []) (b := 0) (f_fit l g pe ct b kn (by first | omega | decide) (by first | omega | decide) hI) (fun _ h => h) rfl rfl ⟨by decide, rfl⟩ hs1 (q := (RX8, TX8, 13)) rfl mm_426 mm_428 mm_6 mm_52 mm_429 (by decide +kernel) ⟨Nat.le_of_ble_eq_true rfl, Nat.le_of_ble_eq_true rfl⟩ rfl (Nat.le_of_ble_eq_true rfl) dX8_steps_64 (Nat.zero_le _) (Nat.zero_le _) rfl (fun ct111 rrr112 hBr112 hoff113 => ?_)
                  obtain ⟨rfl, hI, hcf121, hk114, hk115, hk116, hk117, hk118, hk119, hk120⟩ := hBr112
                  have hof : ∀ k, ¬ dIn pM k → ct111 k = ct k := fun k hk => (hcf121 k hk).trans (hof k hk)
                  refine GW.eq (S2 := []) rfl rfl rfl ?_
                  have hs122 : ct111 0 = .inr (8, [.ref 1, .ref 2, .ref 3, .ref 5, .ref 6, .ref 9, .ref 10, .ref 17, .ref 21, .ref 34, .ref (99 + 3 * dr2), .int pe, .int bk3]) := (hcf121 _ (pM_no (by decide))).trans hs1
                  obtain ⟨lk123, fd124, hq125⟩ := hk114
                  obtain ⟨fF126, hq127, hf128⟩ := hk115
                  obtain ⟨fD129, hq130, hd131⟩ := hk116
                  obtain ⟨lnfF126, e1fF126⟩ : ∃ z : Int32, z = lnF ct b.toInt.toNat := ⟨_, rfl⟩
                  obtain ⟨lvfF126, e2fF126⟩ : ∃ z : Int32, z = lvF ct b.toInt.toNat := ⟨_, rfl⟩
                  rw [← e1fF126, ← e2fF126] at hq125
                  obtain ⟨lns133, liv134, lak135, fnd136, h137, h138, h139, h140, hs132⟩ := a8_10 hI
                  have hs141 := hq125
                  cases (hq125.symm.trans hs132)
                  obtain ⟨f143, hp144, hs142⟩ := a8_12 hI
                  have hs145 := hq127
                  cases (hq127.symm.trans hs142)
                  obtain ⟨f147, hs146⟩ := a8_11 hI
                  have hs148 := hq130
                  cases (hq130.symm.trans hs146)
                  refine dv_aload_n dX8_steps_67 rfl 0 rfl ?_
                  refine dv_get (ci := 8) (v := .ref 10) (C := RX8) (T := TX8) (N := 13) ⟨by decide, rfl⟩ hs122 rfl inG8 6 (by decide) mm_309 rfl dX8_steps_68 ?_
                  refine GW.callV (n := 0) (As := []) (rest := []) (b := 10) (f_stepByStep l g pe ct111 lnfF126 lvfF126 lk123 fd124 fF126 hI hs141 hs145) sub_pM_pAll rfl rfl ⟨by decide, rfl⟩ hs141 (q := (RX6, TX6, 10)) rfl mm_513 mm_514 mm_515 mm_55 mm_516 (by decide +kernel) ⟨Nat.le_of_ble_eq_true rfl, Nat.le_of_ble_eq_true rfl⟩ rfl (Nat.le_of_ble_eq_true rfl) dX8_steps_71 (Nat.zero_le _) (Nat.zero_le _) rfl (fun ct149 rrr150 hBr150 hoff151 => ?_)
                  obtain ⟨r150, rfl, hr150, hI, hk152, hk153, hk154, hk155, hk156, hk157, hk158⟩ := hBr150
                  have hof : ∀ k, ¬ dIn pM k → ct149 k = ct k := fun k hk => (hoff151 k hk).trans (hof k hk)
                  refine GW.eq (S2 := [.int r150]) rfl rfl rfl ?_
                  have hs159 : ct149 0 = .inr (8, [.ref 1, .ref 2, .ref 3, .ref 5, .ref 6, .ref 9, .ref 10, .ref 17, .ref 21, .ref 34, .ref (99 + 3 * dr2), .int pe, .int bk3]) := (hoff151 _ (pM_no (by decide))).trans hs122
                  obtain ⟨fd160, efd160⟩ : ∃ z : Int32, z = (stS lnfF126.toInt.toNat fF126 9).1 := ⟨_, rfl⟩
                  rw [← efd160] at hk152
                  obtain ⟨fL161, hq162, hs163⟩ := hk153
                  obtain ⟨lns165, liv166, lak167, fnd168, h169, h170, h171, h172, hs164⟩ := a8_10 hI
                  have hs173 := hk152
                  cases (hk152.symm.trans hs164)
                  obtain ⟨f175, hs174⟩ := a8_16 hI
                  have hs176 := hq162
                  cases (hq162.symm.trans hs174)
                  have hs177 : ct149 11 = .inl (g.2 0, 8, .inl fD129) := hk154.trans hs148
                  have hs178 : ct149 12 = .inl (g.2 0, 8, .inl fF126) := hk155.trans hs145
                  have h179 := hr150
                  have h179 : r150 = nI (stS lnfF126.toInt.toNat fF126 9).2.2.2 := h179
                  obtain ⟨qs1, qs2, qs3, qs4⟩ := stS_c (n := lnfF126.toInt.toNat) (by omega) hf128 9
                  have hrd := h179
                  have hqs : qSt l g pe ct b kn = stS lnfF126.toInt.toNat (FIT l g pe ct b kn) 9 := by unfold qSt; rw [← e1fF126]
                  refine dv_istore (lv' := [(4, .int r150), (0, .ref 0), (1, .int b), (2, .int kn), (3, .int wh)]) dX8_steps_74 (by decide) rfl ?_
                  refine dv_iload_n dX8_steps_76 rfl 4 rfl ?_
                  refine dv_iconst (v := (-1)) dX8_steps_77 (by decide) ?_
                  refine dv_icmp_ne (tgt := 84) dX8_steps_78 (by decide) (fun c180 => ?_) (fun c180 => ?_)
                  · skip
                    have c180 : ¬ (wh.toInt = (-1)) := fun q => c180 ((z_eq rfl (by decide : ((-1) : Int32).toInt = (-1))).mpr q)
                    refine dv_iload_n dX8_steps_84 rfl 4 rfl ?_
                    refine dv_bipush (v := 8) dX8_steps_85 (by decide) ?_
                    refine dv_icmp_ne (tgt := 100) dX8_steps_87 (by decide) (fun c181 => ?_) (fun c181 => ?_)
                    · skip
                      have c181 : ¬ (wh.toInt = 8) := fun q => c181 ((z_eq rfl (by decide : (8 : Int32).toInt = 8)).mpr q)
                      refine dv_aload_n dX8_steps_100 rfl 1 rfl ?_
                      refine dv_get (ci := 8) (v := .ref 10) (C := RX8) (T := TX8) (N := 13) ⟨by decide, rfl⟩ hs159 rfl inG8 6 (by decide) mm_309 rfl dX8_steps_101 ?_
                      refine dv_iload_n dX8_steps_104 rfl 4 rfl ?_
                      refine GW.callV (n := 1) (As := [.int wh]) (rest := []) (b := 10) (f_left l g pe ct149 wh lnfF126 lvfF126 lk123 fd160 fL161 hI hs173 hs176) sub_pM_pAll rfl rfl ⟨by decide, rfl⟩ hs173 (q := (RX6, TX6, 10)) rfl mm_521 mm_522 mm_523 mm_55 mm_524 (by decide +kernel) ⟨Nat.le_of_ble_eq_true rfl, Nat.le_of_ble_eq_true rfl⟩ rfl (Nat.le_of_ble_eq_true rfl) dX8_steps_105 (Nat.zero_le _) (Nat.zero_le _) rfl (fun ct182 rrr183 hBr183 hoff184 => ?_)
                      obtain ⟨r183, rfl, hr183, rfl⟩ := hBr183
                      refine GW.eq (S2 := [.int r183]) rfl rfl rfl ?_
                      have h185 := hr183
                      have h185 : r183 = if 0 ≤ wh.toInt ∧ wh.toInt ≤ 7 then fL161 (Int32.toNatClampNeg wh) else 0 := h185
                      exact dv_iret dX8_steps_108 rfl (by first | exact Nat.zero_le _ | decide) (by first | exact Nat.zero_le _ | decide) (by subst hK; exact ⟨r183, rfl, (⟨by first | (exfalso; omega) | skip; unfold qStp; rw [if_neg (fun q => q ⟨by omega, by omega, by omega, by omega⟩)]; rw [if_neg (by omega), if_neg (by omega), if_pos (by assumption), if_pos (by assumption), hqs, ← qs2 _ (by omega), ← hs163 _ (by omega), h185, if_pos ⟨by omega, by omega⟩]; exact congrArg _ (z_cl (by omega)), trivial⟩), hI, hof⟩)
                    · skip
                      have c181 : wh.toInt = 8 := (z_eq rfl (by decide : (8 : Int32).toInt = 8)).mp c181
                      refine dv_aload_n dX8_steps_90 rfl 1 rfl ?_
                      refine dv_get (ci := 8) (v := .ref 10) (C := RX8) (T := TX8) (N := 13) ⟨by decide, rfl⟩ hs159 rfl inG8 6 (by decide) mm_309 rfl dX8_steps_91 ?_
                      refine dv_get (ci := 6) (v := .int fd160) (C := RX6) (T := TX6) (N := 10) ⟨by decide, rfl⟩ hs173 rfl inG6 3 (by decide) mm_122 rfl dX8_steps_94 ?_
                      refine dv_goto (tgt := 108) dX8_steps_97 (by decide) ?_
                      exact dv_iret dX8_steps_108 rfl (by first | exact Nat.zero_le _ | decide) (by first | exact Nat.zero_le _ | decide) (by subst hK; exact ⟨fd160, rfl, (⟨by unfold qStp; rw [if_neg (fun q => q ⟨by omega, by omega, by omega, by omega⟩)]; rw [if_neg (by omega), if_pos (by omega), hqs, ← qs1]; exact efd160, trivial⟩), hI, hof⟩)
                  · skip
                    have c180 : wh.toInt = (-1) := (z_eq rfl (by decide : ((-1) : Int32).toInt = (-1))).mp c180
                    exfalso
                    omega
                · skip
                  exact absurd c110 (by decide)
            · skip
              have c103 : ¬ (wh.toInt = 8) := fun q => c103 ((z_eq rfl (by decide : (8 : Int32).toInt = 8)).mpr q)
              refine dv_aload_n dX8_steps_28 rfl 0 rfl ?_
              refine dv_iload_n dX8_steps_29 rfl 1 rfl ?_
              refine dv_iload_n dX8_steps_30 rfl 3 rfl ?_
              refine GW.callV (n := 2) (As := [.int b, .int wh]) (rest := []) (b := 0) (f_isLine l g pe ct b wh hI) sub_pCl_pAll rfl rfl ⟨by decide, rfl⟩ hs1 (q := (RX8, TX8, 13)) rfl mm_411 mm_413 mm_3 mm_52 mm_414 (by decide +kernel) ⟨Nat.le_of_ble_eq_true rfl, Nat.le_of_ble_eq_true rfl⟩ rfl (Nat.le_of_ble_eq_true rfl) dX8_steps_31 (Nat.zero_le _) (Nat.zero_le _) rfl (fun ct186 rrr187 hBr187 hoff188 => ?_)
              obtain ⟨r187, rfl, hr187, rfl⟩ := hBr187
              refine GW.eq (S2 := [.int r187]) rfl rfl rfl ?_
              rcases hr187 with hr187 | hr187
              · skip
                obtain ⟨rfl, h189, h190, h191, h192, h193⟩ := hr187
                have h189 : LIN ct b wh = true := h189
                have h190 : 0 ≤ b.toInt ∧ b.toInt ≤ 3 := h190
                have h191 : 0 ≤ wh.toInt ∧ wh.toInt ≤ 7 := h191
                have h192 : b.toInt < (bkF ct).toInt := h192
                have h193 : wh.toInt < (lnF ct b.toInt.toNat).toInt := h193
                refine dv_if_ne (tgt := 39) dX8_steps_34 (by decide) (fun c194 => ?_) (fun c194 => ?_)
                · skip
                  refine dv_iload_n dX8_steps_39 rfl 3 rfl ?_
                  refine dv_iconst (v := 0) dX8_steps_40 (by decide) ?_
                  refine dv_bipush (v := 7) dX8_steps_41 (by decide) ?_
                  refine GW.callS (n := 3) (As := [.int wh, .int 0, .int 7]) (rest := []) (k_X8_within l g pe ct wh (0 : Int32) (7 : Int32) hI) (fun _ h => Bool.noConfusion h) rfl rfl mm_355 mm_356 mm_52 mm_357 (by decide +kernel) ⟨Nat.le_of_ble_eq_true rfl, Nat.le_of_ble_eq_true rfl⟩ rfl (Nat.le_of_ble_eq_true rfl) dX8_steps_43 (Nat.zero_le _) (Nat.zero_le _) rfl (fun ct195 rrr196 hBr196 hoff197 => ?_)
                  obtain ⟨r196, rfl, hr196, rfl⟩ := hBr196
                  refine GW.eq (S2 := [.int r196]) rfl rfl rfl ?_
                  rcases hr196 with hr196 | hr196
                  · skip
                    obtain ⟨rfl, h198, h199⟩ := hr196
                    have h198 : (0 : Int) ≤ wh.toInt := h198
                    have h199 : wh.toInt ≤ (7 : Int) := h199
                    refine dv_if_eq (tgt := 61) dX8_steps_46 (by decide) (fun c200 => ?_) (fun c200 => ?_)
                    · skip
                      exact absurd c200 (by decide)
                    · skip
                      refine dv_aload_n dX8_steps_49 rfl 0 rfl ?_
                      refine dv_iload_n dX8_steps_50 rfl 1 rfl ?_
                      refine dv_iload_n dX8_steps_51 rfl 3 rfl ?_
                      refine GW.callV (n := 2) (As := [.int b, .int wh]) (rest := []) (b := 0) (f_isLive l g pe ct b wh hI) sub_pCl_pAll rfl rfl ⟨by decide, rfl⟩ hs1 (q := (RX8, TX8, 13)) rfl mm_422 mm_424 mm_5 mm_52 mm_425 (by decide +kernel) ⟨Nat.le_of_ble_eq_true rfl, Nat.le_of_ble_eq_true rfl⟩ rfl (Nat.le_of_ble_eq_true rfl) dX8_steps_52 (Nat.zero_le _) (Nat.zero_le _) rfl (fun ct201 rrr202 hBr202 hoff203 => ?_)
                      obtain ⟨r202, rfl, hr202, rfl⟩ := hBr202
                      refine GW.eq (S2 := [.int r202]) rfl rfl rfl ?_
                      rcases hr202 with hr202 | hr202
                      · skip
                        obtain ⟨rfl, h204, h205, h206, h207⟩ := hr202
                        have h204 : LIV ct b wh = true := h204
                        have h205 : 0 ≤ b.toInt ∧ b.toInt ≤ 3 := h205
                        have h206 : 0 ≤ wh.toInt ∧ wh.toInt ≤ 7 := h206
                        have h207 : LIN ct b wh = true := h207
                        refine dv_if_ne (tgt := 61) dX8_steps_55 (by decide) (fun c208 => ?_) (fun c208 => ?_)
                        · skip
                          refine dv_aload_n dX8_steps_61 rfl 0 rfl ?_
                          refine dv_iload_n dX8_steps_62 rfl 1 rfl ?_
                          refine dv_iload_n dX8_steps_63 rfl 2 rfl ?_
                          refine GW.callV (n := 2) (As := [.int b, .int kn]) (rest := []) (b := 0) (f_fit l g pe ct b kn (by first | omega | decide) (by first | omega | decide) hI) (fun _ h => h) rfl rfl ⟨by decide, rfl⟩ hs1 (q := (RX8, TX8, 13)) rfl mm_426 mm_428 mm_6 mm_52 mm_429 (by decide +kernel) ⟨Nat.le_of_ble_eq_true rfl, Nat.le_of_ble_eq_true rfl⟩ rfl (Nat.le_of_ble_eq_true rfl) dX8_steps_64 (Nat.zero_le _) (Nat.zero_le _) rfl (fun ct209 rrr210 hBr210 hoff211 => ?_)
                          obtain ⟨rfl, hI, hcf219, hk212, hk213, hk214, hk215, hk216, hk217, hk218⟩ := hBr210
                          have hof : ∀ k, ¬ dIn pM k → ct209 k = ct k := fun k hk => (hcf219 k hk).trans (hof k hk)
                          refine GW.eq (S2 := []) rfl rfl rfl ?_
                          have hs220 : ct209 0 = .inr (8, [.ref 1, .ref 2, .ref 3, .ref 5, .ref 6, .ref 9, .ref 10, .ref 17, .ref 21, .ref 34, .ref (99 + 3 * dr2), .int pe, .int bk3]) := (hcf219 _ (pM_no (by decide))).trans hs1
                          obtain ⟨lk221, fd222, hq223⟩ := hk212
                          obtain ⟨fF224, hq225, hf226⟩ := hk213
                          obtain ⟨fD227, hq228, hd229⟩ := hk214
                          obtain ⟨lnfF224, e1fF224⟩ : ∃ z : Int32, z = lnF ct b.toInt.toNat := ⟨_, rfl⟩
                          obtain ⟨lvfF224, e2fF224⟩ : ∃ z : Int32, z = lvF ct b.toInt.toNat := ⟨_, rfl⟩
                          rw [← e1fF224, ← e2fF224] at hq223
                          obtain ⟨lns231, liv232, lak233, fnd234, h235, h236, h237, h238, hs230⟩ := a8_10 hI
                          have hs239 := hq223
                          cases (hq223.symm.trans hs230)
                          obtain ⟨f241, hp242, hs240⟩ := a8_12 hI
                          have hs243 := hq225
                          cases (hq225.symm.trans hs240)
                          obtain ⟨f245, hs244⟩ := a8_11 hI
                          have hs246 := hq228
                          cases (hq228.symm.trans hs244)
                          refine dv_aload_n dX8_steps_67 rfl 0 rfl ?_
                          refine dv_get (ci := 8) (v := .ref 10) (C := RX8) (T := TX8) (N := 13) ⟨by decide, rfl⟩ hs220 rfl inG8 6 (by decide) mm_309 rfl dX8_steps_68 ?_
                          refine GW.callV (n := 0) (As := []) (rest := []) (b := 10) (f_stepByStep l g pe ct209 lnfF224 lvfF224 lk221 fd222 fF224 hI hs239 hs243) sub_pM_pAll rfl rfl ⟨by decide, rfl⟩ hs239 (q := (RX6, TX6, 10)) rfl mm_513 mm_514 mm_515 mm_55 mm_516 (by decide +kernel) ⟨Nat.le_of_ble_eq_true rfl, Nat.le_of_ble_eq_true rfl⟩ rfl (Nat.le_of_ble_eq_true rfl) dX8_steps_71 (Nat.zero_le _) (Nat.zero_le _) rfl (fun ct247 rrr248 hBr248 hoff249 => ?_)
                          obtain ⟨r248, rfl, hr248, hI, hk250, hk251, hk252, hk253, hk254, hk255, hk256⟩ := hBr248
                          have hof : ∀ k, ¬ dIn pM k → ct247 k = ct k := fun k hk => (hoff249 k hk).trans (hof k hk)
                          refine GW.eq (S2 := [.int r248]) rfl rfl rfl ?_
                          have hs257 : ct247 0 = .inr (8, [.ref 1, .ref 2, .ref 3, .ref 5, .ref 6, .ref 9, .ref 10, .ref 17, .ref 21, .ref 34, .ref (99 + 3 * dr2), .int pe, .int bk3]) := (hoff249 _ (pM_no (by decide))).trans hs220
                          obtain ⟨fd258, efd258⟩ : ∃ z : Int32, z = (stS lnfF224.toInt.toNat fF224 9).1 := ⟨_, rfl⟩
                          rw [← efd258] at hk250
                          obtain ⟨fL259, hq260, hs261⟩ := hk251
                          obtain ⟨lns263, liv264, lak265, fnd266, h267, h268, h269, h270, hs262⟩ := a8_10 hI
                          have hs271 := hk250
                          cases (hk250.symm.trans hs262)
                          obtain ⟨f273, hs272⟩ := a8_16 hI
                          have hs274 := hq260
                          cases (hq260.symm.trans hs272)
                          have hs275 : ct247 11 = .inl (g.2 0, 8, .inl fD227) := hk252.trans hs246
                          have hs276 : ct247 12 = .inl (g.2 0, 8, .inl fF224) := hk253.trans hs243
                          have h277 := hr248
                          have h277 : r248 = nI (stS lnfF224.toInt.toNat fF224 9).2.2.2 := h277
                          obtain ⟨qs1, qs2, qs3, qs4⟩ := stS_c (n := lnfF224.toInt.toNat) (by omega) hf226 9
                          have hrd := h277
                          have hqs : qSt l g pe ct b kn = stS lnfF224.toInt.toNat (FIT l g pe ct b kn) 9 := by unfold qSt; rw [← e1fF224]
                          refine dv_istore (lv' := [(4, .int r248), (0, .ref 0), (1, .int b), (2, .int kn), (3, .int wh)]) dX8_steps_74 (by decide) rfl ?_
                          refine dv_iload_n dX8_steps_76 rfl 4 rfl ?_
                          refine dv_iconst (v := (-1)) dX8_steps_77 (by decide) ?_
                          refine dv_icmp_ne (tgt := 84) dX8_steps_78 (by decide) (fun c278 => ?_) (fun c278 => ?_)
                          · skip
                            have c278 : ¬ (wh.toInt = (-1)) := fun q => c278 ((z_eq rfl (by decide : ((-1) : Int32).toInt = (-1))).mpr q)
                            refine dv_iload_n dX8_steps_84 rfl 4 rfl ?_
                            refine dv_bipush (v := 8) dX8_steps_85 (by decide) ?_
                            refine dv_icmp_ne (tgt := 100) dX8_steps_87 (by decide) (fun c279 => ?_) (fun c279 => ?_)
                            · skip
                              have c279 : ¬ (wh.toInt = 8) := fun q => c279 ((z_eq rfl (by decide : (8 : Int32).toInt = 8)).mpr q)
                              refine dv_aload_n dX8_steps_100 rfl 1 rfl ?_
                              refine dv_get (ci := 8) (v := .ref 10) (C := RX8) (T := TX8) (N := 13) ⟨by decide, rfl⟩ hs257 rfl inG8 6 (by decide) mm_309 rfl dX8_steps_101 ?_
                              refine dv_iload_n dX8_steps_104 rfl 4 rfl ?_
                              refine GW.callV (n := 1) (As := [.int wh]) (rest := []) (b := 10) (f_left l g pe ct247 wh lnfF224 lvfF224 lk221 fd258 fL259 hI hs271 hs274) sub_pM_pAll rfl rfl ⟨by decide, rfl⟩ hs271 (q := (RX6, TX6, 10)) rfl mm_521 mm_522 mm_523 mm_55 mm_524 (by decide +kernel) ⟨Nat.le_of_ble_eq_true rfl, Nat.le_of_ble_eq_true rfl⟩ rfl (Nat.le_of_ble_eq_true rfl) dX8_steps_105 (Nat.zero_le _) (Nat.zero_le _) rfl (fun ct280 rrr281 hBr281 hoff282 => ?_)
                              obtain ⟨r281, rfl, hr281, rfl⟩ := hBr281
                              refine GW.eq (S2 := [.int r281]) rfl rfl rfl ?_
                              have h283 := hr281
                              have h283 : r281 = if 0 ≤ wh.toInt ∧ wh.toInt ≤ 7 then fL259 (Int32.toNatClampNeg wh) else 0 := h283
                              exact dv_iret dX8_steps_108 rfl (by first | exact Nat.zero_le _ | decide) (by first | exact Nat.zero_le _ | decide) (by subst hK; exact ⟨r281, rfl, (⟨by first | (exfalso; omega) | skip; unfold qStp; rw [if_neg (fun q => q ⟨by omega, by omega, by omega, by omega⟩)]; rw [if_neg (by omega), if_neg (by omega), if_pos (by assumption), if_pos (by assumption), hqs, ← qs2 _ (by omega), ← hs261 _ (by omega), h283, if_pos ⟨by omega, by omega⟩]; exact congrArg _ (z_cl (by omega)), trivial⟩), hI, hof⟩)
                            · skip
                              have c279 : wh.toInt = 8 := (z_eq rfl (by decide : (8 : Int32).toInt = 8)).mp c279
                              exfalso
                              omega
                          · skip
                            have c278 : wh.toInt = (-1) := (z_eq rfl (by decide : ((-1) : Int32).toInt = (-1))).mp c278
                            exfalso
                            omega
                        · skip
                          exact absurd c208 (by decide)
                      · skip
                        obtain ⟨rfl, h284⟩ := hr202
                        have h284 : LIV ct b wh = false := h284
                        refine dv_if_ne (tgt := 61) dX8_steps_55 (by decide) (fun c285 => ?_) (fun c285 => ?_)
                        · skip
                          exact absurd c285 (by decide)
                        · skip
                          refine dv_bipush (v := (-2)) dX8_steps_58 (by decide) ?_
                          have q286 : ((-2) : Int32).toInt = -2 := by decide
                          exact dv_iret dX8_steps_60 rfl (by first | exact Nat.zero_le _ | decide) (by first | exact Nat.zero_le _ | decide) (by subst hK; exact ⟨(-2), rfl, (⟨by unfold qStp; rw [if_neg (fun q => q ⟨by omega, by omega, by omega, by omega⟩)]; rw [if_neg (by omega), if_neg (by omega), if_pos (by assumption), if_neg (by rw [show LIV ct b wh = false by assumption]; decide)], trivial⟩), hI, hof⟩)
                  · skip
                    obtain ⟨rfl, h287⟩ := hr196
                    have h287 : ¬ ((0 : Int) ≤ wh.toInt ∧ wh.toInt ≤ (7 : Int)) := h287
                    exfalso
                    omega
                · skip
                  exact absurd c194 (by decide)
              · skip
                obtain ⟨rfl, h288⟩ := hr187
                have h288 : LIN ct b wh = false := h288
                refine dv_if_ne (tgt := 39) dX8_steps_34 (by decide) (fun c289 => ?_) (fun c289 => ?_)
                · skip
                  exact absurd c289 (by decide)
                · skip
                  refine dv_iconst (v := (-1)) dX8_steps_37 (by decide) ?_
                  have q290 : ((-1) : Int32).toInt = -1 := by decide
                  exact dv_iret dX8_steps_38 rfl (by first | exact Nat.zero_le _ | decide) (by first | exact Nat.zero_le _ | decide) (by subst hK; exact ⟨(-1), rfl, (⟨by unfold qStp; first | rw [if_pos (fun q => by have q1 := q.1; have q2 := q.2.1; have q3 := q.2.2.1; have q4 := q.2.2.2; omega)] | (rw [if_neg (fun q => q ⟨by omega, by omega, by omega, by omega⟩)]; rw [if_neg (by omega), if_neg (by omega), if_neg (by rw [show LIN ct b wh = false by assumption]; decide)]), trivial⟩), hI, hof⟩)
        · skip
          exact absurd c19 (by decide)
      · skip
        obtain ⟨rfl, h291⟩ := hr15
        have h291 : ¬ (0 ≤ kn.toInt ∧ kn.toInt ≤ 255) := h291
        refine dv_if_ne (tgt := 17) dX8_steps_12 (by decide) (fun c292 => ?_) (fun c292 => ?_)
        · skip
          exact absurd c292 (by decide)
        · skip
          refine dv_iconst (v := (-1)) dX8_steps_15 (by decide) ?_
          have q293 : ((-1) : Int32).toInt = -1 := by decide
          exact dv_iret dX8_steps_16 rfl (by first | exact Nat.zero_le _ | decide) (by first | exact Nat.zero_le _ | decide) (by subst hK; exact ⟨(-1), rfl, (⟨by unfold qStp; first | rw [if_pos (fun q => by have q1 := q.1; have q2 := q.2.1; have q3 := q.2.2.1; have q4 := q.2.2.2; omega)] | (rw [if_neg (fun q => q ⟨by omega, by omega, by omega, by omega⟩)]; rw [if_neg (by omega), if_neg (by omega), if_neg (by rw [show LIN ct b wh = false by assumption]; decide)]), trivial⟩), hI, hof⟩)
  · skip
    obtain ⟨rfl, h294⟩ := hr8
    have h294 : ¬ (0 ≤ b.toInt ∧ b.toInt < (bkF ct).toInt) := h294
    refine dv_if_eq (tgt := 15) dX8_steps_5 (by decide) (fun c295 => ?_) (fun c295 => ?_)
    · skip
      refine dv_iconst (v := (-1)) dX8_steps_15 (by decide) ?_
      have q296 : ((-1) : Int32).toInt = -1 := by decide
      exact dv_iret dX8_steps_16 rfl (by first | exact Nat.zero_le _ | decide) (by first | exact Nat.zero_le _ | decide) (by subst hK; exact ⟨(-1), rfl, (⟨by unfold qStp; first | rw [if_pos (fun q => by have q1 := q.1; have q2 := q.2.1; have q3 := q.2.2.1; have q4 := q.2.2.2; omega)] | (rw [if_neg (fun q => q ⟨by omega, by omega, by omega, by omega⟩)]; rw [if_neg (by omega), if_neg (by omega), if_neg (by rw [show LIN ct b wh = false by assumption]; decide)]), trivial⟩), hI, hof⟩)
    · skip
      exact absurd c295 (by decide)
