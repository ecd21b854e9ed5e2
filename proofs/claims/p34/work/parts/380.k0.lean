set_option maxHeartbeats 4000000 in
set_option maxRecDepth 100000 in
theorem k_X0_forget (l : Launch) (g : zG) (pe : Int32) (ct : Nat → va_E) (hI : Inv8 g idn pe ct) : DM l g pQ false yX0_forget cX0_forget 1 none ({ frames := 0, cells := 0, slots := 0, locals := 0 }) (fun (ct2 : Nat → va_E) (rr : Option Value) => rr = none ∧ Inv8 g idn pe ct2) ct [.ref 17] := by
  refine DM.K (fun K hK => ?_)
  refine GW.met (own := RX0) (loc := [(0, .ref 17)]) (by decide) rfl rfl (Nat.le_of_ble_eq_true rfl) ?_
  have hpe0 := hI.1
  refine dv_aload_n dX0_forget_0 rfl 0 rfl ?_
  refine dv_dup dX0_forget_1 rfl ?_
  obtain ⟨spc2, tim3, h4, h5, hs1⟩ := a8_17 hI
  refine dv_get (ci := 0) (v := .int tim3) (C := RX0) (T := TX0) (N := 5) ⟨by decide, rfl⟩ hs1 rfl inG0 4 (by decide) mm_164 rfl dX0_forget_2 ?_
  refine dv_iconst (v := 1) dX0_forget_5 (by decide) ?_
  refine dv_iadd dX0_forget_6 ?_
  refine dv_topi (fun x6 ex6 => ?_)
  refine dv_put (ci := 0) (v := .int x6) (ty := .int) (C := RX0) (T := TX0) (N := 5) ⟨by decide, rfl⟩ hs1 rfl inG0 tyX0 tyX0_ok nmX0 4 (by decide) mm_164 rfl (by decide +kernel) (fun _ => rfl) (fun _ => rfl) (Nat.le_of_ble_eq_true rfl) dX0_forget_7 (en := .inr (0, [.ref 18, .int spc2, .ref 19, .ref 20, .int x6])) rfl (fun ct7 ec8 => ?_)
  have hI : Inv8 g idn pe ct7 := by rw [ec8]; exact up8 hI (i8_17 ⟨(spc2 : Int32), (x6 : Int32), (by first | omega | decide), (by first | omega | decide), rfl⟩)
  have hs9 : ct7 17 = .inr (0, [.ref 18, .int spc2, .ref 19, .ref 20, .int x6]) := by rw [ec8]; exact va_up_self _ _ _
  exact dv_vret dX0_forget_10 rfl (by first | exact Nat.zero_le _ | decide) (by first | exact Nat.zero_le _ | decide) (by subst hK; exact ⟨rfl, hI⟩)

set_option maxHeartbeats 4000000 in
set_option maxRecDepth 100000 in
theorem k_X8_upper (l : Launch) (g : zG) (pe : Int32) (ct : Nat → va_E) (c0 : Int32) (nd : Int32) (up : Int32) (hI : Inv8 g idn pe ct) : DM l g pCl false yX8_upper cX8_upper 4 (some .boolean) ({ frames := 3, cells := 0, slots := 0, locals := 70 }) (fun (ct2 : Nat → va_E) (rr : Option Value) => ∃ (r : Int32), rr = some (.int r) ∧ ((r = 1 ∧ (0 ≤ c0.toInt ∧ c0.toInt ≤ 3) ∧ (0 ≤ nd.toInt ∧ nd.toInt ≤ 31) ∧ (up.toInt = -1 ∨ (16 ≤ up.toInt ∧ up.toInt ≤ 31 ∧ nd.toInt < up.toInt))) ∨ (r = 0 ∧ (¬ ((0 ≤ c0.toInt ∧ c0.toInt ≤ 3) ∧ (0 ≤ nd.toInt ∧ nd.toInt ≤ 31) ∧ (up.toInt = -1 ∨ (16 ≤ up.toInt ∧ up.toInt ≤ 31 ∧ nd.toInt < up.toInt)))))) ∧ Inv8 g idn pe ct2) ct [.ref 0, .int c0, .int nd, .int up] := by
  refine DM.K (fun K hK => ?_)
  refine GW.met (own := RX8) (loc := [(0, .ref 0), (1, .int c0), (2, .int nd), (3, .int up)]) (by decide) rfl rfl (Nat.le_of_ble_eq_true rfl) ?_
  have hpe0 := hI.1
  have rg_c0 := z_rng c0
  have rg_nd := z_rng nd
  have rg_up := z_rng up
  refine dv_iload_n dX8_upper_0 rfl 1 rfl ?_
  refine GW.callS (n := 1) (As := [.int c0]) (rest := []) (k_X8_isColumn l g pe ct c0 hI) (fun _ h => Bool.noConfusion h) rfl rfl mm_547 mm_401 mm_52 mm_402 (by decide +kernel) ⟨Nat.le_of_ble_eq_true rfl, Nat.le_of_ble_eq_true rfl⟩ rfl (Nat.le_of_ble_eq_true rfl) dX8_upper_1 (Nat.zero_le _) (Nat.zero_le _) rfl (fun ct1 rrr2 hBr2 hoff3 => ?_)
  obtain ⟨r2, rfl, hr2, rfl⟩ := hBr2
  refine GW.eq (S2 := [.int r2]) rfl rfl rfl ?_
  rcases hr2 with hr2 | hr2
  · skip
    obtain ⟨rfl, h4, h5⟩ := hr2
    have h4 : 0 ≤ c0.toInt := h4
    have h5 : c0.toInt ≤ 3 := h5
    refine dv_if_eq (tgt := 17) dX8_upper_4 (by decide) (fun c6 => ?_) (fun c6 => ?_)
    · skip
      exact absurd c6 (by decide)
    · skip
      refine dv_iload_n dX8_upper_7 rfl 2 rfl ?_
      refine dv_iconst (v := 0) dX8_upper_8 (by decide) ?_
      refine dv_bipush (v := 31) dX8_upper_9 (by decide) ?_
      refine GW.callS (n := 3) (As := [.int nd, .int 0, .int 31]) (rest := []) (k_X8_within l g pe ct nd (0 : Int32) (31 : Int32) hI) (fun _ h => Bool.noConfusion h) rfl rfl mm_355 mm_356 mm_52 mm_357 (by decide +kernel) ⟨Nat.le_of_ble_eq_true rfl, Nat.le_of_ble_eq_true rfl⟩ rfl (Nat.le_of_ble_eq_true rfl) dX8_upper_11 (Nat.zero_le _) (Nat.zero_le _) rfl (fun ct7 rrr8 hBr8 hoff9 => ?_)
      obtain ⟨r8, rfl, hr8, rfl⟩ := hBr8
      refine GW.eq (S2 := [.int r8]) rfl rfl rfl ?_
      rcases hr8 with hr8 | hr8
      · skip
        obtain ⟨rfl, h10, h11⟩ := hr8
        have h10 : (0 : Int) ≤ nd.toInt := h10
        have h11 : nd.toInt ≤ (31 : Int) := h11
        refine dv_if_ne (tgt := 19) dX8_upper_14 (by decide) (fun c12 => ?_) (fun c12 => ?_)
        · skip
          refine dv_iload_n dX8_upper_19 rfl 3 rfl ?_
          refine dv_iconst (v := (-1)) dX8_upper_20 (by decide) ?_
          refine dv_icmp_eq (tgt := 42) dX8_upper_21 (by decide) (fun c13 => ?_) (fun c13 => ?_)
          · skip
            have c13 : up.toInt = (-1) := (z_eq rfl (by decide : ((-1) : Int32).toInt = (-1))).mp c13
            refine dv_aload_n dX8_upper_42 rfl 0 rfl ?_
            obtain ⟨bk16, dr15, h17, h18, h19, hs14⟩ := a8_0 hI
            refine dv_get (ci := 8) (v := .ref 1) (C := RX8) (T := TX8) (N := 13) ⟨by decide, rfl⟩ hs14 rfl inG8 0 (by decide) mm_303 rfl dX8_upper_43 ?_
            refine dv_iload_n dX8_upper_46 rfl 1 rfl ?_
            have hs20 := a8_1 hI
            refine dv_aldq 4 ⟨by decide, rfl⟩ hs20 rfl (z_in rfl (by omega) (by omega)) dX8_upper_47 (r := (0 + 35 + 5 * c0.toInt.toNat)) (zF1_r (x := c0) (by omega) (by omega)) ?_
            refine dv_iload_n dX8_upper_48 rfl 2 rfl ?_
            refine dv_iload_n dX8_upper_49 rfl 3 rfl ?_
            obtain ⟨we23, se24, h25, h26, hs22⟩ := a8_35 (kc := (0 + 35 + 5 * c0.toInt.toNat)) (by omega) hI
            refine GW.callV (n := 2) (As := [.int nd, .int up]) (rest := []) (b := (0 + 35 + 5 * c0.toInt.toNat)) (k_X3_hang l g pe ct (0 + 35 + 5 * c0.toInt.toNat) nd up (by omega) hI) sub_pK_pCl rfl rfl ⟨by omega, pK_of (by omega)⟩ hs22 (q := (RX3, TX3, 6)) rfl mm_548 mm_549 mm_550 mm_59 mm_551 (by decide +kernel) ⟨Nat.le_of_ble_eq_true rfl, Nat.le_of_ble_eq_true rfl⟩ rfl (Nat.le_of_ble_eq_true rfl) dX8_upper_50 (Nat.zero_le _) (Nat.zero_le _) rfl (fun ct21 rrr27 hBr27 hoff28 => ?_)
            obtain ⟨rfl, hI⟩ := hBr27
            refine GW.eq (S2 := []) rfl rfl rfl ?_
            have hs29 : ct21 0 = .inr (8, [.ref 1, .ref 2, .ref 3, .ref 5, .ref 6, .ref 9, .ref 10, .ref 17, .ref 21, .ref 34, .ref (99 + 3 * dr15), .int pe, .int bk16]) := (hoff28 _ (pK_no (by decide))).trans hs14
            have hs30 : ct21 1 = .inl (g.2 4, 4, .inr (.inr (.inr (.inr (zF1 idn 0))))) := (hoff28 _ (pK_no (by decide))).trans hs20
            refine dv_aload_n dX8_upper_53 rfl 0 rfl ?_
            refine dv_get (ci := 8) (v := .ref 17) (C := RX8) (T := TX8) (N := 13) ⟨by decide, rfl⟩ hs29 rfl inG8 7 (by decide) mm_310 rfl dX8_upper_54 ?_
            obtain ⟨spc33, tim34, h35, h36, hs32⟩ := a8_17 hI
            refine GW.callV (n := 0) (As := []) (rest := []) (b := 17) (k_X0_forget l g pe ct21  hI) sub_pQ_pCl rfl rfl ⟨by decide, rfl⟩ hs32 (q := (RX0, TX0, 5)) rfl mm_556 mm_557 mm_558 mm_56 mm_559 (by decide +kernel) ⟨Nat.le_of_ble_eq_true rfl, Nat.le_of_ble_eq_true rfl⟩ rfl (Nat.le_of_ble_eq_true rfl) dX8_upper_57 (Nat.zero_le _) (Nat.zero_le _) rfl (fun ct31 rrr37 hBr37 hoff38 => ?_)
            obtain ⟨rfl, hI⟩ := hBr37
            refine GW.eq (S2 := []) rfl rfl rfl ?_
            have hs39 : ct31 0 = .inr (8, [.ref 1, .ref 2, .ref 3, .ref 5, .ref 6, .ref 9, .ref 10, .ref 17, .ref 21, .ref 34, .ref (99 + 3 * dr15), .int pe, .int bk16]) := (hoff38 _ (pQ_no (by decide))).trans hs29
            have hs40 : ct31 1 = .inl (g.2 4, 4, .inr (.inr (.inr (.inr (zF1 idn 0))))) := (hoff38 _ (pQ_no (by decide))).trans hs30
            refine dv_iconst (v := 1) dX8_upper_60 (by decide) ?_
            have q41 : (1 : Int32).toInt = 1 := by decide
            exact dv_zret dX8_upper_61 rfl rfl (by first | exact Nat.zero_le _ | decide) (by first | exact Nat.zero_le _ | decide) (by subst hK; exact ⟨1, rfl, (by first | exact Or.inl ⟨rfl, by omega, by omega, by omega⟩ | exact Or.inr ⟨rfl, by omega⟩), hI⟩)
          · skip
            have c13 : ¬ (up.toInt = (-1)) := fun q => c13 ((z_eq rfl (by decide : ((-1) : Int32).toInt = (-1))).mpr q)
            refine dv_iload_n dX8_upper_24 rfl 3 rfl ?_
            refine dv_bipush (v := 16) dX8_upper_25 (by decide) ?_
            refine dv_bipush (v := 31) dX8_upper_27 (by decide) ?_
            refine GW.callS (n := 3) (As := [.int up, .int 16, .int 31]) (rest := []) (k_X8_within l g pe ct up (16 : Int32) (31 : Int32) hI) (fun _ h => Bool.noConfusion h) rfl rfl mm_355 mm_356 mm_52 mm_357 (by decide +kernel) ⟨Nat.le_of_ble_eq_true rfl, Nat.le_of_ble_eq_true rfl⟩ rfl (Nat.le_of_ble_eq_true rfl) dX8_upper_29 (Nat.zero_le _) (Nat.zero_le _) rfl (fun ct42 rrr43 hBr43 hoff44 => ?_)
            obtain ⟨r43, rfl, hr43, rfl⟩ := hBr43
            refine GW.eq (S2 := [.int r43]) rfl rfl rfl ?_
            rcases hr43 with hr43 | hr43
            · skip
              obtain ⟨rfl, h45, h46⟩ := hr43
              have h45 : (16 : Int) ≤ up.toInt := h45
              have h46 : up.toInt ≤ (31 : Int) := h46
              refine dv_if_eq (tgt := 40) dX8_upper_32 (by decide) (fun c47 => ?_) (fun c47 => ?_)
              · skip
                exact absurd c47 (by decide)
              · skip
                refine dv_iload_n dX8_upper_35 rfl 3 rfl ?_
                refine dv_iload_n dX8_upper_36 rfl 2 rfl ?_
                refine dv_icmp_gt (tgt := 42) dX8_upper_37 (by decide) (fun c48 => ?_) (fun c48 => ?_)
                · skip
                  have c48 : nd.toInt < up.toInt := (z_lt rfl rfl).mp c48
                  refine dv_aload_n dX8_upper_42 rfl 0 rfl ?_
                  obtain ⟨bk51, dr50, h52, h53, h54, hs49⟩ := a8_0 hI
                  refine dv_get (ci := 8) (v := .ref 1) (C := RX8) (T := TX8) (N := 13) ⟨by decide, rfl⟩ hs49 rfl inG8 0 (by decide) mm_303 rfl dX8_upper_43 ?_
                  refine dv_iload_n dX8_upper_46 rfl 1 rfl ?_
                  have hs55 := a8_1 hI
                  refine dv_aldq 4 ⟨by decide, rfl⟩ hs55 rfl (z_in rfl (by omega) (by omega)) dX8_upper_47 (r := (0 + 35 + 5 * c0.toInt.toNat)) (zF1_r (x := c0) (by omega) (by omega)) ?_
                  refine dv_iload_n dX8_upper_48 rfl 2 rfl ?_
                  refine dv_iload_n dX8_upper_49 rfl 3 rfl ?_
                  obtain ⟨we58, se59, h60, h61, hs57⟩ := a8_35 (kc := (0 + 35 + 5 * c0.toInt.toNat)) (by omega) hI
                  refine GW.callV (n := 2) (As := [.int nd, .int up]) (rest := []) (b := (0 + 35 + 5 * c0.toInt.toNat)) (k_X3_hang l g pe ct (0 + 35 + 5 * c0.toInt.toNat) nd up (by omega) hI) sub_pK_pCl rfl rfl ⟨by omega, pK_of (by omega)⟩ hs57 (q := (RX3, TX3, 6)) rfl mm_548 mm_549 mm_550 mm_59 mm_551 (by decide +kernel) ⟨Nat.le_of_ble_eq_true rfl, Nat.le_of_ble_eq_true rfl⟩ rfl (Nat.le_of_ble_eq_true rfl) dX8_upper_50 (Nat.zero_le _) (Nat.zero_le _) rfl (fun ct56 rrr62 hBr62 hoff63 => ?_)
                  obtain ⟨rfl, hI⟩ := hBr62
                  refine GW.eq (S2 := []) rfl rfl rfl ?_
                  have hs64 : ct56 0 = .inr (8, [.ref 1, .ref 2, .ref 3, .ref 5, .ref 6, .ref 9, .ref 10, .ref 17, .ref 21, .ref 34, .ref (99 + 3 * dr50), .int pe, .int bk51]) := (hoff63 _ (pK_no (by decide))).trans hs49
                  have hs65 : ct56 1 = .inl (g.2 4, 4, .inr (.inr (.inr (.inr (zF1 idn 0))))) := (hoff63 _ (pK_no (by decide))).trans hs55
                  refine dv_aload_n dX8_upper_53 rfl 0 rfl ?_
                  refine dv_get (ci := 8) (v := .ref 17) (C := RX8) (T := TX8) (N := 13) ⟨by decide, rfl⟩ hs64 rfl inG8 7 (by decide) mm_310 rfl dX8_upper_54 ?_
                  obtain ⟨spc68, tim69, h70, h71, hs67⟩ := a8_17 hI
                  refine GW.callV (n := 0) (As := []) (rest := []) (b := 17) (k_X0_forget l g pe ct56  hI) sub_pQ_pCl rfl rfl ⟨by decide, rfl⟩ hs67 (q := (RX0, TX0, 5)) rfl mm_556 mm_557 mm_558 mm_56 mm_559 (by decide +kernel) ⟨Nat.le_of_ble_eq_true rfl, Nat.le_of_ble_eq_true rfl⟩ rfl (Nat.le_of_ble_eq_true rfl) dX8_upper_57 (Nat.zero_le _) (Nat.zero_le _) rfl (fun ct66 rrr72 hBr72 hoff73 => ?_)
                  obtain ⟨rfl, hI⟩ := hBr72
                  refine GW.eq (S2 := []) rfl rfl rfl ?_
                  have hs74 : ct66 0 = .inr (8, [.ref 1, .ref 2, .ref 3, .ref 5, .ref 6, .ref 9, .ref 10, .ref 17, .ref 21, .ref 34, .ref (99 + 3 * dr50), .int pe, .int bk51]) := (hoff73 _ (pQ_no (by decide))).trans hs64
                  have hs75 : ct66 1 = .inl (g.2 4, 4, .inr (.inr (.inr (.inr (zF1 idn 0))))) := (hoff73 _ (pQ_no (by decide))).trans hs65
                  refine dv_iconst (v := 1) dX8_upper_60 (by decide) ?_
                  have q76 : (1 : Int32).toInt = 1 := by decide
                  exact dv_zret dX8_upper_61 rfl rfl (by first | exact Nat.zero_le _ | decide) (by first | exact Nat.zero_le _ | decide) (by subst hK; exact ⟨1, rfl, (by first | exact Or.inl ⟨rfl, by omega, by omega, by omega⟩ | exact Or.inr ⟨rfl, by omega⟩), hI⟩)
                · skip
                  have c48 : ¬ (nd.toInt < up.toInt) := fun q => c48 ((z_lt rfl rfl).mpr q)
                  refine dv_iconst (v := 0) dX8_upper_40 (by decide) ?_
                  have q77 : (0 : Int32).toInt = 0 := by decide
                  exact dv_zret dX8_upper_41 rfl rfl (by first | exact Nat.zero_le _ | decide) (by first | exact Nat.zero_le _ | decide) (by subst hK; exact ⟨0, rfl, (by first | exact Or.inl ⟨rfl, by omega, by omega, by omega⟩ | exact Or.inr ⟨rfl, by omega⟩), hI⟩)
            · skip
              obtain ⟨rfl, h78⟩ := hr43
              have h78 : ¬ ((16 : Int) ≤ up.toInt ∧ up.toInt ≤ (31 : Int)) := h78
              refine dv_if_eq (tgt := 40) dX8_upper_32 (by decide) (fun c79 => ?_) (fun c79 => ?_)
              · skip
                refine dv_iconst (v := 0) dX8_upper_40 (by decide) ?_
                have q80 : (0 : Int32).toInt = 0 := by decide
                exact dv_zret dX8_upper_41 rfl rfl (by first | exact Nat.zero_le _ | decide) (by first | exact Nat.zero_le _ | decide) (by subst hK; exact ⟨0, rfl, (by first | exact Or.inl ⟨rfl, by omega, by omega, by omega⟩ | exact Or.inr ⟨rfl, by omega⟩), hI⟩)
              · skip
                exact absurd c79 (by decide)
        · skip
          exact absurd c12 (by decide)
      · skip
        obtain ⟨rfl, h81⟩ := hr8
        have h81 : ¬ ((0 : Int) ≤ nd.toInt ∧ nd.toInt ≤ (31 : Int)) := h81
        refine dv_if_ne (tgt := 19) dX8_upper_14 (by decide) (fun c82 => ?_) (fun c82 => ?_)
        · skip
          exact absurd c82 (by decide)
        · skip
          refine dv_iconst (v := 0) dX8_upper_17 (by decide) ?_
          have q83 : (0 : Int32).toInt = 0 := by decide
          exact dv_zret dX8_upper_18 rfl rfl (by first | exact Nat.zero_le _ | decide) (by first | exact Nat.zero_le _ | decide) (by subst hK; exact ⟨0, rfl, (by first | exact Or.inl ⟨rfl, by omega, by omega, by omega⟩ | exact Or.inr ⟨rfl, by omega⟩), hI⟩)
  · skip
    obtain ⟨rfl, h84⟩ := hr2
    have h84 : ¬ (0 ≤ c0.toInt ∧ c0.toInt ≤ 3) := h84
    refine dv_if_eq (tgt := 17) dX8_upper_4 (by decide) (fun c85 => ?_) (fun c85 => ?_)
    · skip
      refine dv_iconst (v := 0) dX8_upper_17 (by decide) ?_
      have q86 : (0 : Int32).toInt = 0 := by decide
      exact dv_zret dX8_upper_18 rfl rfl (by first | exact Nat.zero_le _ | decide) (by first | exact Nat.zero_le _ | decide) (by subst hK; exact ⟨0, rfl, (by first | exact Or.inl ⟨rfl, by omega, by omega, by omega⟩ | exact Or.inr ⟨rfl, by omega⟩), hI⟩)
    · skip
      exact absurd c85 (by decide)

set_option maxHeartbeats 4000000 in
set_option maxRecDepth 100000 in
theorem k_X8_wish (l : Launch) (g : zG) (pe : Int32) (ct : Nat → va_E) (p0 : Int32) (n : Int32) (hI : Inv8 g idn pe ct) : DM l g pCl false yX8_wish cX8_wish 3 (some .boolean) ({ frames := 28, cells := 0, slots := 0, locals := 694 }) (fun (ct2 : Nat → va_E) (rr : Option Value) => ∃ (r : Int32), rr = some (.int r) ∧ ((r = 1 ∧ (0 ≤ p0.toInt ∧ p0.toInt < pe.toInt) ∧ (0 ≤ n.toInt ∧ n.toInt ≤ 16)) ∨ (r = 0 ∧ (¬ ((0 ≤ p0.toInt ∧ p0.toInt < pe.toInt) ∧ (0 ≤ n.toInt ∧ n.toInt ≤ 16))))) ∧ Inv8 g idn pe ct2) ct [.ref 0, .int p0, .int n] := by
  refine DM.K (fun K hK => ?_)
  refine GW.met (own := RX8) (loc := [(0, .ref 0), (1, .int p0), (2, .int n)]) (by decide) rfl rfl (Nat.le_of_ble_eq_true rfl) ?_
  have hpe0 := hI.1
  have rg_p0 := z_rng p0
  have rg_n := z_rng n
  refine dv_aload_n dX8_wish_0 rfl 0 rfl ?_
  refine dv_iload_n dX8_wish_1 rfl 1 rfl ?_
  obtain ⟨bk4, dr3, h5, h6, h7, hs2⟩ := a8_0 hI
  refine GW.callV (n := 1) (As := [.int p0]) (rest := []) (b := 0) (k_X8_isPerson l g pe ct p0 hI) (fun _ h => h) rfl rfl ⟨by decide, rfl⟩ hs2 (q := (RX8, TX8, 13)) rfl mm_370 mm_372 mm_1 mm_52 mm_373 (by decide +kernel) ⟨Nat.le_of_ble_eq_true rfl, Nat.le_of_ble_eq_true rfl⟩ rfl (Nat.le_of_ble_eq_true rfl) dX8_wish_2 (Nat.zero_le _) (Nat.zero_le _) rfl (fun ct1 rrr8 hBr8 hoff9 => ?_)
  obtain ⟨r8, rfl, hr8, rfl⟩ := hBr8
  refine GW.eq (S2 := [.int r8]) rfl rfl rfl ?_
  rcases hr8 with hr8 | hr8
  · skip
    obtain ⟨rfl, h10, h11⟩ := hr8
    have h10 : 0 ≤ p0.toInt := h10
    have h11 : p0.toInt < pe.toInt := h11
    refine dv_if_eq (tgt := 18) dX8_wish_5 (by decide) (fun c12 => ?_) (fun c12 => ?_)
    · skip
      exact absurd c12 (by decide)
    · skip
      refine dv_iload_n dX8_wish_8 rfl 2 rfl ?_
      refine dv_iconst (v := 0) dX8_wish_9 (by decide) ?_
      refine dv_bipush (v := 16) dX8_wish_10 (by decide) ?_
      refine GW.callS (n := 3) (As := [.int n, .int 0, .int 16]) (rest := []) (k_X8_within l g pe ct n (0 : Int32) (16 : Int32) hI) (fun _ h => Bool.noConfusion h) rfl rfl mm_355 mm_356 mm_52 mm_357 (by decide +kernel) ⟨Nat.le_of_ble_eq_true rfl, Nat.le_of_ble_eq_true rfl⟩ rfl (Nat.le_of_ble_eq_true rfl) dX8_wish_12 (Nat.zero_le _) (Nat.zero_le _) rfl (fun ct13 rrr14 hBr14 hoff15 => ?_)
      obtain ⟨r14, rfl, hr14, rfl⟩ := hBr14
      refine GW.eq (S2 := [.int r14]) rfl rfl rfl ?_
      rcases hr14 with hr14 | hr14
      · skip
        obtain ⟨rfl, h16, h17⟩ := hr14
        have h16 : (0 : Int) ≤ n.toInt := h16
        have h17 : n.toInt ≤ (16 : Int) := h17
        refine dv_if_ne (tgt := 20) dX8_wish_15 (by decide) (fun c18 => ?_) (fun c18 => ?_)
        · skip
          refine dv_aload_n dX8_wish_20 rfl 0 rfl ?_
          refine dv_get (ci := 8) (v := .ref 2) (C := RX8) (T := TX8) (N := 13) ⟨by decide, rfl⟩ hs2 rfl inG8 1 (by decide) mm_304 rfl dX8_wish_21 ?_
          refine dv_iload_n dX8_wish_24 rfl 1 rfl ?_
          refine dv_iload_n dX8_wish_25 rfl 2 rfl ?_
          obtain ⟨f20, hs19⟩ := a8_2 hI
          refine dv_iast 0 ⟨by decide, rfl⟩ hs19 rfl (z_in rfl (by omega) (by omega)) dX8_wish_26 (en := .inl (g.2 0, 16, .inl (upd f20 (Int32.toNatClampNeg p0) n))) rfl (fun ct21 ec22 => ?_)
          have hI : Inv8 g idn pe ct21 := by rw [ec22]; exact up8 hI (i8_2 ⟨_, rfl⟩)
          have hs23 : ct21 0 = .inr (8, [.ref 1, .ref 2, .ref 3, .ref 5, .ref 6, .ref 9, .ref 10, .ref 17, .ref 21, .ref 34, .ref (99 + 3 * dr3), .int pe, .int bk4]) := by rw [ec22, va_up_ne _ _ (by omega)]; exact hs2
          have hs24 : ct21 2 = .inl (g.2 0, 16, .inl (upd f20 (Int32.toNatClampNeg p0) n)) := by rw [ec22]; exact va_up_self _ _ _
          refine dv_aload_n dX8_wish_27 rfl 0 rfl ?_
          refine dv_iload_n dX8_wish_28 rfl 1 rfl ?_
          refine GW.callV (n := 1) (As := [.int p0]) (rest := []) (b := 0) (k_X8_judgeAll l g pe ct21 p0 hI) (fun _ h => h) rfl rfl ⟨by decide, rfl⟩ hs23 (q := (RX8, TX8, 13)) rfl mm_572 mm_574 mm_18 mm_52 mm_575 (by decide +kernel) ⟨Nat.le_of_ble_eq_true rfl, Nat.le_of_ble_eq_true rfl⟩ rfl (Nat.le_of_ble_eq_true rfl) dX8_wish_29 (Nat.zero_le _) (Nat.zero_le _) rfl (fun ct25 rrr26 hBr26 hoff27 => ?_)
          obtain ⟨rfl, hI⟩ := hBr26
          refine GW.eq (S2 := []) rfl rfl rfl ?_
          refine dv_iconst (v := 1) dX8_wish_32 (by decide) ?_
          have q28 : (1 : Int32).toInt = 1 := by decide
          exact dv_zret dX8_wish_33 rfl rfl (by first | exact Nat.zero_le _ | decide) (by first | exact Nat.zero_le _ | decide) (by subst hK; exact ⟨1, rfl, (by first | exact Or.inl ⟨rfl, by omega, by omega⟩ | exact Or.inr ⟨rfl, by omega⟩), hI⟩)
        · skip
          exact absurd c18 (by decide)
      · skip
        obtain ⟨rfl, h29⟩ := hr14
        have h29 : ¬ ((0 : Int) ≤ n.toInt ∧ n.toInt ≤ (16 : Int)) := h29
        refine dv_if_ne (tgt := 20) dX8_wish_15 (by decide) (fun c30 => ?_) (fun c30 => ?_)
        · skip
          exact absurd c30 (by decide)
        · skip
          refine dv_iconst (v := 0) dX8_wish_18 (by decide) ?_
          have q31 : (0 : Int32).toInt = 0 := by decide
          exact dv_zret dX8_wish_19 rfl rfl (by first | exact Nat.zero_le _ | decide) (by first | exact Nat.zero_le _ | decide) (by subst hK; exact ⟨0, rfl, (by first | exact Or.inl ⟨rfl, by omega, by omega⟩ | exact Or.inr ⟨rfl, by omega⟩), hI⟩)
  · skip
    obtain ⟨rfl, h32⟩ := hr8
    have h32 : ¬ (0 ≤ p0.toInt ∧ p0.toInt < pe.toInt) := h32
    refine dv_if_eq (tgt := 18) dX8_wish_5 (by decide) (fun c33 => ?_) (fun c33 => ?_)
    · skip
      refine dv_iconst (v := 0) dX8_wish_18 (by decide) ?_
      have q34 : (0 : Int32).toInt = 0 := by decide
      exact dv_zret dX8_wish_19 rfl rfl (by first | exact Nat.zero_le _ | decide) (by first | exact Nat.zero_le _ | decide) (by subst hK; exact ⟨0, rfl, (by first | exact Or.inl ⟨rfl, by omega, by omega⟩ | exact Or.inr ⟨rfl, by omega⟩), hI⟩)
    · skip
      exact absurd c33 (by decide)

set_option maxHeartbeats 4000000 in
set_option maxRecDepth 100000 in
theorem k_X8_feed (l : Launch) (g : zG) (pe : Int32) (ct : Nat → va_E) (a0 : Int32) (b0 : Int32) (c0 : Int32) (d0 : Int32) (e0 : Int32) (hI : Inv8 g idn pe ct) : DM l g pCl false yX8_feed cX8_feed 6 (some .int) ({ frames := 1, cells := 0, slots := 0, locals := 22 }) (fun (ct2 : Nat → va_E) (rr : Option Value) => ∃ (r : Int32), rr = some (.int r) ∧ ((True)) ∧ Inv8 g idn pe ct2) ct [.ref 0, .int a0, .int b0, .int c0, .int d0, .int e0] := by
  refine DM.K (fun K hK => ?_)
  refine GW.met (own := RX8) (loc := [(0, .ref 0), (1, .int a0), (2, .int b0), (3, .int c0), (4, .int d0), (5, .int e0)]) (by decide) rfl rfl (Nat.le_of_ble_eq_true rfl) ?_
  have hpe0 := hI.1
  have rg_a0 := z_rng a0
  have rg_b0 := z_rng b0
  have rg_c0 := z_rng c0
  have rg_d0 := z_rng d0
  have rg_e0 := z_rng e0
  refine dv_aload_n dX8_feed_0 rfl 0 rfl ?_
  obtain ⟨bk3, dr2, h4, h5, h6, hs1⟩ := a8_0 hI
  refine dv_get (ci := 8) (v := .ref 3) (C := RX8) (T := TX8) (N := 13) ⟨by decide, rfl⟩ hs1 rfl inG8 2 (by decide) mm_305 rfl dX8_feed_1 ?_
  obtain ⟨len8, h9, h10, hs7⟩ := a8_3 hI
  refine dv_get (ci := 7) (v := .int len8) (C := RX7) (T := TX7) (N := 2) ⟨by decide, rfl⟩ hs7 rfl inG7 0 (by decide) mm_80 rfl dX8_feed_4 ?_
  refine dv_bipush (v := 20) dX8_feed_7 (by decide) ?_
  refine dv_iadd dX8_feed_9 ?_
  refine dv_topi (fun x11 ex11 => ?_)
  have tx11 : x11.toInt = len8.toInt + 20 := by rw [ex11]; exact z_add rfl (by decide : (20 : Int32).toInt = 20) (by omega) (by omega)
  refine dv_sipush (v := 200) dX8_feed_10 (by decide) ?_
  refine dv_icmp_le (tgt := 18) dX8_feed_13 (by decide) (fun c12 => ?_) (fun c12 => ?_)
  · skip
    have c12 : x11.toInt ≤ 200 := (z_le rfl (by decide : (200 : Int32).toInt = 200)).mp c12
    refine dv_aload_n dX8_feed_18 rfl 0 rfl ?_
    refine dv_get (ci := 8) (v := .ref 3) (C := RX8) (T := TX8) (N := 13) ⟨by decide, rfl⟩ hs1 rfl inG8 2 (by decide) mm_305 rfl dX8_feed_19 ?_
    refine dv_iload_n dX8_feed_22 rfl 1 rfl ?_
    refine GW.callV (n := 1) (As := [.int a0]) (rest := []) (b := 3) (k_X7_append l g pe ct a0 hI) sub_pT_pCl rfl rfl ⟨by decide, rfl⟩ hs7 (q := (RX7, TX7, 2)) rfl mm_347 mm_348 mm_349 mm_53 mm_350 (by decide +kernel) ⟨Nat.le_of_ble_eq_true rfl, Nat.le_of_ble_eq_true rfl⟩ rfl (Nat.le_of_ble_eq_true rfl) dX8_feed_23 (Nat.zero_le _) (Nat.zero_le _) rfl (fun ct13 rrr14 hBr14 hoff15 => ?_)
    obtain ⟨rfl, hI⟩ := hBr14
    refine GW.eq (S2 := []) rfl rfl rfl ?_
    have hs16 : ct13 0 = .inr (8, [.ref 1, .ref 2, .ref 3, .ref 5, .ref 6, .ref 9, .ref 10, .ref 17, .ref 21, .ref 34, .ref (99 + 3 * dr2), .int pe, .int bk3]) := (hoff15 _ (pT_no (by decide))).trans hs1
    refine dv_aload_n dX8_feed_26 rfl 0 rfl ?_
    refine dv_get (ci := 8) (v := .ref 3) (C := RX8) (T := TX8) (N := 13) ⟨by decide, rfl⟩ hs16 rfl inG8 2 (by decide) mm_305 rfl dX8_feed_27 ?_
    refine dv_iload_n dX8_feed_30 rfl 2 rfl ?_
    obtain ⟨len19, h20, h21, hs18⟩ := a8_3 hI
    refine GW.callV (n := 1) (As := [.int b0]) (rest := []) (b := 3) (k_X7_append l g pe ct13 b0 hI) sub_pT_pCl rfl rfl ⟨by decide, rfl⟩ hs18 (q := (RX7, TX7, 2)) rfl mm_347 mm_348 mm_349 mm_53 mm_350 (by decide +kernel) ⟨Nat.le_of_ble_eq_true rfl, Nat.le_of_ble_eq_true rfl⟩ rfl (Nat.le_of_ble_eq_true rfl) dX8_feed_31 (Nat.zero_le _) (Nat.zero_le _) rfl (fun ct17 rrr22 hBr22 hoff23 => ?_)
    obtain ⟨rfl, hI⟩ := hBr22
    refine GW.eq (S2 := []) rfl rfl rfl ?_
    have hs24 : ct17 0 = .inr (8, [.ref 1, .ref 2, .ref 3, .ref 5, .ref 6, .ref 9, .ref 10, .ref 17, .ref 21, .ref 34, .ref (99 + 3 * dr2), .int pe, .int bk3]) := (hoff23 _ (pT_no (by decide))).trans hs16
    refine dv_aload_n dX8_feed_34 rfl 0 rfl ?_
    refine dv_get (ci := 8) (v := .ref 3) (C := RX8) (T := TX8) (N := 13) ⟨by decide, rfl⟩ hs24 rfl inG8 2 (by decide) mm_305 rfl dX8_feed_35 ?_
    refine dv_iload_n dX8_feed_38 rfl 3 rfl ?_
    obtain ⟨len27, h28, h29, hs26⟩ := a8_3 hI
    refine GW.callV (n := 1) (As := [.int c0]) (rest := []) (b := 3) (k_X7_append l g pe ct17 c0 hI) sub_pT_pCl rfl rfl ⟨by decide, rfl⟩ hs26 (q := (RX7, TX7, 2)) rfl mm_347 mm_348 mm_349 mm_53 mm_350 (by decide +kernel) ⟨Nat.le_of_ble_eq_true rfl, Nat.le_of_ble_eq_true rfl⟩ rfl (Nat.le_of_ble_eq_true rfl) dX8_feed_39 (Nat.zero_le _) (Nat.zero_le _) rfl (fun ct25 rrr30 hBr30 hoff31 => ?_)
    obtain ⟨rfl, hI⟩ := hBr30
    refine GW.eq (S2 := []) rfl rfl rfl ?_
    have hs32 : ct25 0 = .inr (8, [.ref 1, .ref 2, .ref 3, .ref 5, .ref 6, .ref 9, .ref 10, .ref 17, .ref 21, .ref 34, .ref (99 + 3 * dr2), .int pe, .int bk3]) := (hoff31 _ (pT_no (by decide))).trans hs24
    refine dv_aload_n dX8_feed_42 rfl 0 rfl ?_
    refine dv_get (ci := 8) (v := .ref 3) (C := RX8) (T := TX8) (N := 13) ⟨by decide, rfl⟩ hs32 rfl inG8 2 (by decide) mm_305 rfl dX8_feed_43 ?_
    refine dv_iload dX8_feed_46 4 rfl ?_
    obtain ⟨len35, h36, h37, hs34⟩ := a8_3 hI
    refine GW.callV (n := 1) (As := [.int d0]) (rest := []) (b := 3) (k_X7_append l g pe ct25 d0 hI) sub_pT_pCl rfl rfl ⟨by decide, rfl⟩ hs34 (q := (RX7, TX7, 2)) rfl mm_347 mm_348 mm_349 mm_53 mm_350 (by decide +kernel) ⟨Nat.le_of_ble_eq_true rfl, Nat.le_of_ble_eq_true rfl⟩ rfl (Nat.le_of_ble_eq_true rfl) dX8_feed_48 (Nat.zero_le _) (Nat.zero_le _) rfl (fun ct33 rrr38 hBr38 hoff39 => ?_)
    obtain ⟨rfl, hI⟩ := hBr38
    refine GW.eq (S2 := []) rfl rfl rfl ?_
    have hs40 : ct33 0 = .inr (8, [.ref 1, .ref 2, .ref 3, .ref 5, .ref 6, .ref 9, .ref 10, .ref 17, .ref 21, .ref 34, .ref (99 + 3 * dr2), .int pe, .int bk3]) := (hoff39 _ (pT_no (by decide))).trans hs32
    refine dv_aload_n dX8_feed_51 rfl 0 rfl ?_
    refine dv_get (ci := 8) (v := .ref 3) (C := RX8) (T := TX8) (N := 13) ⟨by decide, rfl⟩ hs40 rfl inG8 2 (by decide) mm_305 rfl dX8_feed_52 ?_
    refine dv_iload dX8_feed_55 5 rfl ?_
    obtain ⟨len43, h44, h45, hs42⟩ := a8_3 hI
    refine GW.callV (n := 1) (As := [.int e0]) (rest := []) (b := 3) (k_X7_append l g pe ct33 e0 hI) sub_pT_pCl rfl rfl ⟨by decide, rfl⟩ hs42 (q := (RX7, TX7, 2)) rfl mm_347 mm_348 mm_349 mm_53 mm_350 (by decide +kernel) ⟨Nat.le_of_ble_eq_true rfl, Nat.le_of_ble_eq_true rfl⟩ rfl (Nat.le_of_ble_eq_true rfl) dX8_feed_57 (Nat.zero_le _) (Nat.zero_le _) rfl (fun ct41 rrr46 hBr46 hoff47 => ?_)
    obtain ⟨rfl, hI⟩ := hBr46
    refine GW.eq (S2 := []) rfl rfl rfl ?_
    have hs48 : ct41 0 = .inr (8, [.ref 1, .ref 2, .ref 3, .ref 5, .ref 6, .ref 9, .ref 10, .ref 17, .ref 21, .ref 34, .ref (99 + 3 * dr2), .int pe, .int bk3]) := (hoff47 _ (pT_no (by decide))).trans hs40
    refine dv_aload_n dX8_feed_60 rfl 0 rfl ?_
    refine dv_get (ci := 8) (v := .ref 3) (C := RX8) (T := TX8) (N := 13) ⟨by decide, rfl⟩ hs48 rfl inG8 2 (by decide) mm_305 rfl dX8_feed_61 ?_
    obtain ⟨len50, h51, h52, hs49⟩ := a8_3 hI
    refine dv_get (ci := 7) (v := .int len50) (C := RX7) (T := TX7) (N := 2) ⟨by decide, rfl⟩ hs49 rfl inG7 0 (by decide) mm_80 rfl dX8_feed_64 ?_
    exact dv_iret dX8_feed_67 rfl (by first | exact Nat.zero_le _ | decide) (by first | exact Nat.zero_le _ | decide) (by subst hK; exact ⟨len50, rfl, (trivial), hI⟩)
  · skip
    have c12 : ¬ (x11.toInt ≤ 200) := fun q => c12 ((z_le rfl (by decide : (200 : Int32).toInt = 200)).mpr q)
    refine dv_iconst (v := (-1)) dX8_feed_16 (by decide) ?_
    have q53 : ((-1) : Int32).toInt = -1 := by decide
    exact dv_iret dX8_feed_17 rfl (by first | exact Nat.zero_le _ | decide) (by first | exact Nat.zero_le _ | decide) (by subst hK; exact ⟨(-1), rfl, (trivial), hI⟩)

set_option maxHeartbeats 4000000 in
set_option maxRecDepth 100000 in
theorem k_X8_book (l : Launch) (g : zG) (pe : Int32) (ct : Nat → va_E) (n : Int32) (l0 : Int32) (l1 : Int32) (l2 : Int32) (l3 : Int32) (hI : Inv8 g idn pe ct) : DM l g pCl false yX8_book cX8_book 9 (some .int) ({ frames := 3, cells := 0, slots := 0, locals := 71 }) (fun (ct2 : Nat → va_E) (rr : Option Value) => ∃ (r : Int32), rr = some (.int r) ∧ ((True)) ∧ Inv8 g idn pe ct2) ct [.ref 0, .int n, .int l0, .int l1, .int l2, .int l3] := by
  refine DM.K (fun K hK => ?_)
  refine GW.met (own := RX8) (loc := [(0, .ref 0), (1, .int n), (2, .int l0), (3, .int l1), (4, .int l2), (5, .int l3)]) (by decide) rfl rfl (Nat.le_of_ble_eq_true rfl) ?_
  have hpe0 := hI.1
  have hk0 : ct 0 = ct 0 := rfl
  obtain ⟨bk3, dr2, h4, h5, h6, hs1⟩ := a8_0 hI
  have rg_n := z_rng n
  have rg_l0 := z_rng l0
  have rg_l1 := z_rng l1
  have rg_l2 := z_rng l2
  have rg_l3 := z_rng l3
  refine dv_iload_n dX8_book_0 rfl 1 rfl ?_
  refine dv_iconst (v := 1) dX8_book_1 (by decide) ?_
  refine dv_bipush (v := 8) dX8_book_2 (by decide) ?_
  refine GW.callS (n := 3) (As := [.int n, .int 1, .int 8]) (rest := []) (k_X8_within l g pe ct n (1 : Int32) (8 : Int32) hI) (fun _ h => Bool.noConfusion h) rfl rfl mm_355 mm_356 mm_52 mm_357 (by decide +kernel) ⟨Nat.le_of_ble_eq_true rfl, Nat.le_of_ble_eq_true rfl⟩ rfl (Nat.le_of_ble_eq_true rfl) dX8_book_4 (Nat.zero_le _) (Nat.zero_le _) rfl (fun ct7 rrr8 hBr8 hoff9 => ?_)
  obtain ⟨r8, rfl, hr8, rfl⟩ := hBr8
  refine GW.eq (S2 := [.int r8]) rfl rfl rfl ?_
  rcases hr8 with hr8 | hr8
  · skip
    obtain ⟨rfl, h10, h11⟩ := hr8
    have h10 : (1 : Int) ≤ n.toInt := h10
    have h11 : n.toInt ≤ (8 : Int) := h11
    refine dv_if_eq (tgt := 29) dX8_book_7 (by decide) (fun c12 => ?_) (fun c12 => ?_)
    · skip
      exact absurd c12 (by decide)
    · skip
      refine dv_aload_n dX8_book_10 rfl 0 rfl ?_
      refine dv_get (ci := 8) (v := .int bk3) (C := RX8) (T := TX8) (N := 13) ⟨by decide, rfl⟩ hs1 rfl inG8 12 (by decide) mm_315 rfl dX8_book_11 ?_
      refine dv_iconst (v := 4) dX8_book_14 (by decide) ?_
      refine dv_icmp_ge (tgt := 29) dX8_book_15 (by decide) (fun c13 => ?_) (fun c13 => ?_)
      · skip
        have c13 : 4 ≤ bk3.toInt := (z_le (by decide : (4 : Int32).toInt = 4) rfl).mp c13
        refine dv_iconst (v := (-1)) dX8_book_29 (by decide) ?_
        have q14 : ((-1) : Int32).toInt = -1 := by decide
        exact dv_iret dX8_book_30 rfl (by first | exact Nat.zero_le _ | decide) (by first | exact Nat.zero_le _ | decide) (by subst hK; exact ⟨(-1), rfl, (trivial), hI⟩)
      · skip
        have c13 : ¬ (4 ≤ bk3.toInt) := fun q => c13 ((z_le (by decide : (4 : Int32).toInt = 4) rfl).mpr q)
        refine dv_aload_n dX8_book_18 rfl 0 rfl ?_
        refine dv_get (ci := 8) (v := .ref 3) (C := RX8) (T := TX8) (N := 13) ⟨by decide, rfl⟩ hs1 rfl inG8 2 (by decide) mm_305 rfl dX8_book_19 ?_
        obtain ⟨len16, h17, h18, hs15⟩ := a8_3 hI
        refine dv_get (ci := 7) (v := .int len16) (C := RX7) (T := TX7) (N := 2) ⟨by decide, rfl⟩ hs15 rfl inG7 0 (by decide) mm_80 rfl dX8_book_22 ?_
        refine dv_iload_n dX8_book_25 rfl 1 rfl ?_
        refine dv_icmp_ge (tgt := 31) dX8_book_26 (by decide) (fun c19 => ?_) (fun c19 => ?_)
        · skip
          have c19 : n.toInt ≤ len16.toInt := (z_le rfl rfl).mp c19
          refine dv_iload_n dX8_book_31 rfl 2 rfl ?_
          refine GW.callS (n := 1) (As := [.int l0]) (rest := []) (k_X8_isLevel l g pe ct l0 hI) (fun _ h => Bool.noConfusion h) rfl rfl mm_358 mm_359 mm_52 mm_360 (by decide +kernel) ⟨Nat.le_of_ble_eq_true rfl, Nat.le_of_ble_eq_true rfl⟩ rfl (Nat.le_of_ble_eq_true rfl) dX8_book_32 (Nat.zero_le _) (Nat.zero_le _) rfl (fun ct20 rrr21 hBr21 hoff22 => ?_)
          obtain ⟨r21, rfl, hr21, rfl⟩ := hBr21
          refine GW.eq (S2 := [.int r21]) rfl rfl rfl ?_
          rcases hr21 with hr21 | hr21
          · skip
            obtain ⟨rfl, h23, h24⟩ := hr21
            have h23 : 0 ≤ l0.toInt := h23
            have h24 : l0.toInt ≤ 4 := h24
            refine dv_if_eq (tgt := 61) dX8_book_35 (by decide) (fun c25 => ?_) (fun c25 => ?_)
            · skip
              exact absurd c25 (by decide)
            · skip
              refine dv_iload_n dX8_book_38 rfl 3 rfl ?_
              refine GW.callS (n := 1) (As := [.int l1]) (rest := []) (k_X8_isLevel l g pe ct l1 hI) (fun _ h => Bool.noConfusion h) rfl rfl mm_358 mm_359 mm_52 mm_360 (by decide +kernel) ⟨Nat.le_of_ble_eq_true rfl, Nat.le_of_ble_eq_true rfl⟩ rfl (Nat.le_of_ble_eq_true rfl) dX8_book_39 (Nat.zero_le _) (Nat.zero_le _) rfl (fun ct26 rrr27 hBr27 hoff28 => ?_)
              obtain ⟨r27, rfl, hr27, rfl⟩ := hBr27
              refine GW.eq (S2 := [.int r27]) rfl rfl rfl ?_
              rcases hr27 with hr27 | hr27
              · skip
                obtain ⟨rfl, h29, h30⟩ := hr27
                have h29 : 0 ≤ l1.toInt := h29
                have h30 : l1.toInt ≤ 4 := h30
                refine dv_if_eq (tgt := 61) dX8_book_42 (by decide) (fun c31 => ?_) (fun c31 => ?_)
                · skip
                  exact absurd c31 (by decide)
                · skip
                  refine dv_iload dX8_book_45 4 rfl ?_
                  refine GW.callS (n := 1) (As := [.int l2]) (rest := []) (k_X8_isLevel l g pe ct l2 hI) (fun _ h => Bool.noConfusion h) rfl rfl mm_358 mm_359 mm_52 mm_360 (by decide +kernel) ⟨Nat.le_of_ble_eq_true rfl, Nat.le_of_ble_eq_true rfl⟩ rfl (Nat.le_of_ble_eq_true rfl) dX8_book_47 (Nat.zero_le _) (Nat.zero_le _) rfl (fun ct32 rrr33 hBr33 hoff34 => ?_)
                  obtain ⟨r33, rfl, hr33, rfl⟩ := hBr33
                  refine GW.eq (S2 := [.int r33]) rfl rfl rfl ?_
                  rcases hr33 with hr33 | hr33
                  · skip
                    obtain ⟨rfl, h35, h36⟩ := hr33
                    have h35 : 0 ≤ l2.toInt := h35
                    have h36 : l2.toInt ≤ 4 := h36
                    refine dv_if_eq (tgt := 61) dX8_book_50 (by decide) (fun c37 => ?_) (fun c37 => ?_)
                    · skip
                      exact absurd c37 (by decide)
                    · skip
                      refine dv_iload dX8_book_53 5 rfl ?_
                      refine GW.callS (n := 1) (As := [.int l3]) (rest := []) (k_X8_isLevel l g pe ct l3 hI) (fun _ h => Bool.noConfusion h) rfl rfl mm_358 mm_359 mm_52 mm_360 (by decide +kernel) ⟨Nat.le_of_ble_eq_true rfl, Nat.le_of_ble_eq_true rfl⟩ rfl (Nat.le_of_ble_eq_true rfl) dX8_book_55 (Nat.zero_le _) (Nat.zero_le _) rfl (fun ct38 rrr39 hBr39 hoff40 => ?_)
                      obtain ⟨r39, rfl, hr39, rfl⟩ := hBr39
                      refine GW.eq (S2 := [.int r39]) rfl rfl rfl ?_
                      rcases hr39 with hr39 | hr39
                      · skip
                        obtain ⟨rfl, h41, h42⟩ := hr39
                        have h41 : 0 ≤ l3.toInt := h41
                        have h42 : l3.toInt ≤ 4 := h42
                        refine dv_if_ne (tgt := 63) dX8_book_58 (by decide) (fun c43 => ?_) (fun c43 => ?_)
                        · skip
                          refine dv_aload_n dX8_book_63 rfl 0 rfl ?_
                          refine dv_iload_n dX8_book_64 rfl 1 rfl ?_
                          refine GW.callV (n := 1) (As := [.int n]) (rest := []) (b := 0) (k_X8_tellsPeople l g pe ct n hI) (fun _ h => h) rfl rfl ⟨by decide, rfl⟩ hs1 (q := (RX8, TX8, 13)) rfl mm_361 mm_363 mm_0 mm_52 mm_364 (by decide +kernel) ⟨Nat.le_of_ble_eq_true rfl, Nat.le_of_ble_eq_true rfl⟩ rfl (Nat.le_of_ble_eq_true rfl) dX8_book_65 (Nat.zero_le _) (Nat.zero_le _) rfl (fun ct44 rrr45 hBr45 hoff46 => ?_)
                          obtain ⟨r45, rfl, hr45, rfl⟩ := hBr45
                          refine GW.eq (S2 := [.int r45]) rfl rfl rfl ?_
                          rcases hr45 with hr45 | hr45
                          · skip
                            obtain rfl := hr45
                            refine dv_istore (lv' := [(6, .int 1), (0, .ref 0), (1, .int n), (2, .int l0), (3, .int l1), (4, .int l2), (5, .int l3)]) dX8_book_68 (by decide) rfl ?_
                            refine dv_iload dX8_book_70 0 rfl ?_
                            refine dv_if_eq (tgt := 159) dX8_book_72 (by decide) (fun c47 => ?_) (fun c47 => ?_)
                            · skip
                              exact absurd c47 (by decide)
                            · skip
                              refine dv_aload_n dX8_book_75 rfl 1 rfl ?_
                              refine dv_get (ci := 8) (v := .ref 5) (C := RX8) (T := TX8) (N := 13) ⟨by decide, rfl⟩ hs1 rfl inG8 3 (by decide) mm_306 rfl dX8_book_76 ?_
                              refine dv_aload_n dX8_book_79 rfl 1 rfl ?_
                              refine dv_get (ci := 8) (v := .int bk3) (C := RX8) (T := TX8) (N := 13) ⟨by decide, rfl⟩ hs1 rfl inG8 12 (by decide) mm_315 rfl dX8_book_80 ?_
                              have hs48 := a8_5 hI
                              refine dv_aldq 5 ⟨by decide, rfl⟩ hs48 rfl (z_in rfl (by omega) (by omega)) dX8_book_83 (r := (0 + 55 + 11 * bk3.toInt.toNat)) (zF5_r (x := bk3) (by omega) (by omega)) ?_
                              refine dv_astore (lv' := [(7, .ref (0 + 55 + 11 * bk3.toInt.toNat)), (6, .int 1), (0, .ref 0), (1, .int n), (2, .int l0), (3, .int l1), (4, .int l2), (5, .int l3)]) dX8_book_84 (by decide) rfl ?_
                              refine dv_iconst (v := 0) dX8_book_86 (by decide) ?_
                              refine dv_istore (lv' := [(8, .int 0), (7, .ref (0 + 55 + 11 * bk3.toInt.toNat)), (6, .int 1), (0, .ref 0), (1, .int n), (2, .int l0), (3, .int l1), (4, .int l2), (5, .int l3)]) dX8_book_87 (by decide) rfl ?_
                              have loop89 : ∀ (n89 : Nat) (v8_89 : Int32) (ct49 : Nat → va_E), ((8 - v8_89.toInt : Int).toNat < n89) → (0 ≤ v8_89.toInt ∧ v8_89.toInt ≤ 8) → (ct49 0 = ct 0) → (Inv8 g idn pe ct49) → GW l g pCl pCl false yX8_book cX8_book 9 (some .int) RX8 ({ frames := 3, cells := 0, slots := 0, locals := 71 }) K 0 0 ct49 89 [(8, .int v8_89), (7, .ref (0 + 55 + 11 * bk3.toInt.toNat)), (6, .int 1), (0, .ref 0), (1, .int n), (2, .int l0), (3, .int l1), (4, .int l2), (5, .int l3)] [] := by
                                intro n89
                                induction n89 with
                                | zero =>
                                  intro v8_89 ct49 hn89 b8_89 hk0 hI
                                  exact absurd hn89 (Nat.not_lt_zero _)
                                | succ n89 ih89 =>
                                  intro v8_89 ct49 hn89 b8_89 hk0 hI
                                  have hs50 : ct49 0 = .inr (8, [.ref 1, .ref 2, .ref 3, .ref 5, .ref 6, .ref 9, .ref 10, .ref 17, .ref 21, .ref 34, .ref (99 + 3 * dr2), .int pe, .int bk3]) := hk0.trans hs1
                                  refine dv_iload dX8_book_89 0 rfl ?_
                                  refine dv_iload_n dX8_book_91 rfl 4 rfl ?_
                                  refine dv_icmp_ge (tgt := 115) dX8_book_92 (by decide) (fun c51 => ?_) (fun c51 => ?_)
                                  · skip
                                    have c51 : n.toInt ≤ v8_89.toInt := (z_le rfl rfl).mp c51
                                    refine dv_aload_n dX8_book_115 rfl 3 rfl ?_
                                    refine dv_aload dX8_book_116 1 rfl ?_
                                    refine dv_iconst (v := 0) dX8_book_118 (by decide) ?_
                                    refine dv_iload_n dX8_book_119 rfl 5 rfl ?_
                                    refine GW.callV (n := 3) (As := [.ref (0 + 55 + 11 * bk3.toInt.toNat), .int 0, .int l0]) (rest := []) (b := 0) (k_X8_fillColumn l g pe ct49 (0 + 55 + 11 * bk3.toInt.toNat) (0 : Int32) l0 (by omega) (by first | omega | decide) hI) (fun _ h => h) rfl rfl ⟨by decide, rfl⟩ hs50 (q := (RX8, TX8, 13)) rfl mm_378 mm_380 mm_2 mm_52 mm_381 (by decide +kernel) ⟨Nat.le_of_ble_eq_true rfl, Nat.le_of_ble_eq_true rfl⟩ rfl (Nat.le_of_ble_eq_true rfl) dX8_book_120 (Nat.zero_le _) (Nat.zero_le _) rfl (fun ct52 rrr53 hBr53 hoff54 => ?_)
                                    obtain ⟨rfl, hI, hk55⟩ := hBr53
                                    refine GW.eq (S2 := []) rfl rfl rfl ?_
                                    have hs56 : ct52 0 = .inr (8, [.ref 1, .ref 2, .ref 3, .ref 5, .ref 6, .ref 9, .ref 10, .ref 17, .ref 21, .ref 34, .ref (99 + 3 * dr2), .int pe, .int bk3]) := hk55.trans hs50
                                    have hk0 : ct52 0 = ct 0 := hk55.trans hk0
                                    have hs57 : ct52 0 = .inr (8, [.ref 1, .ref 2, .ref 3, .ref 5, .ref 6, .ref 9, .ref 10, .ref 17, .ref 21, .ref 34, .ref (99 + 3 * dr2), .int pe, .int bk3]) := hk0.trans hs1
                                    refine dv_aload_n dX8_book_123 rfl 3 rfl ?_
                                    refine dv_aload dX8_book_124 1 rfl ?_
                                    refine dv_iconst (v := 1) dX8_book_126 (by decide) ?_
                                    refine dv_iload_n dX8_book_127 rfl 6 rfl ?_
                                    refine GW.callV (n := 3) (As := [.ref (0 + 55 + 11 * bk3.toInt.toNat), .int 1, .int l1]) (rest := []) (b := 0) (k_X8_fillColumn l g pe ct52 (0 + 55 + 11 * bk3.toInt.toNat) (1 : Int32) l1 (by omega) (by first | omega | decide) hI) (fun _ h => h) rfl rfl ⟨by decide, rfl⟩ hs57 (q := (RX8, TX8, 13)) rfl mm_378 mm_380 mm_2 mm_52 mm_381 (by decide +kernel) ⟨Nat.le_of_ble_eq_true rfl, Nat.le_of_ble_eq_true rfl⟩ rfl (Nat.le_of_ble_eq_true rfl) dX8_book_128 (Nat.zero_le _) (Nat.zero_le _) rfl (fun ct58 rrr59 hBr59 hoff60 => ?_)
                                    obtain ⟨rfl, hI, hk61⟩ := hBr59
                                    refine GW.eq (S2 := []) rfl rfl rfl ?_
                                    have hs62 : ct58 0 = .inr (8, [.ref 1, .ref 2, .ref 3, .ref 5, .ref 6, .ref 9, .ref 10, .ref 17, .ref 21, .ref 34, .ref (99 + 3 * dr2), .int pe, .int bk3]) := hk61.trans hs57
                                    have hk0 : ct58 0 = ct 0 := hk61.trans hk0
                                    have hs63 : ct58 0 = .inr (8, [.ref 1, .ref 2, .ref 3, .ref 5, .ref 6, .ref 9, .ref 10, .ref 17, .ref 21, .ref 34, .ref (99 + 3 * dr2), .int pe, .int bk3]) := hk0.trans hs1
                                    refine dv_aload_n dX8_book_131 rfl 3 rfl ?_
                                    refine dv_aload dX8_book_132 1 rfl ?_
                                    refine dv_iconst (v := 2) dX8_book_134 (by decide) ?_
                                    refine dv_iload dX8_book_135 7 rfl ?_
                                    refine GW.callV (n := 3) (As := [.ref (0 + 55 + 11 * bk3.toInt.toNat), .int 2, .int l2]) (rest := []) (b := 0) (k_X8_fillColumn l g pe ct58 (0 + 55 + 11 * bk3.toInt.toNat) (2 : Int32) l2 (by omega) (by first | omega | decide) hI) (fun _ h => h) rfl rfl ⟨by decide, rfl⟩ hs63 (q := (RX8, TX8, 13)) rfl mm_378 mm_380 mm_2 mm_52 mm_381 (by decide +kernel) ⟨Nat.le_of_ble_eq_true rfl, Nat.le_of_ble_eq_true rfl⟩ rfl (Nat.le_of_ble_eq_true rfl) dX8_book_137 (Nat.zero_le _) (Nat.zero_le _) rfl (fun ct64 rrr65 hBr65 hoff66 => ?_)
                                    obtain ⟨rfl, hI, hk67⟩ := hBr65
                                    refine GW.eq (S2 := []) rfl rfl rfl ?_
                                    have hs68 : ct64 0 = .inr (8, [.ref 1, .ref 2, .ref 3, .ref 5, .ref 6, .ref 9, .ref 10, .ref 17, .ref 21, .ref 34, .ref (99 + 3 * dr2), .int pe, .int bk3]) := hk67.trans hs63
                                    have hk0 : ct64 0 = ct 0 := hk67.trans hk0
                                    have hs69 : ct64 0 = .inr (8, [.ref 1, .ref 2, .ref 3, .ref 5, .ref 6, .ref 9, .ref 10, .ref 17, .ref 21, .ref 34, .ref (99 + 3 * dr2), .int pe, .int bk3]) := hk0.trans hs1
                                    refine dv_aload_n dX8_book_140 rfl 3 rfl ?_
                                    refine dv_aload dX8_book_141 1 rfl ?_
                                    refine dv_iconst (v := 3) dX8_book_143 (by decide) ?_
                                    refine dv_iload dX8_book_144 8 rfl ?_
                                    refine GW.callV (n := 3) (As := [.ref (0 + 55 + 11 * bk3.toInt.toNat), .int 3, .int l3]) (rest := []) (b := 0) (k_X8_fillColumn l g pe ct64 (0 + 55 + 11 * bk3.toInt.toNat) (3 : Int32) l3 (by omega) (by first | omega | decide) hI) (fun _ h => h) rfl rfl ⟨by decide, rfl⟩ hs69 (q := (RX8, TX8, 13)) rfl mm_378 mm_380 mm_2 mm_52 mm_381 (by decide +kernel) ⟨Nat.le_of_ble_eq_true rfl, Nat.le_of_ble_eq_true rfl⟩ rfl (Nat.le_of_ble_eq_true rfl) dX8_book_146 (Nat.zero_le _) (Nat.zero_le _) rfl (fun ct70 rrr71 hBr71 hoff72 => ?_)
                                    obtain ⟨rfl, hI, hk73⟩ := hBr71
                                    refine GW.eq (S2 := []) rfl rfl rfl ?_
                                    have hs74 : ct70 0 = .inr (8, [.ref 1, .ref 2, .ref 3, .ref 5, .ref 6, .ref 9, .ref 10, .ref 17, .ref 21, .ref 34, .ref (99 + 3 * dr2), .int pe, .int bk3]) := hk73.trans hs69
                                    have hk0 : ct70 0 = ct 0 := hk73.trans hk0
                                    have hs75 : ct70 0 = .inr (8, [.ref 1, .ref 2, .ref 3, .ref 5, .ref 6, .ref 9, .ref 10, .ref 17, .ref 21, .ref 34, .ref (99 + 3 * dr2), .int pe, .int bk3]) := hk0.trans hs1
                                    refine dv_aload_n dX8_book_149 rfl 3 rfl ?_
                                    refine dv_dup dX8_book_150 rfl ?_
                                    refine dv_get (ci := 8) (v := .int bk3) (C := RX8) (T := TX8) (N := 13) ⟨by decide, rfl⟩ hs75 rfl inG8 12 (by decide) mm_315 rfl dX8_book_151 ?_
                                    refine dv_iconst (v := 1) dX8_book_154 (by decide) ?_
                                    refine dv_iadd dX8_book_155 ?_
                                    refine dv_topi (fun x76 ex76 => ?_)
                                    have tx76 : x76.toInt = bk3.toInt + 1 := by rw [ex76]; exact z_add rfl (by decide : (1 : Int32).toInt = 1) (by omega) (by omega)
                                    refine dv_put (ci := 8) (v := .int x76) (ty := .int) (C := RX8) (T := TX8) (N := 13) ⟨by decide, rfl⟩ hs75 rfl inG8 tyX8 tyX8_ok nmX8 12 (by decide) mm_315 rfl (by decide +kernel) (fun _ => rfl) (fun _ => rfl) (Nat.le_of_ble_eq_true rfl) dX8_book_156 (en := .inr (8, [.ref 1, .ref 2, .ref 3, .ref 5, .ref 6, .ref 9, .ref 10, .ref 17, .ref 21, .ref 34, .ref (99 + 3 * dr2), .int pe, .int x76])) rfl (fun ct77 ec78 => ?_)
                                    have hI : Inv8 g idn pe ct77 := by rw [ec78]; exact up8 hI (i8_0 ⟨(x76 : Int32), dr2, (by omega), (by first | omega | decide), (by first | omega | decide), rfl⟩)
                                    have hs79 : ct77 0 = .inr (8, [.ref 1, .ref 2, .ref 3, .ref 5, .ref 6, .ref 9, .ref 10, .ref 17, .ref 21, .ref 34, .ref (99 + 3 * dr2), .int pe, .int x76]) := by rw [ec78]; exact va_up_self _ _ _
                                    refine dv_aload_n dX8_book_159 rfl 3 rfl ?_
                                    refine dv_get (ci := 8) (v := .ref 3) (C := RX8) (T := TX8) (N := 13) ⟨by decide, rfl⟩ hs79 rfl inG8 2 (by decide) mm_305 rfl dX8_book_160 ?_
                                    obtain ⟨len82, h83, h84, hs81⟩ := a8_3 hI
                                    refine GW.callV (n := 0) (As := []) (rest := []) (b := 3) (k_X7_clear l g pe ct77  hI) sub_pT_pCl rfl rfl ⟨by decide, rfl⟩ hs81 (q := (RX7, TX7, 2)) rfl mm_403 mm_404 mm_405 mm_53 mm_406 (by decide +kernel) ⟨Nat.le_of_ble_eq_true rfl, Nat.le_of_ble_eq_true rfl⟩ rfl (Nat.le_of_ble_eq_true rfl) dX8_book_163 (Nat.zero_le _) (Nat.zero_le _) rfl (fun ct80 rrr85 hBr85 hoff86 => ?_)
                                    obtain ⟨rfl, hI, hk87⟩ := hBr85
                                    refine GW.eq (S2 := []) rfl rfl rfl ?_
                                    have hs88 : ct80 0 = .inr (8, [.ref 1, .ref 2, .ref 3, .ref 5, .ref 6, .ref 9, .ref 10, .ref 17, .ref 21, .ref 34, .ref (99 + 3 * dr2), .int pe, .int x76]) := (hoff86 _ (pT_no (by decide))).trans hs79
                                    refine dv_iload dX8_book_166 2 rfl ?_
                                    refine dv_if_eq (tgt := 180) dX8_book_168 (by decide) (fun c89 => ?_) (fun c89 => ?_)
                                    · skip
                                      exact absurd c89 (by decide)
                                    · skip
                                      refine dv_aload_n dX8_book_171 rfl 3 rfl ?_
                                      refine dv_get (ci := 8) (v := .int x76) (C := RX8) (T := TX8) (N := 13) ⟨by decide, rfl⟩ hs88 rfl inG8 12 (by decide) mm_315 rfl dX8_book_172 ?_
                                      refine dv_iconst (v := 1) dX8_book_175 (by decide) ?_
                                      refine dv_isub dX8_book_176 ?_
                                      refine dv_topi (fun x90 ex90 => ?_)
                                      have tx90 : x90.toInt = x76.toInt - 1 := by rw [ex90]; exact z_sub rfl (by decide : (1 : Int32).toInt = 1) (by omega) (by omega)
                                      refine dv_goto (tgt := 182) dX8_book_177 (by decide) ?_
                                      exact dv_iret dX8_book_182 rfl (by first | exact Nat.zero_le _ | decide) (by first | exact Nat.zero_le _ | decide) (by subst hK; exact ⟨x90, rfl, (trivial), hI⟩)
                                  · skip
                                    have c51 : ¬ (n.toInt ≤ v8_89.toInt) := fun q => c51 ((z_le rfl rfl).mpr q)
                                    refine dv_aload dX8_book_95 1 rfl ?_
                                    refine dv_aload_n dX8_book_97 rfl 3 rfl ?_
                                    refine dv_get (ci := 8) (v := .ref 3) (C := RX8) (T := TX8) (N := 13) ⟨by decide, rfl⟩ hs50 rfl inG8 2 (by decide) mm_305 rfl dX8_book_98 ?_
                                    refine dv_iload dX8_book_101 0 rfl ?_
                                    obtain ⟨len93, h94, h95, hs92⟩ := a8_3 hI
                                    refine GW.callV (n := 1) (As := [.int v8_89]) (rest := [.ref (0 + 55 + 11 * bk3.toInt.toNat)]) (b := 3) (k_X7_byteAt l g pe ct49 v8_89 hI) sub_pT_pCl rfl rfl ⟨by decide, rfl⟩ hs92 (q := (RX7, TX7, 2)) rfl mm_365 mm_366 mm_367 mm_53 mm_368 (by decide +kernel) ⟨Nat.le_of_ble_eq_true rfl, Nat.le_of_ble_eq_true rfl⟩ rfl (Nat.le_of_ble_eq_true rfl) dX8_book_103 (Nat.zero_le _) (Nat.zero_le _) rfl (fun ct91 rrr96 hBr96 hoff97 => ?_)
                                    obtain ⟨r96, rfl, hr96, rfl⟩ := hBr96
                                    refine GW.eq (S2 := [.int r96, .ref (0 + 55 + 11 * bk3.toInt.toNat)]) rfl rfl rfl ?_
                                    obtain ⟨lns100, liv101, shw102, h103, h104, h105, h106, hz107, h108, hs99⟩ := a8_40 (kc := (0 + 55 + 11 * bk3.toInt.toNat)) (by omega) hI
                                    have bhz107 := z_b01 hz107
                                    refine GW.callV (n := 1) (As := [.int r96]) (rest := []) (b := (0 + 55 + 11 * bk3.toInt.toNat)) (k_X2_add l g pe ct49 (0 + 55 + 11 * bk3.toInt.toNat) r96 (by omega) hI) sub_pB_pCl rfl rfl ⟨by omega, pB_of (by omega)⟩ hs99 (q := (RX2, TX2, 5)) rfl mm_374 mm_375 mm_376 mm_60 mm_377 (by decide +kernel) ⟨Nat.le_of_ble_eq_true rfl, Nat.le_of_ble_eq_true rfl⟩ rfl (Nat.le_of_ble_eq_true rfl) dX8_book_106 (Nat.zero_le _) (Nat.zero_le _) rfl (fun ct98 rrr109 hBr109 hoff110 => ?_)
                                    obtain ⟨rfl, hI, hk111⟩ := hBr109
                                    refine GW.eq (S2 := []) rfl rfl rfl ?_
                                    have hs112 : ct98 0 = .inr (8, [.ref 1, .ref 2, .ref 3, .ref 5, .ref 6, .ref 9, .ref 10, .ref 17, .ref 21, .ref 34, .ref (99 + 3 * dr2), .int pe, .int bk3]) := (hoff110 _ (pB_no (by decide))).trans hs50
                                    have hs113 : ct98 3 = .inr (7, [.int len93, .ref 4]) := (hoff110 _ (pB_no (by decide))).trans hs92
                                    have hk0 : ct98 0 = ct 0 := hk111.trans hk0
                                    have hs114 : ct98 0 = .inr (8, [.ref 1, .ref 2, .ref 3, .ref 5, .ref 6, .ref 9, .ref 10, .ref 17, .ref 21, .ref 34, .ref (99 + 3 * dr2), .int pe, .int bk3]) := hk0.trans hs1
                                    obtain ⟨x115, ex115⟩ : ∃ y : Int32, y = v8_89 + 1 := ⟨_, rfl⟩
                                    have tx115 : x115.toInt = v8_89.toInt + 1 := by rw [ex115]; exact z_add rfl (by decide : (1 : Int32).toInt = 1) (by omega) (by omega)
                                    refine dv_iinc (v := x115) (lv' := [(8, .int x115), (7, .ref (0 + 55 + 11 * bk3.toInt.toNat)), (6, .int 1), (0, .ref 0), (1, .int n), (2, .int l0), (3, .int l1), (4, .int l2), (5, .int l3)]) dX8_book_109 (k := 0) rfl (by rw [ex115]; rfl) (by decide) rfl ?_
                                    refine dv_goto (tgt := 89) dX8_book_112 (by decide) ?_
                                    exact ih89 x115 ct98 (by omega) (by first | omega | decide | assumption) hk0 hI
                              exact loop89 ((8 - (0 : Int32).toInt : Int).toNat + 1) (0 : Int32) ct (by omega) (by first | omega | decide | assumption) hk0 hI
                          · skip
                            obtain rfl := hr45
                            refine dv_istore (lv' := [(6, .int 0), (0, .ref 0), (1, .int n), (2, .int l0), (3, .int l1), (4, .int l2), (5, .int l3)]) dX8_book_68 (by decide) rfl ?_
                            refine dv_iload dX8_book_70 0 rfl ?_
                            refine dv_if_eq (tgt := 159) dX8_book_72 (by decide) (fun c116 => ?_) (fun c116 => ?_)
                            · skip
                              refine dv_aload_n dX8_book_159 rfl 1 rfl ?_
                              refine dv_get (ci := 8) (v := .ref 3) (C := RX8) (T := TX8) (N := 13) ⟨by decide, rfl⟩ hs1 rfl inG8 2 (by decide) mm_305 rfl dX8_book_160 ?_
                              refine GW.callV (n := 0) (As := []) (rest := []) (b := 3) (k_X7_clear l g pe ct  hI) sub_pT_pCl rfl rfl ⟨by decide, rfl⟩ hs15 (q := (RX7, TX7, 2)) rfl mm_403 mm_404 mm_405 mm_53 mm_406 (by decide +kernel) ⟨Nat.le_of_ble_eq_true rfl, Nat.le_of_ble_eq_true rfl⟩ rfl (Nat.le_of_ble_eq_true rfl) dX8_book_163 (Nat.zero_le _) (Nat.zero_le _) rfl (fun ct117 rrr118 hBr118 hoff119 => ?_)
                              obtain ⟨rfl, hI, hk120⟩ := hBr118
                              refine GW.eq (S2 := []) rfl rfl rfl ?_
                              have hs121 : ct117 0 = .inr (8, [.ref 1, .ref 2, .ref 3, .ref 5, .ref 6, .ref 9, .ref 10, .ref 17, .ref 21, .ref 34, .ref (99 + 3 * dr2), .int pe, .int bk3]) := (hoff119 _ (pT_no (by decide))).trans hs1
                              have hk0 : ct117 0 = ct 0 := hk120.trans hk0
                              have hs122 : ct117 0 = .inr (8, [.ref 1, .ref 2, .ref 3, .ref 5, .ref 6, .ref 9, .ref 10, .ref 17, .ref 21, .ref 34, .ref (99 + 3 * dr2), .int pe, .int bk3]) := hk0.trans hs1
                              refine dv_iload dX8_book_166 0 rfl ?_
                              refine dv_if_eq (tgt := 180) dX8_book_168 (by decide) (fun c123 => ?_) (fun c123 => ?_)
                              · skip
                                refine dv_bipush (v := (-2)) dX8_book_180 (by decide) ?_
                                have q124 : ((-2) : Int32).toInt = -2 := by decide
                                exact dv_iret dX8_book_182 rfl (by first | exact Nat.zero_le _ | decide) (by first | exact Nat.zero_le _ | decide) (by subst hK; exact ⟨(-2), rfl, (trivial), hI⟩)
                              · skip
                                exact absurd c123 (by decide)
                            · skip
                              exact absurd c116 (by decide)
                        · skip
                          exact absurd c43 (by decide)
                      · skip
                        obtain ⟨rfl, h125⟩ := hr39
                        have h125 : ¬ (0 ≤ l3.toInt ∧ l3.toInt ≤ 4) := h125
                        refine dv_if_ne (tgt := 63) dX8_book_58 (by decide) (fun c126 => ?_) (fun c126 => ?_)
                        · skip
                          exact absurd c126 (by decide)
                        · skip
                          refine dv_iconst (v := (-1)) dX8_book_61 (by decide) ?_
                          have q127 : ((-1) : Int32).toInt = -1 := by decide
                          exact dv_iret dX8_book_62 rfl (by first | exact Nat.zero_le _ | decide) (by first | exact Nat.zero_le _ | decide) (by subst hK; exact ⟨(-1), rfl, (trivial), hI⟩)
                  · skip
                    obtain ⟨rfl, h128⟩ := hr33
                    have h128 : ¬ (0 ≤ l2.toInt ∧ l2.toInt ≤ 4) := h128
                    refine dv_if_eq (tgt := 61) dX8_book_50 (by decide) (fun c129 => ?_) (fun c129 => ?_)
                    · skip
                      refine dv_iconst (v := (-1)) dX8_book_61 (by decide) ?_
                      have q130 : ((-1) : Int32).toInt = -1 := by decide
                      exact dv_iret dX8_book_62 rfl (by first | exact Nat.zero_le _ | decide) (by first | exact Nat.zero_le _ | decide) (by subst hK; exact ⟨(-1), rfl, (trivial), hI⟩)
                    · skip
                      exact absurd c129 (by decide)
              · skip
                obtain ⟨rfl, h131⟩ := hr27
                have h131 : ¬ (0 ≤ l1.toInt ∧ l1.toInt ≤ 4) := h131
                refine dv_if_eq (tgt := 61) dX8_book_42 (by decide) (fun c132 => ?_) (fun c132 => ?_)
                · skip
                  refine dv_iconst (v := (-1)) dX8_book_61 (by decide) ?_
                  have q133 : ((-1) : Int32).toInt = -1 := by decide
                  exact dv_iret dX8_book_62 rfl (by first | exact Nat.zero_le _ | decide) (by first | exact Nat.zero_le _ | decide) (by subst hK; exact ⟨(-1), rfl, (trivial), hI⟩)
                · skip
                  exact absurd c132 (by decide)
          · skip
            obtain ⟨rfl, h134⟩ := hr21
            have h134 : ¬ (0 ≤ l0.toInt ∧ l0.toInt ≤ 4) := h134
            refine dv_if_eq (tgt := 61) dX8_book_35 (by decide) (fun c135 => ?_) (fun c135 => ?_)
            · skip
              refine dv_iconst (v := (-1)) dX8_book_61 (by decide) ?_
              have q136 : ((-1) : Int32).toInt = -1 := by decide
              exact dv_iret dX8_book_62 rfl (by first | exact Nat.zero_le _ | decide) (by first | exact Nat.zero_le _ | decide) (by subst hK; exact ⟨(-1), rfl, (trivial), hI⟩)
            · skip
              exact absurd c135 (by decide)
        · skip
          have c19 : ¬ (n.toInt ≤ len16.toInt) := fun q => c19 ((z_le rfl rfl).mpr q)
          refine dv_iconst (v := (-1)) dX8_book_29 (by decide) ?_
          have q137 : ((-1) : Int32).toInt = -1 := by decide
          exact dv_iret dX8_book_30 rfl (by first | exact Nat.zero_le _ | decide) (by first | exact Nat.zero_le _ | decide) (by subst hK; exact ⟨(-1), rfl, (trivial), hI⟩)
  · skip
    obtain ⟨rfl, h138⟩ := hr8
    have h138 : ¬ ((1 : Int) ≤ n.toInt ∧ n.toInt ≤ (8 : Int)) := h138
    refine dv_if_eq (tgt := 29) dX8_book_7 (by decide) (fun c139 => ?_) (fun c139 => ?_)
    · skip
      refine dv_iconst (v := (-1)) dX8_book_29 (by decide) ?_
      have q140 : ((-1) : Int32).toInt = -1 := by decide
      exact dv_iret dX8_book_30 rfl (by first | exact Nat.zero_le _ | decide) (by first | exact Nat.zero_le _ | decide) (by subst hK; exact ⟨(-1), rfl, (trivial), hI⟩)
    · skip
      exact absurd c139 (by decide)

set_option maxHeartbeats 4000000 in
set_option maxRecDepth 100000 in
theorem k_X8_cut (l : Launch) (g : zG) (pe : Int32) (ct : Nat → va_E) (b : Int32) (i : Int32) (hI : Inv8 g idn pe ct) : DM l g pCl false yX8_cut cX8_cut 3 (some .boolean) ({ frames := 3, cells := 0, slots := 0, locals := 66 }) (fun (ct2 : Nat → va_E) (rr : Option Value) => ∃ (r : Int32), rr = some (.int r) ∧ ((True)) ∧ Inv8 g idn pe ct2) ct [.ref 0, .int b, .int i] := by
  refine DM.K (fun K hK => ?_)
  refine GW.met (own := RX8) (loc := [(0, .ref 0), (1, .int b), (2, .int i)]) (by decide) rfl rfl (Nat.le_of_ble_eq_true rfl) ?_
  have hpe0 := hI.1
  have rg_b := z_rng b
  have rg_i := z_rng i
  refine dv_aload_n dX8_cut_0 rfl 0 rfl ?_
  refine dv_iload_n dX8_cut_1 rfl 1 rfl ?_
  refine dv_iload_n dX8_cut_2 rfl 2 rfl ?_
  obtain ⟨bk4, dr3, h5, h6, h7, hs2⟩ := a8_0 hI
  refine GW.callV (n := 2) (As := [.int b, .int i]) (rest := []) (b := 0) (k_X8_isLive l g pe ct b i hI) (fun _ h => h) rfl rfl ⟨by decide, rfl⟩ hs2 (q := (RX8, TX8, 13)) rfl mm_422 mm_424 mm_5 mm_52 mm_425 (by decide +kernel) ⟨Nat.le_of_ble_eq_true rfl, Nat.le_of_ble_eq_true rfl⟩ rfl (Nat.le_of_ble_eq_true rfl) dX8_cut_3 (Nat.zero_le _) (Nat.zero_le _) rfl (fun ct1 rrr8 hBr8 hoff9 => ?_)
  obtain ⟨r8, rfl, hr8, rfl⟩ := hBr8
  refine GW.eq (S2 := [.int r8]) rfl rfl rfl ?_
  rcases hr8 with hr8 | hr8
  · skip
    obtain ⟨rfl, h10, h11⟩ := hr8
    have h10 : 0 ≤ b.toInt ∧ b.toInt ≤ 3 := h10
    have h11 : 0 ≤ i.toInt ∧ i.toInt ≤ 7 := h11
    refine dv_if_ne (tgt := 11) dX8_cut_6 (by decide) (fun c12 => ?_) (fun c12 => ?_)
    · skip
      refine dv_aload_n dX8_cut_11 rfl 0 rfl ?_
      refine dv_get (ci := 8) (v := .ref 5) (C := RX8) (T := TX8) (N := 13) ⟨by decide, rfl⟩ hs2 rfl inG8 3 (by decide) mm_306 rfl dX8_cut_12 ?_
      refine dv_iload_n dX8_cut_15 rfl 1 rfl ?_
      have hs13 := a8_5 hI
      refine dv_aldq 5 ⟨by decide, rfl⟩ hs13 rfl (z_in rfl (by omega) (by omega)) dX8_cut_16 (r := (0 + 55 + 11 * b.toInt.toNat)) (zF5_r (x := b) (by omega) (by omega)) ?_
      refine dv_dup dX8_cut_17 rfl ?_
      obtain ⟨lns15, liv16, shw17, h18, h19, h20, h21, hz22, h23, hs14⟩ := a8_40 (kc := (0 + 55 + 11 * b.toInt.toNat)) (by omega) hI
      have bhz22 := z_b01 hz22
      refine dv_get (ci := 2) (v := .int liv16) (C := RX2) (T := TX2) (N := 5) ⟨by omega, pCl_of (by omega)⟩ hs14 rfl inG2 1 (by decide) mm_287 rfl dX8_cut_18 ?_
      refine dv_iconst (v := 1) dX8_cut_21 (by decide) ?_
      refine dv_iload_n dX8_cut_22 rfl 2 rfl ?_
      refine dv_ishl dX8_cut_23 ?_
      refine dv_topi (fun x24 ex24 => ?_)
      have tx24 := z_shl1 (y := i) rfl (by omega) (k := 7) (by decide) (by omega)
      rw [← ex24] at tx24
      refine dv_iconst (v := (-1)) dX8_cut_24 (by decide) ?_
      refine dv_ixor dX8_cut_25 ?_
      refine dv_topi (fun x25 ex25 => ?_)
      refine dv_iand dX8_cut_26 ?_
      refine dv_topi (fun x26 ex26 => ?_)
      have tx26 := z_andl (x := liv16) (y := x25) rfl (by omega)
      rw [← ex26] at tx26
      refine dv_put (ci := 2) (v := .int x26) (ty := .int) (C := RX2) (T := TX2) (N := 5) ⟨by omega, pCl_of (by omega)⟩ hs14 rfl inG2 tyX2 tyX2_ok nmX2 1 (by decide) mm_287 rfl (by decide +kernel) (fun _ => rfl) (fun _ => rfl) (Nat.le_of_ble_eq_true rfl) dX8_cut_27 (en := .inr (2, [.int lns15, .int x26, .int shw17, .ref ((0 + 55 + 11 * b.toInt.toNat) + 1), .ref ((0 + 55 + 11 * b.toInt.toNat) + 2)])) rfl (fun ct27 ec28 => ?_)
      have hI : Inv8 g idn pe ct27 := by rw [ec28]; exact up8 hI (i8_40 (kc := (0 + 55 + 11 * b.toInt.toNat)) (by omega) ⟨(lns15 : Int32), (x26 : Int32), (shw17 : Int32), (by first | omega | decide), (by first | omega | decide), (by first | omega | decide), (by first | omega | decide), hz22, (by first | assumption | omega), rfl⟩)
      have hs29 : ct27 0 = .inr (8, [.ref 1, .ref 2, .ref 3, .ref 5, .ref 6, .ref 9, .ref 10, .ref 17, .ref 21, .ref 34, .ref (99 + 3 * dr3), .int pe, .int bk4]) := by rw [ec28, va_up_ne _ _ (by omega)]; exact hs2
      have hs30 : ct27 5 = .inl (g.2 5, 4, .inr (.inr (.inr (.inr (zF5 idn 0))))) := by rw [ec28, va_up_ne _ _ (by omega)]; exact hs13
      have hs31 : ct27 (0 + 55 + 11 * b.toInt.toNat) = .inr (2, [.int lns15, .int x26, .int shw17, .ref ((0 + 55 + 11 * b.toInt.toNat) + 1), .ref ((0 + 55 + 11 * b.toInt.toNat) + 2)]) := by rw [ec28]; exact va_up_self _ _ _
      refine dv_iconst (v := 1) dX8_cut_30 (by decide) ?_
      have q32 : (1 : Int32).toInt = 1 := by decide
      exact dv_zret dX8_cut_31 rfl rfl (by first | exact Nat.zero_le _ | decide) (by first | exact Nat.zero_le _ | decide) (by subst hK; exact ⟨1, rfl, (trivial), hI⟩)
    · skip
      exact absurd c12 (by decide)
  · skip
    obtain rfl := hr8
    refine dv_if_ne (tgt := 11) dX8_cut_6 (by decide) (fun c33 => ?_) (fun c33 => ?_)
    · skip
      exact absurd c33 (by decide)
    · skip
      refine dv_iconst (v := 0) dX8_cut_9 (by decide) ?_
      have q34 : (0 : Int32).toInt = 0 := by decide
      exact dv_zret dX8_cut_10 rfl rfl (by first | exact Nat.zero_le _ | decide) (by first | exact Nat.zero_le _ | decide) (by subst hK; exact ⟨0, rfl, (trivial), hI⟩)

set_option maxHeartbeats 4000000 in
set_option maxRecDepth 100000 in
theorem k_X8_swap (l : Launch) (g : zG) (pe : Int32) (ct : Nat → va_E) (b : Int32) (i : Int32) (j : Int32) (c0 : Int32) (hI : Inv8 g idn pe ct) : DM l g pCl false yX8_swap cX8_swap 5 (some .boolean) ({ frames := 3, cells := 0, slots := 0, locals := 69 }) (fun (ct2 : Nat → va_E) (rr : Option Value) => ∃ (r : Int32), rr = some (.int r) ∧ ((r = 1) ∨ (r = 0)) ∧ Inv8 g idn pe ct2) ct [.ref 0, .int b, .int i, .int j, .int c0] := by
  refine DM.K (fun K hK => ?_)
  refine GW.met (own := RX8) (loc := [(0, .ref 0), (1, .int b), (2, .int i), (3, .int j), (4, .int c0)]) (by decide) rfl rfl (Nat.le_of_ble_eq_true rfl) ?_
  have hpe0 := hI.1
  have rg_b := z_rng b
  have rg_i := z_rng i
  have rg_j := z_rng j
  have rg_c0 := z_rng c0
  refine dv_aload_n dX8_swap_0 rfl 0 rfl ?_
  refine dv_iload_n dX8_swap_1 rfl 1 rfl ?_
  refine dv_iload_n dX8_swap_2 rfl 2 rfl ?_
  obtain ⟨bk4, dr3, h5, h6, h7, hs2⟩ := a8_0 hI
  refine GW.callV (n := 2) (As := [.int b, .int i]) (rest := []) (b := 0) (k_X8_isLive l g pe ct b i hI) (fun _ h => h) rfl rfl ⟨by decide, rfl⟩ hs2 (q := (RX8, TX8, 13)) rfl mm_422 mm_424 mm_5 mm_52 mm_425 (by decide +kernel) ⟨Nat.le_of_ble_eq_true rfl, Nat.le_of_ble_eq_true rfl⟩ rfl (Nat.le_of_ble_eq_true rfl) dX8_swap_3 (Nat.zero_le _) (Nat.zero_le _) rfl (fun ct1 rrr8 hBr8 hoff9 => ?_)
  obtain ⟨r8, rfl, hr8, rfl⟩ := hBr8
  refine GW.eq (S2 := [.int r8]) rfl rfl rfl ?_
  rcases hr8 with hr8 | hr8
  · skip
    obtain ⟨rfl, h10, h11⟩ := hr8
    have h10 : 0 ≤ b.toInt ∧ b.toInt ≤ 3 := h10
    have h11 : 0 ≤ i.toInt ∧ i.toInt ≤ 7 := h11
    refine dv_if_eq (tgt := 31) dX8_swap_6 (by decide) (fun c12 => ?_) (fun c12 => ?_)
    · skip
      exact absurd c12 (by decide)
    · skip
      refine dv_aload_n dX8_swap_9 rfl 0 rfl ?_
      refine dv_iload_n dX8_swap_10 rfl 1 rfl ?_
      refine dv_iload_n dX8_swap_11 rfl 3 rfl ?_
      refine GW.callV (n := 2) (As := [.int b, .int j]) (rest := []) (b := 0) (k_X8_isLive l g pe ct b j hI) (fun _ h => h) rfl rfl ⟨by decide, rfl⟩ hs2 (q := (RX8, TX8, 13)) rfl mm_422 mm_424 mm_5 mm_52 mm_425 (by decide +kernel) ⟨Nat.le_of_ble_eq_true rfl, Nat.le_of_ble_eq_true rfl⟩ rfl (Nat.le_of_ble_eq_true rfl) dX8_swap_12 (Nat.zero_le _) (Nat.zero_le _) rfl (fun ct13 rrr14 hBr14 hoff15 => ?_)
      obtain ⟨r14, rfl, hr14, rfl⟩ := hBr14
      refine GW.eq (S2 := [.int r14]) rfl rfl rfl ?_
      rcases hr14 with hr14 | hr14
      · skip
        obtain ⟨rfl, h16, h17⟩ := hr14
        have h16 : 0 ≤ b.toInt ∧ b.toInt ≤ 3 := h16
        have h17 : 0 ≤ j.toInt ∧ j.toInt ≤ 7 := h17
        refine dv_if_eq (tgt := 31) dX8_swap_15 (by decide) (fun c18 => ?_) (fun c18 => ?_)
        · skip
          exact absurd c18 (by decide)
        · skip
          refine dv_iload_n dX8_swap_18 rfl 2 rfl ?_
          refine dv_iload_n dX8_swap_19 rfl 3 rfl ?_
          refine dv_icmp_eq (tgt := 31) dX8_swap_20 (by decide) (fun c19 => ?_) (fun c19 => ?_)
          · skip
            have c19 : i.toInt = j.toInt := (z_eq rfl rfl).mp c19
            refine dv_iconst (v := 0) dX8_swap_31 (by decide) ?_
            have q20 : (0 : Int32).toInt = 0 := by decide
            exact dv_zret dX8_swap_32 rfl rfl (by first | exact Nat.zero_le _ | decide) (by first | exact Nat.zero_le _ | decide) (by subst hK; exact ⟨0, rfl, (by first | exact Or.inl ⟨rfl, by omega⟩ | exact Or.inr ⟨rfl, by omega⟩ | exact Or.inl rfl | exact Or.inr rfl | exact Or.inl ⟨rfl, by omega, by omega⟩ | exact (z_01 (by omega) (by omega)).symm), hI⟩)
          · skip
            have c19 : ¬ (i.toInt = j.toInt) := fun q => c19 ((z_eq rfl rfl).mpr q)
            refine dv_iload dX8_swap_23 4 rfl ?_
            refine GW.callS (n := 1) (As := [.int c0]) (rest := []) (k_X8_isColumn l g pe ct c0 hI) (fun _ h => Bool.noConfusion h) rfl rfl mm_547 mm_401 mm_52 mm_402 (by decide +kernel) ⟨Nat.le_of_ble_eq_true rfl, Nat.le_of_ble_eq_true rfl⟩ rfl (Nat.le_of_ble_eq_true rfl) dX8_swap_25 (Nat.zero_le _) (Nat.zero_le _) rfl (fun ct21 rrr22 hBr22 hoff23 => ?_)
            obtain ⟨r22, rfl, hr22, rfl⟩ := hBr22
            refine GW.eq (S2 := [.int r22]) rfl rfl rfl ?_
            rcases hr22 with hr22 | hr22
            · skip
              obtain ⟨rfl, h24, h25⟩ := hr22
              have h24 : 0 ≤ c0.toInt := h24
              have h25 : c0.toInt ≤ 3 := h25
              refine dv_if_ne (tgt := 33) dX8_swap_28 (by decide) (fun c26 => ?_) (fun c26 => ?_)
              · skip
                refine dv_aload_n dX8_swap_33 rfl 0 rfl ?_
                refine dv_get (ci := 8) (v := .ref 5) (C := RX8) (T := TX8) (N := 13) ⟨by decide, rfl⟩ hs2 rfl inG8 3 (by decide) mm_306 rfl dX8_swap_34 ?_
                refine dv_iload_n dX8_swap_37 rfl 1 rfl ?_
                have hs27 := a8_5 hI
                refine dv_aldq 5 ⟨by decide, rfl⟩ hs27 rfl (z_in rfl (by omega) (by omega)) dX8_swap_38 (r := (0 + 55 + 11 * b.toInt.toNat)) (zF5_r (x := b) (by omega) (by omega)) ?_
                refine dv_iload_n dX8_swap_39 rfl 2 rfl ?_
                refine dv_iload dX8_swap_40 4 rfl ?_
                obtain ⟨lns30, liv31, shw32, h33, h34, h35, h36, hz37, h38, hs29⟩ := a8_40 (kc := (0 + 55 + 11 * b.toInt.toNat)) (by omega) hI
                have bhz37 := z_b01 hz37
                refine GW.callV (n := 2) (As := [.int i, .int c0]) (rest := []) (b := (0 + 55 + 11 * b.toInt.toNat)) (k_X2_nodeAt l g pe ct (0 + 55 + 11 * b.toInt.toNat) i c0 (by omega) hI) sub_pB_pCl rfl rfl ⟨by omega, pB_of (by omega)⟩ hs29 (q := (RX2, TX2, 5)) rfl mm_461 mm_462 mm_463 mm_60 mm_464 (by decide +kernel) ⟨Nat.le_of_ble_eq_true rfl, Nat.le_of_ble_eq_true rfl⟩ rfl (Nat.le_of_ble_eq_true rfl) dX8_swap_42 (Nat.zero_le _) (Nat.zero_le _) rfl (fun ct28 rrr39 hBr39 hoff40 => ?_)
                obtain ⟨r39, rfl, hr39, rfl⟩ := hBr39
                refine GW.eq (S2 := [.int r39]) rfl rfl rfl ?_
                refine dv_aload_n dX8_swap_45 rfl 0 rfl ?_
                refine dv_get (ci := 8) (v := .ref 5) (C := RX8) (T := TX8) (N := 13) ⟨by decide, rfl⟩ hs2 rfl inG8 3 (by decide) mm_306 rfl dX8_swap_46 ?_
                refine dv_iload_n dX8_swap_49 rfl 1 rfl ?_
                refine dv_aldq 5 ⟨by decide, rfl⟩ hs27 rfl (z_in rfl (by omega) (by omega)) dX8_swap_50 (r := (0 + 55 + 11 * b.toInt.toNat)) (zF5_r (x := b) (by omega) (by omega)) ?_
                refine dv_iload_n dX8_swap_51 rfl 3 rfl ?_
                refine dv_iload dX8_swap_52 4 rfl ?_
                refine GW.callV (n := 2) (As := [.int j, .int c0]) (rest := [.int r39]) (b := (0 + 55 + 11 * b.toInt.toNat)) (k_X2_nodeAt l g pe ct (0 + 55 + 11 * b.toInt.toNat) j c0 (by omega) hI) sub_pB_pCl rfl rfl ⟨by omega, pB_of (by omega)⟩ hs29 (q := (RX2, TX2, 5)) rfl mm_461 mm_462 mm_463 mm_60 mm_464 (by decide +kernel) ⟨Nat.le_of_ble_eq_true rfl, Nat.le_of_ble_eq_true rfl⟩ rfl (Nat.le_of_ble_eq_true rfl) dX8_swap_54 (Nat.zero_le _) (Nat.zero_le _) rfl (fun ct41 rrr42 hBr42 hoff43 => ?_)
                obtain ⟨r42, rfl, hr42, rfl⟩ := hBr42
                refine GW.eq (S2 := [.int r42, .int r39]) rfl rfl rfl ?_
                refine dv_icmp_ne (tgt := 62) dX8_swap_57 (by decide) (fun c44 => ?_) (fun c44 => ?_)
                · skip
                  have c44 : ¬ (r39.toInt = r42.toInt) := fun q => c44 ((z_eq rfl rfl).mpr q)
                  refine dv_aload_n dX8_swap_62 rfl 0 rfl ?_
                  refine dv_get (ci := 8) (v := .ref 5) (C := RX8) (T := TX8) (N := 13) ⟨by decide, rfl⟩ hs2 rfl inG8 3 (by decide) mm_306 rfl dX8_swap_63 ?_
                  refine dv_iload_n dX8_swap_66 rfl 1 rfl ?_
                  refine dv_aldq 5 ⟨by decide, rfl⟩ hs27 rfl (z_in rfl (by omega) (by omega)) dX8_swap_67 (r := (0 + 55 + 11 * b.toInt.toNat)) (zF5_r (x := b) (by omega) (by omega)) ?_
                  refine dv_iload_n dX8_swap_68 rfl 2 rfl ?_
                  refine dv_iload_n dX8_swap_69 rfl 3 rfl ?_
                  refine dv_iload dX8_swap_70 4 rfl ?_
                  refine GW.callV (n := 3) (As := [.int i, .int j, .int c0]) (rest := []) (b := (0 + 55 + 11 * b.toInt.toNat)) (k_X2_exchange l g pe ct (0 + 55 + 11 * b.toInt.toNat) i j c0 (by omega) hI) sub_pB_pCl rfl rfl ⟨by omega, pB_of (by omega)⟩ hs29 (q := (RX2, TX2, 5)) rfl mm_652 mm_653 mm_654 mm_60 mm_655 (by decide +kernel) ⟨Nat.le_of_ble_eq_true rfl, Nat.le_of_ble_eq_true rfl⟩ rfl (Nat.le_of_ble_eq_true rfl) dX8_swap_72 (Nat.zero_le _) (Nat.zero_le _) rfl (fun ct45 rrr46 hBr46 hoff47 => ?_)
                  obtain ⟨rfl, hI⟩ := hBr46
                  refine GW.eq (S2 := []) rfl rfl rfl ?_
                  have hs48 : ct45 0 = .inr (8, [.ref 1, .ref 2, .ref 3, .ref 5, .ref 6, .ref 9, .ref 10, .ref 17, .ref 21, .ref 34, .ref (99 + 3 * dr3), .int pe, .int bk4]) := (hoff47 _ (pB_no (by decide))).trans hs2
                  have hs49 : ct45 5 = .inl (g.2 5, 4, .inr (.inr (.inr (.inr (zF5 idn 0))))) := (hoff47 _ (pB_no (by decide))).trans hs27
                  refine dv_iconst (v := 1) dX8_swap_75 (by decide) ?_
                  have q50 : (1 : Int32).toInt = 1 := by decide
                  exact dv_zret dX8_swap_76 rfl rfl (by first | exact Nat.zero_le _ | decide) (by first | exact Nat.zero_le _ | decide) (by subst hK; exact ⟨1, rfl, (by first | exact Or.inl ⟨rfl, by omega⟩ | exact Or.inr ⟨rfl, by omega⟩ | exact Or.inl rfl | exact Or.inr rfl | exact Or.inl ⟨rfl, by omega, by omega⟩ | exact (z_01 (by omega) (by omega)).symm), hI⟩)
                · skip
                  have c44 : r39.toInt = r42.toInt := (z_eq rfl rfl).mp c44
                  refine dv_iconst (v := 0) dX8_swap_60 (by decide) ?_
                  have q51 : (0 : Int32).toInt = 0 := by decide
                  exact dv_zret dX8_swap_61 rfl rfl (by first | exact Nat.zero_le _ | decide) (by first | exact Nat.zero_le _ | decide) (by subst hK; exact ⟨0, rfl, (by first | exact Or.inl ⟨rfl, by omega⟩ | exact Or.inr ⟨rfl, by omega⟩ | exact Or.inl rfl | exact Or.inr rfl | exact Or.inl ⟨rfl, by omega, by omega⟩ | exact (z_01 (by omega) (by omega)).symm), hI⟩)
              · skip
                exact absurd c26 (by decide)
            · skip
              obtain ⟨rfl, h52⟩ := hr22
              have h52 : ¬ (0 ≤ c0.toInt ∧ c0.toInt ≤ 3) := h52
              refine dv_if_ne (tgt := 33) dX8_swap_28 (by decide) (fun c53 => ?_) (fun c53 => ?_)
              · skip
                exact absurd c53 (by decide)
              · skip
                refine dv_iconst (v := 0) dX8_swap_31 (by decide) ?_
                have q54 : (0 : Int32).toInt = 0 := by decide
                exact dv_zret dX8_swap_32 rfl rfl (by first | exact Nat.zero_le _ | decide) (by first | exact Nat.zero_le _ | decide) (by subst hK; exact ⟨0, rfl, (by first | exact Or.inl ⟨rfl, by omega⟩ | exact Or.inr ⟨rfl, by omega⟩ | exact Or.inl rfl | exact Or.inr rfl | exact Or.inl ⟨rfl, by omega, by omega⟩ | exact (z_01 (by omega) (by omega)).symm), hI⟩)
      · skip
        obtain rfl := hr14
        refine dv_if_eq (tgt := 31) dX8_swap_15 (by decide) (fun c55 => ?_) (fun c55 => ?_)
        · skip
          refine dv_iconst (v := 0) dX8_swap_31 (by decide) ?_
          have q56 : (0 : Int32).toInt = 0 := by decide
          exact dv_zret dX8_swap_32 rfl rfl (by first | exact Nat.zero_le _ | decide) (by first | exact Nat.zero_le _ | decide) (by subst hK; exact ⟨0, rfl, (by first | exact Or.inl ⟨rfl, by omega⟩ | exact Or.inr ⟨rfl, by omega⟩ | exact Or.inl rfl | exact Or.inr rfl | exact Or.inl ⟨rfl, by omega, by omega⟩ | exact (z_01 (by omega) (by omega)).symm), hI⟩)
        · skip
          exact absurd c55 (by decide)
  · skip
    obtain rfl := hr8
    refine dv_if_eq (tgt := 31) dX8_swap_6 (by decide) (fun c57 => ?_) (fun c57 => ?_)
    · skip
      refine dv_iconst (v := 0) dX8_swap_31 (by decide) ?_
      have q58 : (0 : Int32).toInt = 0 := by decide
      exact dv_zret dX8_swap_32 rfl rfl (by first | exact Nat.zero_le _ | decide) (by first | exact Nat.zero_le _ | decide) (by subst hK; exact ⟨0, rfl, (by first | exact Or.inl ⟨rfl, by omega⟩ | exact Or.inr ⟨rfl, by omega⟩ | exact Or.inl rfl | exact Or.inr rfl | exact Or.inl ⟨rfl, by omega, by omega⟩ | exact (z_01 (by omega) (by omega)).symm), hI⟩)
    · skip
      exact absurd c57 (by decide)

set_option maxHeartbeats 4000000 in
set_option maxRecDepth 100000 in
theorem k_X8_show (l : Launch) (g : zG) (pe : Int32) (ct : Nat → va_E) (b : Int32) (is : Int32) (hl_is : 0 ≤ is.toInt ∧ is.toInt ≤ 1) (hI : Inv8 g idn pe ct) : DM l g pCl false yX8_show cX8_show 3 (some .boolean) ({ frames := 1, cells := 0, slots := 0, locals := 21 }) (fun (ct2 : Nat → va_E) (rr : Option Value) => ∃ (r : Int32), rr = some (.int r) ∧ ((True)) ∧ Inv8 g idn pe ct2) ct [.ref 0, .int b, .int is] := by
  refine DM.K (fun K hK => ?_)
  refine GW.met (own := RX8) (loc := [(0, .ref 0), (1, .int b), (2, .int is)]) (by decide) rfl rfl (Nat.le_of_ble_eq_true rfl) ?_
  have hpe0 := hI.1
  have rg_b := z_rng b
  refine dv_aload_n dX8_show_0 rfl 0 rfl ?_
  refine dv_iload_n dX8_show_1 rfl 1 rfl ?_
  obtain ⟨bk4, dr3, h5, h6, h7, hs2⟩ := a8_0 hI
  refine GW.callV (n := 1) (As := [.int b]) (rest := []) (b := 0) (k_X8_isBook l g pe ct b hI) (fun _ h => h) rfl rfl ⟨by decide, rfl⟩ hs2 (q := (RX8, TX8, 13)) rfl mm_415 mm_417 mm_4 mm_52 mm_418 (by decide +kernel) ⟨Nat.le_of_ble_eq_true rfl, Nat.le_of_ble_eq_true rfl⟩ rfl (Nat.le_of_ble_eq_true rfl) dX8_show_2 (Nat.zero_le _) (Nat.zero_le _) rfl (fun ct1 rrr8 hBr8 hoff9 => ?_)
  obtain ⟨r8, rfl, hr8, rfl⟩ := hBr8
  refine GW.eq (S2 := [.int r8]) rfl rfl rfl ?_
  rcases hr8 with hr8 | hr8
  · skip
    obtain ⟨rfl, h10, h11⟩ := hr8
    have h10 : 0 ≤ b.toInt := h10
    have h11 : b.toInt ≤ 3 := h11
    refine dv_if_eq (tgt := 21) dX8_show_5 (by decide) (fun c12 => ?_) (fun c12 => ?_)
    · skip
      exact absurd c12 (by decide)
    · skip
      refine dv_aload_n dX8_show_8 rfl 0 rfl ?_
      refine dv_get (ci := 8) (v := .ref 5) (C := RX8) (T := TX8) (N := 13) ⟨by decide, rfl⟩ hs2 rfl inG8 3 (by decide) mm_306 rfl dX8_show_9 ?_
      refine dv_iload_n dX8_show_12 rfl 1 rfl ?_
      have hs13 := a8_5 hI
      refine dv_aldq 5 ⟨by decide, rfl⟩ hs13 rfl (z_in rfl (by omega) (by omega)) dX8_show_13 (r := (0 + 55 + 11 * b.toInt.toNat)) (zF5_r (x := b) (by omega) (by omega)) ?_
      obtain ⟨lns15, liv16, shw17, h18, h19, h20, h21, hz22, h23, hs14⟩ := a8_40 (kc := (0 + 55 + 11 * b.toInt.toNat)) (by omega) hI
      have bhz22 := z_b01 hz22
      refine dv_get (ci := 2) (v := .int shw17) (C := RX2) (T := TX2) (N := 5) ⟨by omega, pCl_of (by omega)⟩ hs14 rfl inG2 2 (by decide) mm_289 rfl dX8_show_14 ?_
      refine dv_iload_n dX8_show_17 rfl 2 rfl ?_
      refine dv_icmp_ne (tgt := 23) dX8_show_18 (by decide) (fun c24 => ?_) (fun c24 => ?_)
      · skip
        have c24 : ¬ (shw17.toInt = is.toInt) := fun q => c24 ((z_eq rfl rfl).mpr q)
        refine dv_aload_n dX8_show_23 rfl 0 rfl ?_
        refine dv_get (ci := 8) (v := .ref 5) (C := RX8) (T := TX8) (N := 13) ⟨by decide, rfl⟩ hs2 rfl inG8 3 (by decide) mm_306 rfl dX8_show_24 ?_
        refine dv_iload_n dX8_show_27 rfl 1 rfl ?_
        refine dv_aldq 5 ⟨by decide, rfl⟩ hs13 rfl (z_in rfl (by omega) (by omega)) dX8_show_28 (r := (0 + 55 + 11 * b.toInt.toNat)) (zF5_r (x := b) (by omega) (by omega)) ?_
        refine dv_iload_n dX8_show_29 rfl 2 rfl ?_
        refine dv_put (ci := 2) (v := .int is) (ty := .boolean) (C := RX2) (T := TX2) (N := 5) ⟨by omega, pCl_of (by omega)⟩ hs14 rfl inG2 tyX2 tyX2_ok nmX2 2 (by decide) mm_289 rfl (by decide +kernel) (fun _ => by rcases (z_01 (x := is) (by omega) (by omega)) with q | q <;> rw [q] <;> rfl) (fun _ => by rcases (z_01 (x := is) (by omega) (by omega)) with q | q <;> rw [q] <;> rfl) (Nat.le_of_ble_eq_true rfl) dX8_show_30 (en := .inr (2, [.int lns15, .int liv16, .int is, .ref ((0 + 55 + 11 * b.toInt.toNat) + 1), .ref ((0 + 55 + 11 * b.toInt.toNat) + 2)])) rfl (fun ct25 ec26 => ?_)
        have hI : Inv8 g idn pe ct25 := by rw [ec26]; exact up8 hI (i8_40 (kc := (0 + 55 + 11 * b.toInt.toNat)) (by omega) ⟨(lns15 : Int32), (liv16 : Int32), (is : Int32), (by first | omega | decide), (by first | omega | decide), (by first | omega | decide), (by first | omega | decide), (z_01 (x := is) (by omega) (by omega)), (by first | assumption | omega), rfl⟩)
        have hs27 : ct25 0 = .inr (8, [.ref 1, .ref 2, .ref 3, .ref 5, .ref 6, .ref 9, .ref 10, .ref 17, .ref 21, .ref 34, .ref (99 + 3 * dr3), .int pe, .int bk4]) := by rw [ec26, va_up_ne _ _ (by omega)]; exact hs2
        have hs28 : ct25 5 = .inl (g.2 5, 4, .inr (.inr (.inr (.inr (zF5 idn 0))))) := by rw [ec26, va_up_ne _ _ (by omega)]; exact hs13
        have hs29 : ct25 (0 + 55 + 11 * b.toInt.toNat) = .inr (2, [.int lns15, .int liv16, .int is, .ref ((0 + 55 + 11 * b.toInt.toNat) + 1), .ref ((0 + 55 + 11 * b.toInt.toNat) + 2)]) := by rw [ec26]; exact va_up_self _ _ _
        refine dv_iconst (v := 1) dX8_show_33 (by decide) ?_
        have q30 : (1 : Int32).toInt = 1 := by decide
        exact dv_zret dX8_show_34 rfl rfl (by first | exact Nat.zero_le _ | decide) (by first | exact Nat.zero_le _ | decide) (by subst hK; exact ⟨1, rfl, (trivial), hI⟩)
      · skip
        have c24 : shw17.toInt = is.toInt := (z_eq rfl rfl).mp c24
        refine dv_iconst (v := 0) dX8_show_21 (by decide) ?_
        have q31 : (0 : Int32).toInt = 0 := by decide
        exact dv_zret dX8_show_22 rfl rfl (by first | exact Nat.zero_le _ | decide) (by first | exact Nat.zero_le _ | decide) (by subst hK; exact ⟨0, rfl, (trivial), hI⟩)
  · skip
    obtain rfl := hr8
    refine dv_if_eq (tgt := 21) dX8_show_5 (by decide) (fun c32 => ?_) (fun c32 => ?_)
    · skip
      refine dv_iconst (v := 0) dX8_show_21 (by decide) ?_
      have q33 : (0 : Int32).toInt = 0 := by decide
      exact dv_zret dX8_show_22 rfl rfl (by first | exact Nat.zero_le _ | decide) (by first | exact Nat.zero_le _ | decide) (by subst hK; exact ⟨0, rfl, (trivial), hI⟩)
    · skip
      exact absurd c32 (by decide)

set_option maxHeartbeats 4000000 in
set_option maxRecDepth 100000 in
theorem k_X8_link (l : Launch) (g : zG) (pe : Int32) (ct : Nat → va_E) (a0 : Int32) (i : Int32) (b : Int32) (j : Int32) (hI : Inv8 g idn pe ct) : DM l g pCl false yX8_link cX8_link 5 (some .int) ({ frames := 2, cells := 0, slots := 0, locals := 44 }) (fun (ct2 : Nat → va_E) (rr : Option Value) => ∃ (r : Int32), rr = some (.int r) ∧ ((True)) ∧ Inv8 g idn pe ct2) ct [.ref 0, .int a0, .int i, .int b, .int j] := by
  refine DM.K (fun K hK => ?_)
  refine GW.met (own := RX8) (loc := [(0, .ref 0), (1, .int a0), (2, .int i), (3, .int b), (4, .int j)]) (by decide) rfl rfl (Nat.le_of_ble_eq_true rfl) ?_
  have hpe0 := hI.1
  have rg_a0 := z_rng a0
  have rg_i := z_rng i
  have rg_b := z_rng b
  have rg_j := z_rng j
  refine dv_aload_n dX8_link_0 rfl 0 rfl ?_
  refine dv_iload_n dX8_link_1 rfl 1 rfl ?_
  refine dv_iload_n dX8_link_2 rfl 2 rfl ?_
  obtain ⟨bk4, dr3, h5, h6, h7, hs2⟩ := a8_0 hI
  refine GW.callV (n := 2) (As := [.int a0, .int i]) (rest := []) (b := 0) (k_X8_isLine l g pe ct a0 i hI) (fun _ h => h) rfl rfl ⟨by decide, rfl⟩ hs2 (q := (RX8, TX8, 13)) rfl mm_411 mm_413 mm_3 mm_52 mm_414 (by decide +kernel) ⟨Nat.le_of_ble_eq_true rfl, Nat.le_of_ble_eq_true rfl⟩ rfl (Nat.le_of_ble_eq_true rfl) dX8_link_3 (Nat.zero_le _) (Nat.zero_le _) rfl (fun ct1 rrr8 hBr8 hoff9 => ?_)
  obtain ⟨r8, rfl, hr8, rfl⟩ := hBr8
  refine GW.eq (S2 := [.int r8]) rfl rfl rfl ?_
  rcases hr8 with hr8 | hr8
  · skip
    obtain ⟨rfl, h10, h11⟩ := hr8
    have h10 : 0 ≤ a0.toInt ∧ a0.toInt ≤ 3 := h10
    have h11 : 0 ≤ i.toInt ∧ i.toInt ≤ 7 := h11
    refine dv_if_eq (tgt := 36) dX8_link_6 (by decide) (fun c12 => ?_) (fun c12 => ?_)
    · skip
      exact absurd c12 (by decide)
    · skip
      refine dv_aload_n dX8_link_9 rfl 0 rfl ?_
      refine dv_iload_n dX8_link_10 rfl 3 rfl ?_
      refine dv_iload dX8_link_11 4 rfl ?_
      refine GW.callV (n := 2) (As := [.int b, .int j]) (rest := []) (b := 0) (k_X8_isLine l g pe ct b j hI) (fun _ h => h) rfl rfl ⟨by decide, rfl⟩ hs2 (q := (RX8, TX8, 13)) rfl mm_411 mm_413 mm_3 mm_52 mm_414 (by decide +kernel) ⟨Nat.le_of_ble_eq_true rfl, Nat.le_of_ble_eq_true rfl⟩ rfl (Nat.le_of_ble_eq_true rfl) dX8_link_13 (Nat.zero_le _) (Nat.zero_le _) rfl (fun ct13 rrr14 hBr14 hoff15 => ?_)
      obtain ⟨r14, rfl, hr14, rfl⟩ := hBr14
      refine GW.eq (S2 := [.int r14]) rfl rfl rfl ?_
      rcases hr14 with hr14 | hr14
      · skip
        obtain ⟨rfl, h16, h17⟩ := hr14
        have h16 : 0 ≤ b.toInt ∧ b.toInt ≤ 3 := h16
        have h17 : 0 ≤ j.toInt ∧ j.toInt ≤ 7 := h17
        refine dv_if_eq (tgt := 36) dX8_link_16 (by decide) (fun c18 => ?_) (fun c18 => ?_)
        · skip
          exact absurd c18 (by decide)
        · skip
          refine dv_iload_n dX8_link_19 rfl 1 rfl ?_
          refine dv_iload_n dX8_link_20 rfl 3 rfl ?_
          refine dv_icmp_eq (tgt := 36) dX8_link_21 (by decide) (fun c19 => ?_) (fun c19 => ?_)
          · skip
            have c19 : a0.toInt = b.toInt := (z_eq rfl rfl).mp c19
            refine dv_iconst (v := (-1)) dX8_link_36 (by decide) ?_
            have q20 : ((-1) : Int32).toInt = -1 := by decide
            exact dv_iret dX8_link_37 rfl (by first | exact Nat.zero_le _ | decide) (by first | exact Nat.zero_le _ | decide) (by subst hK; exact ⟨(-1), rfl, (trivial), hI⟩)
          · skip
            have c19 : ¬ (a0.toInt = b.toInt) := fun q => c19 ((z_eq rfl rfl).mpr q)
            refine dv_aload_n dX8_link_24 rfl 0 rfl ?_
            refine dv_get (ci := 8) (v := .ref 6) (C := RX8) (T := TX8) (N := 13) ⟨by decide, rfl⟩ hs2 rfl inG8 4 (by decide) mm_307 rfl dX8_link_25 ?_
            obtain ⟨num22, h23, h24, hs21⟩ := a8_6 hI
            refine dv_get (ci := 5) (v := .int num22) (C := RX5) (T := TX5) (N := 3) ⟨by decide, rfl⟩ hs21 rfl inG5 0 (by decide) mm_97 rfl dX8_link_28 ?_
            refine dv_bipush (v := 40) dX8_link_31 (by decide) ?_
            refine dv_icmp_lt (tgt := 38) dX8_link_33 (by decide) (fun c25 => ?_) (fun c25 => ?_)
            · skip
              have c25 : num22.toInt < 40 := (z_lt rfl (by decide : (40 : Int32).toInt = 40)).mp c25
              refine dv_aload_n dX8_link_38 rfl 0 rfl ?_
              refine dv_get (ci := 8) (v := .ref 6) (C := RX8) (T := TX8) (N := 13) ⟨by decide, rfl⟩ hs2 rfl inG8 4 (by decide) mm_307 rfl dX8_link_39 ?_
              refine dv_iload_n dX8_link_42 rfl 1 rfl ?_
              refine dv_iload_n dX8_link_43 rfl 2 rfl ?_
              refine GW.callS (n := 2) (As := [.int a0, .int i]) (rest := [.ref 6]) (k_X8_place l g pe ct a0 i hI) (fun _ h => Bool.noConfusion h) rfl rfl mm_442 mm_443 mm_52 mm_444 (by decide +kernel) ⟨Nat.le_of_ble_eq_true rfl, Nat.le_of_ble_eq_true rfl⟩ rfl (Nat.le_of_ble_eq_true rfl) dX8_link_44 (Nat.zero_le _) (Nat.zero_le _) rfl (fun ct26 rrr27 hBr27 hoff28 => ?_)
              obtain ⟨r27, rfl, hr27, rfl⟩ := hBr27
              refine GW.eq (S2 := [.int r27, .ref 6]) rfl rfl rfl ?_
              refine dv_iload_n dX8_link_47 rfl 3 rfl ?_
              refine dv_iload dX8_link_48 4 rfl ?_
              refine GW.callS (n := 2) (As := [.int b, .int j]) (rest := [.int r27, .ref 6]) (k_X8_place l g pe ct b j hI) (fun _ h => Bool.noConfusion h) rfl rfl mm_442 mm_443 mm_52 mm_444 (by decide +kernel) ⟨Nat.le_of_ble_eq_true rfl, Nat.le_of_ble_eq_true rfl⟩ rfl (Nat.le_of_ble_eq_true rfl) dX8_link_50 (Nat.zero_le _) (Nat.zero_le _) rfl (fun ct29 rrr30 hBr30 hoff31 => ?_)
              obtain ⟨r30, rfl, hr30, rfl⟩ := hBr30
              refine GW.eq (S2 := [.int r30, .int r27, .ref 6]) rfl rfl rfl ?_
              refine GW.callV (n := 2) (As := [.int r27, .int r30]) (rest := []) (b := 6) (k_X5_add l g pe ct r27 r30 hI) sub_pL_pCl rfl rfl ⟨by decide, rfl⟩ hs21 (q := (RX5, TX5, 3)) rfl mm_666 mm_667 mm_668 mm_54 mm_669 (by decide +kernel) ⟨Nat.le_of_ble_eq_true rfl, Nat.le_of_ble_eq_true rfl⟩ rfl (Nat.le_of_ble_eq_true rfl) dX8_link_53 (Nat.zero_le _) (Nat.zero_le _) rfl (fun ct32 rrr33 hBr33 hoff34 => ?_)
              obtain ⟨rfl, hI⟩ := hBr33
              refine GW.eq (S2 := []) rfl rfl rfl ?_
              have hs35 : ct32 0 = .inr (8, [.ref 1, .ref 2, .ref 3, .ref 5, .ref 6, .ref 9, .ref 10, .ref 17, .ref 21, .ref 34, .ref (99 + 3 * dr3), .int pe, .int bk4]) := (hoff34 _ (pL_no (by decide))).trans hs2
              refine dv_aload_n dX8_link_56 rfl 0 rfl ?_
              refine dv_get (ci := 8) (v := .ref 6) (C := RX8) (T := TX8) (N := 13) ⟨by decide, rfl⟩ hs35 rfl inG8 4 (by decide) mm_307 rfl dX8_link_57 ?_
              obtain ⟨num37, h38, h39, hs36⟩ := a8_6 hI
              refine dv_get (ci := 5) (v := .int num37) (C := RX5) (T := TX5) (N := 3) ⟨by decide, rfl⟩ hs36 rfl inG5 0 (by decide) mm_97 rfl dX8_link_60 ?_
              exact dv_iret dX8_link_63 rfl (by first | exact Nat.zero_le _ | decide) (by first | exact Nat.zero_le _ | decide) (by subst hK; exact ⟨num37, rfl, (trivial), hI⟩)
            · skip
              have c25 : ¬ (num22.toInt < 40) := fun q => c25 ((z_lt rfl (by decide : (40 : Int32).toInt = 40)).mpr q)
              refine dv_iconst (v := (-1)) dX8_link_36 (by decide) ?_
              have q40 : ((-1) : Int32).toInt = -1 := by decide
              exact dv_iret dX8_link_37 rfl (by first | exact Nat.zero_le _ | decide) (by first | exact Nat.zero_le _ | decide) (by subst hK; exact ⟨(-1), rfl, (trivial), hI⟩)
      · skip
        obtain rfl := hr14
        refine dv_if_eq (tgt := 36) dX8_link_16 (by decide) (fun c41 => ?_) (fun c41 => ?_)
        · skip
          refine dv_iconst (v := (-1)) dX8_link_36 (by decide) ?_
          have q42 : ((-1) : Int32).toInt = -1 := by decide
          exact dv_iret dX8_link_37 rfl (by first | exact Nat.zero_le _ | decide) (by first | exact Nat.zero_le _ | decide) (by subst hK; exact ⟨(-1), rfl, (trivial), hI⟩)
        · skip
          exact absurd c41 (by decide)
  · skip
    obtain rfl := hr8
    refine dv_if_eq (tgt := 36) dX8_link_6 (by decide) (fun c43 => ?_) (fun c43 => ?_)
    · skip
      refine dv_iconst (v := (-1)) dX8_link_36 (by decide) ?_
      have q44 : ((-1) : Int32).toInt = -1 := by decide
      exact dv_iret dX8_link_37 rfl (by first | exact Nat.zero_le _ | decide) (by first | exact Nat.zero_le _ | decide) (by subst hK; exact ⟨(-1), rfl, (trivial), hI⟩)
    · skip
      exact absurd c43 (by decide)
