theorem z_far {x c : Int32} (hx : x.toInt = 6 ∨ x.toInt ≤ -2 ∨ 512 ≤ x.toInt) (hc : 10 ≤ c.toInt ∧ c.toInt ≤ 30) : ¬ (0 ≤ (x - c).toInt ∧ (x - c).toInt ≤ 16) := by
  have h := z_rng x
  have e : ((2 ^ 32 : Nat) : Int) = 4294967296 := by decide
  rw [Int32.toInt_sub, Int.bmod_def, e]
  split <;> omega

set_option maxHeartbeats 4000000 in
set_option maxRecDepth 100000 in
theorem r_upper1 (l : Launch) (g : zG) (pe : Int32) (ct : Nat → va_E) (far : Int32) (hI : Inv8 g idn pe ct) (hfar : far.toInt ≤ -2 ∨ 512 ≤ far.toInt) : DM l g pCl false yX8_upper cX8_upper 4 (some .boolean) ({ frames := 1, cells := 0, slots := 0, locals := 20 }) (fun (ct2 : Nat → va_E) (rr : Option Value) => ∃ (r : Int32), rr = some (.int r) ∧ (((r = (0 : Int32)))) ∧ ct = ct2) ct [.ref 0, .int far, .int 0, .int 16] := by
  refine DM.K (fun K hK => ?_)
  refine GW.met (own := RX8) (loc := [(0, .ref 0), (1, .int far), (2, .int 0), (3, .int 16)]) (by decide) rfl rfl (Nat.le_of_ble_eq_true rfl) ?_
  have hpe0 := hI.1
  have rg_far := z_rng far
  refine dv_iload_n dX8_upper_0 rfl 1 rfl ?_
  refine GW.callS (n := 1) (As := [.int far]) (rest := []) (k_X8_isColumn l g pe ct far hI) (fun _ h => Bool.noConfusion h) rfl rfl mm_547 mm_401 mm_52 mm_402 (by decide +kernel) ⟨Nat.le_of_ble_eq_true rfl, Nat.le_of_ble_eq_true rfl⟩ rfl (Nat.le_of_ble_eq_true rfl) dX8_upper_1 (Nat.zero_le _) (Nat.zero_le _) rfl (fun ct1 rrr2 hBr2 hoff3 => ?_)
  obtain ⟨r2, rfl, hr2, rfl⟩ := hBr2
  refine GW.eq (S2 := [.int r2]) rfl rfl rfl ?_
  rcases hr2 with hr2 | hr2
  · skip
    obtain ⟨rfl, h4, h5⟩ := hr2
    have h4 : 0 ≤ far.toInt := h4
    have h5 : far.toInt ≤ 3 := h5
    exfalso
    omega
  · skip
    obtain ⟨rfl, h6⟩ := hr2
    have h6 : ¬ (0 ≤ far.toInt ∧ far.toInt ≤ 3) := h6
    refine dv_if_eq (tgt := 17) dX8_upper_4 (by decide) (fun c7 => ?_) (fun c7 => ?_)
    · skip
      refine dv_iconst (v := 0) dX8_upper_17 (by decide) ?_
      have q8 : (0 : Int32).toInt = 0 := by decide
      exact dv_zret dX8_upper_18 rfl rfl (by first | exact Nat.zero_le _ | decide) (by first | exact Nat.zero_le _ | decide) (by subst hK; exact ⟨0, rfl, (rfl), rfl⟩)
    · skip
      exact absurd c7 (by decide)

set_option maxHeartbeats 4000000 in
set_option maxRecDepth 100000 in
theorem r_upper2 (l : Launch) (g : zG) (pe : Int32) (ct : Nat → va_E) (hI : Inv8 g idn pe ct) : DM l g pCl false yX8_upper cX8_upper 4 (some .boolean) ({ frames := 1, cells := 0, slots := 0, locals := 22 }) (fun (ct2 : Nat → va_E) (rr : Option Value) => ∃ (r : Int32), rr = some (.int r) ∧ (((r = (0 : Int32)))) ∧ ct = ct2) ct [.ref 0, .int 0, .int 16, .int 16] := by
  refine DM.K (fun K hK => ?_)
  refine GW.met (own := RX8) (loc := [(0, .ref 0), (1, .int 0), (2, .int 16), (3, .int 16)]) (by decide) rfl rfl (Nat.le_of_ble_eq_true rfl) ?_
  have hpe0 := hI.1
  refine dv_iload_n dX8_upper_0 rfl 1 rfl ?_
  refine GW.callS (n := 1) (As := [.int 0]) (rest := []) (k_X8_isColumn l g pe ct (0 : Int32) hI) (fun _ h => Bool.noConfusion h) rfl rfl mm_547 mm_401 mm_52 mm_402 (by decide +kernel) ⟨Nat.le_of_ble_eq_true rfl, Nat.le_of_ble_eq_true rfl⟩ rfl (Nat.le_of_ble_eq_true rfl) dX8_upper_1 (Nat.zero_le _) (Nat.zero_le _) rfl (fun ct1 rrr2 hBr2 hoff3 => ?_)
  obtain ⟨r2, rfl, hr2, rfl⟩ := hBr2
  refine GW.eq (S2 := [.int r2]) rfl rfl rfl ?_
  rcases hr2 with hr2 | hr2
  · skip
    obtain ⟨rfl, h4, h5⟩ := hr2
    have h4 : 0 ≤ (0 : Int) := h4
    have h5 : (0 : Int) ≤ 3 := h5
    refine dv_if_eq (tgt := 17) dX8_upper_4 (by decide) (fun c6 => ?_) (fun c6 => ?_)
    · skip
      exact absurd c6 (by decide)
    · skip
      refine dv_iload_n dX8_upper_7 rfl 2 rfl ?_
      refine dv_iconst (v := 0) dX8_upper_8 (by decide) ?_
      refine dv_bipush (v := 31) dX8_upper_9 (by decide) ?_
      refine GW.callS (n := 3) (As := [.int 16, .int 0, .int 31]) (rest := []) (k_X8_within l g pe ct (16 : Int32) (0 : Int32) (31 : Int32) hI) (fun _ h => Bool.noConfusion h) rfl rfl mm_355 mm_356 mm_52 mm_357 (by decide +kernel) ⟨Nat.le_of_ble_eq_true rfl, Nat.le_of_ble_eq_true rfl⟩ rfl (Nat.le_of_ble_eq_true rfl) dX8_upper_11 (Nat.zero_le _) (Nat.zero_le _) rfl (fun ct7 rrr8 hBr8 hoff9 => ?_)
      obtain ⟨r8, rfl, hr8, rfl⟩ := hBr8
      refine GW.eq (S2 := [.int r8]) rfl rfl rfl ?_
      rcases hr8 with hr8 | hr8
      · skip
        obtain ⟨rfl, h10, h11⟩ := hr8
        have h10 : (0 : Int) ≤ (16 : Int) := h10
        have h11 : (16 : Int) ≤ (31 : Int) := h11
        refine dv_if_ne (tgt := 19) dX8_upper_14 (by decide) (fun c12 => ?_) (fun c12 => ?_)
        · skip
          refine dv_iload_n dX8_upper_19 rfl 3 rfl ?_
          refine dv_iconst (v := (-1)) dX8_upper_20 (by decide) ?_
          refine dv_icmp_eq (tgt := 42) dX8_upper_21 (by decide) (fun c13 => ?_) (fun c13 => ?_)
          · skip
            exact absurd c13 (by decide)
          · skip
            refine dv_iload_n dX8_upper_24 rfl 3 rfl ?_
            refine dv_bipush (v := 16) dX8_upper_25 (by decide) ?_
            refine dv_bipush (v := 31) dX8_upper_27 (by decide) ?_
            refine GW.callS (n := 3) (As := [.int 16, .int 16, .int 31]) (rest := []) (k_X8_within l g pe ct (16 : Int32) (16 : Int32) (31 : Int32) hI) (fun _ h => Bool.noConfusion h) rfl rfl mm_355 mm_356 mm_52 mm_357 (by decide +kernel) ⟨Nat.le_of_ble_eq_true rfl, Nat.le_of_ble_eq_true rfl⟩ rfl (Nat.le_of_ble_eq_true rfl) dX8_upper_29 (Nat.zero_le _) (Nat.zero_le _) rfl (fun ct14 rrr15 hBr15 hoff16 => ?_)
            obtain ⟨r15, rfl, hr15, rfl⟩ := hBr15
            refine GW.eq (S2 := [.int r15]) rfl rfl rfl ?_
            rcases hr15 with hr15 | hr15
            · skip
              obtain ⟨rfl, h17, h18⟩ := hr15
              have h17 : (16 : Int) ≤ (16 : Int) := h17
              have h18 : (16 : Int) ≤ (31 : Int) := h18
              refine dv_if_eq (tgt := 40) dX8_upper_32 (by decide) (fun c19 => ?_) (fun c19 => ?_)
              · skip
                exact absurd c19 (by decide)
              · skip
                refine dv_iload_n dX8_upper_35 rfl 3 rfl ?_
                refine dv_iload_n dX8_upper_36 rfl 2 rfl ?_
                refine dv_icmp_gt (tgt := 42) dX8_upper_37 (by decide) (fun c20 => ?_) (fun c20 => ?_)
                · skip
                  exact absurd c20 (by decide)
                · skip
                  refine dv_iconst (v := 0) dX8_upper_40 (by decide) ?_
                  have q21 : (0 : Int32).toInt = 0 := by decide
                  exact dv_zret dX8_upper_41 rfl rfl (by first | exact Nat.zero_le _ | decide) (by first | exact Nat.zero_le _ | decide) (by subst hK; exact ⟨0, rfl, (rfl), rfl⟩)
            · skip
              obtain ⟨rfl, h22⟩ := hr15
              have h22 : ¬ ((16 : Int) ≤ (16 : Int) ∧ (16 : Int) ≤ (31 : Int)) := h22
              exfalso
              omega
        · skip
          exact absurd c12 (by decide)
      · skip
        obtain ⟨rfl, h23⟩ := hr8
        have h23 : ¬ ((0 : Int) ≤ (16 : Int) ∧ (16 : Int) ≤ (31 : Int)) := h23
        exfalso
        omega
  · skip
    obtain ⟨rfl, h24⟩ := hr2
    have h24 : ¬ (0 ≤ (0 : Int) ∧ (0 : Int) ≤ 3) := h24
    exfalso
    omega

set_option maxHeartbeats 4000000 in
set_option maxRecDepth 100000 in
theorem r_weight (l : Launch) (g : zG) (pe : Int32) (ct : Nat → va_E) (far : Int32) (hI : Inv8 g idn pe ct) (hfar : far.toInt ≤ -2 ∨ 512 ≤ far.toInt) : DM l g pCl false yX8_weight cX8_weight 3 (some .boolean) ({ frames := 1, cells := 0, slots := 0, locals := 22 }) (fun (ct2 : Nat → va_E) (rr : Option Value) => ∃ (r : Int32), rr = some (.int r) ∧ (((r = (0 : Int32)))) ∧ ct = ct2) ct [.ref 0, .int 0, .int far] := by
  refine DM.K (fun K hK => ?_)
  refine GW.met (own := RX8) (loc := [(0, .ref 0), (1, .int 0), (2, .int far)]) (by decide) rfl rfl (Nat.le_of_ble_eq_true rfl) ?_
  have hpe0 := hI.1
  have rg_far := z_rng far
  refine dv_iload_n dX8_weight_0 rfl 1 rfl ?_
  refine GW.callS (n := 1) (As := [.int 0]) (rest := []) (k_X8_isColumn l g pe ct (0 : Int32) hI) (fun _ h => Bool.noConfusion h) rfl rfl mm_547 mm_401 mm_52 mm_402 (by decide +kernel) ⟨Nat.le_of_ble_eq_true rfl, Nat.le_of_ble_eq_true rfl⟩ rfl (Nat.le_of_ble_eq_true rfl) dX8_weight_1 (Nat.zero_le _) (Nat.zero_le _) rfl (fun ct1 rrr2 hBr2 hoff3 => ?_)
  obtain ⟨r2, rfl, hr2, rfl⟩ := hBr2
  refine GW.eq (S2 := [.int r2]) rfl rfl rfl ?_
  rcases hr2 with hr2 | hr2
  · skip
    obtain ⟨rfl, h4, h5⟩ := hr2
    have h4 : 0 ≤ (0 : Int) := h4
    have h5 : (0 : Int) ≤ 3 := h5
    refine dv_if_eq (tgt := 17) dX8_weight_4 (by decide) (fun c6 => ?_) (fun c6 => ?_)
    · skip
      exact absurd c6 (by decide)
    · skip
      refine dv_iload_n dX8_weight_7 rfl 2 rfl ?_
      refine dv_iconst (v := 0) dX8_weight_8 (by decide) ?_
      refine dv_bipush (v := 99) dX8_weight_9 (by decide) ?_
      refine GW.callS (n := 3) (As := [.int far, .int 0, .int 99]) (rest := []) (k_X8_within l g pe ct far (0 : Int32) (99 : Int32) hI) (fun _ h => Bool.noConfusion h) rfl rfl mm_355 mm_356 mm_52 mm_357 (by decide +kernel) ⟨Nat.le_of_ble_eq_true rfl, Nat.le_of_ble_eq_true rfl⟩ rfl (Nat.le_of_ble_eq_true rfl) dX8_weight_11 (Nat.zero_le _) (Nat.zero_le _) rfl (fun ct7 rrr8 hBr8 hoff9 => ?_)
      obtain ⟨r8, rfl, hr8, rfl⟩ := hBr8
      refine GW.eq (S2 := [.int r8]) rfl rfl rfl ?_
      rcases hr8 with hr8 | hr8
      · skip
        obtain ⟨rfl, h10, h11⟩ := hr8
        have h10 : (0 : Int) ≤ far.toInt := h10
        have h11 : far.toInt ≤ (99 : Int) := h11
        exfalso
        omega
      · skip
        obtain ⟨rfl, h12⟩ := hr8
        have h12 : ¬ ((0 : Int) ≤ far.toInt ∧ far.toInt ≤ (99 : Int)) := h12
        refine dv_if_ne (tgt := 19) dX8_weight_14 (by decide) (fun c13 => ?_) (fun c13 => ?_)
        · skip
          exact absurd c13 (by decide)
        · skip
          refine dv_iconst (v := 0) dX8_weight_17 (by decide) ?_
          have q14 : (0 : Int32).toInt = 0 := by decide
          exact dv_zret dX8_weight_18 rfl rfl (by first | exact Nat.zero_le _ | decide) (by first | exact Nat.zero_le _ | decide) (by subst hK; exact ⟨0, rfl, (rfl), rfl⟩)
  · skip
    obtain ⟨rfl, h15⟩ := hr2
    have h15 : ¬ (0 ≤ (0 : Int) ∧ (0 : Int) ≤ 3) := h15
    exfalso
    omega

set_option maxHeartbeats 4000000 in
set_option maxRecDepth 100000 in
theorem r_person (l : Launch) (g : zG) (pe : Int32) (ct : Nat → va_E) (far : Int32) (hI : Inv8 g idn pe ct) (hfar : far.toInt ≤ -2 ∨ 512 ≤ far.toInt) : DM l g pCl false yX8_person cX8_person 6 (some .int) ({ frames := 2, cells := 0, slots := 0, locals := 42 }) (fun (ct2 : Nat → va_E) (rr : Option Value) => ∃ (r : Int32), rr = some (.int r) ∧ (((r = (-1 : Int32)))) ∧ ct = ct2) ct [.ref 0, .int far, .int 0, .int 0, .int 0] := by
  refine DM.K (fun K hK => ?_)
  refine GW.met (own := RX8) (loc := [(0, .ref 0), (1, .int far), (2, .int 0), (3, .int 0), (4, .int 0)]) (by decide) rfl rfl (Nat.le_of_ble_eq_true rfl) ?_
  have hpe0 := hI.1
  have rg_far := z_rng far
  refine dv_iload_n dX8_person_0 rfl 1 rfl ?_
  refine GW.callS (n := 1) (As := [.int far]) (rest := []) (k_X8_isValue l g pe ct far hI) (fun _ h => Bool.noConfusion h) rfl rfl mm_564 mm_565 mm_52 mm_566 (by decide +kernel) ⟨Nat.le_of_ble_eq_true rfl, Nat.le_of_ble_eq_true rfl⟩ rfl (Nat.le_of_ble_eq_true rfl) dX8_person_1 (Nat.zero_le _) (Nat.zero_le _) rfl (fun ct1 rrr2 hBr2 hoff3 => ?_)
  obtain ⟨r2, rfl, hr2, rfl⟩ := hBr2
  refine GW.eq (S2 := [.int r2]) rfl rfl rfl ?_
  rcases hr2 with hr2 | hr2
  · skip
    obtain ⟨rfl, h4, h5⟩ := hr2
    have h4 : 0 ≤ far.toInt := h4
    have h5 : far.toInt ≤ 15 := h5
    exfalso
    omega
  · skip
    obtain ⟨rfl, h6⟩ := hr2
    have h6 : ¬ (0 ≤ far.toInt ∧ far.toInt ≤ 15) := h6
    refine dv_if_eq (tgt := 38) dX8_person_4 (by decide) (fun c7 => ?_) (fun c7 => ?_)
    · skip
      refine dv_iconst (v := (-1)) dX8_person_38 (by decide) ?_
      have q8 : ((-1) : Int32).toInt = -1 := by decide
      exact dv_iret dX8_person_39 rfl (by first | exact Nat.zero_le _ | decide) (by first | exact Nat.zero_le _ | decide) (by subst hK; exact ⟨(-1), rfl, (rfl), rfl⟩)
    · skip
      exact absurd c7 (by decide)

set_option maxHeartbeats 4000000 in
set_option maxRecDepth 100000 in
theorem r_wish (l : Launch) (g : zG) (pe : Int32) (ct : Nat → va_E) (far : Int32) (hI : Inv8 g idn pe ct) (hfar : far.toInt ≤ -2 ∨ 512 ≤ far.toInt) : DM l g pCl false yX8_wish cX8_wish 3 (some .boolean) ({ frames := 1, cells := 0, slots := 0, locals := 21 }) (fun (ct2 : Nat → va_E) (rr : Option Value) => ∃ (r : Int32), rr = some (.int r) ∧ (((r = (0 : Int32)))) ∧ ct = ct2) ct [.ref 0, .int far, .int 0] := by
  refine DM.K (fun K hK => ?_)
  refine GW.met (own := RX8) (loc := [(0, .ref 0), (1, .int far), (2, .int 0)]) (by decide) rfl rfl (Nat.le_of_ble_eq_true rfl) ?_
  have hpe0 := hI.1
  have rg_far := z_rng far
  refine dv_aload_n dX8_wish_0 rfl 0 rfl ?_
  refine dv_iload_n dX8_wish_1 rfl 1 rfl ?_
  obtain ⟨bk4, dr3, h5, h6, h7, hs2⟩ := a8_0 hI
  refine GW.callV (n := 1) (As := [.int far]) (rest := []) (b := 0) (k_X8_isPerson l g pe ct far hI) (fun _ h => h) rfl rfl ⟨by decide, rfl⟩ hs2 (q := (RX8, TX8, 13)) rfl mm_370 mm_372 mm_1 mm_52 mm_373 (by decide +kernel) ⟨Nat.le_of_ble_eq_true rfl, Nat.le_of_ble_eq_true rfl⟩ rfl (Nat.le_of_ble_eq_true rfl) dX8_wish_2 (Nat.zero_le _) (Nat.zero_le _) rfl (fun ct1 rrr8 hBr8 hoff9 => ?_)
  obtain ⟨r8, rfl, hr8, rfl⟩ := hBr8
  refine GW.eq (S2 := [.int r8]) rfl rfl rfl ?_
  rcases hr8 with hr8 | hr8
  · skip
    obtain ⟨rfl, h10, h11⟩ := hr8
    have h10 : 0 ≤ far.toInt := h10
    have h11 : far.toInt < pe.toInt := h11
    exfalso
    omega
  · skip
    obtain ⟨rfl, h12⟩ := hr8
    have h12 : ¬ (0 ≤ far.toInt ∧ far.toInt < pe.toInt) := h12
    refine dv_if_eq (tgt := 18) dX8_wish_5 (by decide) (fun c13 => ?_) (fun c13 => ?_)
    · skip
      refine dv_iconst (v := 0) dX8_wish_18 (by decide) ?_
      have q14 : (0 : Int32).toInt = 0 := by decide
      exact dv_zret dX8_wish_19 rfl rfl (by first | exact Nat.zero_le _ | decide) (by first | exact Nat.zero_le _ | decide) (by subst hK; exact ⟨0, rfl, (rfl), rfl⟩)
    · skip
      exact absurd c13 (by decide)

set_option maxHeartbeats 4000000 in
set_option maxRecDepth 100000 in
theorem r_blurred (l : Launch) (g : zG) (pe : Int32) (ct : Nat → va_E) (far : Int32) (hI : Inv8 g idn pe ct) (hfar : far.toInt ≤ -2 ∨ 512 ≤ far.toInt) : DM l g pCl false yX8_blurred cX8_blurred 4 (some .int) ({ frames := 2, cells := 0, slots := 0, locals := 42 }) (fun (ct2 : Nat → va_E) (rr : Option Value) => ∃ (r : Int32), rr = some (.int r) ∧ (((r = (-1 : Int32)))) ∧ ct = ct2) ct [.ref 0, .int 0, .int far, .int 0] := by
  refine DM.K (fun K hK => ?_)
  refine GW.met (own := RX8) (loc := [(0, .ref 0), (1, .int 0), (2, .int far), (3, .int 0)]) (by decide) rfl rfl (Nat.le_of_ble_eq_true rfl) ?_
  have hpe0 := hI.1
  have rg_far := z_rng far
  refine dv_iload_n dX8_blurred_0 rfl 1 rfl ?_
  refine GW.callS (n := 1) (As := [.int 0]) (rest := []) (k_X8_isColumn l g pe ct (0 : Int32) hI) (fun _ h => Bool.noConfusion h) rfl rfl mm_547 mm_401 mm_52 mm_402 (by decide +kernel) ⟨Nat.le_of_ble_eq_true rfl, Nat.le_of_ble_eq_true rfl⟩ rfl (Nat.le_of_ble_eq_true rfl) dX8_blurred_1 (Nat.zero_le _) (Nat.zero_le _) rfl (fun ct1 rrr2 hBr2 hoff3 => ?_)
  obtain ⟨r2, rfl, hr2, rfl⟩ := hBr2
  refine GW.eq (S2 := [.int r2]) rfl rfl rfl ?_
  rcases hr2 with hr2 | hr2
  · skip
    obtain ⟨rfl, h4, h5⟩ := hr2
    have h4 : 0 ≤ (0 : Int) := h4
    have h5 : (0 : Int) ≤ 3 := h5
    refine dv_if_eq (tgt := 21) dX8_blurred_4 (by decide) (fun c6 => ?_) (fun c6 => ?_)
    · skip
      exact absurd c6 (by decide)
    · skip
      refine dv_iload_n dX8_blurred_7 rfl 2 rfl ?_
      refine GW.callS (n := 1) (As := [.int far]) (rest := []) (k_X8_isValue l g pe ct far hI) (fun _ h => Bool.noConfusion h) rfl rfl mm_564 mm_565 mm_52 mm_566 (by decide +kernel) ⟨Nat.le_of_ble_eq_true rfl, Nat.le_of_ble_eq_true rfl⟩ rfl (Nat.le_of_ble_eq_true rfl) dX8_blurred_8 (Nat.zero_le _) (Nat.zero_le _) rfl (fun ct7 rrr8 hBr8 hoff9 => ?_)
      obtain ⟨r8, rfl, hr8, rfl⟩ := hBr8
      refine GW.eq (S2 := [.int r8]) rfl rfl rfl ?_
      rcases hr8 with hr8 | hr8
      · skip
        obtain ⟨rfl, h10, h11⟩ := hr8
        have h10 : 0 ≤ far.toInt := h10
        have h11 : far.toInt ≤ 15 := h11
        exfalso
        omega
      · skip
        obtain ⟨rfl, h12⟩ := hr8
        have h12 : ¬ (0 ≤ far.toInt ∧ far.toInt ≤ 15) := h12
        refine dv_if_eq (tgt := 21) dX8_blurred_11 (by decide) (fun c13 => ?_) (fun c13 => ?_)
        · skip
          refine dv_iconst (v := (-1)) dX8_blurred_21 (by decide) ?_
          have q14 : ((-1) : Int32).toInt = -1 := by decide
          exact dv_iret dX8_blurred_22 rfl (by first | exact Nat.zero_le _ | decide) (by first | exact Nat.zero_le _ | decide) (by subst hK; exact ⟨(-1), rfl, (rfl), rfl⟩)
        · skip
          exact absurd c13 (by decide)
  · skip
    obtain ⟨rfl, h15⟩ := hr2
    have h15 : ¬ (0 ≤ (0 : Int) ∧ (0 : Int) ≤ 3) := h15
    exfalso
    omega

set_option maxHeartbeats 4000000 in
set_option maxRecDepth 100000 in
theorem r_size (l : Launch) (g : zG) (pe : Int32) (ct : Nat → va_E) (far : Int32) (hI : Inv8 g idn pe ct) (hfar : far.toInt ≤ -2 ∨ 512 ≤ far.toInt) : DM l g pCl false yX8_size cX8_size 3 (some .int) ({ frames := 1, cells := 0, slots := 0, locals := 22 }) (fun (ct2 : Nat → va_E) (rr : Option Value) => ∃ (r : Int32), rr = some (.int r) ∧ (((r = (-1 : Int32)))) ∧ ct = ct2) ct [.ref 0, .int 0, .int far] := by
  refine DM.K (fun K hK => ?_)
  refine GW.met (own := RX8) (loc := [(0, .ref 0), (1, .int 0), (2, .int far)]) (by decide) rfl rfl (Nat.le_of_ble_eq_true rfl) ?_
  have hpe0 := hI.1
  have rg_far := z_rng far
  refine dv_iload_n dX8_size_0 rfl 1 rfl ?_
  refine GW.callS (n := 1) (As := [.int 0]) (rest := []) (k_X8_isColumn l g pe ct (0 : Int32) hI) (fun _ h => Bool.noConfusion h) rfl rfl mm_547 mm_401 mm_52 mm_402 (by decide +kernel) ⟨Nat.le_of_ble_eq_true rfl, Nat.le_of_ble_eq_true rfl⟩ rfl (Nat.le_of_ble_eq_true rfl) dX8_size_1 (Nat.zero_le _) (Nat.zero_le _) rfl (fun ct1 rrr2 hBr2 hoff3 => ?_)
  obtain ⟨r2, rfl, hr2, rfl⟩ := hBr2
  refine GW.eq (S2 := [.int r2]) rfl rfl rfl ?_
  rcases hr2 with hr2 | hr2
  · skip
    obtain ⟨rfl, h4, h5⟩ := hr2
    have h4 : 0 ≤ (0 : Int) := h4
    have h5 : (0 : Int) ≤ 3 := h5
    refine dv_if_eq (tgt := 17) dX8_size_4 (by decide) (fun c6 => ?_) (fun c6 => ?_)
    · skip
      exact absurd c6 (by decide)
    · skip
      refine dv_iload_n dX8_size_7 rfl 2 rfl ?_
      refine dv_iconst (v := 0) dX8_size_8 (by decide) ?_
      refine dv_bipush (v := 32) dX8_size_9 (by decide) ?_
      refine GW.callS (n := 3) (As := [.int far, .int 0, .int 32]) (rest := []) (k_X8_within l g pe ct far (0 : Int32) (32 : Int32) hI) (fun _ h => Bool.noConfusion h) rfl rfl mm_355 mm_356 mm_52 mm_357 (by decide +kernel) ⟨Nat.le_of_ble_eq_true rfl, Nat.le_of_ble_eq_true rfl⟩ rfl (Nat.le_of_ble_eq_true rfl) dX8_size_11 (Nat.zero_le _) (Nat.zero_le _) rfl (fun ct7 rrr8 hBr8 hoff9 => ?_)
      obtain ⟨r8, rfl, hr8, rfl⟩ := hBr8
      refine GW.eq (S2 := [.int r8]) rfl rfl rfl ?_
      rcases hr8 with hr8 | hr8
      · skip
        obtain ⟨rfl, h10, h11⟩ := hr8
        have h10 : (0 : Int) ≤ far.toInt := h10
        have h11 : far.toInt ≤ (32 : Int) := h11
        exfalso
        omega
      · skip
        obtain ⟨rfl, h12⟩ := hr8
        have h12 : ¬ ((0 : Int) ≤ far.toInt ∧ far.toInt ≤ (32 : Int)) := h12
        refine dv_if_ne (tgt := 19) dX8_size_14 (by decide) (fun c13 => ?_) (fun c13 => ?_)
        · skip
          exact absurd c13 (by decide)
        · skip
          refine dv_iconst (v := (-1)) dX8_size_17 (by decide) ?_
          have q14 : ((-1) : Int32).toInt = -1 := by decide
          exact dv_iret dX8_size_18 rfl (by first | exact Nat.zero_le _ | decide) (by first | exact Nat.zero_le _ | decide) (by subst hK; exact ⟨(-1), rfl, (rfl), rfl⟩)
  · skip
    obtain ⟨rfl, h15⟩ := hr2
    have h15 : ¬ (0 ≤ (0 : Int) ∧ (0 : Int) ≤ 3) := h15
    exfalso
    omega

set_option maxHeartbeats 4000000 in
set_option maxRecDepth 100000 in
theorem r_book1 (l : Launch) (g : zG) (pe : Int32) (ct : Nat → va_E) (hI : Inv8 g idn pe ct) : DM l g pCl false yX8_book cX8_book 9 (some .int) ({ frames := 1, cells := 0, slots := 0, locals := 22 }) (fun (ct2 : Nat → va_E) (rr : Option Value) => ∃ (r : Int32), rr = some (.int r) ∧ (((r = (-1 : Int32)))) ∧ ct = ct2) ct [.ref 0, .int 0, .int 0, .int 0, .int 0, .int 0] := by
  refine DM.K (fun K hK => ?_)
  refine GW.met (own := RX8) (loc := [(0, .ref 0), (1, .int 0), (2, .int 0), (3, .int 0), (4, .int 0), (5, .int 0)]) (by decide) rfl rfl (Nat.le_of_ble_eq_true rfl) ?_
  have hpe0 := hI.1
  refine dv_iload_n dX8_book_0 rfl 1 rfl ?_
  refine dv_iconst (v := 1) dX8_book_1 (by decide) ?_
  refine dv_bipush (v := 8) dX8_book_2 (by decide) ?_
  refine GW.callS (n := 3) (As := [.int 0, .int 1, .int 8]) (rest := []) (k_X8_within l g pe ct (0 : Int32) (1 : Int32) (8 : Int32) hI) (fun _ h => Bool.noConfusion h) rfl rfl mm_355 mm_356 mm_52 mm_357 (by decide +kernel) ⟨Nat.le_of_ble_eq_true rfl, Nat.le_of_ble_eq_true rfl⟩ rfl (Nat.le_of_ble_eq_true rfl) dX8_book_4 (Nat.zero_le _) (Nat.zero_le _) rfl (fun ct1 rrr2 hBr2 hoff3 => ?_)
  obtain ⟨r2, rfl, hr2, rfl⟩ := hBr2
  refine GW.eq (S2 := [.int r2]) rfl rfl rfl ?_
  rcases hr2 with hr2 | hr2
  · skip
    obtain ⟨rfl, h4, h5⟩ := hr2
    have h4 : (1 : Int) ≤ (0 : Int) := h4
    have h5 : (0 : Int) ≤ (8 : Int) := h5
    exfalso
    omega
  · skip
    obtain ⟨rfl, h6⟩ := hr2
    have h6 : ¬ ((1 : Int) ≤ (0 : Int) ∧ (0 : Int) ≤ (8 : Int)) := h6
    refine dv_if_eq (tgt := 29) dX8_book_7 (by decide) (fun c7 => ?_) (fun c7 => ?_)
    · skip
      refine dv_iconst (v := (-1)) dX8_book_29 (by decide) ?_
      have q8 : ((-1) : Int32).toInt = -1 := by decide
      exact dv_iret dX8_book_30 rfl (by first | exact Nat.zero_le _ | decide) (by first | exact Nat.zero_le _ | decide) (by subst hK; exact ⟨(-1), rfl, (rfl), rfl⟩)
    · skip
      exact absurd c7 (by decide)

set_option maxHeartbeats 4000000 in
set_option maxRecDepth 100000 in
theorem r_book2 (l : Launch) (g : zG) (pe : Int32) (ct : Nat → va_E) (far : Int32) (hI : Inv8 g idn pe ct) (hfar : far.toInt ≤ -2 ∨ 512 ≤ far.toInt) : DM l g pCl false yX8_book cX8_book 9 (some .int) ({ frames := 2, cells := 0, slots := 0, locals := 42 }) (fun (ct2 : Nat → va_E) (rr : Option Value) => ∃ (r : Int32), rr = some (.int r) ∧ (((r = (-1 : Int32)))) ∧ ct = ct2) ct [.ref 0, .int 1, .int far, .int 0, .int 0, .int 0] := by
  refine DM.K (fun K hK => ?_)
  refine GW.met (own := RX8) (loc := [(0, .ref 0), (1, .int 1), (2, .int far), (3, .int 0), (4, .int 0), (5, .int 0)]) (by decide) rfl rfl (Nat.le_of_ble_eq_true rfl) ?_
  have hpe0 := hI.1
  have rg_far := z_rng far
  refine dv_iload_n dX8_book_0 rfl 1 rfl ?_
  refine dv_iconst (v := 1) dX8_book_1 (by decide) ?_
  refine dv_bipush (v := 8) dX8_book_2 (by decide) ?_
  refine GW.callS (n := 3) (As := [.int 1, .int 1, .int 8]) (rest := []) (k_X8_within l g pe ct (1 : Int32) (1 : Int32) (8 : Int32) hI) (fun _ h => Bool.noConfusion h) rfl rfl mm_355 mm_356 mm_52 mm_357 (by decide +kernel) ⟨Nat.le_of_ble_eq_true rfl, Nat.le_of_ble_eq_true rfl⟩ rfl (Nat.le_of_ble_eq_true rfl) dX8_book_4 (Nat.zero_le _) (Nat.zero_le _) rfl (fun ct1 rrr2 hBr2 hoff3 => ?_)
  obtain ⟨r2, rfl, hr2, rfl⟩ := hBr2
  refine GW.eq (S2 := [.int r2]) rfl rfl rfl ?_
  rcases hr2 with hr2 | hr2
  · skip
    obtain ⟨rfl, h4, h5⟩ := hr2
    have h4 : (1 : Int) ≤ (1 : Int) := h4
    have h5 : (1 : Int) ≤ (8 : Int) := h5
    refine dv_if_eq (tgt := 29) dX8_book_7 (by decide) (fun c6 => ?_) (fun c6 => ?_)
    · skip
      exact absurd c6 (by decide)
    · skip
      refine dv_aload_n dX8_book_10 rfl 0 rfl ?_
      obtain ⟨bk9, dr8, h10, h11, h12, hs7⟩ := a8_0 hI
      refine dv_get (ci := 8) (v := .int bk9) (C := RX8) (T := TX8) (N := 13) ⟨by decide, rfl⟩ hs7 rfl inG8 12 (by decide) mm_315 rfl dX8_book_11 ?_
      refine dv_iconst (v := 4) dX8_book_14 (by decide) ?_
      refine dv_icmp_ge (tgt := 29) dX8_book_15 (by decide) (fun c13 => ?_) (fun c13 => ?_)
      · skip
        have c13 : 4 ≤ bk9.toInt := (z_le (by decide : (4 : Int32).toInt = 4) rfl).mp c13
        refine dv_iconst (v := (-1)) dX8_book_29 (by decide) ?_
        have q14 : ((-1) : Int32).toInt = -1 := by decide
        exact dv_iret dX8_book_30 rfl (by first | exact Nat.zero_le _ | decide) (by first | exact Nat.zero_le _ | decide) (by subst hK; exact ⟨(-1), rfl, (rfl), rfl⟩)
      · skip
        have c13 : ¬ (4 ≤ bk9.toInt) := fun q => c13 ((z_le (by decide : (4 : Int32).toInt = 4) rfl).mpr q)
        refine dv_aload_n dX8_book_18 rfl 0 rfl ?_
        refine dv_get (ci := 8) (v := .ref 3) (C := RX8) (T := TX8) (N := 13) ⟨by decide, rfl⟩ hs7 rfl inG8 2 (by decide) mm_305 rfl dX8_book_19 ?_
        obtain ⟨len16, h17, h18, hs15⟩ := a8_3 hI
        refine dv_get (ci := 7) (v := .int len16) (C := RX7) (T := TX7) (N := 2) ⟨by decide, rfl⟩ hs15 rfl inG7 0 (by decide) mm_80 rfl dX8_book_22 ?_
        refine dv_iload_n dX8_book_25 rfl 1 rfl ?_
        refine dv_icmp_ge (tgt := 31) dX8_book_26 (by decide) (fun c19 => ?_) (fun c19 => ?_)
        · skip
          have c19 : 1 ≤ len16.toInt := (z_le (by decide : (1 : Int32).toInt = 1) rfl).mp c19
          refine dv_iload_n dX8_book_31 rfl 2 rfl ?_
          refine GW.callS (n := 1) (As := [.int far]) (rest := []) (k_X8_isLevel l g pe ct far hI) (fun _ h => Bool.noConfusion h) rfl rfl mm_358 mm_359 mm_52 mm_360 (by decide +kernel) ⟨Nat.le_of_ble_eq_true rfl, Nat.le_of_ble_eq_true rfl⟩ rfl (Nat.le_of_ble_eq_true rfl) dX8_book_32 (Nat.zero_le _) (Nat.zero_le _) rfl (fun ct20 rrr21 hBr21 hoff22 => ?_)
          obtain ⟨r21, rfl, hr21, rfl⟩ := hBr21
          refine GW.eq (S2 := [.int r21]) rfl rfl rfl ?_
          rcases hr21 with hr21 | hr21
          · skip
            obtain ⟨rfl, h23, h24⟩ := hr21
            have h23 : 0 ≤ far.toInt := h23
            have h24 : far.toInt ≤ 4 := h24
            exfalso
            omega
          · skip
            obtain ⟨rfl, h25⟩ := hr21
            have h25 : ¬ (0 ≤ far.toInt ∧ far.toInt ≤ 4) := h25
            refine dv_if_eq (tgt := 61) dX8_book_35 (by decide) (fun c26 => ?_) (fun c26 => ?_)
            · skip
              refine dv_iconst (v := (-1)) dX8_book_61 (by decide) ?_
              have q27 : ((-1) : Int32).toInt = -1 := by decide
              exact dv_iret dX8_book_62 rfl (by first | exact Nat.zero_le _ | decide) (by first | exact Nat.zero_le _ | decide) (by subst hK; exact ⟨(-1), rfl, (rfl), rfl⟩)
            · skip
              exact absurd c26 (by decide)
        · skip
          have c19 : ¬ (1 ≤ len16.toInt) := fun q => c19 ((z_le (by decide : (1 : Int32).toInt = 1) rfl).mpr q)
          refine dv_iconst (v := (-1)) dX8_book_29 (by decide) ?_
          have q28 : ((-1) : Int32).toInt = -1 := by decide
          exact dv_iret dX8_book_30 rfl (by first | exact Nat.zero_le _ | decide) (by first | exact Nat.zero_le _ | decide) (by subst hK; exact ⟨(-1), rfl, (rfl), rfl⟩)
  · skip
    obtain ⟨rfl, h29⟩ := hr2
    have h29 : ¬ ((1 : Int) ≤ (1 : Int) ∧ (1 : Int) ≤ (8 : Int)) := h29
    exfalso
    omega

set_option maxHeartbeats 4000000 in
set_option maxRecDepth 100000 in
theorem r_cut1 (l : Launch) (g : zG) (pe : Int32) (ct : Nat → va_E) (far : Int32) (hI : Inv8 g idn pe ct) (hfar : far.toInt ≤ -2 ∨ 512 ≤ far.toInt) : DM l g pCl false yX8_cut cX8_cut 3 (some .boolean) ({ frames := 3, cells := 0, slots := 0, locals := 66 }) (fun (ct2 : Nat → va_E) (rr : Option Value) => ∃ (r : Int32), rr = some (.int r) ∧ (((r = (0 : Int32)))) ∧ ct = ct2) ct [.ref 0, .int far, .int 0] := by
  refine DM.K (fun K hK => ?_)
  refine GW.met (own := RX8) (loc := [(0, .ref 0), (1, .int far), (2, .int 0)]) (by decide) rfl rfl (Nat.le_of_ble_eq_true rfl) ?_
  have hpe0 := hI.1
  have rg_far := z_rng far
  refine dv_aload_n dX8_cut_0 rfl 0 rfl ?_
  refine dv_iload_n dX8_cut_1 rfl 1 rfl ?_
  refine dv_iload_n dX8_cut_2 rfl 2 rfl ?_
  obtain ⟨bk4, dr3, h5, h6, h7, hs2⟩ := a8_0 hI
  refine GW.callV (n := 2) (As := [.int far, .int 0]) (rest := []) (b := 0) (k_X8_isLive l g pe ct far (0 : Int32) hI) (fun _ h => h) rfl rfl ⟨by decide, rfl⟩ hs2 (q := (RX8, TX8, 13)) rfl mm_422 mm_424 mm_5 mm_52 mm_425 (by decide +kernel) ⟨Nat.le_of_ble_eq_true rfl, Nat.le_of_ble_eq_true rfl⟩ rfl (Nat.le_of_ble_eq_true rfl) dX8_cut_3 (Nat.zero_le _) (Nat.zero_le _) rfl (fun ct1 rrr8 hBr8 hoff9 => ?_)
  obtain ⟨r8, rfl, hr8, rfl⟩ := hBr8
  refine GW.eq (S2 := [.int r8]) rfl rfl rfl ?_
  rcases hr8 with hr8 | hr8
  · skip
    obtain ⟨rfl, h10, h11⟩ := hr8
    have h10 : 0 ≤ far.toInt ∧ far.toInt ≤ 3 := h10
    have h11 : 0 ≤ (0 : Int) ∧ (0 : Int) ≤ 7 := h11
    exfalso
    omega
  · skip
    obtain rfl := hr8
    refine dv_if_ne (tgt := 11) dX8_cut_6 (by decide) (fun c12 => ?_) (fun c12 => ?_)
    · skip
      exact absurd c12 (by decide)
    · skip
      refine dv_iconst (v := 0) dX8_cut_9 (by decide) ?_
      have q13 : (0 : Int32).toInt = 0 := by decide
      exact dv_zret dX8_cut_10 rfl rfl (by first | exact Nat.zero_le _ | decide) (by first | exact Nat.zero_le _ | decide) (by subst hK; exact ⟨0, rfl, (rfl), rfl⟩)

set_option maxHeartbeats 4000000 in
set_option maxRecDepth 100000 in
theorem r_cut2 (l : Launch) (g : zG) (pe : Int32) (ct : Nat → va_E) (far : Int32) (hI : Inv8 g idn pe ct) (hfar : far.toInt ≤ -2 ∨ 512 ≤ far.toInt) : DM l g pCl false yX8_cut cX8_cut 3 (some .boolean) ({ frames := 3, cells := 0, slots := 0, locals := 66 }) (fun (ct2 : Nat → va_E) (rr : Option Value) => ∃ (r : Int32), rr = some (.int r) ∧ (((r = (0 : Int32)))) ∧ ct = ct2) ct [.ref 0, .int 0, .int far] := by
  refine DM.K (fun K hK => ?_)
  refine GW.met (own := RX8) (loc := [(0, .ref 0), (1, .int 0), (2, .int far)]) (by decide) rfl rfl (Nat.le_of_ble_eq_true rfl) ?_
  have hpe0 := hI.1
  have rg_far := z_rng far
  refine dv_aload_n dX8_cut_0 rfl 0 rfl ?_
  refine dv_iload_n dX8_cut_1 rfl 1 rfl ?_
  refine dv_iload_n dX8_cut_2 rfl 2 rfl ?_
  obtain ⟨bk4, dr3, h5, h6, h7, hs2⟩ := a8_0 hI
  refine GW.callV (n := 2) (As := [.int 0, .int far]) (rest := []) (b := 0) (k_X8_isLive l g pe ct (0 : Int32) far hI) (fun _ h => h) rfl rfl ⟨by decide, rfl⟩ hs2 (q := (RX8, TX8, 13)) rfl mm_422 mm_424 mm_5 mm_52 mm_425 (by decide +kernel) ⟨Nat.le_of_ble_eq_true rfl, Nat.le_of_ble_eq_true rfl⟩ rfl (Nat.le_of_ble_eq_true rfl) dX8_cut_3 (Nat.zero_le _) (Nat.zero_le _) rfl (fun ct1 rrr8 hBr8 hoff9 => ?_)
  obtain ⟨r8, rfl, hr8, rfl⟩ := hBr8
  refine GW.eq (S2 := [.int r8]) rfl rfl rfl ?_
  rcases hr8 with hr8 | hr8
  · skip
    obtain ⟨rfl, h10, h11⟩ := hr8
    have h10 : 0 ≤ (0 : Int) ∧ (0 : Int) ≤ 3 := h10
    have h11 : 0 ≤ far.toInt ∧ far.toInt ≤ 7 := h11
    exfalso
    omega
  · skip
    obtain rfl := hr8
    refine dv_if_ne (tgt := 11) dX8_cut_6 (by decide) (fun c12 => ?_) (fun c12 => ?_)
    · skip
      exact absurd c12 (by decide)
    · skip
      refine dv_iconst (v := 0) dX8_cut_9 (by decide) ?_
      have q13 : (0 : Int32).toInt = 0 := by decide
      exact dv_zret dX8_cut_10 rfl rfl (by first | exact Nat.zero_le _ | decide) (by first | exact Nat.zero_le _ | decide) (by subst hK; exact ⟨0, rfl, (rfl), rfl⟩)

set_option maxHeartbeats 4000000 in
set_option maxRecDepth 100000 in
theorem r_swap1 (l : Launch) (g : zG) (pe : Int32) (ct : Nat → va_E) (hI : Inv8 g idn pe ct) : DM l g pCl false yX8_swap cX8_swap 5 (some .boolean) ({ frames := 3, cells := 0, slots := 0, locals := 66 }) (fun (ct2 : Nat → va_E) (rr : Option Value) => ∃ (r : Int32), rr = some (.int r) ∧ (((r = (0 : Int32)))) ∧ ct = ct2) ct [.ref 0, .int 0, .int 0, .int 0, .int 0] := by
  refine DM.K (fun K hK => ?_)
  refine GW.met (own := RX8) (loc := [(0, .ref 0), (1, .int 0), (2, .int 0), (3, .int 0), (4, .int 0)]) (by decide) rfl rfl (Nat.le_of_ble_eq_true rfl) ?_
  have hpe0 := hI.1
  refine dv_aload_n dX8_swap_0 rfl 0 rfl ?_
  refine dv_iload_n dX8_swap_1 rfl 1 rfl ?_
  refine dv_iload_n dX8_swap_2 rfl 2 rfl ?_
  obtain ⟨bk4, dr3, h5, h6, h7, hs2⟩ := a8_0 hI
  refine GW.callV (n := 2) (As := [.int 0, .int 0]) (rest := []) (b := 0) (k_X8_isLive l g pe ct (0 : Int32) (0 : Int32) hI) (fun _ h => h) rfl rfl ⟨by decide, rfl⟩ hs2 (q := (RX8, TX8, 13)) rfl mm_422 mm_424 mm_5 mm_52 mm_425 (by decide +kernel) ⟨Nat.le_of_ble_eq_true rfl, Nat.le_of_ble_eq_true rfl⟩ rfl (Nat.le_of_ble_eq_true rfl) dX8_swap_3 (Nat.zero_le _) (Nat.zero_le _) rfl (fun ct1 rrr8 hBr8 hoff9 => ?_)
  obtain ⟨r8, rfl, hr8, rfl⟩ := hBr8
  refine GW.eq (S2 := [.int r8]) rfl rfl rfl ?_
  rcases hr8 with hr8 | hr8
  · skip
    obtain ⟨rfl, h10, h11⟩ := hr8
    have h10 : 0 ≤ (0 : Int) ∧ (0 : Int) ≤ 3 := h10
    have h11 : 0 ≤ (0 : Int) ∧ (0 : Int) ≤ 7 := h11
    refine dv_if_eq (tgt := 31) dX8_swap_6 (by decide) (fun c12 => ?_) (fun c12 => ?_)
    · skip
      exact absurd c12 (by decide)
    · skip
      refine dv_aload_n dX8_swap_9 rfl 0 rfl ?_
      refine dv_iload_n dX8_swap_10 rfl 1 rfl ?_
      refine dv_iload_n dX8_swap_11 rfl 3 rfl ?_
      refine GW.callV (n := 2) (As := [.int 0, .int 0]) (rest := []) (b := 0) (k_X8_isLive l g pe ct (0 : Int32) (0 : Int32) hI) (fun _ h => h) rfl rfl ⟨by decide, rfl⟩ hs2 (q := (RX8, TX8, 13)) rfl mm_422 mm_424 mm_5 mm_52 mm_425 (by decide +kernel) ⟨Nat.le_of_ble_eq_true rfl, Nat.le_of_ble_eq_true rfl⟩ rfl (Nat.le_of_ble_eq_true rfl) dX8_swap_12 (Nat.zero_le _) (Nat.zero_le _) rfl (fun ct13 rrr14 hBr14 hoff15 => ?_)
      obtain ⟨r14, rfl, hr14, rfl⟩ := hBr14
      refine GW.eq (S2 := [.int r14]) rfl rfl rfl ?_
      rcases hr14 with hr14 | hr14
      · skip
        obtain ⟨rfl, h16, h17⟩ := hr14
        have h16 : 0 ≤ (0 : Int) ∧ (0 : Int) ≤ 3 := h16
        have h17 : 0 ≤ (0 : Int) ∧ (0 : Int) ≤ 7 := h17
        refine dv_if_eq (tgt := 31) dX8_swap_15 (by decide) (fun c18 => ?_) (fun c18 => ?_)
        · skip
          exact absurd c18 (by decide)
        · skip
          refine dv_iload_n dX8_swap_18 rfl 2 rfl ?_
          refine dv_iload_n dX8_swap_19 rfl 3 rfl ?_
          refine dv_icmp_eq (tgt := 31) dX8_swap_20 (by decide) (fun c19 => ?_) (fun c19 => ?_)
          · skip
            refine dv_iconst (v := 0) dX8_swap_31 (by decide) ?_
            have q20 : (0 : Int32).toInt = 0 := by decide
            exact dv_zret dX8_swap_32 rfl rfl (by first | exact Nat.zero_le _ | decide) (by first | exact Nat.zero_le _ | decide) (by subst hK; exact ⟨0, rfl, (rfl), rfl⟩)
          · skip
            exact absurd c19 (by decide)
      · skip
        obtain rfl := hr14
        refine dv_if_eq (tgt := 31) dX8_swap_15 (by decide) (fun c21 => ?_) (fun c21 => ?_)
        · skip
          refine dv_iconst (v := 0) dX8_swap_31 (by decide) ?_
          have q22 : (0 : Int32).toInt = 0 := by decide
          exact dv_zret dX8_swap_32 rfl rfl (by first | exact Nat.zero_le _ | decide) (by first | exact Nat.zero_le _ | decide) (by subst hK; exact ⟨0, rfl, (rfl), rfl⟩)
        · skip
          exact absurd c21 (by decide)
  · skip
    obtain rfl := hr8
    refine dv_if_eq (tgt := 31) dX8_swap_6 (by decide) (fun c23 => ?_) (fun c23 => ?_)
    · skip
      refine dv_iconst (v := 0) dX8_swap_31 (by decide) ?_
      have q24 : (0 : Int32).toInt = 0 := by decide
      exact dv_zret dX8_swap_32 rfl rfl (by first | exact Nat.zero_le _ | decide) (by first | exact Nat.zero_le _ | decide) (by subst hK; exact ⟨0, rfl, (rfl), rfl⟩)
    · skip
      exact absurd c23 (by decide)

set_option maxHeartbeats 4000000 in
set_option maxRecDepth 100000 in
theorem r_swap2 (l : Launch) (g : zG) (pe : Int32) (ct : Nat → va_E) (far : Int32) (hI : Inv8 g idn pe ct) (hfar : far.toInt ≤ -2 ∨ 512 ≤ far.toInt) : DM l g pCl false yX8_swap cX8_swap 5 (some .boolean) ({ frames := 3, cells := 0, slots := 0, locals := 66 }) (fun (ct2 : Nat → va_E) (rr : Option Value) => ∃ (r : Int32), rr = some (.int r) ∧ (((r = (0 : Int32)))) ∧ ct = ct2) ct [.ref 0, .int 0, .int far, .int 0, .int 0] := by
  refine DM.K (fun K hK => ?_)
  refine GW.met (own := RX8) (loc := [(0, .ref 0), (1, .int 0), (2, .int far), (3, .int 0), (4, .int 0)]) (by decide) rfl rfl (Nat.le_of_ble_eq_true rfl) ?_
  have hpe0 := hI.1
  have rg_far := z_rng far
  refine dv_aload_n dX8_swap_0 rfl 0 rfl ?_
  refine dv_iload_n dX8_swap_1 rfl 1 rfl ?_
  refine dv_iload_n dX8_swap_2 rfl 2 rfl ?_
  obtain ⟨bk4, dr3, h5, h6, h7, hs2⟩ := a8_0 hI
  refine GW.callV (n := 2) (As := [.int 0, .int far]) (rest := []) (b := 0) (k_X8_isLive l g pe ct (0 : Int32) far hI) (fun _ h => h) rfl rfl ⟨by decide, rfl⟩ hs2 (q := (RX8, TX8, 13)) rfl mm_422 mm_424 mm_5 mm_52 mm_425 (by decide +kernel) ⟨Nat.le_of_ble_eq_true rfl, Nat.le_of_ble_eq_true rfl⟩ rfl (Nat.le_of_ble_eq_true rfl) dX8_swap_3 (Nat.zero_le _) (Nat.zero_le _) rfl (fun ct1 rrr8 hBr8 hoff9 => ?_)
  obtain ⟨r8, rfl, hr8, rfl⟩ := hBr8
  refine GW.eq (S2 := [.int r8]) rfl rfl rfl ?_
  rcases hr8 with hr8 | hr8
  · skip
    obtain ⟨rfl, h10, h11⟩ := hr8
    have h10 : 0 ≤ (0 : Int) ∧ (0 : Int) ≤ 3 := h10
    have h11 : 0 ≤ far.toInt ∧ far.toInt ≤ 7 := h11
    exfalso
    omega
  · skip
    obtain rfl := hr8
    refine dv_if_eq (tgt := 31) dX8_swap_6 (by decide) (fun c12 => ?_) (fun c12 => ?_)
    · skip
      refine dv_iconst (v := 0) dX8_swap_31 (by decide) ?_
      have q13 : (0 : Int32).toInt = 0 := by decide
      exact dv_zret dX8_swap_32 rfl rfl (by first | exact Nat.zero_le _ | decide) (by first | exact Nat.zero_le _ | decide) (by subst hK; exact ⟨0, rfl, (rfl), rfl⟩)
    · skip
      exact absurd c12 (by decide)

set_option maxHeartbeats 4000000 in
set_option maxRecDepth 100000 in
theorem r_show (l : Launch) (g : zG) (pe : Int32) (ct : Nat → va_E) (far : Int32) (hI : Inv8 g idn pe ct) (hfar : far.toInt ≤ -2 ∨ 512 ≤ far.toInt) : DM l g pCl false yX8_show cX8_show 3 (some .boolean) ({ frames := 1, cells := 0, slots := 0, locals := 21 }) (fun (ct2 : Nat → va_E) (rr : Option Value) => ∃ (r : Int32), rr = some (.int r) ∧ (((r = (0 : Int32)))) ∧ ct = ct2) ct [.ref 0, .int far, .int 1] := by
  refine DM.K (fun K hK => ?_)
  refine GW.met (own := RX8) (loc := [(0, .ref 0), (1, .int far), (2, .int 1)]) (by decide) rfl rfl (Nat.le_of_ble_eq_true rfl) ?_
  have hpe0 := hI.1
  have rg_far := z_rng far
  refine dv_aload_n dX8_show_0 rfl 0 rfl ?_
  refine dv_iload_n dX8_show_1 rfl 1 rfl ?_
  obtain ⟨bk4, dr3, h5, h6, h7, hs2⟩ := a8_0 hI
  refine GW.callV (n := 1) (As := [.int far]) (rest := []) (b := 0) (k_X8_isBook l g pe ct far hI) (fun _ h => h) rfl rfl ⟨by decide, rfl⟩ hs2 (q := (RX8, TX8, 13)) rfl mm_415 mm_417 mm_4 mm_52 mm_418 (by decide +kernel) ⟨Nat.le_of_ble_eq_true rfl, Nat.le_of_ble_eq_true rfl⟩ rfl (Nat.le_of_ble_eq_true rfl) dX8_show_2 (Nat.zero_le _) (Nat.zero_le _) rfl (fun ct1 rrr8 hBr8 hoff9 => ?_)
  obtain ⟨r8, rfl, hr8, rfl⟩ := hBr8
  refine GW.eq (S2 := [.int r8]) rfl rfl rfl ?_
  rcases hr8 with hr8 | hr8
  · skip
    obtain ⟨rfl, h10, h11⟩ := hr8
    have h10 : 0 ≤ far.toInt := h10
    have h11 : far.toInt ≤ 3 := h11
    exfalso
    omega
  · skip
    obtain rfl := hr8
    refine dv_if_eq (tgt := 21) dX8_show_5 (by decide) (fun c12 => ?_) (fun c12 => ?_)
    · skip
      refine dv_iconst (v := 0) dX8_show_21 (by decide) ?_
      have q13 : (0 : Int32).toInt = 0 := by decide
      exact dv_zret dX8_show_22 rfl rfl (by first | exact Nat.zero_le _ | decide) (by first | exact Nat.zero_le _ | decide) (by subst hK; exact ⟨0, rfl, (rfl), rfl⟩)
    · skip
      exact absurd c12 (by decide)

set_option maxHeartbeats 4000000 in
set_option maxRecDepth 100000 in
theorem r_link1 (l : Launch) (g : zG) (pe : Int32) (ct : Nat → va_E) (hI : Inv8 g idn pe ct) : DM l g pCl false yX8_link cX8_link 5 (some .int) ({ frames := 2, cells := 0, slots := 0, locals := 44 }) (fun (ct2 : Nat → va_E) (rr : Option Value) => ∃ (r : Int32), rr = some (.int r) ∧ (((r = (-1 : Int32)))) ∧ ct = ct2) ct [.ref 0, .int 0, .int 0, .int 0, .int 1] := by
  refine DM.K (fun K hK => ?_)
  refine GW.met (own := RX8) (loc := [(0, .ref 0), (1, .int 0), (2, .int 0), (3, .int 0), (4, .int 1)]) (by decide) rfl rfl (Nat.le_of_ble_eq_true rfl) ?_
  have hpe0 := hI.1
  refine dv_aload_n dX8_link_0 rfl 0 rfl ?_
  refine dv_iload_n dX8_link_1 rfl 1 rfl ?_
  refine dv_iload_n dX8_link_2 rfl 2 rfl ?_
  obtain ⟨bk4, dr3, h5, h6, h7, hs2⟩ := a8_0 hI
  refine GW.callV (n := 2) (As := [.int 0, .int 0]) (rest := []) (b := 0) (k_X8_isLine l g pe ct (0 : Int32) (0 : Int32) hI) (fun _ h => h) rfl rfl ⟨by decide, rfl⟩ hs2 (q := (RX8, TX8, 13)) rfl mm_411 mm_413 mm_3 mm_52 mm_414 (by decide +kernel) ⟨Nat.le_of_ble_eq_true rfl, Nat.le_of_ble_eq_true rfl⟩ rfl (Nat.le_of_ble_eq_true rfl) dX8_link_3 (Nat.zero_le _) (Nat.zero_le _) rfl (fun ct1 rrr8 hBr8 hoff9 => ?_)
  obtain ⟨r8, rfl, hr8, rfl⟩ := hBr8
  refine GW.eq (S2 := [.int r8]) rfl rfl rfl ?_
  rcases hr8 with hr8 | hr8
  · skip
    obtain ⟨rfl, h10, h11⟩ := hr8
    have h10 : 0 ≤ (0 : Int) ∧ (0 : Int) ≤ 3 := h10
    have h11 : 0 ≤ (0 : Int) ∧ (0 : Int) ≤ 7 := h11
    refine dv_if_eq (tgt := 36) dX8_link_6 (by decide) (fun c12 => ?_) (fun c12 => ?_)
    · skip
      exact absurd c12 (by decide)
    · skip
      refine dv_aload_n dX8_link_9 rfl 0 rfl ?_
      refine dv_iload_n dX8_link_10 rfl 3 rfl ?_
      refine dv_iload dX8_link_11 4 rfl ?_
      refine GW.callV (n := 2) (As := [.int 0, .int 1]) (rest := []) (b := 0) (k_X8_isLine l g pe ct (0 : Int32) (1 : Int32) hI) (fun _ h => h) rfl rfl ⟨by decide, rfl⟩ hs2 (q := (RX8, TX8, 13)) rfl mm_411 mm_413 mm_3 mm_52 mm_414 (by decide +kernel) ⟨Nat.le_of_ble_eq_true rfl, Nat.le_of_ble_eq_true rfl⟩ rfl (Nat.le_of_ble_eq_true rfl) dX8_link_13 (Nat.zero_le _) (Nat.zero_le _) rfl (fun ct13 rrr14 hBr14 hoff15 => ?_)
      obtain ⟨r14, rfl, hr14, rfl⟩ := hBr14
      refine GW.eq (S2 := [.int r14]) rfl rfl rfl ?_
      rcases hr14 with hr14 | hr14
      · skip
        obtain ⟨rfl, h16, h17⟩ := hr14
        have h16 : 0 ≤ (0 : Int) ∧ (0 : Int) ≤ 3 := h16
        have h17 : 0 ≤ (1 : Int) ∧ (1 : Int) ≤ 7 := h17
        refine dv_if_eq (tgt := 36) dX8_link_16 (by decide) (fun c18 => ?_) (fun c18 => ?_)
        · skip
          exact absurd c18 (by decide)
        · skip
          refine dv_iload_n dX8_link_19 rfl 1 rfl ?_
          refine dv_iload_n dX8_link_20 rfl 3 rfl ?_
          refine dv_icmp_eq (tgt := 36) dX8_link_21 (by decide) (fun c19 => ?_) (fun c19 => ?_)
          · skip
            refine dv_iconst (v := (-1)) dX8_link_36 (by decide) ?_
            have q20 : ((-1) : Int32).toInt = -1 := by decide
            exact dv_iret dX8_link_37 rfl (by first | exact Nat.zero_le _ | decide) (by first | exact Nat.zero_le _ | decide) (by subst hK; exact ⟨(-1), rfl, (rfl), rfl⟩)
          · skip
            exact absurd c19 (by decide)
      · skip
        obtain rfl := hr14
        refine dv_if_eq (tgt := 36) dX8_link_16 (by decide) (fun c21 => ?_) (fun c21 => ?_)
        · skip
          refine dv_iconst (v := (-1)) dX8_link_36 (by decide) ?_
          have q22 : ((-1) : Int32).toInt = -1 := by decide
          exact dv_iret dX8_link_37 rfl (by first | exact Nat.zero_le _ | decide) (by first | exact Nat.zero_le _ | decide) (by subst hK; exact ⟨(-1), rfl, (rfl), rfl⟩)
        · skip
          exact absurd c21 (by decide)
  · skip
    obtain rfl := hr8
    refine dv_if_eq (tgt := 36) dX8_link_6 (by decide) (fun c23 => ?_) (fun c23 => ?_)
    · skip
      refine dv_iconst (v := (-1)) dX8_link_36 (by decide) ?_
      have q24 : ((-1) : Int32).toInt = -1 := by decide
      exact dv_iret dX8_link_37 rfl (by first | exact Nat.zero_le _ | decide) (by first | exact Nat.zero_le _ | decide) (by subst hK; exact ⟨(-1), rfl, (rfl), rfl⟩)
    · skip
      exact absurd c23 (by decide)

set_option maxHeartbeats 4000000 in
set_option maxRecDepth 100000 in
theorem r_link2 (l : Launch) (g : zG) (pe : Int32) (ct : Nat → va_E) (far : Int32) (hI : Inv8 g idn pe ct) (hfar : far.toInt ≤ -2 ∨ 512 ≤ far.toInt) : DM l g pCl false yX8_link cX8_link 5 (some .int) ({ frames := 2, cells := 0, slots := 0, locals := 44 }) (fun (ct2 : Nat → va_E) (rr : Option Value) => ∃ (r : Int32), rr = some (.int r) ∧ (((r = (-1 : Int32)))) ∧ ct = ct2) ct [.ref 0, .int far, .int 0, .int 0, .int 0] := by
  refine DM.K (fun K hK => ?_)
  refine GW.met (own := RX8) (loc := [(0, .ref 0), (1, .int far), (2, .int 0), (3, .int 0), (4, .int 0)]) (by decide) rfl rfl (Nat.le_of_ble_eq_true rfl) ?_
  have hpe0 := hI.1
  have rg_far := z_rng far
  refine dv_aload_n dX8_link_0 rfl 0 rfl ?_
  refine dv_iload_n dX8_link_1 rfl 1 rfl ?_
  refine dv_iload_n dX8_link_2 rfl 2 rfl ?_
  obtain ⟨bk4, dr3, h5, h6, h7, hs2⟩ := a8_0 hI
  refine GW.callV (n := 2) (As := [.int far, .int 0]) (rest := []) (b := 0) (k_X8_isLine l g pe ct far (0 : Int32) hI) (fun _ h => h) rfl rfl ⟨by decide, rfl⟩ hs2 (q := (RX8, TX8, 13)) rfl mm_411 mm_413 mm_3 mm_52 mm_414 (by decide +kernel) ⟨Nat.le_of_ble_eq_true rfl, Nat.le_of_ble_eq_true rfl⟩ rfl (Nat.le_of_ble_eq_true rfl) dX8_link_3 (Nat.zero_le _) (Nat.zero_le _) rfl (fun ct1 rrr8 hBr8 hoff9 => ?_)
  obtain ⟨r8, rfl, hr8, rfl⟩ := hBr8
  refine GW.eq (S2 := [.int r8]) rfl rfl rfl ?_
  rcases hr8 with hr8 | hr8
  · skip
    obtain ⟨rfl, h10, h11⟩ := hr8
    have h10 : 0 ≤ far.toInt ∧ far.toInt ≤ 3 := h10
    have h11 : 0 ≤ (0 : Int) ∧ (0 : Int) ≤ 7 := h11
    exfalso
    omega
  · skip
    obtain rfl := hr8
    refine dv_if_eq (tgt := 36) dX8_link_6 (by decide) (fun c12 => ?_) (fun c12 => ?_)
    · skip
      refine dv_iconst (v := (-1)) dX8_link_36 (by decide) ?_
      have q13 : ((-1) : Int32).toInt = -1 := by decide
      exact dv_iret dX8_link_37 rfl (by first | exact Nat.zero_le _ | decide) (by first | exact Nat.zero_le _ | decide) (by subst hK; exact ⟨(-1), rfl, (rfl), rfl⟩)
    · skip
      exact absurd c12 (by decide)

set_option maxHeartbeats 4000000 in
set_option maxRecDepth 100000 in
theorem r_gossip1 (l : Launch) (g : zG) (pe : Int32) (ct : Nat → va_E) (far : Int32) (hI : Inv8 g idn pe ct) (hfar : far.toInt ≤ -2 ∨ 512 ≤ far.toInt) : DM l g pCl false yX8_gossip cX8_gossip 7 (some .int) ({ frames := 1, cells := 0, slots := 0, locals := 22 }) (fun (ct2 : Nat → va_E) (rr : Option Value) => ∃ (r : Int32), rr = some (.int r) ∧ (((r = (-1 : Int32)))) ∧ ct = ct2) ct [.ref 0, .int far, .int 0, .int 0, .int 1] := by
  refine DM.K (fun K hK => ?_)
  refine GW.met (own := RX8) (loc := [(0, .ref 0), (1, .int far), (2, .int 0), (3, .int 0), (4, .int 1)]) (by decide) rfl rfl (Nat.le_of_ble_eq_true rfl) ?_
  have hpe0 := hI.1
  have rg_far := z_rng far
  refine dv_iload_n dX8_gossip_0 rfl 1 rfl ?_
  refine dv_iconst (v := 0) dX8_gossip_1 (by decide) ?_
  refine dv_bipush (v := 7) dX8_gossip_2 (by decide) ?_
  refine GW.callS (n := 3) (As := [.int far, .int 0, .int 7]) (rest := []) (k_X8_within l g pe ct far (0 : Int32) (7 : Int32) hI) (fun _ h => Bool.noConfusion h) rfl rfl mm_355 mm_356 mm_52 mm_357 (by decide +kernel) ⟨Nat.le_of_ble_eq_true rfl, Nat.le_of_ble_eq_true rfl⟩ rfl (Nat.le_of_ble_eq_true rfl) dX8_gossip_4 (Nat.zero_le _) (Nat.zero_le _) rfl (fun ct1 rrr2 hBr2 hoff3 => ?_)
  obtain ⟨r2, rfl, hr2, rfl⟩ := hBr2
  refine GW.eq (S2 := [.int r2]) rfl rfl rfl ?_
  rcases hr2 with hr2 | hr2
  · skip
    obtain ⟨rfl, h4, h5⟩ := hr2
    have h4 : (0 : Int) ≤ far.toInt := h4
    have h5 : far.toInt ≤ (7 : Int) := h5
    exfalso
    omega
  · skip
    obtain ⟨rfl, h6⟩ := hr2
    have h6 : ¬ ((0 : Int) ≤ far.toInt ∧ far.toInt ≤ (7 : Int)) := h6
    refine dv_if_eq (tgt := 42) dX8_gossip_7 (by decide) (fun c7 => ?_) (fun c7 => ?_)
    · skip
      refine dv_iconst (v := (-1)) dX8_gossip_42 (by decide) ?_
      have q8 : ((-1) : Int32).toInt = -1 := by decide
      exact dv_iret dX8_gossip_43 rfl (by first | exact Nat.zero_le _ | decide) (by first | exact Nat.zero_le _ | decide) (by subst hK; exact ⟨(-1), rfl, (rfl), rfl⟩)
    · skip
      exact absurd c7 (by decide)

set_option maxHeartbeats 4000000 in
set_option maxRecDepth 100000 in
theorem r_gossip2 (l : Launch) (g : zG) (pe : Int32) (ct : Nat → va_E) (hI : Inv8 g idn pe ct) : DM l g pCl false yX8_gossip cX8_gossip 7 (some .int) ({ frames := 3, cells := 0, slots := 0, locals := 66 }) (fun (ct2 : Nat → va_E) (rr : Option Value) => ∃ (r : Int32), rr = some (.int r) ∧ (((r = (-1 : Int32)))) ∧ ct = ct2) ct [.ref 0, .int 0, .int 0, .int 0, .int 0] := by
  refine DM.K (fun K hK => ?_)
  refine GW.met (own := RX8) (loc := [(0, .ref 0), (1, .int 0), (2, .int 0), (3, .int 0), (4, .int 0)]) (by decide) rfl rfl (Nat.le_of_ble_eq_true rfl) ?_
  have hpe0 := hI.1
  refine dv_iload_n dX8_gossip_0 rfl 1 rfl ?_
  refine dv_iconst (v := 0) dX8_gossip_1 (by decide) ?_
  refine dv_bipush (v := 7) dX8_gossip_2 (by decide) ?_
  refine GW.callS (n := 3) (As := [.int 0, .int 0, .int 7]) (rest := []) (k_X8_within l g pe ct (0 : Int32) (0 : Int32) (7 : Int32) hI) (fun _ h => Bool.noConfusion h) rfl rfl mm_355 mm_356 mm_52 mm_357 (by decide +kernel) ⟨Nat.le_of_ble_eq_true rfl, Nat.le_of_ble_eq_true rfl⟩ rfl (Nat.le_of_ble_eq_true rfl) dX8_gossip_4 (Nat.zero_le _) (Nat.zero_le _) rfl (fun ct1 rrr2 hBr2 hoff3 => ?_)
  obtain ⟨r2, rfl, hr2, rfl⟩ := hBr2
  refine GW.eq (S2 := [.int r2]) rfl rfl rfl ?_
  rcases hr2 with hr2 | hr2
  · skip
    obtain ⟨rfl, h4, h5⟩ := hr2
    have h4 : (0 : Int) ≤ (0 : Int) := h4
    have h5 : (0 : Int) ≤ (7 : Int) := h5
    refine dv_if_eq (tgt := 42) dX8_gossip_7 (by decide) (fun c6 => ?_) (fun c6 => ?_)
    · skip
      exact absurd c6 (by decide)
    · skip
      refine dv_aload_n dX8_gossip_10 rfl 0 rfl ?_
      refine dv_iload_n dX8_gossip_11 rfl 2 rfl ?_
      refine dv_iload_n dX8_gossip_12 rfl 3 rfl ?_
      obtain ⟨bk10, dr9, h11, h12, h13, hs8⟩ := a8_0 hI
      refine GW.callV (n := 2) (As := [.int 0, .int 0]) (rest := []) (b := 0) (k_X8_isLive l g pe ct (0 : Int32) (0 : Int32) hI) (fun _ h => h) rfl rfl ⟨by decide, rfl⟩ hs8 (q := (RX8, TX8, 13)) rfl mm_422 mm_424 mm_5 mm_52 mm_425 (by decide +kernel) ⟨Nat.le_of_ble_eq_true rfl, Nat.le_of_ble_eq_true rfl⟩ rfl (Nat.le_of_ble_eq_true rfl) dX8_gossip_13 (Nat.zero_le _) (Nat.zero_le _) rfl (fun ct7 rrr14 hBr14 hoff15 => ?_)
      obtain ⟨r14, rfl, hr14, rfl⟩ := hBr14
      refine GW.eq (S2 := [.int r14]) rfl rfl rfl ?_
      rcases hr14 with hr14 | hr14
      · skip
        obtain ⟨rfl, h16, h17⟩ := hr14
        have h16 : 0 ≤ (0 : Int) ∧ (0 : Int) ≤ 3 := h16
        have h17 : 0 ≤ (0 : Int) ∧ (0 : Int) ≤ 7 := h17
        refine dv_if_eq (tgt := 42) dX8_gossip_16 (by decide) (fun c18 => ?_) (fun c18 => ?_)
        · skip
          exact absurd c18 (by decide)
        · skip
          refine dv_iload dX8_gossip_19 4 rfl ?_
          refine dv_iconst (v := 1) dX8_gossip_21 (by decide) ?_
          refine dv_bipush (v := 100) dX8_gossip_22 (by decide) ?_
          refine GW.callS (n := 3) (As := [.int 0, .int 1, .int 100]) (rest := []) (k_X8_within l g pe ct (0 : Int32) (1 : Int32) (100 : Int32) hI) (fun _ h => Bool.noConfusion h) rfl rfl mm_355 mm_356 mm_52 mm_357 (by decide +kernel) ⟨Nat.le_of_ble_eq_true rfl, Nat.le_of_ble_eq_true rfl⟩ rfl (Nat.le_of_ble_eq_true rfl) dX8_gossip_24 (Nat.zero_le _) (Nat.zero_le _) rfl (fun ct19 rrr20 hBr20 hoff21 => ?_)
          obtain ⟨r20, rfl, hr20, rfl⟩ := hBr20
          refine GW.eq (S2 := [.int r20]) rfl rfl rfl ?_
          rcases hr20 with hr20 | hr20
          · skip
            obtain ⟨rfl, h22, h23⟩ := hr20
            have h22 : (1 : Int) ≤ (0 : Int) := h22
            have h23 : (0 : Int) ≤ (100 : Int) := h23
            exfalso
            omega
          · skip
            obtain ⟨rfl, h24⟩ := hr20
            have h24 : ¬ ((1 : Int) ≤ (0 : Int) ∧ (0 : Int) ≤ (100 : Int)) := h24
            refine dv_if_eq (tgt := 42) dX8_gossip_27 (by decide) (fun c25 => ?_) (fun c25 => ?_)
            · skip
              refine dv_iconst (v := (-1)) dX8_gossip_42 (by decide) ?_
              have q26 : ((-1) : Int32).toInt = -1 := by decide
              exact dv_iret dX8_gossip_43 rfl (by first | exact Nat.zero_le _ | decide) (by first | exact Nat.zero_le _ | decide) (by subst hK; exact ⟨(-1), rfl, (rfl), rfl⟩)
            · skip
              exact absurd c25 (by decide)
      · skip
        obtain rfl := hr14
        refine dv_if_eq (tgt := 42) dX8_gossip_16 (by decide) (fun c27 => ?_) (fun c27 => ?_)
        · skip
          refine dv_iconst (v := (-1)) dX8_gossip_42 (by decide) ?_
          have q28 : ((-1) : Int32).toInt = -1 := by decide
          exact dv_iret dX8_gossip_43 rfl (by first | exact Nat.zero_le _ | decide) (by first | exact Nat.zero_le _ | decide) (by subst hK; exact ⟨(-1), rfl, (rfl), rfl⟩)
        · skip
          exact absurd c27 (by decide)
  · skip
    obtain ⟨rfl, h29⟩ := hr2
    have h29 : ¬ ((0 : Int) ≤ (0 : Int) ∧ (0 : Int) ≤ (7 : Int)) := h29
    exfalso
    omega

set_option maxHeartbeats 4000000 in
set_option maxRecDepth 100000 in
theorem r_line (l : Launch) (g : zG) (pe : Int32) (ct : Nat → va_E) (far : Int32) (hI : Inv8 g idn pe ct) (hfar : far.toInt ≤ -2 ∨ 512 ≤ far.toInt) : DM l g pCl false yX8_line cX8_line 4 (some .int) ({ frames := 2, cells := 0, slots := 0, locals := 44 }) (fun (ct2 : Nat → va_E) (rr : Option Value) => ∃ (r : Int32), rr = some (.int r) ∧ (((r = (-1 : Int32)))) ∧ ct = ct2) ct [.ref 0, .int far, .int 0, .int 0] := by
  refine DM.K (fun K hK => ?_)
  refine GW.met (own := RX8) (loc := [(0, .ref 0), (1, .int far), (2, .int 0), (3, .int 0)]) (by decide) rfl rfl (Nat.le_of_ble_eq_true rfl) ?_
  have hpe0 := hI.1
  have rg_far := z_rng far
  refine dv_aload_n dX8_line_0 rfl 0 rfl ?_
  refine dv_iload_n dX8_line_1 rfl 1 rfl ?_
  refine dv_iload_n dX8_line_2 rfl 2 rfl ?_
  obtain ⟨bk4, dr3, h5, h6, h7, hs2⟩ := a8_0 hI
  refine GW.callV (n := 2) (As := [.int far, .int 0]) (rest := []) (b := 0) (k_X8_isLine l g pe ct far (0 : Int32) hI) (fun _ h => h) rfl rfl ⟨by decide, rfl⟩ hs2 (q := (RX8, TX8, 13)) rfl mm_411 mm_413 mm_3 mm_52 mm_414 (by decide +kernel) ⟨Nat.le_of_ble_eq_true rfl, Nat.le_of_ble_eq_true rfl⟩ rfl (Nat.le_of_ble_eq_true rfl) dX8_line_3 (Nat.zero_le _) (Nat.zero_le _) rfl (fun ct1 rrr8 hBr8 hoff9 => ?_)
  obtain ⟨r8, rfl, hr8, rfl⟩ := hBr8
  refine GW.eq (S2 := [.int r8]) rfl rfl rfl ?_
  rcases hr8 with hr8 | hr8
  · skip
    obtain ⟨rfl, h10, h11⟩ := hr8
    have h10 : 0 ≤ far.toInt ∧ far.toInt ≤ 3 := h10
    have h11 : 0 ≤ (0 : Int) ∧ (0 : Int) ≤ 7 := h11
    exfalso
    omega
  · skip
    obtain rfl := hr8
    refine dv_if_eq (tgt := 18) dX8_line_6 (by decide) (fun c12 => ?_) (fun c12 => ?_)
    · skip
      refine dv_iconst (v := (-1)) dX8_line_18 (by decide) ?_
      have q13 : ((-1) : Int32).toInt = -1 := by decide
      exact dv_iret dX8_line_19 rfl (by first | exact Nat.zero_le _ | decide) (by first | exact Nat.zero_le _ | decide) (by subst hK; exact ⟨(-1), rfl, (rfl), rfl⟩)
    · skip
      exact absurd c12 (by decide)

set_option maxHeartbeats 4000000 in
set_option maxRecDepth 100000 in
theorem r_loss (l : Launch) (g : zG) (pe : Int32) (ct : Nat → va_E) (far : Int32) (hI : Inv8 g idn pe ct) (hfar : far.toInt ≤ -2 ∨ 512 ≤ far.toInt) : DM l g pCl false yX8_loss cX8_loss 4 (some .int) ({ frames := 1, cells := 0, slots := 0, locals := 21 }) (fun (ct2 : Nat → va_E) (rr : Option Value) => ∃ (r : Int32), rr = some (.int r) ∧ (((r = (-1 : Int32)))) ∧ ct = ct2) ct [.ref 0, .int far] := by
  refine DM.K (fun K hK => ?_)
  refine GW.met (own := RX8) (loc := [(0, .ref 0), (1, .int far)]) (by decide) rfl rfl (Nat.le_of_ble_eq_true rfl) ?_
  have hpe0 := hI.1
  have rg_far := z_rng far
  refine dv_aload_n dX8_loss_0 rfl 0 rfl ?_
  refine dv_iload_n dX8_loss_1 rfl 1 rfl ?_
  obtain ⟨bk4, dr3, h5, h6, h7, hs2⟩ := a8_0 hI
  refine GW.callV (n := 1) (As := [.int far]) (rest := []) (b := 0) (k_X8_isBook l g pe ct far hI) (fun _ h => h) rfl rfl ⟨by decide, rfl⟩ hs2 (q := (RX8, TX8, 13)) rfl mm_415 mm_417 mm_4 mm_52 mm_418 (by decide +kernel) ⟨Nat.le_of_ble_eq_true rfl, Nat.le_of_ble_eq_true rfl⟩ rfl (Nat.le_of_ble_eq_true rfl) dX8_loss_2 (Nat.zero_le _) (Nat.zero_le _) rfl (fun ct1 rrr8 hBr8 hoff9 => ?_)
  obtain ⟨r8, rfl, hr8, rfl⟩ := hBr8
  refine GW.eq (S2 := [.int r8]) rfl rfl rfl ?_
  rcases hr8 with hr8 | hr8
  · skip
    obtain ⟨rfl, h10, h11⟩ := hr8
    have h10 : 0 ≤ far.toInt := h10
    have h11 : far.toInt ≤ 3 := h11
    exfalso
    omega
  · skip
    obtain rfl := hr8
    refine dv_if_ne (tgt := 10) dX8_loss_5 (by decide) (fun c12 => ?_) (fun c12 => ?_)
    · skip
      exact absurd c12 (by decide)
    · skip
      refine dv_iconst (v := (-1)) dX8_loss_8 (by decide) ?_
      have q13 : ((-1) : Int32).toInt = -1 := by decide
      exact dv_iret dX8_loss_9 rfl (by first | exact Nat.zero_le _ | decide) (by first | exact Nat.zero_le _ | decide) (by subst hK; exact ⟨(-1), rfl, (rfl), rfl⟩)

set_option maxHeartbeats 4000000 in
set_option maxRecDepth 100000 in
theorem r_linesOf (l : Launch) (g : zG) (pe : Int32) (ct : Nat → va_E) (far : Int32) (hI : Inv8 g idn pe ct) (hfar : far.toInt ≤ -2 ∨ 512 ≤ far.toInt) : DM l g pAll false yX8_linesOf cX8_linesOf 6 (some .int) ({ frames := 1, cells := 0, slots := 0, locals := 21 }) (fun (ct2 : Nat → va_E) (rr : Option Value) => ∃ (r : Int32), rr = some (.int r) ∧ (((r = (-1 : Int32)))) ∧ ct = ct2) ct [.ref 0, .int 0, .int far, .int 0] := by
  refine DM.K (fun K hK => ?_)
  refine GW.met (own := RX8) (loc := [(0, .ref 0), (1, .int 0), (2, .int far), (3, .int 0)]) (by decide) rfl rfl (Nat.le_of_ble_eq_true rfl) ?_
  have hpe0 := hI.1
  have rg_far := z_rng far
  refine dv_aload_n dX8_linesOf_0 rfl 0 rfl ?_
  refine dv_iload_n dX8_linesOf_1 rfl 1 rfl ?_
  obtain ⟨bk4, dr3, h5, h6, h7, hs2⟩ := a8_0 hI
  refine GW.callV (n := 1) (As := [.int 0]) (rest := []) (b := 0) (k_X8_isBook l g pe ct (0 : Int32) hI) sub_pCl_pAll rfl rfl ⟨by decide, rfl⟩ hs2 (q := (RX8, TX8, 13)) rfl mm_415 mm_417 mm_4 mm_52 mm_418 (by decide +kernel) ⟨Nat.le_of_ble_eq_true rfl, Nat.le_of_ble_eq_true rfl⟩ rfl (Nat.le_of_ble_eq_true rfl) dX8_linesOf_2 (Nat.zero_le _) (Nat.zero_le _) rfl (fun ct1 rrr8 hBr8 hoff9 => ?_)
  obtain ⟨r8, rfl, hr8, rfl⟩ := hBr8
  refine GW.eq (S2 := [.int r8]) rfl rfl rfl ?_
  rcases hr8 with hr8 | hr8
  · skip
    obtain ⟨rfl, h10, h11⟩ := hr8
    have h10 : 0 ≤ (0 : Int) := h10
    have h11 : (0 : Int) ≤ 3 := h11
    refine dv_if_eq (tgt := 23) dX8_linesOf_5 (by decide) (fun c12 => ?_) (fun c12 => ?_)
    · skip
      exact absurd c12 (by decide)
    · skip
      refine dv_aload_n dX8_linesOf_8 rfl 0 rfl ?_
      refine dv_iload_n dX8_linesOf_9 rfl 2 rfl ?_
      refine GW.callV (n := 1) (As := [.int far]) (rest := []) (b := 0) (k_X8_isPerson l g pe ct far hI) sub_pCl_pAll rfl rfl ⟨by decide, rfl⟩ hs2 (q := (RX8, TX8, 13)) rfl mm_370 mm_372 mm_1 mm_52 mm_373 (by decide +kernel) ⟨Nat.le_of_ble_eq_true rfl, Nat.le_of_ble_eq_true rfl⟩ rfl (Nat.le_of_ble_eq_true rfl) dX8_linesOf_10 (Nat.zero_le _) (Nat.zero_le _) rfl (fun ct13 rrr14 hBr14 hoff15 => ?_)
      obtain ⟨r14, rfl, hr14, rfl⟩ := hBr14
      refine GW.eq (S2 := [.int r14]) rfl rfl rfl ?_
      rcases hr14 with hr14 | hr14
      · skip
        obtain ⟨rfl, h16, h17⟩ := hr14
        have h16 : 0 ≤ far.toInt := h16
        have h17 : far.toInt < pe.toInt := h17
        exfalso
        omega
      · skip
        obtain ⟨rfl, h18⟩ := hr14
        have h18 : ¬ (0 ≤ far.toInt ∧ far.toInt < pe.toInt) := h18
        refine dv_if_eq (tgt := 23) dX8_linesOf_13 (by decide) (fun c19 => ?_) (fun c19 => ?_)
        · skip
          refine dv_iconst (v := (-1)) dX8_linesOf_23 (by decide) ?_
          have q20 : ((-1) : Int32).toInt = -1 := by decide
          exact dv_iret dX8_linesOf_24 rfl (by first | exact Nat.zero_le _ | decide) (by first | exact Nat.zero_le _ | decide) (by subst hK; exact ⟨(-1), rfl, (rfl), rfl⟩)
        · skip
          exact absurd c19 (by decide)
  · skip
    obtain rfl := hr8
    refine dv_if_eq (tgt := 23) dX8_linesOf_5 (by decide) (fun c21 => ?_) (fun c21 => ?_)
    · skip
      refine dv_iconst (v := (-1)) dX8_linesOf_23 (by decide) ?_
      have q22 : ((-1) : Int32).toInt = -1 := by decide
      exact dv_iret dX8_linesOf_24 rfl (by first | exact Nat.zero_le _ | decide) (by first | exact Nat.zero_le _ | decide) (by subst hK; exact ⟨(-1), rfl, (rfl), rfl⟩)
    · skip
      exact absurd c21 (by decide)

set_option maxHeartbeats 4000000 in
set_option maxRecDepth 100000 in
theorem r_check1 (l : Launch) (g : zG) (pe : Int32) (ct : Nat → va_E) (far : Int32) (hI : Inv8 g idn pe ct) (hfar : far.toInt ≤ -2 ∨ 512 ≤ far.toInt) : DM l g pCl false yX8_check cX8_check 6 (some .int) ({ frames := 3, cells := 0, slots := 0, locals := 66 }) (fun (ct2 : Nat → va_E) (rr : Option Value) => ∃ (r : Int32), rr = some (.int r) ∧ (((r = (-2 : Int32)))) ∧ ct = ct2) ct [.ref 0, .int far, .int 0, .int 0] := by
  refine DM.K (fun K hK => ?_)
  refine GW.met (own := RX8) (loc := [(0, .ref 0), (1, .int far), (2, .int 0), (3, .int 0)]) (by decide) rfl rfl (Nat.le_of_ble_eq_true rfl) ?_
  have hpe0 := hI.1
  have rg_far := z_rng far
  refine dv_aload_n dX8_check_0 rfl 0 rfl ?_
  refine dv_iload_n dX8_check_1 rfl 1 rfl ?_
  refine dv_iload_n dX8_check_2 rfl 2 rfl ?_
  obtain ⟨bk4, dr3, h5, h6, h7, hs2⟩ := a8_0 hI
  refine GW.callV (n := 2) (As := [.int far, .int 0]) (rest := []) (b := 0) (k_X8_isLive l g pe ct far (0 : Int32) hI) (fun _ h => h) rfl rfl ⟨by decide, rfl⟩ hs2 (q := (RX8, TX8, 13)) rfl mm_422 mm_424 mm_5 mm_52 mm_425 (by decide +kernel) ⟨Nat.le_of_ble_eq_true rfl, Nat.le_of_ble_eq_true rfl⟩ rfl (Nat.le_of_ble_eq_true rfl) dX8_check_3 (Nat.zero_le _) (Nat.zero_le _) rfl (fun ct1 rrr8 hBr8 hoff9 => ?_)
  obtain ⟨r8, rfl, hr8, rfl⟩ := hBr8
  refine GW.eq (S2 := [.int r8]) rfl rfl rfl ?_
  rcases hr8 with hr8 | hr8
  · skip
    obtain ⟨rfl, h10, h11⟩ := hr8
    have h10 : 0 ≤ far.toInt ∧ far.toInt ≤ 3 := h10
    have h11 : 0 ≤ (0 : Int) ∧ (0 : Int) ≤ 7 := h11
    exfalso
    omega
  · skip
    obtain rfl := hr8
    refine dv_if_eq (tgt := 31) dX8_check_6 (by decide) (fun c12 => ?_) (fun c12 => ?_)
    · skip
      refine dv_bipush (v := (-2)) dX8_check_31 (by decide) ?_
      have q13 : ((-2) : Int32).toInt = -2 := by decide
      exact dv_iret dX8_check_33 rfl (by first | exact Nat.zero_le _ | decide) (by first | exact Nat.zero_le _ | decide) (by subst hK; exact ⟨(-2), rfl, (rfl), rfl⟩)
    · skip
      exact absurd c12 (by decide)

set_option maxHeartbeats 4000000 in
set_option maxRecDepth 100000 in
theorem r_check2 (l : Launch) (g : zG) (pe : Int32) (ct : Nat → va_E) (hI : Inv8 g idn pe ct) : DM l g pCl false yX8_check cX8_check 6 (some .int) ({ frames := 3, cells := 0, slots := 0, locals := 66 }) (fun (ct2 : Nat → va_E) (rr : Option Value) => ∃ (r : Int32), rr = some (.int r) ∧ (((r = (-2 : Int32)))) ∧ ct = ct2) ct [.ref 0, .int 0, .int 0, .int 5] := by
  refine DM.K (fun K hK => ?_)
  refine GW.met (own := RX8) (loc := [(0, .ref 0), (1, .int 0), (2, .int 0), (3, .int 5)]) (by decide) rfl rfl (Nat.le_of_ble_eq_true rfl) ?_
  have hpe0 := hI.1
  refine dv_aload_n dX8_check_0 rfl 0 rfl ?_
  refine dv_iload_n dX8_check_1 rfl 1 rfl ?_
  refine dv_iload_n dX8_check_2 rfl 2 rfl ?_
  obtain ⟨bk4, dr3, h5, h6, h7, hs2⟩ := a8_0 hI
  refine GW.callV (n := 2) (As := [.int 0, .int 0]) (rest := []) (b := 0) (k_X8_isLive l g pe ct (0 : Int32) (0 : Int32) hI) (fun _ h => h) rfl rfl ⟨by decide, rfl⟩ hs2 (q := (RX8, TX8, 13)) rfl mm_422 mm_424 mm_5 mm_52 mm_425 (by decide +kernel) ⟨Nat.le_of_ble_eq_true rfl, Nat.le_of_ble_eq_true rfl⟩ rfl (Nat.le_of_ble_eq_true rfl) dX8_check_3 (Nat.zero_le _) (Nat.zero_le _) rfl (fun ct1 rrr8 hBr8 hoff9 => ?_)
  obtain ⟨r8, rfl, hr8, rfl⟩ := hBr8
  refine GW.eq (S2 := [.int r8]) rfl rfl rfl ?_
  rcases hr8 with hr8 | hr8
  · skip
    obtain ⟨rfl, h10, h11⟩ := hr8
    have h10 : 0 ≤ (0 : Int) ∧ (0 : Int) ≤ 3 := h10
    have h11 : 0 ≤ (0 : Int) ∧ (0 : Int) ≤ 7 := h11
    refine dv_if_eq (tgt := 31) dX8_check_6 (by decide) (fun c12 => ?_) (fun c12 => ?_)
    · skip
      exact absurd c12 (by decide)
    · skip
      refine dv_iload_n dX8_check_9 rfl 3 rfl ?_
      refine dv_iconst (v := 0) dX8_check_10 (by decide) ?_
      refine dv_iconst (v := 4) dX8_check_11 (by decide) ?_
      refine GW.callS (n := 3) (As := [.int 5, .int 0, .int 4]) (rest := []) (k_X8_within l g pe ct (5 : Int32) (0 : Int32) (4 : Int32) hI) (fun _ h => Bool.noConfusion h) rfl rfl mm_355 mm_356 mm_52 mm_357 (by decide +kernel) ⟨Nat.le_of_ble_eq_true rfl, Nat.le_of_ble_eq_true rfl⟩ rfl (Nat.le_of_ble_eq_true rfl) dX8_check_12 (Nat.zero_le _) (Nat.zero_le _) rfl (fun ct13 rrr14 hBr14 hoff15 => ?_)
      obtain ⟨r14, rfl, hr14, rfl⟩ := hBr14
      refine GW.eq (S2 := [.int r14]) rfl rfl rfl ?_
      rcases hr14 with hr14 | hr14
      · skip
        obtain ⟨rfl, h16, h17⟩ := hr14
        have h16 : (0 : Int) ≤ (5 : Int) := h16
        have h17 : (5 : Int) ≤ (4 : Int) := h17
        exfalso
        omega
      · skip
        obtain ⟨rfl, h18⟩ := hr14
        have h18 : ¬ ((0 : Int) ≤ (5 : Int) ∧ (5 : Int) ≤ (4 : Int)) := h18
        refine dv_if_eq (tgt := 31) dX8_check_15 (by decide) (fun c19 => ?_) (fun c19 => ?_)
        · skip
          refine dv_bipush (v := (-2)) dX8_check_31 (by decide) ?_
          have q20 : ((-2) : Int32).toInt = -2 := by decide
          exact dv_iret dX8_check_33 rfl (by first | exact Nat.zero_le _ | decide) (by first | exact Nat.zero_le _ | decide) (by subst hK; exact ⟨(-2), rfl, (rfl), rfl⟩)
        · skip
          exact absurd c19 (by decide)
  · skip
    obtain rfl := hr8
    refine dv_if_eq (tgt := 31) dX8_check_6 (by decide) (fun c21 => ?_) (fun c21 => ?_)
    · skip
      refine dv_bipush (v := (-2)) dX8_check_31 (by decide) ?_
      have q22 : ((-2) : Int32).toInt = -2 := by decide
      exact dv_iret dX8_check_33 rfl (by first | exact Nat.zero_le _ | decide) (by first | exact Nat.zero_le _ | decide) (by subst hK; exact ⟨(-2), rfl, (rfl), rfl⟩)
    · skip
      exact absurd c21 (by decide)

set_option maxHeartbeats 4000000 in
set_option maxRecDepth 100000 in
theorem r_bestSwap (l : Launch) (g : zG) (pe : Int32) (ct : Nat → va_E) (hI : Inv8 g idn pe ct) : DM l g pAll false yX8_bestSwap cX8_bestSwap 10 (some .int) ({ frames := 2, cells := 0, slots := 0, locals := 42 }) (fun (ct2 : Nat → va_E) (rr : Option Value) => ∃ (r : Int32), rr = some (.int r) ∧ (((r = (-1 : Int32)))) ∧ ct = ct2) ct [.ref 0, .int 0, .int 17, .int 0] := by
  refine DM.K (fun K hK => ?_)
  refine GW.met (own := RX8) (loc := [(0, .ref 0), (1, .int 0), (2, .int 17), (3, .int 0)]) (by decide) rfl rfl (Nat.le_of_ble_eq_true rfl) ?_
  have hpe0 := hI.1
  refine dv_aload_n dX8_bestSwap_0 rfl 0 rfl ?_
  refine dv_iload_n dX8_bestSwap_1 rfl 1 rfl ?_
  obtain ⟨bk4, dr3, h5, h6, h7, hs2⟩ := a8_0 hI
  refine GW.callV (n := 1) (As := [.int 0]) (rest := []) (b := 0) (k_X8_isBook l g pe ct (0 : Int32) hI) sub_pCl_pAll rfl rfl ⟨by decide, rfl⟩ hs2 (q := (RX8, TX8, 13)) rfl mm_415 mm_417 mm_4 mm_52 mm_418 (by decide +kernel) ⟨Nat.le_of_ble_eq_true rfl, Nat.le_of_ble_eq_true rfl⟩ rfl (Nat.le_of_ble_eq_true rfl) dX8_bestSwap_2 (Nat.zero_le _) (Nat.zero_le _) rfl (fun ct1 rrr8 hBr8 hoff9 => ?_)
  obtain ⟨r8, rfl, hr8, rfl⟩ := hBr8
  refine GW.eq (S2 := [.int r8]) rfl rfl rfl ?_
  rcases hr8 with hr8 | hr8
  · skip
    obtain ⟨rfl, h10, h11⟩ := hr8
    have h10 : 0 ≤ (0 : Int) := h10
    have h11 : (0 : Int) ≤ 3 := h11
    refine dv_if_eq (tgt := 24) dX8_bestSwap_5 (by decide) (fun c12 => ?_) (fun c12 => ?_)
    · skip
      exact absurd c12 (by decide)
    · skip
      refine dv_iload_n dX8_bestSwap_8 rfl 2 rfl ?_
      refine GW.callS (n := 1) (As := [.int 17]) (rest := []) (k_X8_isBar l g pe ct (17 : Int32) hI) (fun _ h => Bool.noConfusion h) rfl rfl mm_530 mm_531 mm_52 mm_532 (by decide +kernel) ⟨Nat.le_of_ble_eq_true rfl, Nat.le_of_ble_eq_true rfl⟩ rfl (Nat.le_of_ble_eq_true rfl) dX8_bestSwap_9 (Nat.zero_le _) (Nat.zero_le _) rfl (fun ct13 rrr14 hBr14 hoff15 => ?_)
      obtain ⟨r14, rfl, hr14, rfl⟩ := hBr14
      refine GW.eq (S2 := [.int r14]) rfl rfl rfl ?_
      rcases hr14 with hr14 | hr14
      · skip
        obtain ⟨rfl, h16, h17⟩ := hr14
        have h16 : 1 ≤ (17 : Int) := h16
        have h17 : (17 : Int) ≤ 16 := h17
        exfalso
        omega
      · skip
        obtain ⟨rfl, h18⟩ := hr14
        have h18 : ¬ (1 ≤ (17 : Int) ∧ (17 : Int) ≤ 16) := h18
        refine dv_if_eq (tgt := 24) dX8_bestSwap_12 (by decide) (fun c19 => ?_) (fun c19 => ?_)
        · skip
          refine dv_iconst (v := (-1)) dX8_bestSwap_24 (by decide) ?_
          have q20 : ((-1) : Int32).toInt = -1 := by decide
          exact dv_iret dX8_bestSwap_25 rfl (by first | exact Nat.zero_le _ | decide) (by first | exact Nat.zero_le _ | decide) (by subst hK; exact ⟨(-1), rfl, (rfl), rfl⟩)
        · skip
          exact absurd c19 (by decide)
  · skip
    obtain rfl := hr8
    refine dv_if_eq (tgt := 24) dX8_bestSwap_5 (by decide) (fun c21 => ?_) (fun c21 => ?_)
    · skip
      refine dv_iconst (v := (-1)) dX8_bestSwap_24 (by decide) ?_
      have q22 : ((-1) : Int32).toInt = -1 := by decide
      exact dv_iret dX8_bestSwap_25 rfl (by first | exact Nat.zero_le _ | decide) (by first | exact Nat.zero_le _ | decide) (by subst hK; exact ⟨(-1), rfl, (rfl), rfl⟩)
    · skip
      exact absurd c21 (by decide)

set_option maxHeartbeats 4000000 in
set_option maxRecDepth 100000 in
theorem r_blurring (l : Launch) (g : zG) (pe : Int32) (ct : Nat → va_E) (hI : Inv8 g idn pe ct) : DM l g pCl false yX8_blurring cX8_blurring 6 (some .int) ({ frames := 1, cells := 0, slots := 0, locals := 22 }) (fun (ct2 : Nat → va_E) (rr : Option Value) => ∃ (r : Int32), rr = some (.int r) ∧ (((r = (-3 : Int32)))) ∧ ct = ct2) ct [.ref 0, .int 0, .int 1, .int 0, .int (-1)] := by
  refine DM.K (fun K hK => ?_)
  refine GW.met (own := RX8) (loc := [(0, .ref 0), (1, .int 0), (2, .int 1), (3, .int 0), (4, .int (-1))]) (by decide) rfl rfl (Nat.le_of_ble_eq_true rfl) ?_
  have hpe0 := hI.1
  refine dv_iload_n dX8_blurring_0 rfl 1 rfl ?_
  refine dv_iconst (v := 1) dX8_blurring_1 (by decide) ?_
  refine dv_bipush (v := 8) dX8_blurring_2 (by decide) ?_
  refine GW.callS (n := 3) (As := [.int 0, .int 1, .int 8]) (rest := []) (k_X8_within l g pe ct (0 : Int32) (1 : Int32) (8 : Int32) hI) (fun _ h => Bool.noConfusion h) rfl rfl mm_355 mm_356 mm_52 mm_357 (by decide +kernel) ⟨Nat.le_of_ble_eq_true rfl, Nat.le_of_ble_eq_true rfl⟩ rfl (Nat.le_of_ble_eq_true rfl) dX8_blurring_4 (Nat.zero_le _) (Nat.zero_le _) rfl (fun ct1 rrr2 hBr2 hoff3 => ?_)
  obtain ⟨r2, rfl, hr2, rfl⟩ := hBr2
  refine GW.eq (S2 := [.int r2]) rfl rfl rfl ?_
  rcases hr2 with hr2 | hr2
  · skip
    obtain ⟨rfl, h4, h5⟩ := hr2
    have h4 : (1 : Int) ≤ (0 : Int) := h4
    have h5 : (0 : Int) ≤ (8 : Int) := h5
    exfalso
    omega
  · skip
    obtain ⟨rfl, h6⟩ := hr2
    have h6 : ¬ ((1 : Int) ≤ (0 : Int) ∧ (0 : Int) ≤ (8 : Int)) := h6
    refine dv_if_eq (tgt := 28) dX8_blurring_7 (by decide) (fun c7 => ?_) (fun c7 => ?_)
    · skip
      refine dv_bipush (v := (-3)) dX8_blurring_28 (by decide) ?_
      have q8 : ((-3) : Int32).toInt = -3 := by decide
      exact dv_iret dX8_blurring_30 rfl (by first | exact Nat.zero_le _ | decide) (by first | exact Nat.zero_le _ | decide) (by subst hK; exact ⟨(-3), rfl, (rfl), rfl⟩)
    · skip
      exact absurd c7 (by decide)

set_option maxHeartbeats 4000000 in
set_option maxRecDepth 100000 in
theorem r_questions (l : Launch) (g : zG) (pe : Int32) (ct : Nat → va_E) (far : Int32) (hI : Inv8 g idn pe ct) (hfar : far.toInt ≤ -2 ∨ 512 ≤ far.toInt) : DM l g pAll false yX8_questions cX8_questions 7 (some .int) ({ frames := 2, cells := 0, slots := 0, locals := 44 }) (fun (ct2 : Nat → va_E) (rr : Option Value) => ∃ (r : Int32), rr = some (.int r) ∧ (((r = (-1 : Int32)))) ∧ ct = ct2) ct [.ref 0, .int far, .int 0, .int 0, .int 0] := by
  refine DM.K (fun K hK => ?_)
  refine GW.met (own := RX8) (loc := [(0, .ref 0), (1, .int far), (2, .int 0), (3, .int 0), (4, .int 0)]) (by decide) rfl rfl (Nat.le_of_ble_eq_true rfl) ?_
  have hpe0 := hI.1
  have rg_far := z_rng far
  refine dv_aload_n dX8_questions_0 rfl 0 rfl ?_
  refine dv_iload_n dX8_questions_1 rfl 1 rfl ?_
  refine dv_iload_n dX8_questions_2 rfl 2 rfl ?_
  obtain ⟨bk4, dr3, h5, h6, h7, hs2⟩ := a8_0 hI
  refine GW.callV (n := 2) (As := [.int far, .int 0]) (rest := []) (b := 0) (k_X8_isLine l g pe ct far (0 : Int32) hI) sub_pCl_pAll rfl rfl ⟨by decide, rfl⟩ hs2 (q := (RX8, TX8, 13)) rfl mm_411 mm_413 mm_3 mm_52 mm_414 (by decide +kernel) ⟨Nat.le_of_ble_eq_true rfl, Nat.le_of_ble_eq_true rfl⟩ rfl (Nat.le_of_ble_eq_true rfl) dX8_questions_3 (Nat.zero_le _) (Nat.zero_le _) rfl (fun ct1 rrr8 hBr8 hoff9 => ?_)
  obtain ⟨r8, rfl, hr8, rfl⟩ := hBr8
  refine GW.eq (S2 := [.int r8]) rfl rfl rfl ?_
  rcases hr8 with hr8 | hr8
  · skip
    obtain ⟨rfl, h10, h11⟩ := hr8
    have h10 : 0 ≤ far.toInt ∧ far.toInt ≤ 3 := h10
    have h11 : 0 ≤ (0 : Int) ∧ (0 : Int) ≤ 7 := h11
    exfalso
    omega
  · skip
    obtain rfl := hr8
    refine dv_if_eq (tgt := 26) dX8_questions_6 (by decide) (fun c12 => ?_) (fun c12 => ?_)
    · skip
      refine dv_iconst (v := (-1)) dX8_questions_26 (by decide) ?_
      have q13 : ((-1) : Int32).toInt = -1 := by decide
      exact dv_iret dX8_questions_27 rfl (by first | exact Nat.zero_le _ | decide) (by first | exact Nat.zero_le _ | decide) (by subst hK; exact ⟨(-1), rfl, (rfl), rfl⟩)
    · skip
      exact absurd c12 (by decide)

set_option maxHeartbeats 4000000 in
set_option maxRecDepth 100000 in
theorem r_count (l : Launch) (g : zG) (pe : Int32) (ct : Nat → va_E) (far : Int32) (hI : Inv8 g idn pe ct) (hfar : far.toInt = 6 ∨ far.toInt ≤ -2 ∨ 512 ≤ far.toInt) : DM l g pCl false yX8_count cX8_count 2 (some .int) ({ frames := 1, cells := 0, slots := 0, locals := 22 }) (fun (ct2 : Nat → va_E) (rr : Option Value) => ∃ (r : Int32), rr = some (.int r) ∧ (((r = (-1 : Int32)))) ∧ ct = ct2) ct [.ref 0, .int far] := by
  refine DM.K (fun K hK => ?_)
  refine GW.met (own := RX8) (loc := [(0, .ref 0), (1, .int far)]) (by decide) rfl rfl (Nat.le_of_ble_eq_true rfl) ?_
  have hpe0 := hI.1
  have rg_far := z_rng far
  refine dv_iload_n dX8_count_0 rfl 1 rfl ?_
  rcases (show far.toInt = 0 ∨ far.toInt = 1 ∨ far.toInt = 2 ∨ far.toInt = 3 ∨ far.toInt = 4 ∨ far.toInt = 5 ∨ far.toInt < 0 ∨ 5 < far.toInt by omega) with hw1 | hw1 | hw1 | hw1 | hw1 | hw1 | hw1
  · skip
    refine dv_tableIn (tgt := 40) (off := 39) dX8_count_1 (by omega) (by omega) (by rw [hw1]; rfl) (by decide) ?_
    refine dv_aload_n dX8_count_40 rfl 0 rfl ?_
    obtain ⟨bk4, dr3, h5, h6, h7, hs2⟩ := a8_0 hI
    refine dv_get (ci := 8) (v := .int pe) (C := RX8) (T := TX8) (N := 13) ⟨by decide, rfl⟩ hs2 rfl inG8 11 (by decide) mm_314 rfl dX8_count_41 ?_
    exact dv_iret dX8_count_44 rfl (by first | exact Nat.zero_le _ | decide) (by first | exact Nat.zero_le _ | decide) (by subst hK; exact ⟨pe, rfl, (by first | rfl | (exfalso; omega)), rfl⟩)
  · skip
    refine dv_tableIn (tgt := 45) (off := 44) dX8_count_1 (by omega) (by omega) (by rw [hw1]; rfl) (by decide) ?_
    refine dv_aload_n dX8_count_45 rfl 0 rfl ?_
    obtain ⟨bk10, dr9, h11, h12, h13, hs8⟩ := a8_0 hI
    refine dv_get (ci := 8) (v := .int bk10) (C := RX8) (T := TX8) (N := 13) ⟨by decide, rfl⟩ hs8 rfl inG8 12 (by decide) mm_315 rfl dX8_count_46 ?_
    exact dv_iret dX8_count_49 rfl (by first | exact Nat.zero_le _ | decide) (by first | exact Nat.zero_le _ | decide) (by subst hK; exact ⟨bk10, rfl, (by first | rfl | (exfalso; omega)), rfl⟩)
  · skip
    refine dv_tableIn (tgt := 50) (off := 49) dX8_count_1 (by omega) (by omega) (by rw [hw1]; rfl) (by decide) ?_
    refine dv_aload_n dX8_count_50 rfl 0 rfl ?_
    obtain ⟨bk16, dr15, h17, h18, h19, hs14⟩ := a8_0 hI
    refine dv_get (ci := 8) (v := .ref 6) (C := RX8) (T := TX8) (N := 13) ⟨by decide, rfl⟩ hs14 rfl inG8 4 (by decide) mm_307 rfl dX8_count_51 ?_
    obtain ⟨num21, h22, h23, hs20⟩ := a8_6 hI
    refine dv_get (ci := 5) (v := .int num21) (C := RX5) (T := TX5) (N := 3) ⟨by decide, rfl⟩ hs20 rfl inG5 0 (by decide) mm_97 rfl dX8_count_54 ?_
    exact dv_iret dX8_count_57 rfl (by first | exact Nat.zero_le _ | decide) (by first | exact Nat.zero_le _ | decide) (by subst hK; exact ⟨num21, rfl, (by first | rfl | (exfalso; omega)), rfl⟩)
  · skip
    refine dv_tableIn (tgt := 58) (off := 57) dX8_count_1 (by omega) (by omega) (by rw [hw1]; rfl) (by decide) ?_
    refine dv_aload_n dX8_count_58 rfl 0 rfl ?_
    obtain ⟨bk27, dr26, h28, h29, h30, hs25⟩ := a8_0 hI
    refine GW.callV (n := 0) (As := []) (rest := []) (b := 0) (k_X8_toldGossips l g pe ct  hI) (fun _ h => h) rfl rfl ⟨by decide, rfl⟩ hs25 (q := (RX8, TX8, 13)) rfl mm_855 mm_857 mm_49 mm_52 mm_858 (by decide +kernel) ⟨Nat.le_of_ble_eq_true rfl, Nat.le_of_ble_eq_true rfl⟩ rfl (Nat.le_of_ble_eq_true rfl) dX8_count_59 (Nat.zero_le _) (Nat.zero_le _) rfl (fun ct24 rrr31 hBr31 hoff32 => ?_)
    obtain ⟨r31, rfl, hr31, rfl⟩ := hBr31
    refine GW.eq (S2 := [.int r31]) rfl rfl rfl ?_
    exact dv_iret dX8_count_62 rfl (by first | exact Nat.zero_le _ | decide) (by first | exact Nat.zero_le _ | decide) (by subst hK; exact ⟨r31, rfl, (by first | rfl | (exfalso; omega)), rfl⟩)
  · skip
    refine dv_tableIn (tgt := 63) (off := 62) dX8_count_1 (by omega) (by omega) (by rw [hw1]; rfl) (by decide) ?_
    refine dv_aload_n dX8_count_63 rfl 0 rfl ?_
    obtain ⟨bk35, dr34, h36, h37, h38, hs33⟩ := a8_0 hI
    refine dv_get (ci := 8) (v := .ref 3) (C := RX8) (T := TX8) (N := 13) ⟨by decide, rfl⟩ hs33 rfl inG8 2 (by decide) mm_305 rfl dX8_count_64 ?_
    obtain ⟨len40, h41, h42, hs39⟩ := a8_3 hI
    refine dv_get (ci := 7) (v := .int len40) (C := RX7) (T := TX7) (N := 2) ⟨by decide, rfl⟩ hs39 rfl inG7 0 (by decide) mm_80 rfl dX8_count_67 ?_
    exact dv_iret dX8_count_70 rfl (by first | exact Nat.zero_le _ | decide) (by first | exact Nat.zero_le _ | decide) (by subst hK; exact ⟨len40, rfl, (by first | rfl | (exfalso; omega)), rfl⟩)
  · skip
    refine dv_tableIn (tgt := 71) (off := 70) dX8_count_1 (by omega) (by omega) (by rw [hw1]; rfl) (by decide) ?_
    refine dv_aload_n dX8_count_71 rfl 0 rfl ?_
    obtain ⟨bk46, dr45, h47, h48, h49, hs44⟩ := a8_0 hI
    refine GW.callV (n := 0) (As := []) (rest := []) (b := 0) (k_X8_shownBooks l g pe ct  hI) (fun _ h => h) rfl rfl ⟨by decide, rfl⟩ hs44 (q := (RX8, TX8, 13)) rfl mm_434 mm_436 mm_8 mm_52 mm_437 (by decide +kernel) ⟨Nat.le_of_ble_eq_true rfl, Nat.le_of_ble_eq_true rfl⟩ rfl (Nat.le_of_ble_eq_true rfl) dX8_count_72 (Nat.zero_le _) (Nat.zero_le _) rfl (fun ct43 rrr50 hBr50 hoff51 => ?_)
    obtain ⟨r50, rfl, hr50, rfl⟩ := hBr50
    refine GW.eq (S2 := [.int r50]) rfl rfl rfl ?_
    obtain ⟨hr50_0, hr50_1⟩ := hr50
    have hr50_0 : 0 ≤ r50.toInt := hr50_0
    have hr50_1 : r50.toInt ≤ 15 := hr50_1
    exact dv_iret dX8_count_75 rfl (by first | exact Nat.zero_le _ | decide) (by first | exact Nat.zero_le _ | decide) (by subst hK; exact ⟨r50, rfl, (by first | rfl | (exfalso; omega)), rfl⟩)
  · skip
    refine dv_tableOut (tgt := 76) dX8_count_1 (by omega) (by decide) ?_
    refine dv_aload_n dX8_count_76 rfl 0 rfl ?_
    refine dv_iload_n dX8_count_77 rfl 1 rfl ?_
    refine dv_bipush (v := 10) dX8_count_78 (by decide) ?_
    refine dv_isub dX8_count_80 ?_
    refine dv_topi (fun x52 ex52 => ?_)
    have tx52 : ¬ (0 ≤ x52.toInt ∧ x52.toInt ≤ 16) := by rw [ex52]; exact z_far hfar (by decide)
    obtain ⟨bk56, dr55, h57, h58, h59, hs54⟩ := a8_0 hI
    refine GW.callV (n := 1) (As := [.int x52]) (rest := []) (b := 0) (k_X8_isBook l g pe ct x52 hI) (fun _ h => h) rfl rfl ⟨by decide, rfl⟩ hs54 (q := (RX8, TX8, 13)) rfl mm_415 mm_417 mm_4 mm_52 mm_418 (by decide +kernel) ⟨Nat.le_of_ble_eq_true rfl, Nat.le_of_ble_eq_true rfl⟩ rfl (Nat.le_of_ble_eq_true rfl) dX8_count_81 (Nat.zero_le _) (Nat.zero_le _) rfl (fun ct53 rrr60 hBr60 hoff61 => ?_)
    obtain ⟨r60, rfl, hr60, rfl⟩ := hBr60
    refine GW.eq (S2 := [.int r60]) rfl rfl rfl ?_
    rcases hr60 with hr60 | hr60
    · skip
      obtain ⟨rfl, h62, h63⟩ := hr60
      have h62 : 0 ≤ x52.toInt := h62
      have h63 : x52.toInt ≤ 3 := h63
      refine dv_if_eq (tgt := 100) dX8_count_84 (by decide) (fun c64 => ?_) (fun c64 => ?_)
      · skip
        exact absurd c64 (by decide)
      · skip
        refine dv_aload_n dX8_count_87 rfl 0 rfl ?_
        refine dv_get (ci := 8) (v := .ref 5) (C := RX8) (T := TX8) (N := 13) ⟨by decide, rfl⟩ hs54 rfl inG8 3 (by decide) mm_306 rfl dX8_count_88 ?_
        refine dv_iload_n dX8_count_91 rfl 1 rfl ?_
        refine dv_bipush (v := 10) dX8_count_92 (by decide) ?_
        refine dv_isub dX8_count_94 ?_
        refine dv_topi (fun x65 ex65 => ?_)
        obtain rfl : x52 = x65 := ex52.trans ex65.symm
        have hs66 := a8_5 hI
        refine dv_aldq 5 ⟨by decide, rfl⟩ hs66 rfl (z_in rfl (by omega) (by omega)) dX8_count_95 (r := (0 + 55 + 11 * x52.toInt.toNat)) (zF5_r (x := x52) (by omega) (by omega)) ?_
        obtain ⟨lns68, liv69, shw70, h71, h72, h73, h74, hz75, h76, hs67⟩ := a8_40 (kc := (0 + 55 + 11 * x52.toInt.toNat)) (by omega) hI
        have bhz75 := z_b01 hz75
        refine dv_get (ci := 2) (v := .int lns68) (C := RX2) (T := TX2) (N := 5) ⟨by omega, pCl_of (by omega)⟩ hs67 rfl inG2 0 (by decide) mm_285 rfl dX8_count_96 ?_
        exact dv_iret dX8_count_99 rfl (by first | exact Nat.zero_le _ | decide) (by first | exact Nat.zero_le _ | decide) (by subst hK; exact ⟨lns68, rfl, (by first | rfl | (exfalso; omega)), rfl⟩)
    · skip
      obtain rfl := hr60
      refine dv_if_eq (tgt := 100) dX8_count_84 (by decide) (fun c77 => ?_) (fun c77 => ?_)
      · skip
        refine dv_iload_n dX8_count_100 rfl 1 rfl ?_
        refine dv_bipush (v := 20) dX8_count_101 (by decide) ?_
        refine dv_isub dX8_count_103 ?_
        refine dv_topi (fun x78 ex78 => ?_)
        have tx78 : ¬ (0 ≤ x78.toInt ∧ x78.toInt ≤ 16) := by rw [ex78]; exact z_far hfar (by decide)
        refine GW.callS (n := 1) (As := [.int x78]) (rest := []) (k_X8_isColumn l g pe ct x78 hI) (fun _ h => Bool.noConfusion h) rfl rfl mm_547 mm_401 mm_52 mm_402 (by decide +kernel) ⟨Nat.le_of_ble_eq_true rfl, Nat.le_of_ble_eq_true rfl⟩ rfl (Nat.le_of_ble_eq_true rfl) dX8_count_104 (Nat.zero_le _) (Nat.zero_le _) rfl (fun ct79 rrr80 hBr80 hoff81 => ?_)
        obtain ⟨r80, rfl, hr80, rfl⟩ := hBr80
        refine GW.eq (S2 := [.int r80]) rfl rfl rfl ?_
        rcases hr80 with hr80 | hr80
        · skip
          obtain ⟨rfl, h82, h83⟩ := hr80
          have h82 : 0 ≤ x78.toInt := h82
          have h83 : x78.toInt ≤ 3 := h83
          refine dv_if_eq (tgt := 123) dX8_count_107 (by decide) (fun c84 => ?_) (fun c84 => ?_)
          · skip
            exact absurd c84 (by decide)
          · skip
            refine dv_aload_n dX8_count_110 rfl 0 rfl ?_
            refine dv_get (ci := 8) (v := .ref 1) (C := RX8) (T := TX8) (N := 13) ⟨by decide, rfl⟩ hs54 rfl inG8 0 (by decide) mm_303 rfl dX8_count_111 ?_
            refine dv_iload_n dX8_count_114 rfl 1 rfl ?_
            refine dv_bipush (v := 20) dX8_count_115 (by decide) ?_
            refine dv_isub dX8_count_117 ?_
            refine dv_topi (fun x85 ex85 => ?_)
            obtain rfl : x78 = x85 := ex78.trans ex85.symm
            have hs86 := a8_1 hI
            refine dv_aldq 4 ⟨by decide, rfl⟩ hs86 rfl (z_in rfl (by omega) (by omega)) dX8_count_118 (r := (0 + 35 + 5 * x78.toInt.toNat)) (zF1_r (x := x78) (by omega) (by omega)) ?_
            obtain ⟨we88, se89, h90, h91, hs87⟩ := a8_35 (kc := (0 + 35 + 5 * x78.toInt.toNat)) (by omega) hI
            refine dv_get (ci := 3) (v := .int we88) (C := RX3) (T := TX3) (N := 6) ⟨by omega, pCl_of (by omega)⟩ hs87 rfl inG3 0 (by decide) mm_259 rfl dX8_count_119 ?_
            exact dv_iret dX8_count_122 rfl (by first | exact Nat.zero_le _ | decide) (by first | exact Nat.zero_le _ | decide) (by subst hK; exact ⟨we88, rfl, (by first | rfl | (exfalso; omega)), rfl⟩)
        · skip
          obtain ⟨rfl, h92⟩ := hr80
          have h92 : ¬ (0 ≤ x78.toInt ∧ x78.toInt ≤ 3) := h92
          refine dv_if_eq (tgt := 123) dX8_count_107 (by decide) (fun c93 => ?_) (fun c93 => ?_)
          · skip
            refine dv_aload_n dX8_count_123 rfl 0 rfl ?_
            refine dv_iload_n dX8_count_124 rfl 1 rfl ?_
            refine dv_bipush (v := 30) dX8_count_125 (by decide) ?_
            refine dv_isub dX8_count_127 ?_
            refine dv_topi (fun x94 ex94 => ?_)
            have tx94 : ¬ (0 ≤ x94.toInt ∧ x94.toInt ≤ 16) := by rw [ex94]; exact z_far hfar (by decide)
            refine GW.callV (n := 1) (As := [.int x94]) (rest := []) (b := 0) (k_X8_isPerson l g pe ct x94 hI) (fun _ h => h) rfl rfl ⟨by decide, rfl⟩ hs54 (q := (RX8, TX8, 13)) rfl mm_370 mm_372 mm_1 mm_52 mm_373 (by decide +kernel) ⟨Nat.le_of_ble_eq_true rfl, Nat.le_of_ble_eq_true rfl⟩ rfl (Nat.le_of_ble_eq_true rfl) dX8_count_128 (Nat.zero_le _) (Nat.zero_le _) rfl (fun ct95 rrr96 hBr96 hoff97 => ?_)
            obtain ⟨r96, rfl, hr96, rfl⟩ := hBr96
            refine GW.eq (S2 := [.int r96]) rfl rfl rfl ?_
            rcases hr96 with hr96 | hr96
            · skip
              obtain ⟨rfl, h98, h99⟩ := hr96
              have h98 : 0 ≤ x94.toInt := h98
              have h99 : x94.toInt < pe.toInt := h99
              refine dv_if_eq (tgt := 146) dX8_count_131 (by decide) (fun c100 => ?_) (fun c100 => ?_)
              · skip
                exact absurd c100 (by decide)
              · skip
                refine dv_aload_n dX8_count_134 rfl 0 rfl ?_
                refine dv_get (ci := 8) (v := .ref 2) (C := RX8) (T := TX8) (N := 13) ⟨by decide, rfl⟩ hs54 rfl inG8 1 (by decide) mm_304 rfl dX8_count_135 ?_
                refine dv_iload_n dX8_count_138 rfl 1 rfl ?_
                refine dv_bipush (v := 30) dX8_count_139 (by decide) ?_
                refine dv_isub dX8_count_141 ?_
                refine dv_topi (fun x101 ex101 => ?_)
                obtain rfl : x94 = x101 := ex94.trans ex101.symm
                obtain ⟨f103, hs102⟩ := a8_2 hI
                refine dv_iald 0 ⟨by decide, rfl⟩ hs102 rfl (z_in rfl (by omega) (by omega)) dX8_count_142 ?_
                refine dv_topi (fun y104 ey104 => ?_)
                refine dv_goto (tgt := 147) dX8_count_143 (by decide) ?_
                exact dv_iret dX8_count_147 rfl (by first | exact Nat.zero_le _ | decide) (by first | exact Nat.zero_le _ | decide) (by subst hK; exact ⟨y104, rfl, (by first | rfl | (exfalso; omega)), rfl⟩)
            · skip
              obtain ⟨rfl, h105⟩ := hr96
              have h105 : ¬ (0 ≤ x94.toInt ∧ x94.toInt < pe.toInt) := h105
              refine dv_if_eq (tgt := 146) dX8_count_131 (by decide) (fun c106 => ?_) (fun c106 => ?_)
              · skip
                refine dv_iconst (v := (-1)) dX8_count_146 (by decide) ?_
                have q107 : ((-1) : Int32).toInt = -1 := by decide
                exact dv_iret dX8_count_147 rfl (by first | exact Nat.zero_le _ | decide) (by first | exact Nat.zero_le _ | decide) (by subst hK; exact ⟨(-1), rfl, (by first | rfl | (exfalso; omega)), rfl⟩)
              · skip
                exact absurd c106 (by decide)
          · skip
            exact absurd c93 (by decide)
      · skip
        exact absurd c77 (by decide)
