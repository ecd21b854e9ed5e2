set_option maxHeartbeats 4000000 in
set_option maxRecDepth 100000 in
theorem k_X8_isPerson (l : Launch) (g : zG) (pe : Int32) (ct : Nat → va_E) (p0 : Int32) (hI : Inv8 g idn pe ct) : DM l g pCl false yX8_isPerson cX8_isPerson 2 (some .boolean) ({ frames := 0, cells := 0, slots := 0, locals := 0 }) (fun (ct2 : Nat → va_E) (rr : Option Value) => ∃ (r : Int32), rr = some (.int r) ∧ ((r = 1 ∧ (0 ≤ p0.toInt) ∧ (p0.toInt < pe.toInt)) ∨ (r = 0 ∧ (¬ (0 ≤ p0.toInt ∧ p0.toInt < pe.toInt)))) ∧ ct = ct2) ct [.ref 0, .int p0] := by
  refine DM.K (fun K hK => ?_)
  refine GW.met (own := RX8) (loc := [(0, .ref 0), (1, .int p0)]) (by decide) rfl rfl (Nat.le_of_ble_eq_true rfl) ?_
  have hpe0 := hI.1
  have rg_p0 := z_rng p0
  refine dv_iload_n dX8_isPerson_0 rfl 1 rfl ?_
  refine dv_if_lt (tgt := 16) dX8_isPerson_1 (by decide) (fun c1 => ?_) (fun c1 => ?_)
  · skip
    have c1 : p0.toInt < 0 := (z_lt rfl (by decide : (0 : Int32).toInt = 0)).mp c1
    refine dv_iconst (v := 0) dX8_isPerson_16 (by decide) ?_
    have q2 : (0 : Int32).toInt = 0 := by decide
    exact dv_zret dX8_isPerson_17 rfl rfl (by first | exact Nat.zero_le _ | decide) (by first | exact Nat.zero_le _ | decide) (by subst hK; exact ⟨0, rfl, (by first | exact Or.inl ⟨rfl, by omega⟩ | exact Or.inr ⟨rfl, by omega⟩ | exact Or.inl rfl | exact Or.inr rfl | exact Or.inl ⟨rfl, by omega, by omega⟩ | exact (z_01 (by omega) (by omega)).symm), rfl⟩)
  · skip
    have c1 : ¬ (p0.toInt < 0) := fun q => c1 ((z_lt rfl (by decide : (0 : Int32).toInt = 0)).mpr q)
    refine dv_iload_n dX8_isPerson_4 rfl 1 rfl ?_
    refine dv_aload_n dX8_isPerson_5 rfl 0 rfl ?_
    obtain ⟨bk5, dr4, h6, h7, h8, hs3⟩ := a8_0 hI
    refine dv_get (ci := 8) (v := .int pe) (C := RX8) (T := TX8) (N := 13) ⟨by decide, rfl⟩ hs3 rfl inG8 11 (by decide) mm_314 rfl dX8_isPerson_6 ?_
    refine dv_icmp_ge (tgt := 16) dX8_isPerson_9 (by decide) (fun c9 => ?_) (fun c9 => ?_)
    · skip
      have c9 : pe.toInt ≤ p0.toInt := (z_le rfl rfl).mp c9
      refine dv_iconst (v := 0) dX8_isPerson_16 (by decide) ?_
      have q10 : (0 : Int32).toInt = 0 := by decide
      exact dv_zret dX8_isPerson_17 rfl rfl (by first | exact Nat.zero_le _ | decide) (by first | exact Nat.zero_le _ | decide) (by subst hK; exact ⟨0, rfl, (by first | exact Or.inl ⟨rfl, by omega⟩ | exact Or.inr ⟨rfl, by omega⟩ | exact Or.inl rfl | exact Or.inr rfl | exact Or.inl ⟨rfl, by omega, by omega⟩ | exact (z_01 (by omega) (by omega)).symm), rfl⟩)
    · skip
      have c9 : ¬ (pe.toInt ≤ p0.toInt) := fun q => c9 ((z_le rfl rfl).mpr q)
      refine dv_iconst (v := 1) dX8_isPerson_12 (by decide) ?_
      refine dv_goto (tgt := 17) dX8_isPerson_13 (by decide) ?_
      have q11 : (1 : Int32).toInt = 1 := by decide
      exact dv_zret dX8_isPerson_17 rfl rfl (by first | exact Nat.zero_le _ | decide) (by first | exact Nat.zero_le _ | decide) (by subst hK; exact ⟨1, rfl, (by first | exact Or.inl ⟨rfl, by omega⟩ | exact Or.inr ⟨rfl, by omega⟩ | exact Or.inl rfl | exact Or.inr rfl | exact Or.inl ⟨rfl, by omega, by omega⟩ | exact (z_01 (by omega) (by omega)).symm), rfl⟩)

set_option maxHeartbeats 4000000 in
set_option maxRecDepth 100000 in
theorem k_X8_isBook (l : Launch) (g : zG) (pe : Int32) (ct : Nat → va_E) (b : Int32) (hI : Inv8 g idn pe ct) : DM l g pCl false yX8_isBook cX8_isBook 2 (some .boolean) ({ frames := 0, cells := 0, slots := 0, locals := 0 }) (fun (ct2 : Nat → va_E) (rr : Option Value) => ∃ (r : Int32), rr = some (.int r) ∧ ((r = 1 ∧ (0 ≤ b.toInt) ∧ (b.toInt ≤ 3)) ∨ (r = 0)) ∧ ct = ct2) ct [.ref 0, .int b] := by
  refine DM.K (fun K hK => ?_)
  refine GW.met (own := RX8) (loc := [(0, .ref 0), (1, .int b)]) (by decide) rfl rfl (Nat.le_of_ble_eq_true rfl) ?_
  have hpe0 := hI.1
  have rg_b := z_rng b
  refine dv_iload_n dX8_isBook_0 rfl 1 rfl ?_
  refine dv_if_lt (tgt := 16) dX8_isBook_1 (by decide) (fun c1 => ?_) (fun c1 => ?_)
  · skip
    have c1 : b.toInt < 0 := (z_lt rfl (by decide : (0 : Int32).toInt = 0)).mp c1
    refine dv_iconst (v := 0) dX8_isBook_16 (by decide) ?_
    have q2 : (0 : Int32).toInt = 0 := by decide
    exact dv_zret dX8_isBook_17 rfl rfl (by first | exact Nat.zero_le _ | decide) (by first | exact Nat.zero_le _ | decide) (by subst hK; exact ⟨0, rfl, (by first | exact Or.inl ⟨rfl, by omega⟩ | exact Or.inr ⟨rfl, by omega⟩ | exact Or.inl rfl | exact Or.inr rfl | exact Or.inl ⟨rfl, by omega, by omega⟩ | exact (z_01 (by omega) (by omega)).symm), rfl⟩)
  · skip
    have c1 : ¬ (b.toInt < 0) := fun q => c1 ((z_lt rfl (by decide : (0 : Int32).toInt = 0)).mpr q)
    refine dv_iload_n dX8_isBook_4 rfl 1 rfl ?_
    refine dv_aload_n dX8_isBook_5 rfl 0 rfl ?_
    obtain ⟨bk5, dr4, h6, h7, h8, hs3⟩ := a8_0 hI
    refine dv_get (ci := 8) (v := .int bk5) (C := RX8) (T := TX8) (N := 13) ⟨by decide, rfl⟩ hs3 rfl inG8 12 (by decide) mm_315 rfl dX8_isBook_6 ?_
    refine dv_icmp_ge (tgt := 16) dX8_isBook_9 (by decide) (fun c9 => ?_) (fun c9 => ?_)
    · skip
      have c9 : bk5.toInt ≤ b.toInt := (z_le rfl rfl).mp c9
      refine dv_iconst (v := 0) dX8_isBook_16 (by decide) ?_
      have q10 : (0 : Int32).toInt = 0 := by decide
      exact dv_zret dX8_isBook_17 rfl rfl (by first | exact Nat.zero_le _ | decide) (by first | exact Nat.zero_le _ | decide) (by subst hK; exact ⟨0, rfl, (by first | exact Or.inl ⟨rfl, by omega⟩ | exact Or.inr ⟨rfl, by omega⟩ | exact Or.inl rfl | exact Or.inr rfl | exact Or.inl ⟨rfl, by omega, by omega⟩ | exact (z_01 (by omega) (by omega)).symm), rfl⟩)
    · skip
      have c9 : ¬ (bk5.toInt ≤ b.toInt) := fun q => c9 ((z_le rfl rfl).mpr q)
      refine dv_iconst (v := 1) dX8_isBook_12 (by decide) ?_
      refine dv_goto (tgt := 17) dX8_isBook_13 (by decide) ?_
      have q11 : (1 : Int32).toInt = 1 := by decide
      exact dv_zret dX8_isBook_17 rfl rfl (by first | exact Nat.zero_le _ | decide) (by first | exact Nat.zero_le _ | decide) (by subst hK; exact ⟨1, rfl, (by first | exact Or.inl ⟨rfl, by omega⟩ | exact Or.inr ⟨rfl, by omega⟩ | exact Or.inl rfl | exact Or.inr rfl | exact Or.inl ⟨rfl, by omega, by omega⟩ | exact (z_01 (by omega) (by omega)).symm), rfl⟩)

set_option maxHeartbeats 4000000 in
set_option maxRecDepth 100000 in
theorem k_X8_isLine (l : Launch) (g : zG) (pe : Int32) (ct : Nat → va_E) (b : Int32) (i : Int32) (hI : Inv8 g idn pe ct) : DM l g pCl false yX8_isLine cX8_isLine 3 (some .boolean) ({ frames := 1, cells := 0, slots := 0, locals := 22 }) (fun (ct2 : Nat → va_E) (rr : Option Value) => ∃ (r : Int32), rr = some (.int r) ∧ ((r = 1 ∧ (0 ≤ b.toInt ∧ b.toInt ≤ 3) ∧ (0 ≤ i.toInt ∧ i.toInt ≤ 7)) ∨ (r = 0)) ∧ ct = ct2) ct [.ref 0, .int b, .int i] := by
  refine DM.K (fun K hK => ?_)
  refine GW.met (own := RX8) (loc := [(0, .ref 0), (1, .int b), (2, .int i)]) (by decide) rfl rfl (Nat.le_of_ble_eq_true rfl) ?_
  have hpe0 := hI.1
  have rg_b := z_rng b
  have rg_i := z_rng i
  refine dv_aload_n dX8_isLine_0 rfl 0 rfl ?_
  refine dv_iload_n dX8_isLine_1 rfl 1 rfl ?_
  obtain ⟨bk4, dr3, h5, h6, h7, hs2⟩ := a8_0 hI
  refine GW.callV (n := 1) (As := [.int b]) (rest := []) (b := 0) (k_X8_isBook l g pe ct b hI) (fun _ h => h) rfl rfl ⟨by decide, rfl⟩ hs2 (q := (RX8, TX8, 13)) rfl mm_415 mm_417 mm_4 mm_52 mm_418 (by decide +kernel) ⟨Nat.le_of_ble_eq_true rfl, Nat.le_of_ble_eq_true rfl⟩ rfl (Nat.le_of_ble_eq_true rfl) dX8_isLine_2 (Nat.zero_le _) (Nat.zero_le _) rfl (fun ct1 rrr8 hBr8 hoff9 => ?_)
  obtain ⟨r8, rfl, hr8, rfl⟩ := hBr8
  refine GW.eq (S2 := [.int r8]) rfl rfl rfl ?_
  rcases hr8 with hr8 | hr8
  · skip
    obtain ⟨rfl, h10, h11⟩ := hr8
    have h10 : 0 ≤ b.toInt := h10
    have h11 : b.toInt ≤ 3 := h11
    refine dv_if_eq (tgt := 31) dX8_isLine_5 (by decide) (fun c12 => ?_) (fun c12 => ?_)
    · skip
      exact absurd c12 (by decide)
    · skip
      refine dv_iload_n dX8_isLine_8 rfl 2 rfl ?_
      refine dv_iconst (v := 0) dX8_isLine_9 (by decide) ?_
      refine dv_aload_n dX8_isLine_10 rfl 0 rfl ?_
      refine dv_get (ci := 8) (v := .ref 5) (C := RX8) (T := TX8) (N := 13) ⟨by decide, rfl⟩ hs2 rfl inG8 3 (by decide) mm_306 rfl dX8_isLine_11 ?_
      refine dv_iload_n dX8_isLine_14 rfl 1 rfl ?_
      have hs13 := a8_5 hI
      refine dv_aldq 5 ⟨by decide, rfl⟩ hs13 rfl (z_in rfl (by omega) (by omega)) dX8_isLine_15 (r := (0 + 55 + 11 * b.toInt.toNat)) (zF5_r (x := b) (by omega) (by omega)) ?_
      obtain ⟨lns15, liv16, shw17, h18, h19, h20, h21, hz22, h23, hs14⟩ := a8_40 (kc := (0 + 55 + 11 * b.toInt.toNat)) (by omega) hI
      have bhz22 := z_b01 hz22
      refine dv_get (ci := 2) (v := .int lns15) (C := RX2) (T := TX2) (N := 5) ⟨by omega, pCl_of (by omega)⟩ hs14 rfl inG2 0 (by decide) mm_285 rfl dX8_isLine_16 ?_
      refine dv_iconst (v := 1) dX8_isLine_19 (by decide) ?_
      refine dv_isub dX8_isLine_20 ?_
      refine dv_topi (fun x24 ex24 => ?_)
      have tx24 : x24.toInt = lns15.toInt - 1 := by rw [ex24]; exact z_sub rfl (by decide : (1 : Int32).toInt = 1) (by omega) (by omega)
      refine GW.callS (n := 3) (As := [.int i, .int 0, .int x24]) (rest := []) (k_X8_within l g pe ct i (0 : Int32) x24 hI) (fun _ h => Bool.noConfusion h) rfl rfl mm_355 mm_356 mm_52 mm_357 (by decide +kernel) ⟨Nat.le_of_ble_eq_true rfl, Nat.le_of_ble_eq_true rfl⟩ rfl (Nat.le_of_ble_eq_true rfl) dX8_isLine_21 (Nat.zero_le _) (Nat.zero_le _) rfl (fun ct25 rrr26 hBr26 hoff27 => ?_)
      obtain ⟨r26, rfl, hr26, rfl⟩ := hBr26
      refine GW.eq (S2 := [.int r26]) rfl rfl rfl ?_
      rcases hr26 with hr26 | hr26
      · skip
        obtain ⟨rfl, h28, h29⟩ := hr26
        have h28 : (0 : Int) ≤ i.toInt := h28
        have h29 : i.toInt ≤ x24.toInt := h29
        refine dv_if_eq (tgt := 31) dX8_isLine_24 (by decide) (fun c30 => ?_) (fun c30 => ?_)
        · skip
          exact absurd c30 (by decide)
        · skip
          refine dv_iconst (v := 1) dX8_isLine_27 (by decide) ?_
          refine dv_goto (tgt := 32) dX8_isLine_28 (by decide) ?_
          have q31 : (1 : Int32).toInt = 1 := by decide
          exact dv_zret dX8_isLine_32 rfl rfl (by first | exact Nat.zero_le _ | decide) (by first | exact Nat.zero_le _ | decide) (by subst hK; exact ⟨1, rfl, (by first | exact Or.inl ⟨rfl, by omega⟩ | exact Or.inr ⟨rfl, by omega⟩ | exact Or.inl rfl | exact Or.inr rfl | exact Or.inl ⟨rfl, by omega, by omega⟩ | exact (z_01 (by omega) (by omega)).symm), rfl⟩)
      · skip
        obtain ⟨rfl, h32⟩ := hr26
        have h32 : ¬ ((0 : Int) ≤ i.toInt ∧ i.toInt ≤ x24.toInt) := h32
        refine dv_if_eq (tgt := 31) dX8_isLine_24 (by decide) (fun c33 => ?_) (fun c33 => ?_)
        · skip
          refine dv_iconst (v := 0) dX8_isLine_31 (by decide) ?_
          have q34 : (0 : Int32).toInt = 0 := by decide
          exact dv_zret dX8_isLine_32 rfl rfl (by first | exact Nat.zero_le _ | decide) (by first | exact Nat.zero_le _ | decide) (by subst hK; exact ⟨0, rfl, (by first | exact Or.inl ⟨rfl, by omega⟩ | exact Or.inr ⟨rfl, by omega⟩ | exact Or.inl rfl | exact Or.inr rfl | exact Or.inl ⟨rfl, by omega, by omega⟩ | exact (z_01 (by omega) (by omega)).symm), rfl⟩)
        · skip
          exact absurd c33 (by decide)
  · skip
    obtain rfl := hr8
    refine dv_if_eq (tgt := 31) dX8_isLine_5 (by decide) (fun c35 => ?_) (fun c35 => ?_)
    · skip
      refine dv_iconst (v := 0) dX8_isLine_31 (by decide) ?_
      have q36 : (0 : Int32).toInt = 0 := by decide
      exact dv_zret dX8_isLine_32 rfl rfl (by first | exact Nat.zero_le _ | decide) (by first | exact Nat.zero_le _ | decide) (by subst hK; exact ⟨0, rfl, (by first | exact Or.inl ⟨rfl, by omega⟩ | exact Or.inr ⟨rfl, by omega⟩ | exact Or.inl rfl | exact Or.inr rfl | exact Or.inl ⟨rfl, by omega, by omega⟩ | exact (z_01 (by omega) (by omega)).symm), rfl⟩)
    · skip
      exact absurd c35 (by decide)

set_option maxHeartbeats 4000000 in
set_option maxRecDepth 100000 in
theorem k_X8_isLive (l : Launch) (g : zG) (pe : Int32) (ct : Nat → va_E) (b : Int32) (i : Int32) (hI : Inv8 g idn pe ct) : DM l g pCl false yX8_isLive cX8_isLive 3 (some .boolean) ({ frames := 2, cells := 0, slots := 0, locals := 44 }) (fun (ct2 : Nat → va_E) (rr : Option Value) => ∃ (r : Int32), rr = some (.int r) ∧ ((r = 1 ∧ (0 ≤ b.toInt ∧ b.toInt ≤ 3) ∧ (0 ≤ i.toInt ∧ i.toInt ≤ 7)) ∨ (r = 0)) ∧ ct = ct2) ct [.ref 0, .int b, .int i] := by
  refine DM.K (fun K hK => ?_)
  refine GW.met (own := RX8) (loc := [(0, .ref 0), (1, .int b), (2, .int i)]) (by decide) rfl rfl (Nat.le_of_ble_eq_true rfl) ?_
  have hpe0 := hI.1
  have rg_b := z_rng b
  have rg_i := z_rng i
  refine dv_aload_n dX8_isLive_0 rfl 0 rfl ?_
  refine dv_iload_n dX8_isLive_1 rfl 1 rfl ?_
  refine dv_iload_n dX8_isLive_2 rfl 2 rfl ?_
  obtain ⟨bk4, dr3, h5, h6, h7, hs2⟩ := a8_0 hI
  refine GW.callV (n := 2) (As := [.int b, .int i]) (rest := []) (b := 0) (k_X8_isLine l g pe ct b i hI) (fun _ h => h) rfl rfl ⟨by decide, rfl⟩ hs2 (q := (RX8, TX8, 13)) rfl mm_411 mm_413 mm_3 mm_52 mm_414 (by decide +kernel) ⟨Nat.le_of_ble_eq_true rfl, Nat.le_of_ble_eq_true rfl⟩ rfl (Nat.le_of_ble_eq_true rfl) dX8_isLive_3 (Nat.zero_le _) (Nat.zero_le _) rfl (fun ct1 rrr8 hBr8 hoff9 => ?_)
  obtain ⟨r8, rfl, hr8, rfl⟩ := hBr8
  refine GW.eq (S2 := [.int r8]) rfl rfl rfl ?_
  rcases hr8 with hr8 | hr8
  · skip
    obtain ⟨rfl, h10, h11⟩ := hr8
    have h10 : 0 ≤ b.toInt ∧ b.toInt ≤ 3 := h10
    have h11 : 0 ≤ i.toInt ∧ i.toInt ≤ 7 := h11
    refine dv_if_eq (tgt := 30) dX8_isLive_6 (by decide) (fun c12 => ?_) (fun c12 => ?_)
    · skip
      exact absurd c12 (by decide)
    · skip
      refine dv_aload_n dX8_isLive_9 rfl 0 rfl ?_
      refine dv_get (ci := 8) (v := .ref 5) (C := RX8) (T := TX8) (N := 13) ⟨by decide, rfl⟩ hs2 rfl inG8 3 (by decide) mm_306 rfl dX8_isLive_10 ?_
      refine dv_iload_n dX8_isLive_13 rfl 1 rfl ?_
      have hs13 := a8_5 hI
      refine dv_aldq 5 ⟨by decide, rfl⟩ hs13 rfl (z_in rfl (by omega) (by omega)) dX8_isLive_14 (r := (0 + 55 + 11 * b.toInt.toNat)) (zF5_r (x := b) (by omega) (by omega)) ?_
      obtain ⟨lns15, liv16, shw17, h18, h19, h20, h21, hz22, h23, hs14⟩ := a8_40 (kc := (0 + 55 + 11 * b.toInt.toNat)) (by omega) hI
      have bhz22 := z_b01 hz22
      refine dv_get (ci := 2) (v := .int liv16) (C := RX2) (T := TX2) (N := 5) ⟨by omega, pCl_of (by omega)⟩ hs14 rfl inG2 1 (by decide) mm_287 rfl dX8_isLive_15 ?_
      refine dv_iload_n dX8_isLive_18 rfl 2 rfl ?_
      refine dv_ishr dX8_isLive_19 ?_
      refine dv_topi (fun x24 ex24 => ?_)
      have tx24 := z_shr (x := liv16) rfl (by omega) i
      rw [← ex24] at tx24
      refine dv_iconst (v := 1) dX8_isLive_20 (by decide) ?_
      refine dv_iand dX8_isLive_21 ?_
      refine dv_topi (fun x25 ex25 => ?_)
      have tx25 := z_andr (x := x24) (y := 1) (by decide : (1 : Int32).toInt = 1) (by omega)
      rw [← ex25] at tx25
      refine dv_iconst (v := 1) dX8_isLive_22 (by decide) ?_
      refine dv_icmp_ne (tgt := 30) dX8_isLive_23 (by decide) (fun c26 => ?_) (fun c26 => ?_)
      · skip
        have c26 : ¬ (x25.toInt = 1) := fun q => c26 ((z_eq rfl (by decide : (1 : Int32).toInt = 1)).mpr q)
        refine dv_iconst (v := 0) dX8_isLive_30 (by decide) ?_
        have q27 : (0 : Int32).toInt = 0 := by decide
        exact dv_zret dX8_isLive_31 rfl rfl (by first | exact Nat.zero_le _ | decide) (by first | exact Nat.zero_le _ | decide) (by subst hK; exact ⟨0, rfl, (by first | exact Or.inl ⟨rfl, by omega⟩ | exact Or.inr ⟨rfl, by omega⟩ | exact Or.inl rfl | exact Or.inr rfl | exact Or.inl ⟨rfl, by omega, by omega⟩ | exact (z_01 (by omega) (by omega)).symm), rfl⟩)
      · skip
        have c26 : x25.toInt = 1 := (z_eq rfl (by decide : (1 : Int32).toInt = 1)).mp c26
        refine dv_iconst (v := 1) dX8_isLive_26 (by decide) ?_
        refine dv_goto (tgt := 31) dX8_isLive_27 (by decide) ?_
        have q28 : (1 : Int32).toInt = 1 := by decide
        exact dv_zret dX8_isLive_31 rfl rfl (by first | exact Nat.zero_le _ | decide) (by first | exact Nat.zero_le _ | decide) (by subst hK; exact ⟨1, rfl, (by first | exact Or.inl ⟨rfl, by omega⟩ | exact Or.inr ⟨rfl, by omega⟩ | exact Or.inl rfl | exact Or.inr rfl | exact Or.inl ⟨rfl, by omega, by omega⟩ | exact (z_01 (by omega) (by omega)).symm), rfl⟩)
  · skip
    obtain rfl := hr8
    refine dv_if_eq (tgt := 30) dX8_isLive_6 (by decide) (fun c29 => ?_) (fun c29 => ?_)
    · skip
      refine dv_iconst (v := 0) dX8_isLive_30 (by decide) ?_
      have q30 : (0 : Int32).toInt = 0 := by decide
      exact dv_zret dX8_isLive_31 rfl rfl (by first | exact Nat.zero_le _ | decide) (by first | exact Nat.zero_le _ | decide) (by subst hK; exact ⟨0, rfl, (by first | exact Or.inl ⟨rfl, by omega⟩ | exact Or.inr ⟨rfl, by omega⟩ | exact Or.inl rfl | exact Or.inr rfl | exact Or.inl ⟨rfl, by omega, by omega⟩ | exact (z_01 (by omega) (by omega)).symm), rfl⟩)
    · skip
      exact absurd c29 (by decide)

set_option maxHeartbeats 4000000 in
set_option maxRecDepth 100000 in
theorem k_X8_shownBooks (l : Launch) (g : zG) (pe : Int32) (ct : Nat → va_E) (hI : Inv8 g idn pe ct) : DM l g pCl false yX8_shownBooks cX8_shownBooks 3 (some .int) ({ frames := 0, cells := 0, slots := 0, locals := 0 }) (fun (ct2 : Nat → va_E) (rr : Option Value) => ∃ (r : Int32), rr = some (.int r) ∧ (((0 ≤ r.toInt) ∧ (r.toInt ≤ 15))) ∧ ct = ct2) ct [.ref 0] := by
  refine DM.K (fun K hK => ?_)
  refine GW.met (own := RX8) (loc := [(0, .ref 0)]) (by decide) rfl rfl (Nat.le_of_ble_eq_true rfl) ?_
  have hpe0 := hI.1
  refine dv_iconst (v := 0) dX8_shownBooks_0 (by decide) ?_
  refine dv_istore_n (lv' := [(1, .int 0), (0, .ref 0)]) dX8_shownBooks_1 rfl (by decide) rfl ?_
  refine dv_iconst (v := 0) dX8_shownBooks_2 (by decide) ?_
  refine dv_istore_n (lv' := [(2, .int 0), (1, .int 0), (0, .ref 0)]) dX8_shownBooks_3 rfl (by decide) rfl ?_
  have loop4 : ∀ (n4 : Nat) (v2_4 : Int32) (v1_4 : Int32), ((4 - v2_4.toInt : Int).toNat < n4) → (0 ≤ v2_4.toInt ∧ v2_4.toInt ≤ 4) → (0 ≤ v1_4.toInt ∧ v1_4.toInt ≤ 15) → GW l g pCl pCl false yX8_shownBooks cX8_shownBooks 3 (some .int) RX8 ({ frames := 0, cells := 0, slots := 0, locals := 0 }) K 0 0 ct 4 [(2, .int v2_4), (1, .int v1_4), (0, .ref 0)] [] := by
    intro n4
    induction n4 with
    | zero =>
      intro v2_4 v1_4 hn4 b2_4 b1_4
      exact absurd hn4 (Nat.not_lt_zero _)
    | succ n4 ih4 =>
      intro v2_4 v1_4 hn4 b2_4 b1_4
      refine dv_iload_n dX8_shownBooks_4 rfl 0 rfl ?_
      refine dv_aload_n dX8_shownBooks_5 rfl 2 rfl ?_
      obtain ⟨bk3, dr2, h4, h5, h6, hs1⟩ := a8_0 hI
      refine dv_get (ci := 8) (v := .int bk3) (C := RX8) (T := TX8) (N := 13) ⟨by decide, rfl⟩ hs1 rfl inG8 12 (by decide) mm_315 rfl dX8_shownBooks_6 ?_
      refine dv_icmp_ge (tgt := 36) dX8_shownBooks_9 (by decide) (fun c7 => ?_) (fun c7 => ?_)
      · skip
        have c7 : bk3.toInt ≤ v2_4.toInt := (z_le rfl rfl).mp c7
        refine dv_iload_n dX8_shownBooks_36 rfl 1 rfl ?_
        exact dv_iret dX8_shownBooks_37 rfl (by first | exact Nat.zero_le _ | decide) (by first | exact Nat.zero_le _ | decide) (by subst hK; exact ⟨v1_4, rfl, (⟨by first | omega | decide, by first | omega | decide⟩), rfl⟩)
      · skip
        have c7 : ¬ (bk3.toInt ≤ v2_4.toInt) := fun q => c7 ((z_le rfl rfl).mpr q)
        refine dv_aload_n dX8_shownBooks_12 rfl 2 rfl ?_
        refine dv_get (ci := 8) (v := .ref 5) (C := RX8) (T := TX8) (N := 13) ⟨by decide, rfl⟩ hs1 rfl inG8 3 (by decide) mm_306 rfl dX8_shownBooks_13 ?_
        refine dv_iload_n dX8_shownBooks_16 rfl 0 rfl ?_
        have hs8 := a8_5 hI
        refine dv_aldq 5 ⟨by decide, rfl⟩ hs8 rfl (z_in rfl (by omega) (by omega)) dX8_shownBooks_17 (r := (0 + 55 + 11 * v2_4.toInt.toNat)) (zF5_r (x := v2_4) (by omega) (by omega)) ?_
        obtain ⟨lns10, liv11, shw12, h13, h14, h15, h16, hz17, h18, hs9⟩ := a8_40 (kc := (0 + 55 + 11 * v2_4.toInt.toNat)) (by omega) hI
        have bhz17 := z_b01 hz17
        refine dv_get (ci := 2) (v := .int shw12) (C := RX2) (T := TX2) (N := 5) ⟨by omega, pCl_of (by omega)⟩ hs9 rfl inG2 2 (by decide) mm_289 rfl dX8_shownBooks_18 ?_
        refine dv_if_eq (tgt := 30) dX8_shownBooks_21 (by decide) (fun c19 => ?_) (fun c19 => ?_)
        · skip
          have c19 : shw12.toInt = 0 := (z_eq rfl (by decide : (0 : Int32).toInt = 0)).mp c19
          obtain ⟨x20, ex20⟩ : ∃ y : Int32, y = v2_4 + 1 := ⟨_, rfl⟩
          have tx20 : x20.toInt = v2_4.toInt + 1 := by rw [ex20]; exact z_add rfl (by decide : (1 : Int32).toInt = 1) (by omega) (by omega)
          refine dv_iinc (v := x20) (lv' := [(2, .int x20), (1, .int v1_4), (0, .ref 0)]) dX8_shownBooks_30 (k := 0) rfl (by rw [ex20]; rfl) (by decide) rfl ?_
          refine dv_goto (tgt := 4) dX8_shownBooks_33 (by decide) ?_
          exact ih4 x20 v1_4 (by omega) (by first | omega | decide | assumption) (by first | omega | decide | assumption)
        · skip
          have c19 : ¬ (shw12.toInt = 0) := fun q => c19 ((z_eq rfl (by decide : (0 : Int32).toInt = 0)).mpr q)
          refine dv_iload_n dX8_shownBooks_24 rfl 1 rfl ?_
          refine dv_iconst (v := 1) dX8_shownBooks_25 (by decide) ?_
          refine dv_iload_n dX8_shownBooks_26 rfl 0 rfl ?_
          refine dv_ishl dX8_shownBooks_27 ?_
          refine dv_topi (fun x21 ex21 => ?_)
          have tx21 := z_shl1 (y := v2_4) rfl (by omega) (k := 3) (by decide) (by omega)
          rw [← ex21] at tx21
          refine dv_ior dX8_shownBooks_28 ?_
          refine dv_topi (fun x22 ex22 => ?_)
          have tx22 := z_or (x := v1_4) (y := x21) rfl rfl (k := 4) (N := 16) (by decide) (by decide) (by omega) (by omega) (by omega) (by omega)
          rw [← ex22] at tx22
          refine dv_istore_n (lv' := [(1, .int x22), (2, .int v2_4), (0, .ref 0)]) dX8_shownBooks_29 rfl (by decide) rfl ?_
          obtain ⟨x23, ex23⟩ : ∃ y : Int32, y = v2_4 + 1 := ⟨_, rfl⟩
          have tx23 : x23.toInt = v2_4.toInt + 1 := by rw [ex23]; exact z_add rfl (by decide : (1 : Int32).toInt = 1) (by omega) (by omega)
          refine dv_iinc (v := x23) (lv' := [(2, .int x23), (1, .int x22), (0, .ref 0)]) dX8_shownBooks_30 (k := 1) rfl (by rw [ex23]; rfl) (by decide) rfl ?_
          refine dv_goto (tgt := 4) dX8_shownBooks_33 (by decide) ?_
          exact ih4 x23 x22 (by omega) (by first | omega | decide | assumption) (by first | omega | decide | assumption)
  exact loop4 ((4 - (0 : Int32).toInt : Int).toNat + 1) (0 : Int32) (0 : Int32) (by omega) (by first | omega | decide | assumption) (by first | omega | decide | assumption)

set_option maxHeartbeats 4000000 in
set_option maxRecDepth 100000 in
theorem k_X8_openFor (l : Launch) (g : zG) (pe : Int32) (ct : Nat → va_E) (b : Int32) (hl_b : 0 ≤ b.toInt ∧ b.toInt ≤ 3) (hI : Inv8 g idn pe ct) : DM l g pCl false yX8_openFor cX8_openFor 2 (some .int) ({ frames := 1, cells := 0, slots := 0, locals := 22 }) (fun (ct2 : Nat → va_E) (rr : Option Value) => ∃ (r : Int32), rr = some (.int r) ∧ (((0 ≤ r.toInt) ∧ (r.toInt ≤ 15))) ∧ ct = ct2) ct [.ref 0, .int b] := by
  refine DM.K (fun K hK => ?_)
  refine GW.met (own := RX8) (loc := [(0, .ref 0), (1, .int b)]) (by decide) rfl rfl (Nat.le_of_ble_eq_true rfl) ?_
  have hpe0 := hI.1
  refine dv_aload_n dX8_openFor_0 rfl 0 rfl ?_
  obtain ⟨bk4, dr3, h5, h6, h7, hs2⟩ := a8_0 hI
  refine GW.callV (n := 0) (As := []) (rest := []) (b := 0) (k_X8_shownBooks l g pe ct  hI) (fun _ h => h) rfl rfl ⟨by decide, rfl⟩ hs2 (q := (RX8, TX8, 13)) rfl mm_434 mm_436 mm_8 mm_52 mm_437 (by decide +kernel) ⟨Nat.le_of_ble_eq_true rfl, Nat.le_of_ble_eq_true rfl⟩ rfl (Nat.le_of_ble_eq_true rfl) dX8_openFor_1 (Nat.zero_le _) (Nat.zero_le _) rfl (fun ct1 rrr8 hBr8 hoff9 => ?_)
  obtain ⟨r8, rfl, hr8, rfl⟩ := hBr8
  refine GW.eq (S2 := [.int r8]) rfl rfl rfl ?_
  obtain ⟨hr8_0, hr8_1⟩ := hr8
  have hr8_0 : 0 ≤ r8.toInt := hr8_0
  have hr8_1 : r8.toInt ≤ 15 := hr8_1
  refine dv_iconst (v := 1) dX8_openFor_4 (by decide) ?_
  refine dv_iload_n dX8_openFor_5 rfl 1 rfl ?_
  refine dv_ishl dX8_openFor_6 ?_
  refine dv_topi (fun x10 ex10 => ?_)
  have tx10 := z_shl1 (y := b) rfl (by omega) (k := 3) (by decide) (by omega)
  rw [← ex10] at tx10
  refine dv_ior dX8_openFor_7 ?_
  refine dv_topi (fun x11 ex11 => ?_)
  have tx11 := z_or (x := r8) (y := x10) rfl rfl (k := 4) (N := 16) (by decide) (by decide) (by omega) (by omega) (by omega) (by omega)
  rw [← ex11] at tx11
  exact dv_iret dX8_openFor_8 rfl (by first | exact Nat.zero_le _ | decide) (by first | exact Nat.zero_le _ | decide) (by subst hK; exact ⟨x11, rfl, (⟨by first | omega | decide, by first | omega | decide⟩), rfl⟩)
