set_option maxHeartbeats 4000000 in
set_option maxRecDepth 100000 in
theorem f_isBook (l : Launch) (g : zG) (pe : Int32) (ct : Nat → va_E) (b : Int32) (hI : Inv8 g idn pe ct) : DM l g pCl false yX8_isBook cX8_isBook 2 (some .boolean) ({ frames := 0, cells := 0, slots := 0, locals := 0 }) (fun (ct2 : Nat → va_E) (rr : Option Value) => ∃ (r : Int32), rr = some (.int r) ∧ ((r = 1 ∧ (0 ≤ b.toInt) ∧ (b.toInt < (bkF ct).toInt) ∧ (b.toInt ≤ 3)) ∨ (r = 0 ∧ (¬ (0 ≤ b.toInt ∧ b.toInt < (bkF ct).toInt)))) ∧ ct = ct2) ct [.ref 0, .int b] := by
  refine DM.K (fun K hK => ?_)
  refine GW.met (own := RX8) (loc := [(0, .ref 0), (1, .int b)]) (by decide) rfl rfl (Nat.le_of_ble_eq_true rfl) ?_
  have hpe0 := hI.1
  have rg_b := z_rng b
  obtain ⟨bk3, dr2, h4, h5, h6, hs1⟩ := a8_0 hI
  have hzb : (bkF ct).toInt = bk3.toInt := by unfold bkF; rw [hs1]; rfl
  refine dv_iload_n dX8_isBook_0 rfl 1 rfl ?_
  refine dv_if_lt (tgt := 16) dX8_isBook_1 (by decide) (fun c7 => ?_) (fun c7 => ?_)
  · skip
    have c7 : b.toInt < 0 := (z_lt rfl (by decide : (0 : Int32).toInt = 0)).mp c7
    refine dv_iconst (v := 0) dX8_isBook_16 (by decide) ?_
    have q8 : (0 : Int32).toInt = 0 := by decide
    exact dv_zret dX8_isBook_17 rfl rfl (by first | exact Nat.zero_le _ | decide) (by first | exact Nat.zero_le _ | decide) (by subst hK; exact ⟨0, rfl, (by first | exact Or.inl ⟨rfl, by omega, by omega, by omega⟩ | exact Or.inr ⟨rfl, by omega⟩), rfl⟩)
  · skip
    have c7 : ¬ (b.toInt < 0) := fun q => c7 ((z_lt rfl (by decide : (0 : Int32).toInt = 0)).mpr q)
    refine dv_iload_n dX8_isBook_4 rfl 1 rfl ?_
    refine dv_aload_n dX8_isBook_5 rfl 0 rfl ?_
    refine dv_get (ci := 8) (v := .int bk3) (C := RX8) (T := TX8) (N := 13) ⟨by decide, rfl⟩ hs1 rfl inG8 12 (by decide) mm_315 rfl dX8_isBook_6 ?_
    refine dv_icmp_ge (tgt := 16) dX8_isBook_9 (by decide) (fun c9 => ?_) (fun c9 => ?_)
    · skip
      have c9 : bk3.toInt ≤ b.toInt := (z_le rfl rfl).mp c9
      refine dv_iconst (v := 0) dX8_isBook_16 (by decide) ?_
      have q10 : (0 : Int32).toInt = 0 := by decide
      exact dv_zret dX8_isBook_17 rfl rfl (by first | exact Nat.zero_le _ | decide) (by first | exact Nat.zero_le _ | decide) (by subst hK; exact ⟨0, rfl, (by first | exact Or.inl ⟨rfl, by omega, by omega, by omega⟩ | exact Or.inr ⟨rfl, by omega⟩), rfl⟩)
    · skip
      have c9 : ¬ (bk3.toInt ≤ b.toInt) := fun q => c9 ((z_le rfl rfl).mpr q)
      refine dv_iconst (v := 1) dX8_isBook_12 (by decide) ?_
      refine dv_goto (tgt := 17) dX8_isBook_13 (by decide) ?_
      have q11 : (1 : Int32).toInt = 1 := by decide
      exact dv_zret dX8_isBook_17 rfl rfl (by first | exact Nat.zero_le _ | decide) (by first | exact Nat.zero_le _ | decide) (by subst hK; exact ⟨1, rfl, (by first | exact Or.inl ⟨rfl, by omega, by omega, by omega⟩ | exact Or.inr ⟨rfl, by omega⟩), rfl⟩)

set_option maxHeartbeats 4000000 in
set_option maxRecDepth 100000 in
theorem f_isLine (l : Launch) (g : zG) (pe : Int32) (ct : Nat → va_E) (b : Int32) (i : Int32) (hI : Inv8 g idn pe ct) : DM l g pCl false yX8_isLine cX8_isLine 3 (some .boolean) ({ frames := 1, cells := 0, slots := 0, locals := 22 }) (fun (ct2 : Nat → va_E) (rr : Option Value) => ∃ (r : Int32), rr = some (.int r) ∧ ((r = 1 ∧ (LIN ct b i = true) ∧ (0 ≤ b.toInt ∧ b.toInt ≤ 3) ∧ (0 ≤ i.toInt ∧ i.toInt ≤ 7) ∧ (b.toInt < (bkF ct).toInt) ∧ (i.toInt < (lnF ct b.toInt.toNat).toInt)) ∨ (r = 0 ∧ (LIN ct b i = false))) ∧ ct = ct2) ct [.ref 0, .int b, .int i] := by
  refine DM.K (fun K hK => ?_)
  refine GW.met (own := RX8) (loc := [(0, .ref 0), (1, .int b), (2, .int i)]) (by decide) rfl rfl (Nat.le_of_ble_eq_true rfl) ?_
  have hpe0 := hI.1
  have rg_b := z_rng b
  have rg_i := z_rng i
  obtain ⟨bk3, dr2, h4, h5, h6, hs1⟩ := a8_0 hI
  have hzb : (bkF ct).toInt = bk3.toInt := by unfold bkF; rw [hs1]; rfl
  refine dv_aload_n dX8_isLine_0 rfl 0 rfl ?_
  refine dv_iload_n dX8_isLine_1 rfl 1 rfl ?_
  refine GW.callV (n := 1) (As := [.int b]) (rest := []) (b := 0) (f_isBook l g pe ct b hI) (fun _ h => h) rfl rfl ⟨by decide, rfl⟩ hs1 (q := (RX8, TX8, 13)) rfl mm_415 mm_417 mm_4 mm_52 mm_418 (by decide +kernel) ⟨Nat.le_of_ble_eq_true rfl, Nat.le_of_ble_eq_true rfl⟩ rfl (Nat.le_of_ble_eq_true rfl) dX8_isLine_2 (Nat.zero_le _) (Nat.zero_le _) rfl (fun ct7 rrr8 hBr8 hoff9 => ?_)
  obtain ⟨r8, rfl, hr8, rfl⟩ := hBr8
  refine GW.eq (S2 := [.int r8]) rfl rfl rfl ?_
  rcases hr8 with hr8 | hr8
  · skip
    obtain ⟨rfl, h10, h11, h12⟩ := hr8
    have h10 : 0 ≤ b.toInt := h10
    have h11 : b.toInt < (bkF ct).toInt := h11
    have h12 : b.toInt ≤ 3 := h12
    refine dv_if_eq (tgt := 31) dX8_isLine_5 (by decide) (fun c13 => ?_) (fun c13 => ?_)
    · skip
      exact absurd c13 (by decide)
    · skip
      refine dv_iload_n dX8_isLine_8 rfl 2 rfl ?_
      refine dv_iconst (v := 0) dX8_isLine_9 (by decide) ?_
      refine dv_aload_n dX8_isLine_10 rfl 0 rfl ?_
      refine dv_get (ci := 8) (v := .ref 5) (C := RX8) (T := TX8) (N := 13) ⟨by decide, rfl⟩ hs1 rfl inG8 3 (by decide) mm_306 rfl dX8_isLine_11 ?_
      refine dv_iload_n dX8_isLine_14 rfl 1 rfl ?_
      have hs14 := a8_5 hI
      refine dv_aldq 5 ⟨by decide, rfl⟩ hs14 rfl (z_in rfl (by omega) (by omega)) dX8_isLine_15 (r := (0 + 55 + 11 * b.toInt.toNat)) (zF5_r (x := b) (by omega) (by omega)) ?_
      obtain ⟨lns16, liv17, shw18, h19, h20, h21, h22, hz23, h24, hs15⟩ := a8_40 (kc := (0 + 55 + 11 * b.toInt.toNat)) (by omega) hI
      have bhz23 := z_b01 hz23
      refine dv_get (ci := 2) (v := .int lns16) (C := RX2) (T := TX2) (N := 5) ⟨by omega, pCl_of (by omega)⟩ hs15 rfl inG2 0 (by decide) mm_285 rfl dX8_isLine_16 ?_
      refine dv_iconst (v := 1) dX8_isLine_19 (by decide) ?_
      have hln : (lnF ct b.toInt.toNat) = lns16 := by unfold lnF; rw [hs15]; rfl
      have hlv : (lvF ct b.toInt.toNat) = liv17 := by unfold lvF; rw [hs15]; rfl
      refine dv_isub dX8_isLine_20 ?_
      refine dv_topi (fun x25 ex25 => ?_)
      have tx25 : x25.toInt = lns16.toInt - 1 := by rw [ex25]; exact z_sub rfl (by decide : (1 : Int32).toInt = 1) (by omega) (by omega)
      refine GW.callS (n := 3) (As := [.int i, .int 0, .int x25]) (rest := []) (k_X8_within l g pe ct i (0 : Int32) x25 hI) (fun _ h => Bool.noConfusion h) rfl rfl mm_355 mm_356 mm_52 mm_357 (by decide +kernel) ⟨Nat.le_of_ble_eq_true rfl, Nat.le_of_ble_eq_true rfl⟩ rfl (Nat.le_of_ble_eq_true rfl) dX8_isLine_21 (Nat.zero_le _) (Nat.zero_le _) rfl (fun ct26 rrr27 hBr27 hoff28 => ?_)
      obtain ⟨r27, rfl, hr27, rfl⟩ := hBr27
      refine GW.eq (S2 := [.int r27]) rfl rfl rfl ?_
      rcases hr27 with hr27 | hr27
      · skip
        obtain ⟨rfl, h29, h30⟩ := hr27
        have h29 : (0 : Int) ≤ i.toInt := h29
        have h30 : i.toInt ≤ x25.toInt := h30
        refine dv_if_eq (tgt := 31) dX8_isLine_24 (by decide) (fun c31 => ?_) (fun c31 => ?_)
        · skip
          exact absurd c31 (by decide)
        · skip
          refine dv_iconst (v := 1) dX8_isLine_27 (by decide) ?_
          refine dv_goto (tgt := 32) dX8_isLine_28 (by decide) ?_
          have q32 : (1 : Int32).toInt = 1 := by decide
          exact dv_zret dX8_isLine_32 rfl rfl (by first | exact Nat.zero_le _ | decide) (by first | exact Nat.zero_le _ | decide) (by subst hK; exact ⟨1, rfl, (Or.inl ⟨rfl, LIN_iff.mpr ⟨by omega, by omega, by omega, by rw [hln]; omega⟩, by omega, by omega, by omega, by rw [hln]; omega⟩), rfl⟩)
      · skip
        obtain ⟨rfl, h33⟩ := hr27
        have h33 : ¬ ((0 : Int) ≤ i.toInt ∧ i.toInt ≤ x25.toInt) := h33
        refine dv_if_eq (tgt := 31) dX8_isLine_24 (by decide) (fun c34 => ?_) (fun c34 => ?_)
        · skip
          refine dv_iconst (v := 0) dX8_isLine_31 (by decide) ?_
          have q35 : (0 : Int32).toInt = 0 := by decide
          exact dv_zret dX8_isLine_32 rfl rfl (by first | exact Nat.zero_le _ | decide) (by first | exact Nat.zero_le _ | decide) (by subst hK; exact ⟨0, rfl, (Or.inr ⟨rfl, LIN_no (fun q => by have q1 := q.1; have q2 := q.2.1; have q3 := q.2.2.1; have q4 := q.2.2.2; first | omega | (rw [hln] at q4; omega))⟩), rfl⟩)
        · skip
          exact absurd c34 (by decide)
  · skip
    obtain ⟨rfl, h36⟩ := hr8
    have h36 : ¬ (0 ≤ b.toInt ∧ b.toInt < (bkF ct).toInt) := h36
    refine dv_if_eq (tgt := 31) dX8_isLine_5 (by decide) (fun c37 => ?_) (fun c37 => ?_)
    · skip
      refine dv_iconst (v := 0) dX8_isLine_31 (by decide) ?_
      have q38 : (0 : Int32).toInt = 0 := by decide
      exact dv_zret dX8_isLine_32 rfl rfl (by first | exact Nat.zero_le _ | decide) (by first | exact Nat.zero_le _ | decide) (by subst hK; exact ⟨0, rfl, (Or.inr ⟨rfl, LIN_no (fun q => by have q1 := q.1; have q2 := q.2.1; have q3 := q.2.2.1; have q4 := q.2.2.2; first | omega | (rw [hln] at q4; omega))⟩), rfl⟩)
    · skip
      exact absurd c37 (by decide)

set_option maxHeartbeats 4000000 in
set_option maxRecDepth 100000 in
theorem f_isLive (l : Launch) (g : zG) (pe : Int32) (ct : Nat → va_E) (b : Int32) (i : Int32) (hI : Inv8 g idn pe ct) : DM l g pCl false yX8_isLive cX8_isLive 3 (some .boolean) ({ frames := 2, cells := 0, slots := 0, locals := 44 }) (fun (ct2 : Nat → va_E) (rr : Option Value) => ∃ (r : Int32), rr = some (.int r) ∧ ((r = 1 ∧ (LIV ct b i = true) ∧ (0 ≤ b.toInt ∧ b.toInt ≤ 3) ∧ (0 ≤ i.toInt ∧ i.toInt ≤ 7) ∧ (LIN ct b i = true)) ∨ (r = 0 ∧ (LIV ct b i = false))) ∧ ct = ct2) ct [.ref 0, .int b, .int i] := by
  refine DM.K (fun K hK => ?_)
  refine GW.met (own := RX8) (loc := [(0, .ref 0), (1, .int b), (2, .int i)]) (by decide) rfl rfl (Nat.le_of_ble_eq_true rfl) ?_
  have hpe0 := hI.1
  have rg_b := z_rng b
  have rg_i := z_rng i
  obtain ⟨bk3, dr2, h4, h5, h6, hs1⟩ := a8_0 hI
  have hzb : (bkF ct).toInt = bk3.toInt := by unfold bkF; rw [hs1]; rfl
  refine dv_aload_n dX8_isLive_0 rfl 0 rfl ?_
  refine dv_iload_n dX8_isLive_1 rfl 1 rfl ?_
  refine dv_iload_n dX8_isLive_2 rfl 2 rfl ?_
  refine GW.callV (n := 2) (As := [.int b, .int i]) (rest := []) (b := 0) (f_isLine l g pe ct b i hI) (fun _ h => h) rfl rfl ⟨by decide, rfl⟩ hs1 (q := (RX8, TX8, 13)) rfl mm_411 mm_413 mm_3 mm_52 mm_414 (by decide +kernel) ⟨Nat.le_of_ble_eq_true rfl, Nat.le_of_ble_eq_true rfl⟩ rfl (Nat.le_of_ble_eq_true rfl) dX8_isLive_3 (Nat.zero_le _) (Nat.zero_le _) rfl (fun ct7 rrr8 hBr8 hoff9 => ?_)
  obtain ⟨r8, rfl, hr8, rfl⟩ := hBr8
  refine GW.eq (S2 := [.int r8]) rfl rfl rfl ?_
  rcases hr8 with hr8 | hr8
  · skip
    obtain ⟨rfl, h10, h11, h12, h13, h14⟩ := hr8
    have h10 : LIN ct b i = true := h10
    have h11 : 0 ≤ b.toInt ∧ b.toInt ≤ 3 := h11
    have h12 : 0 ≤ i.toInt ∧ i.toInt ≤ 7 := h12
    have h13 : b.toInt < (bkF ct).toInt := h13
    have h14 : i.toInt < (lnF ct b.toInt.toNat).toInt := h14
    refine dv_if_eq (tgt := 30) dX8_isLive_6 (by decide) (fun c15 => ?_) (fun c15 => ?_)
    · skip
      exact absurd c15 (by decide)
    · skip
      refine dv_aload_n dX8_isLive_9 rfl 0 rfl ?_
      refine dv_get (ci := 8) (v := .ref 5) (C := RX8) (T := TX8) (N := 13) ⟨by decide, rfl⟩ hs1 rfl inG8 3 (by decide) mm_306 rfl dX8_isLive_10 ?_
      refine dv_iload_n dX8_isLive_13 rfl 1 rfl ?_
      have hs16 := a8_5 hI
      refine dv_aldq 5 ⟨by decide, rfl⟩ hs16 rfl (z_in rfl (by omega) (by omega)) dX8_isLive_14 (r := (0 + 55 + 11 * b.toInt.toNat)) (zF5_r (x := b) (by omega) (by omega)) ?_
      obtain ⟨lns18, liv19, shw20, h21, h22, h23, h24, hz25, h26, hs17⟩ := a8_40 (kc := (0 + 55 + 11 * b.toInt.toNat)) (by omega) hI
      have bhz25 := z_b01 hz25
      refine dv_get (ci := 2) (v := .int liv19) (C := RX2) (T := TX2) (N := 5) ⟨by omega, pCl_of (by omega)⟩ hs17 rfl inG2 1 (by decide) mm_287 rfl dX8_isLive_15 ?_
      have hln : (lnF ct b.toInt.toNat) = lns18 := by unfold lnF; rw [hs17]; rfl
      have hlv : (lvF ct b.toInt.toNat) = liv19 := by unfold lvF; rw [hs17]; rfl
      refine dv_iload_n dX8_isLive_18 rfl 2 rfl ?_
      refine dv_ishr dX8_isLive_19 ?_
      refine dv_topi (fun x27 ex27 => ?_)
      have tx27 := z_shr (x := liv19) rfl (by omega) i
      rw [← ex27] at tx27
      refine dv_iconst (v := 1) dX8_isLive_20 (by decide) ?_
      refine dv_iand dX8_isLive_21 ?_
      refine dv_topi (fun x28 ex28 => ?_)
      have tx28 := z_andr (x := x27) (y := 1) (by decide : (1 : Int32).toInt = 1) (by omega)
      rw [← ex28] at tx28
      refine dv_iconst (v := 1) dX8_isLive_22 (by decide) ?_
      refine dv_icmp_ne (tgt := 30) dX8_isLive_23 (by decide) (fun c29 => ?_) (fun c29 => ?_)
      · skip
        have c29 : ¬ (x28.toInt = 1) := fun q => c29 ((z_eq rfl (by decide : (1 : Int32).toInt = 1)).mpr q)
        have hlb : ib liv19 (i.toInt.toNat) = false := by
          rcases zb_ask (x := liv19) (y := i) (p := i.toInt.toNat) (by omega) (by omega) (by omega) (ex28.trans (by rw [ex27])) with ⟨q1, q2⟩ | ⟨q1, q2⟩
          · first | exact q2 | (exfalso; omega)
          · first | exact q2 | (exfalso; omega)
        refine dv_iconst (v := 0) dX8_isLive_30 (by decide) ?_
        have q30 : (0 : Int32).toInt = 0 := by decide
        exact dv_zret dX8_isLive_31 rfl rfl (by first | exact Nat.zero_le _ | decide) (by first | exact Nat.zero_le _ | decide) (by subst hK; exact ⟨0, rfl, (Or.inr ⟨rfl, by unfold LIV; first | (rw [hlv, hlb, Bool.and_false]; done) | (rw [show LIN ct b i = false by assumption]; rfl)⟩), rfl⟩)
      · skip
        have c29 : x28.toInt = 1 := (z_eq rfl (by decide : (1 : Int32).toInt = 1)).mp c29
        have hlb : ib liv19 (i.toInt.toNat) = true := by
          rcases zb_ask (x := liv19) (y := i) (p := i.toInt.toNat) (by omega) (by omega) (by omega) (ex28.trans (by rw [ex27])) with ⟨q1, q2⟩ | ⟨q1, q2⟩
          · first | exact q2 | (exfalso; omega)
          · first | exact q2 | (exfalso; omega)
        refine dv_iconst (v := 1) dX8_isLive_26 (by decide) ?_
        refine dv_goto (tgt := 31) dX8_isLive_27 (by decide) ?_
        have q31 : (1 : Int32).toInt = 1 := by decide
        exact dv_zret dX8_isLive_31 rfl rfl (by first | exact Nat.zero_le _ | decide) (by first | exact Nat.zero_le _ | decide) (by subst hK; exact ⟨1, rfl, (Or.inl ⟨rfl, by unfold LIV; rw [show LIN ct b i = true by assumption, hlv, hlb]; rfl, by omega, by omega, by assumption⟩), rfl⟩)
  · skip
    obtain ⟨rfl, h32⟩ := hr8
    have h32 : LIN ct b i = false := h32
    refine dv_if_eq (tgt := 30) dX8_isLive_6 (by decide) (fun c33 => ?_) (fun c33 => ?_)
    · skip
      refine dv_iconst (v := 0) dX8_isLive_30 (by decide) ?_
      have q34 : (0 : Int32).toInt = 0 := by decide
      exact dv_zret dX8_isLive_31 rfl rfl (by first | exact Nat.zero_le _ | decide) (by first | exact Nat.zero_le _ | decide) (by subst hK; exact ⟨0, rfl, (Or.inr ⟨rfl, by unfold LIV; first | (rw [hlv, hlb, Bool.and_false]; done) | (rw [show LIN ct b i = false by assumption]; rfl)⟩), rfl⟩)
    · skip
      exact absurd c33 (by decide)

set_option maxHeartbeats 4000000 in
set_option maxRecDepth 100000 in
theorem f_place (l : Launch) (g : zG) (pe : Int32) (ct : Nat → va_E) (b : Int32) (i : Int32) (hl_b : 0 ≤ b.toInt ∧ b.toInt ≤ 3) (hl_i : 0 ≤ i.toInt ∧ i.toInt ≤ 7) (hI : Inv8 g idn pe ct) : DM l g pNo false yX8_place cX8_place 2 (some .int) ({ frames := 0, cells := 0, slots := 0, locals := 0 }) (fun (ct2 : Nat → va_E) (rr : Option Value) => ∃ (r : Int32), rr = some (.int r) ∧ (((r.toInt = 8 * b.toInt + i.toInt))) ∧ ct = ct2) ct [.int b, .int i] := by
  refine DM.K (fun K hK => ?_)
  refine GW.met (own := RX8) (loc := [(0, .int b), (1, .int i)]) (by decide) rfl rfl (Nat.le_of_ble_eq_true rfl) ?_
  have hpe0 := hI.1
  refine dv_bipush (v := 8) dX8_place_0 (by decide) ?_
  refine dv_iload_n dX8_place_2 rfl 0 rfl ?_
  refine dv_imul dX8_place_3 ?_
  refine dv_topi (fun x1 ex1 => ?_)
  have tx1 : x1.toInt = 8 * b.toInt := by rw [ex1]; exact z_mul (by decide : (8 : Int32).toInt = 8) rfl (by omega) (by omega)
  refine dv_iload_n dX8_place_4 rfl 1 rfl ?_
  refine dv_iadd dX8_place_5 ?_
  refine dv_topi (fun x2 ex2 => ?_)
  have tx2 : x2.toInt = x1.toInt + i.toInt := by rw [ex2]; exact z_add rfl rfl (by omega) (by omega)
  exact dv_iret dX8_place_6 rfl (by first | exact Nat.zero_le _ | decide) (by first | exact Nat.zero_le _ | decide) (by subst hK; exact ⟨x2, rfl, (by omega), rfl⟩)

set_option maxHeartbeats 4000000 in
set_option maxRecDepth 100000 in
theorem f_fitAlone (l : Launch) (g : zG) (pe : Int32) (ct : Nat → va_E) (b : Int32) (i : Int32) (kn : Int32) (hl_b : 0 ≤ b.toInt ∧ b.toInt ≤ 3) (hl_kn : 0 ≤ kn.toInt ∧ kn.toInt ≤ 255) (hI : Inv8 g idn pe ct) : DM l g pCl false yX8_fitAlone cX8_fitAlone 6 (some .int) ({ frames := 1, cells := 0, slots := 0, locals := 22 }) (fun (ct2 : Nat → va_E) (rr : Option Value) => ∃ (r : Int32), rr = some (.int r) ∧ (((r = FAL l g pe ct b i kn) ∧ (True))) ∧ ct = ct2) ct [.ref 0, .int b, .int i, .int kn] := by
  refine DM.K (fun K hK => ?_)
  refine GW.met (own := RX8) (loc := [(0, .ref 0), (1, .int b), (2, .int i), (3, .int kn)]) (by decide) rfl rfl (Nat.le_of_ble_eq_true rfl) ?_
  have hpe0 := hI.1
  have rg_i := z_rng i
  refine dv_aload_n dX8_fitAlone_0 rfl 0 rfl ?_
  obtain ⟨bk3, dr2, h4, h5, h6, hs1⟩ := a8_0 hI
  refine dv_get (ci := 8) (v := .ref 1) (C := RX8) (T := TX8) (N := 13) ⟨by decide, rfl⟩ hs1 rfl inG8 0 (by decide) mm_303 rfl dX8_fitAlone_1 ?_
  refine dv_iconst (v := 0) dX8_fitAlone_4 (by decide) ?_
  have hs7 := a8_1 hI
  refine dv_aldq 4 ⟨by decide, rfl⟩ hs7 rfl (z_in (by decide : (0 : Int32).toInt = 0) (by omega) (by omega)) dX8_fitAlone_5 (r := 35) rfl ?_
  refine dv_aload_n dX8_fitAlone_6 rfl 0 rfl ?_
  refine dv_get (ci := 8) (v := .ref 5) (C := RX8) (T := TX8) (N := 13) ⟨by decide, rfl⟩ hs1 rfl inG8 3 (by decide) mm_306 rfl dX8_fitAlone_7 ?_
  refine dv_iload_n dX8_fitAlone_10 rfl 1 rfl ?_
  have hs8 := a8_5 hI
  refine dv_aldq 5 ⟨by decide, rfl⟩ hs8 rfl (z_in rfl (by omega) (by omega)) dX8_fitAlone_11 (r := (0 + 55 + 11 * b.toInt.toNat)) (zF5_r (x := b) (by omega) (by omega)) ?_
  refine dv_iload_n dX8_fitAlone_12 rfl 2 rfl ?_
  refine dv_iconst (v := 0) dX8_fitAlone_13 (by decide) ?_
  obtain ⟨lns11, liv12, shw13, h14, h15, h16, h17, hz18, h19, hs10⟩ := a8_40 (kc := (0 + 55 + 11 * b.toInt.toNat)) (by omega) hI
  have bhz18 := z_b01 hz18
  refine GW.callV (n := 2) (As := [.int i, .int 0]) (rest := [.ref 35]) (b := (0 + 55 + 11 * b.toInt.toNat)) (eNode_s l g pe ct (0 + 55 + 11 * b.toInt.toNat) i (0 : Int32) (by omega) hI) sub_pB_pCl rfl rfl ⟨by omega, pB_of (by omega)⟩ hs10 (q := (RX2, TX2, 5)) rfl mm_461 mm_462 mm_463 mm_60 mm_464 (by decide +kernel) ⟨Nat.le_of_ble_eq_true rfl, Nat.le_of_ble_eq_true rfl⟩ rfl (Nat.le_of_ble_eq_true rfl) dX8_fitAlone_14 (Nat.zero_le _) (Nat.zero_le _) rfl (fun ct9 rrr20 hBr20 hoff21 => ?_)
  obtain ⟨r20, rfl, hr20, rfl⟩ := hBr20
  refine GW.eq (S2 := [.int r20, .ref 35]) rfl rfl rfl ?_
  obtain ⟨h22, h23⟩ := hr20
  have h22 : r20 = eNode l g pe ct (0 + 55 + 11 * b.toInt.toNat) i (0 : Int32) := h22
  have h23 : True := h23
  obtain ⟨we26, se27, h28, h29, hs25⟩ := a8_35 (kc := 35) (by omega) hI
  refine GW.callV (n := 1) (As := [.int r20]) (rest := []) (b := 35) (eWho_s l g pe ct 35 r20 (by omega) hI) sub_pK_pCl rfl rfl ⟨by decide, rfl⟩ hs25 (q := (RX3, TX3, 6)) rfl mm_465 mm_466 mm_467 mm_59 mm_468 (by decide +kernel) ⟨Nat.le_of_ble_eq_true rfl, Nat.le_of_ble_eq_true rfl⟩ rfl (Nat.le_of_ble_eq_true rfl) dX8_fitAlone_17 (Nat.zero_le _) (Nat.zero_le _) rfl (fun ct24 rrr30 hBr30 hoff31 => ?_)
  obtain ⟨r30, rfl, hr30, rfl⟩ := hBr30
  refine GW.eq (S2 := [.int r30]) rfl rfl rfl ?_
  obtain ⟨h32, h33⟩ := hr30
  have h32 : r30 = eWho l g pe ct 35 r20 := h32
  have h33 : True := h33
  refine dv_istore (lv' := [(4, .int r30), (0, .ref 0), (1, .int b), (2, .int i), (3, .int kn)]) dX8_fitAlone_20 (by decide) rfl ?_
  refine dv_iconst (v := 1) dX8_fitAlone_22 (by decide) ?_
  refine dv_istore (lv' := [(5, .int 1), (4, .int r30), (0, .ref 0), (1, .int b), (2, .int i), (3, .int kn)]) dX8_fitAlone_23 (by decide) rfl ?_
  have loop25 : ∀ (n25 : Nat) (v5_25 : Int32) (v4_25 : Int32), ((4 - v5_25.toInt : Int).toNat < n25) → (1 ≤ v5_25.toInt ∧ v5_25.toInt ≤ 4) → (v4_25 = baS l g pe ct (0 + 55 + 11 * b.toInt.toNat) i (v5_25.toInt.toNat - 1)) → GW l g pCl pCl false yX8_fitAlone cX8_fitAlone 6 (some .int) RX8 ({ frames := 1, cells := 0, slots := 0, locals := 22 }) K 0 0 ct 25 [(5, .int v5_25), (4, .int v4_25), (0, .ref 0), (1, .int b), (2, .int i), (3, .int kn)] [] := by
    intro n25
    induction n25 with
    | zero =>
      intro v5_25 v4_25 hn25 b5_25 j0_25
      exact absurd hn25 (Nat.not_lt_zero _)
    | succ n25 ih25 =>
      intro v5_25 v4_25 hn25 b5_25 j0_25
      refine dv_iload dX8_fitAlone_25 0 rfl ?_
      refine dv_iconst (v := 4) dX8_fitAlone_27 (by decide) ?_
      refine dv_icmp_ge (tgt := 64) dX8_fitAlone_28 (by decide) (fun c34 => ?_) (fun c34 => ?_)
      · skip
        have c34 : 4 ≤ v5_25.toInt := (z_le (by decide : (4 : Int32).toInt = 4) rfl).mp c34
        refine dv_iconst (v := 0) dX8_fitAlone_64 (by decide) ?_
        refine dv_istore (lv' := [(5, .int 0), (4, .int v4_25), (0, .ref 0), (1, .int b), (2, .int i), (3, .int kn)]) dX8_fitAlone_65 (by decide) rfl ?_
        have loop67 : ∀ (n67 : Nat) (v5_67 : Int32) (v4_67 : Int32), ((8 - v5_67.toInt : Int).toNat < n67) → (0 ≤ v5_67.toInt ∧ v5_67.toInt ≤ 8) → (v4_67 = gaS l g pe ct b i kn v5_67.toInt.toNat) → GW l g pCl pCl false yX8_fitAlone cX8_fitAlone 6 (some .int) RX8 ({ frames := 1, cells := 0, slots := 0, locals := 22 }) K 0 0 ct 67 [(5, .int v5_67), (4, .int v4_67), (0, .ref 0), (1, .int b), (2, .int i), (3, .int kn)] [] := by
          intro n67
          induction n67 with
          | zero =>
            intro v5_67 v4_67 hn67 b5_67 j0_67
            exact absurd hn67 (Nat.not_lt_zero _)
          | succ n67 ih67 =>
            intro v5_67 v4_67 hn67 b5_67 j0_67
            refine dv_iload dX8_fitAlone_67 0 rfl ?_
            refine dv_bipush (v := 8) dX8_fitAlone_69 (by decide) ?_
            refine dv_icmp_ge (tgt := 120) dX8_fitAlone_71 (by decide) (fun c35 => ?_) (fun c35 => ?_)
            · skip
              have c35 : 8 ≤ v5_67.toInt := (z_le (by decide : (8 : Int32).toInt = 8) rfl).mp c35
              refine dv_iload dX8_fitAlone_120 1 rfl ?_
              exact dv_iret dX8_fitAlone_122 rfl (by first | exact Nat.zero_le _ | decide) (by first | exact Nat.zero_le _ | decide) (by subst hK; exact ⟨v4_67, rfl, (⟨by unfold FAL; rw [j0_67, show v5_67.toInt.toNat = 8 by omega], trivial⟩), rfl⟩)
            · skip
              have c35 : ¬ (8 ≤ v5_67.toInt) := fun q => c35 ((z_le (by decide : (8 : Int32).toInt = 8) rfl).mpr q)
              refine dv_iload_n dX8_fitAlone_74 rfl 5 rfl ?_
              refine dv_iload dX8_fitAlone_75 0 rfl ?_
              refine dv_ishr dX8_fitAlone_77 ?_
              refine dv_topi (fun x36 ex36 => ?_)
              have tx36 := z_shr (x := kn) rfl (by omega) v5_67
              rw [← ex36] at tx36
              refine dv_iconst (v := 1) dX8_fitAlone_78 (by decide) ?_
              refine dv_iand dX8_fitAlone_79 ?_
              refine dv_topi (fun x37 ex37 => ?_)
              have tx37 := z_andr (x := x36) (y := 1) (by decide : (1 : Int32).toInt = 1) (by omega)
              rw [← ex37] at tx37
              refine dv_iconst (v := 1) dX8_fitAlone_80 (by decide) ?_
              refine dv_icmp_ne (tgt := 114) dX8_fitAlone_81 (by decide) (fun c38 => ?_) (fun c38 => ?_)
              · skip
                have c38 : ¬ (x37.toInt = 1) := fun q => c38 ((z_eq rfl (by decide : (1 : Int32).toInt = 1)).mpr q)
                have hkb : ib kn (v5_67.toInt.toNat) = false := by
                  rcases zb_ask (x := kn) (y := v5_67) (p := v5_67.toInt.toNat) (by omega) (by omega) (by omega) (ex37.trans (by rw [ex36])) with ⟨q1, q2⟩ | ⟨q1, q2⟩
                  · first | exact q2 | (exfalso; omega)
                  · first | exact q2 | (exfalso; omega)
                obtain ⟨x39, ex39⟩ : ∃ y : Int32, y = v5_67 + 1 := ⟨_, rfl⟩
                have tx39 : x39.toInt = v5_67.toInt + 1 := by rw [ex39]; exact z_add rfl (by decide : (1 : Int32).toInt = 1) (by omega) (by omega)
                refine dv_iinc (v := x39) (lv' := [(5, .int x39), (4, .int v4_67), (0, .ref 0), (1, .int b), (2, .int i), (3, .int kn)]) dX8_fitAlone_114 (k := 0) rfl (by rw [ex39]; rfl) (by decide) rfl ?_
                refine dv_goto (tgt := 67) dX8_fitAlone_117 (by decide) ?_
                exact ih67 x39 v4_67 (by omega) (by omega) (by rw [show x39.toInt.toNat = v5_67.toInt.toNat + 1 by omega]; show _ = (if ib kn (v5_67.toInt.toNat) = true ∧ ¬ (eIsOf l g pe ct (gix ct (v5_67.toInt.toNat)) b i).toInt = 0 then _ else _); rw [if_neg (fun q => by have q1 := q.1; rw [hkb] at q1; exact absurd q1 (by decide))]; exact j0_67)
              · skip
                have c38 : x37.toInt = 1 := (z_eq rfl (by decide : (1 : Int32).toInt = 1)).mp c38
                have hkb : ib kn (v5_67.toInt.toNat) = true := by
                  rcases zb_ask (x := kn) (y := v5_67) (p := v5_67.toInt.toNat) (by omega) (by omega) (by omega) (ex37.trans (by rw [ex36])) with ⟨q1, q2⟩ | ⟨q1, q2⟩
                  · first | exact q2 | (exfalso; omega)
                  · first | exact q2 | (exfalso; omega)
                refine dv_aload_n dX8_fitAlone_84 rfl 2 rfl ?_
                refine dv_get (ci := 8) (v := .ref 9) (C := RX8) (T := TX8) (N := 13) ⟨by decide, rfl⟩ hs1 rfl inG8 5 (by decide) mm_308 rfl dX8_fitAlone_85 ?_
                refine dv_iload dX8_fitAlone_88 0 rfl ?_
                obtain ⟨f41, hgf42, hs40⟩ := a8_9 hI
                obtain ⟨j43, hj43, ej43⟩ := hgf42 _ (z_clt (x := v5_67) rfl (by omega) (by omega))
                refine dv_aldq 6 ⟨by decide, rfl⟩ hs40 rfl (z_in rfl (by omega) (by omega)) dX8_fitAlone_90 (r := (99 + 3 * j43)) ej43 ?_
                have hgx : gix ct (v5_67.toInt.toNat) = 99 + 3 * j43 := by
                  unfold gix
                  rw [hs40]
                  show (_ : Option Nat).getD 0 = _
                  rw [show v5_67.toInt.toNat = Int32.toNatClampNeg v5_67 by have := z_clI (x := v5_67) (by omega); omega]
                  exact congrArg (fun o => Option.getD o 0) ej43
                refine dv_iload_n dX8_fitAlone_91 rfl 3 rfl ?_
                refine dv_iload_n dX8_fitAlone_92 rfl 4 rfl ?_
                obtain ⟨tld46, ofb47, hol48, flt49, fla50, ofl51, len52, atx53, ref54, hz55, h56, h57, h58, h59, hz60, hs45⟩ := a8_44 (kc := (99 + 3 * j43)) (by omega) hI
                have bhz55 := z_b01 hz55
                have bhz60 := z_b01 hz60
                refine GW.callV (n := 2) (As := [.int b, .int i]) (rest := []) (b := (99 + 3 * j43)) (eIsOf_s l g pe ct (99 + 3 * j43) b i (by omega) hI) sub_pG_pCl rfl rfl ⟨by omega, pG_of (by omega)⟩ hs45 (q := (RX4, TX4, 11)) rfl mm_469 mm_470 mm_471 mm_58 mm_472 (by decide +kernel) ⟨Nat.le_of_ble_eq_true rfl, Nat.le_of_ble_eq_true rfl⟩ rfl (Nat.le_of_ble_eq_true rfl) dX8_fitAlone_93 (Nat.zero_le _) (Nat.zero_le _) rfl (fun ct44 rrr61 hBr61 hoff62 => ?_)
                obtain ⟨r61, rfl, hr61, rfl⟩ := hBr61
                refine GW.eq (S2 := [.int r61]) rfl rfl rfl ?_
                obtain ⟨h63, h64⟩ := hr61
                have h63 : r61 = eIsOf l g pe ct (99 + 3 * j43) b i := h63
                have h64 : True := h64
                refine dv_if_eq (tgt := 114) dX8_fitAlone_96 (by decide) (fun c65 => ?_) (fun c65 => ?_)
                · skip
                  have c65 : r61.toInt = 0 := (z_eq rfl (by decide : (0 : Int32).toInt = 0)).mp c65
                  obtain ⟨x66, ex66⟩ : ∃ y : Int32, y = v5_67 + 1 := ⟨_, rfl⟩
                  have tx66 : x66.toInt = v5_67.toInt + 1 := by rw [ex66]; exact z_add rfl (by decide : (1 : Int32).toInt = 1) (by omega) (by omega)
                  refine dv_iinc (v := x66) (lv' := [(5, .int x66), (4, .int v4_67), (0, .ref 0), (1, .int b), (2, .int i), (3, .int kn)]) dX8_fitAlone_114 (k := 0) rfl (by rw [ex66]; rfl) (by decide) rfl ?_
                  refine dv_goto (tgt := 67) dX8_fitAlone_117 (by decide) ?_
                  exact ih67 x66 v4_67 (by omega) (by omega) (by rw [show x66.toInt.toNat = v5_67.toInt.toNat + 1 by omega]; show _ = (if ib kn (v5_67.toInt.toNat) = true ∧ ¬ (eIsOf l g pe ct (gix ct (v5_67.toInt.toNat)) b i).toInt = 0 then _ else _); rw [if_neg (fun q => q.2 (by rw [hgx, ← h63]; omega))]; exact j0_67)
                · skip
                  have c65 : ¬ (r61.toInt = 0) := fun q => c65 ((z_eq rfl (by decide : (0 : Int32).toInt = 0)).mpr q)
                  refine dv_iload dX8_fitAlone_99 1 rfl ?_
                  refine dv_aload_n dX8_fitAlone_101 rfl 2 rfl ?_
                  refine dv_get (ci := 8) (v := .ref 9) (C := RX8) (T := TX8) (N := 13) ⟨by decide, rfl⟩ hs1 rfl inG8 5 (by decide) mm_308 rfl dX8_fitAlone_102 ?_
                  refine dv_iload dX8_fitAlone_105 0 rfl ?_
                  obtain ⟨j67, hj67, ej67⟩ := hgf42 _ (z_clt (x := v5_67) rfl (by omega) (by omega))
                  refine dv_aldq 6 ⟨by decide, rfl⟩ hs40 rfl (z_in rfl (by omega) (by omega)) dX8_fitAlone_107 (r := (99 + 3 * j67)) ej67 ?_
                  have hgy : gix ct (v5_67.toInt.toNat) = 99 + 3 * j67 := by
                    unfold gix
                    rw [hs40]
                    show (_ : Option Nat).getD 0 = _
                    rw [show v5_67.toInt.toNat = Int32.toNatClampNeg v5_67 by have := z_clI (x := v5_67) (by omega); omega]
                    exact congrArg (fun o => Option.getD o 0) ej67
                  obtain ⟨tld69, ofb70, hol71, flt72, fla73, ofl74, len75, atx76, ref77, hz78, h79, h80, h81, h82, hz83, hs68⟩ := a8_44 (kc := (99 + 3 * j67)) (by omega) hI
                  have bhz78 := z_b01 hz78
                  have bhz83 := z_b01 hz83
                  refine dv_get (ci := 4) (v := .int hol71) (C := RX4) (T := TX4) (N := 11) ⟨by omega, pCl_of (by omega)⟩ hs68 rfl inG4 2 (by decide) mm_219 rfl dX8_fitAlone_108 ?_
                  refine dv_iand dX8_fitAlone_111 ?_
                  refine dv_topi (fun x84 ex84 => ?_)
                  refine dv_istore (lv' := [(4, .int x84), (5, .int v5_67), (0, .ref 0), (1, .int b), (2, .int i), (3, .int kn)]) dX8_fitAlone_112 (by decide) rfl ?_
                  obtain ⟨x85, ex85⟩ : ∃ y : Int32, y = v5_67 + 1 := ⟨_, rfl⟩
                  have tx85 : x85.toInt = v5_67.toInt + 1 := by rw [ex85]; exact z_add rfl (by decide : (1 : Int32).toInt = 1) (by omega) (by omega)
                  refine dv_iinc (v := x85) (lv' := [(5, .int x85), (4, .int x84), (0, .ref 0), (1, .int b), (2, .int i), (3, .int kn)]) dX8_fitAlone_114 (k := 1) rfl (by rw [ex85]; rfl) (by decide) rfl ?_
                  refine dv_goto (tgt := 67) dX8_fitAlone_117 (by decide) ?_
                  exact ih67 x85 x84 (by omega) (by omega) (by rw [show x85.toInt.toNat = v5_67.toInt.toNat + 1 by omega]; show _ = (if ib kn (v5_67.toInt.toNat) = true ∧ ¬ (eIsOf l g pe ct (gix ct (v5_67.toInt.toNat)) b i).toInt = 0 then _ else _); rw [if_pos ⟨hkb, by rw [hgx, ← h63]; omega⟩, ← j0_67, ex84, hgy, hs68]; rfl)
        exact loop67 ((8 - (0 : Int32).toInt : Int).toNat + 1) (0 : Int32) v4_25 (by omega) (by first | omega | decide | (have hz0 : (0 : Int32).toInt = 0 := (by decide); have hz1 : (1 : Int32).toInt = 1 := (by decide); omega)) (by rw [show (0 : Int32).toInt.toNat = 0 from rfl]; show _ = baS _ _ _ _ _ _ 3; rw [j0_25, show v5_25.toInt.toNat - 1 = 3 by omega])
      · skip
        have c34 : ¬ (4 ≤ v5_25.toInt) := fun q => c34 ((z_le (by decide : (4 : Int32).toInt = 4) rfl).mpr q)
        refine dv_iload dX8_fitAlone_31 1 rfl ?_
        refine dv_aload_n dX8_fitAlone_33 rfl 2 rfl ?_
        refine dv_get (ci := 8) (v := .ref 1) (C := RX8) (T := TX8) (N := 13) ⟨by decide, rfl⟩ hs1 rfl inG8 0 (by decide) mm_303 rfl dX8_fitAlone_34 ?_
        refine dv_iload dX8_fitAlone_37 0 rfl ?_
        refine dv_aldq 4 ⟨by decide, rfl⟩ hs7 rfl (z_in rfl (by omega) (by omega)) dX8_fitAlone_39 (r := (0 + 35 + 5 * v5_25.toInt.toNat)) (zF1_r (x := v5_25) (by omega) (by omega)) ?_
        refine dv_aload_n dX8_fitAlone_40 rfl 2 rfl ?_
        refine dv_get (ci := 8) (v := .ref 5) (C := RX8) (T := TX8) (N := 13) ⟨by decide, rfl⟩ hs1 rfl inG8 3 (by decide) mm_306 rfl dX8_fitAlone_41 ?_
        refine dv_iload_n dX8_fitAlone_44 rfl 3 rfl ?_
        refine dv_aldq 5 ⟨by decide, rfl⟩ hs8 rfl (z_in rfl (by omega) (by omega)) dX8_fitAlone_45 (r := (0 + 55 + 11 * b.toInt.toNat)) (zF5_r (x := b) (by omega) (by omega)) ?_
        refine dv_iload_n dX8_fitAlone_46 rfl 4 rfl ?_
        refine dv_iload dX8_fitAlone_47 0 rfl ?_
        refine GW.callV (n := 2) (As := [.int i, .int v5_25]) (rest := [.ref (0 + 35 + 5 * v5_25.toInt.toNat), .int v4_25]) (b := (0 + 55 + 11 * b.toInt.toNat)) (eNode_s l g pe ct (0 + 55 + 11 * b.toInt.toNat) i v5_25 (by omega) hI) sub_pB_pCl rfl rfl ⟨by omega, pB_of (by omega)⟩ hs10 (q := (RX2, TX2, 5)) rfl mm_461 mm_462 mm_463 mm_60 mm_464 (by decide +kernel) ⟨Nat.le_of_ble_eq_true rfl, Nat.le_of_ble_eq_true rfl⟩ rfl (Nat.le_of_ble_eq_true rfl) dX8_fitAlone_49 (Nat.zero_le _) (Nat.zero_le _) rfl (fun ct86 rrr87 hBr87 hoff88 => ?_)
        obtain ⟨r87, rfl, hr87, rfl⟩ := hBr87
        refine GW.eq (S2 := [.int r87, .ref (0 + 35 + 5 * v5_25.toInt.toNat), .int v4_25]) rfl rfl rfl ?_
        obtain ⟨h89, h90⟩ := hr87
        have h89 : r87 = eNode l g pe ct (0 + 55 + 11 * b.toInt.toNat) i v5_25 := h89
        have h90 : True := h90
        obtain ⟨we93, se94, h95, h96, hs92⟩ := a8_35 (kc := (0 + 35 + 5 * v5_25.toInt.toNat)) (by omega) hI
        refine GW.callV (n := 1) (As := [.int r87]) (rest := [.int v4_25]) (b := (0 + 35 + 5 * v5_25.toInt.toNat)) (eWho_s l g pe ct (0 + 35 + 5 * v5_25.toInt.toNat) r87 (by omega) hI) sub_pK_pCl rfl rfl ⟨by omega, pK_of (by omega)⟩ hs92 (q := (RX3, TX3, 6)) rfl mm_465 mm_466 mm_467 mm_59 mm_468 (by decide +kernel) ⟨Nat.le_of_ble_eq_true rfl, Nat.le_of_ble_eq_true rfl⟩ rfl (Nat.le_of_ble_eq_true rfl) dX8_fitAlone_52 (Nat.zero_le _) (Nat.zero_le _) rfl (fun ct91 rrr97 hBr97 hoff98 => ?_)
        obtain ⟨r97, rfl, hr97, rfl⟩ := hBr97
        refine GW.eq (S2 := [.int r97, .int v4_25]) rfl rfl rfl ?_
        obtain ⟨h99, h100⟩ := hr97
        have h99 : r97 = eWho l g pe ct (0 + 35 + 5 * v5_25.toInt.toNat) r87 := h99
        have h100 : True := h100
        refine dv_iand dX8_fitAlone_55 ?_
        refine dv_topi (fun x101 ex101 => ?_)
        refine dv_istore (lv' := [(4, .int x101), (5, .int v5_25), (0, .ref 0), (1, .int b), (2, .int i), (3, .int kn)]) dX8_fitAlone_56 (by decide) rfl ?_
        obtain ⟨x102, ex102⟩ : ∃ y : Int32, y = v5_25 + 1 := ⟨_, rfl⟩
        have tx102 : x102.toInt = v5_25.toInt + 1 := by rw [ex102]; exact z_add rfl (by decide : (1 : Int32).toInt = 1) (by omega) (by omega)
        refine dv_iinc (v := x102) (lv' := [(5, .int x102), (4, .int x101), (0, .ref 0), (1, .int b), (2, .int i), (3, .int kn)]) dX8_fitAlone_58 (k := 1) rfl (by rw [ex102]; rfl) (by decide) rfl ?_
        refine dv_goto (tgt := 25) dX8_fitAlone_61 (by decide) ?_
        exact ih25 x102 x101 (by omega) (by omega) (by rw [show x102.toInt.toNat - 1 = (v5_25.toInt.toNat - 1) + 1 by omega]; show _ = baS l g pe ct (0 + 55 + 11 * b.toInt.toNat) i (v5_25.toInt.toNat - 1) &&& eWho _ _ _ _ (0 + 35 + 5 * (v5_25.toInt.toNat - 1 + 1)) (eNode _ _ _ _ _ _ (nI (v5_25.toInt.toNat - 1 + 1))); rw [show v5_25.toInt.toNat - 1 + 1 = v5_25.toInt.toNat by omega, ← z_nI (x := v5_25) (k := v5_25.toInt.toNat) (by omega), ← j0_25, ex101, h99, h89])
  exact loop25 ((4 - (1 : Int32).toInt : Int).toNat + 1) (1 : Int32) r30 (by omega) (by first | omega | decide | (have hz0 : (0 : Int32).toInt = 0 := (by decide); have hz1 : (1 : Int32).toInt = 1 := (by decide); omega)) (by rw [show (1 : Int32).toInt.toNat - 1 = 0 from rfl]; show _ = eWho _ _ _ _ _ _; rw [h32, h22])

set_option maxHeartbeats 4000000 in
set_option maxRecDepth 100000 in
theorem f_fitAll (l : Launch) (g : zG) (pe : Int32) (ct : Nat → va_E) (la : Int32) (kn : Int32) (hl_kn : 0 ≤ kn.toInt ∧ kn.toInt ≤ 255) (hI : Inv8 g idn pe ct) : DM l g pCl false yX8_fitAll cX8_fitAll 6 (some .int) ({ frames := 2, cells := 0, slots := 0, locals := 47 }) (fun (ct2 : Nat → va_E) (rr : Option Value) => ∃ (r : Int32), rr = some (.int r) ∧ (((r = FALL l g pe ct la kn) ∧ (0 ≤ r.toInt) ∧ (r.toInt ≤ 65535))) ∧ ct = ct2) ct [.ref 0, .int la, .int kn] := by
  refine DM.K (fun K hK => ?_)
  refine GW.met (own := RX8) (loc := [(0, .ref 0), (1, .int la), (2, .int kn)]) (by decide) rfl rfl (Nat.le_of_ble_eq_true rfl) ?_
  have hpe0 := hI.1
  have rg_la := z_rng la
  obtain ⟨bk3, dr2, h4, h5, h6, hs1⟩ := a8_0 hI
  have hzb : (bkF ct).toInt = bk3.toInt := by unfold bkF; rw [hs1]; rfl
  refine dv_iconst (v := 1) dX8_fitAll_0 (by decide) ?_
  refine dv_aload_n dX8_fitAll_1 rfl 0 rfl ?_
  refine dv_get (ci := 8) (v := .int pe) (C := RX8) (T := TX8) (N := 13) ⟨by decide, rfl⟩ hs1 rfl inG8 11 (by decide) mm_314 rfl dX8_fitAll_2 ?_
  refine dv_ishl dX8_fitAll_5 ?_
  refine dv_topi (fun x7 ex7 => ?_)
  have tx7 := z_shl1 (y := pe) rfl (by omega) (k := 16) (by decide) (by omega)
  rw [← ex7] at tx7
  refine dv_iconst (v := 1) dX8_fitAll_6 (by decide) ?_
  refine dv_isub dX8_fitAll_7 ?_
  refine dv_topi (fun x8 ex8 => ?_)
  have tx8 : x8.toInt = x7.toInt - 1 := by rw [ex8]; exact z_sub rfl (by decide : (1 : Int32).toInt = 1) (by omega) (by omega)
  refine dv_istore_n (lv' := [(3, .int x8), (0, .ref 0), (1, .int la), (2, .int kn)]) dX8_fitAll_8 rfl (by decide) rfl ?_
  refine dv_iconst (v := 0) dX8_fitAll_9 (by decide) ?_
  refine dv_istore (lv' := [(4, .int 0), (3, .int x8), (0, .ref 0), (1, .int la), (2, .int kn)]) dX8_fitAll_10 (by decide) rfl ?_
  have loop12 : ∀ (n12 : Nat) (v4_12 : Int32) (v3_12 : Int32), ((4 - v4_12.toInt : Int).toNat < n12) → (0 ≤ v4_12.toInt ∧ v4_12.toInt ≤ 4) → (0 ≤ v3_12.toInt ∧ v3_12.toInt ≤ 65535) → (v4_12.toInt ≤ (bkF ct).toInt) → (v3_12 = f2S l g pe ct la kn v4_12.toInt.toNat) → GW l g pCl pCl false yX8_fitAll cX8_fitAll 6 (some .int) RX8 ({ frames := 2, cells := 0, slots := 0, locals := 47 }) K 0 0 ct 12 [(4, .int v4_12), (3, .int v3_12), (0, .ref 0), (1, .int la), (2, .int kn)] [] := by
    intro n12
    induction n12 with
    | zero =>
      intro v4_12 v3_12 hn12 b4_12 b3_12 j0_12 j1_12
      exact absurd hn12 (Nat.not_lt_zero _)
    | succ n12 ih12 =>
      intro v4_12 v3_12 hn12 b4_12 b3_12 j0_12 j1_12
      refine dv_iload dX8_fitAll_12 0 rfl ?_
      refine dv_aload_n dX8_fitAll_14 rfl 2 rfl ?_
      refine dv_get (ci := 8) (v := .int bk3) (C := RX8) (T := TX8) (N := 13) ⟨by decide, rfl⟩ hs1 rfl inG8 12 (by decide) mm_315 rfl dX8_fitAll_15 ?_
      refine dv_icmp_ge (tgt := 78) dX8_fitAll_18 (by decide) (fun c9 => ?_) (fun c9 => ?_)
      · skip
        have c9 : bk3.toInt ≤ v4_12.toInt := (z_le rfl rfl).mp c9
        refine dv_iload_n dX8_fitAll_78 rfl 1 rfl ?_
        exact dv_iret dX8_fitAll_79 rfl (by first | exact Nat.zero_le _ | decide) (by first | exact Nat.zero_le _ | decide) (by subst hK; exact ⟨v3_12, rfl, (⟨by unfold FALL; rw [j1_12, show (bkF ct).toInt.toNat = v4_12.toInt.toNat by omega], by omega, by omega⟩), rfl⟩)
      · skip
        have c9 : ¬ (bk3.toInt ≤ v4_12.toInt) := fun q => c9 ((z_le rfl rfl).mpr q)
        obtain ⟨lns11, liv12, shw13, h14, h15, h16, h17, hz18, h19, hs10⟩ := a8_40 (kc := (0 + 55 + 11 * v4_12.toInt.toNat)) (by omega) hI
        have bhz18 := z_b01 hz18
        have hln : (lnF ct v4_12.toInt.toNat) = lns11 := by unfold lnF; rw [hs10]; rfl
        have hlv : (lvF ct v4_12.toInt.toNat) = liv12 := by unfold lvF; rw [hs10]; rfl
        refine dv_iconst (v := 0) dX8_fitAll_21 (by decide) ?_
        refine dv_istore (lv' := [(5, .int 0), (4, .int v4_12), (3, .int v3_12), (0, .ref 0), (1, .int la), (2, .int kn)]) dX8_fitAll_22 (by decide) rfl ?_
        have loop24 : ∀ (n24 : Nat) (v5_24 : Int32) (v3_24 : Int32), ((8 - v5_24.toInt : Int).toNat < n24) → (0 ≤ v5_24.toInt ∧ v5_24.toInt ≤ 8) → (0 ≤ v3_24.toInt ∧ v3_24.toInt ≤ 65535) → (v5_24.toInt ≤ (lnF ct v4_12.toInt.toNat).toInt) → (v3_24 = f1S l g pe ct la kn v4_12.toInt.toNat (f2S l g pe ct la kn v4_12.toInt.toNat) v5_24.toInt.toNat) → GW l g pCl pCl false yX8_fitAll cX8_fitAll 6 (some .int) RX8 ({ frames := 2, cells := 0, slots := 0, locals := 47 }) K 0 0 ct 24 [(5, .int v5_24), (4, .int v4_12), (3, .int v3_24), (0, .ref 0), (1, .int la), (2, .int kn)] [] := by
          intro n24
          induction n24 with
          | zero =>
            intro v5_24 v3_24 hn24 b5_24 b3_24 j0_24 j1_24
            exact absurd hn24 (Nat.not_lt_zero _)
          | succ n24 ih24 =>
            intro v5_24 v3_24 hn24 b5_24 b3_24 j0_24 j1_24
            refine dv_iload dX8_fitAll_24 0 rfl ?_
            refine dv_aload_n dX8_fitAll_26 rfl 3 rfl ?_
            refine dv_get (ci := 8) (v := .ref 5) (C := RX8) (T := TX8) (N := 13) ⟨by decide, rfl⟩ hs1 rfl inG8 3 (by decide) mm_306 rfl dX8_fitAll_27 ?_
            refine dv_iload dX8_fitAll_30 1 rfl ?_
            have hs20 := a8_5 hI
            refine dv_aldq 5 ⟨by decide, rfl⟩ hs20 rfl (z_in rfl (by omega) (by omega)) dX8_fitAll_32 (r := (0 + 55 + 11 * v4_12.toInt.toNat)) (zF5_r (x := v4_12) (by omega) (by omega)) ?_
            refine dv_get (ci := 2) (v := .int lns11) (C := RX2) (T := TX2) (N := 5) ⟨by omega, pCl_of (by omega)⟩ hs10 rfl inG2 0 (by decide) mm_285 rfl dX8_fitAll_33 ?_
            refine dv_icmp_ge (tgt := 72) dX8_fitAll_36 (by decide) (fun c21 => ?_) (fun c21 => ?_)
            · skip
              have c21 : lns11.toInt ≤ v5_24.toInt := (z_le rfl rfl).mp c21
              obtain ⟨x22, ex22⟩ : ∃ y : Int32, y = v4_12 + 1 := ⟨_, rfl⟩
              have tx22 : x22.toInt = v4_12.toInt + 1 := by rw [ex22]; exact z_add rfl (by decide : (1 : Int32).toInt = 1) (by omega) (by omega)
              refine dv_iinc (v := x22) (lv' := [(4, .int x22), (5, .int v5_24), (3, .int v3_24), (0, .ref 0), (1, .int la), (2, .int kn)]) dX8_fitAll_72 (k := 1) rfl (by rw [ex22]; rfl) (by decide) rfl ?_
              refine dv_goto (tgt := 12) dX8_fitAll_75 (by decide) ?_
              refine dv_sub (loc2 := [(4, .int x22), (3, .int v3_24), (0, .ref 0), (1, .int la), (2, .int kn)]) [0, 2, 3, 4, 5] rfl ?_
              exact ih12 x22 v3_24 (by omega) (by omega) (by omega) (by omega) (by rw [show x22.toInt.toNat = v4_12.toInt.toNat + 1 by omega]; show _ = f1S _ _ _ _ _ _ _ _ _; rw [j1_24, show (lnF ct v4_12.toInt.toNat).toInt.toNat = v5_24.toInt.toNat by rw [hln] at j0_24 ⊢; omega])
            · skip
              have c21 : ¬ (lns11.toInt ≤ v5_24.toInt) := fun q => c21 ((z_le rfl rfl).mpr q)
              refine dv_iload_n dX8_fitAll_39 rfl 4 rfl ?_
              refine dv_iload dX8_fitAll_40 1 rfl ?_
              refine dv_iload dX8_fitAll_42 0 rfl ?_
              refine GW.callS (n := 2) (As := [.int v4_12, .int v5_24]) (rest := [.int la]) (f_place l g pe ct v4_12 v5_24 (by first | omega | decide) (by first | omega | decide) hI) (fun _ h => Bool.noConfusion h) rfl rfl mm_442 mm_443 mm_52 mm_444 (by decide +kernel) ⟨Nat.le_of_ble_eq_true rfl, Nat.le_of_ble_eq_true rfl⟩ rfl (Nat.le_of_ble_eq_true rfl) dX8_fitAll_44 (Nat.zero_le _) (Nat.zero_le _) rfl (fun ct23 rrr24 hBr24 hoff25 => ?_)
              obtain ⟨r24, rfl, hr24, rfl⟩ := hBr24
              refine GW.eq (S2 := [.int r24, .int la]) rfl rfl rfl ?_
              have h26 := hr24
              have h26 : r24.toInt = 8 * v4_12.toInt + v5_24.toInt := h26
              refine dv_iushr dX8_fitAll_47 rfl ?_
              refine dv_topi (fun x27 ex27 => ?_)
              refine dv_iconst (v := 1) dX8_fitAll_48 (by decide) ?_
              refine dv_iand dX8_fitAll_49 ?_
              refine dv_topi (fun x28 ex28 => ?_)
              refine dv_iconst (v := 1) dX8_fitAll_50 (by decide) ?_
              refine dv_icmp_ne (tgt := 66) dX8_fitAll_51 (by decide) (fun c29 => ?_) (fun c29 => ?_)
              · skip
                have c29 : ¬ (x28.toInt = 1) := fun q => c29 ((z_eq rfl (by decide : (1 : Int32).toInt = 1)).mpr q)
                have hlb : ib la (8 * v4_12.toInt.toNat + v5_24.toInt.toNat) = false := by
                  rcases zb_asku (x := la) (y := r24) (p := 8 * v4_12.toInt.toNat + v5_24.toInt.toNat) (by omega) (by omega) (ex28.trans (by rw [ex27]; rfl)) with ⟨q1, q2⟩ | ⟨q1, q2⟩
                  · first | exact q2 | (exfalso; omega)
                  · first | exact q2 | (exfalso; omega)
                obtain ⟨x30, ex30⟩ : ∃ y : Int32, y = v5_24 + 1 := ⟨_, rfl⟩
                have tx30 : x30.toInt = v5_24.toInt + 1 := by rw [ex30]; exact z_add rfl (by decide : (1 : Int32).toInt = 1) (by omega) (by omega)
                refine dv_iinc (v := x30) (lv' := [(5, .int x30), (4, .int v4_12), (3, .int v3_24), (0, .ref 0), (1, .int la), (2, .int kn)]) dX8_fitAll_66 (k := 0) rfl (by rw [ex30]; rfl) (by decide) rfl ?_
                refine dv_goto (tgt := 24) dX8_fitAll_69 (by decide) ?_
                exact ih24 x30 v3_24 (by omega) (by omega) (by omega) (by rw [hln]; omega) (by rw [show x30.toInt.toNat = v5_24.toInt.toNat + 1 by omega]; show _ = (if ib la (8 * v4_12.toInt.toNat + v5_24.toInt.toNat) = true then _ else _); rw [if_neg (by rw [hlb]; decide)]; exact j1_24)
              · skip
                have c29 : x28.toInt = 1 := (z_eq rfl (by decide : (1 : Int32).toInt = 1)).mp c29
                have hlb : ib la (8 * v4_12.toInt.toNat + v5_24.toInt.toNat) = true := by
                  rcases zb_asku (x := la) (y := r24) (p := 8 * v4_12.toInt.toNat + v5_24.toInt.toNat) (by omega) (by omega) (ex28.trans (by rw [ex27]; rfl)) with ⟨q1, q2⟩ | ⟨q1, q2⟩
                  · first | exact q2 | (exfalso; omega)
                  · first | exact q2 | (exfalso; omega)
                refine dv_iload_n dX8_fitAll_54 rfl 2 rfl ?_
                refine dv_aload_n dX8_fitAll_55 rfl 3 rfl ?_
                refine dv_iload dX8_fitAll_56 1 rfl ?_
                refine dv_iload dX8_fitAll_58 0 rfl ?_
                refine dv_iload_n dX8_fitAll_60 rfl 5 rfl ?_
                refine GW.callV (n := 3) (As := [.int v4_12, .int v5_24, .int kn]) (rest := [.int v3_24]) (b := 0) (f_fitAlone l g pe ct v4_12 v5_24 kn (by first | omega | decide) (by first | omega | decide) hI) (fun _ h => h) rfl rfl ⟨by decide, rfl⟩ hs1 (q := (RX8, TX8, 13)) rfl mm_457 mm_459 mm_12 mm_52 mm_460 (by decide +kernel) ⟨Nat.le_of_ble_eq_true rfl, Nat.le_of_ble_eq_true rfl⟩ rfl (Nat.le_of_ble_eq_true rfl) dX8_fitAll_61 (Nat.zero_le _) (Nat.zero_le _) rfl (fun ct31 rrr32 hBr32 hoff33 => ?_)
                obtain ⟨r32, rfl, hr32, rfl⟩ := hBr32
                refine GW.eq (S2 := [.int r32, .int v3_24]) rfl rfl rfl ?_
                obtain ⟨h34, h35⟩ := hr32
                have h34 : r32 = FAL l g pe ct v4_12 v5_24 kn := h34
                have h35 : True := h35
                refine dv_iand dX8_fitAll_64 ?_
                refine dv_topi (fun x36 ex36 => ?_)
                have tx36 := z_andl (x := v3_24) (y := r32) rfl (by omega)
                rw [← ex36] at tx36
                refine dv_istore_n (lv' := [(3, .int x36), (5, .int v5_24), (4, .int v4_12), (0, .ref 0), (1, .int la), (2, .int kn)]) dX8_fitAll_65 rfl (by decide) rfl ?_
                obtain ⟨x37, ex37⟩ : ∃ y : Int32, y = v5_24 + 1 := ⟨_, rfl⟩
                have tx37 : x37.toInt = v5_24.toInt + 1 := by rw [ex37]; exact z_add rfl (by decide : (1 : Int32).toInt = 1) (by omega) (by omega)
                refine dv_iinc (v := x37) (lv' := [(5, .int x37), (3, .int x36), (4, .int v4_12), (0, .ref 0), (1, .int la), (2, .int kn)]) dX8_fitAll_66 (k := 1) rfl (by rw [ex37]; rfl) (by decide) rfl ?_
                refine dv_goto (tgt := 24) dX8_fitAll_69 (by decide) ?_
                refine dv_sub (loc2 := [(5, .int x37), (4, .int v4_12), (3, .int x36), (0, .ref 0), (1, .int la), (2, .int kn)]) [0, 2, 1, 3, 4, 5] rfl ?_
                exact ih24 x37 x36 (by omega) (by omega) (by omega) (by rw [hln]; omega) (by rw [show x37.toInt.toNat = v5_24.toInt.toNat + 1 by omega]; show _ = (if ib la (8 * v4_12.toInt.toNat + v5_24.toInt.toNat) = true then _ else _); rw [if_pos hlb, ← j1_24, ex36, h34, ← z_nI (x := v4_12) (k := v4_12.toInt.toNat) (by omega), ← z_nI (x := v5_24) (k := v5_24.toInt.toNat) (by omega)])
        exact loop24 ((8 - (0 : Int32).toInt : Int).toNat + 1) (0 : Int32) v3_12 (by omega) (by first | omega | decide | (have hz0 : (0 : Int32).toInt = 0 := (by decide); have hz1 : (1 : Int32).toInt = 1 := (by decide); omega)) (by first | omega | decide | (have hz0 : (0 : Int32).toInt = 0 := (by decide); have hz1 : (1 : Int32).toInt = 1 := (by decide); omega)) (by have hz0 : (0 : Int32).toInt = 0 := (by decide); rw [hln]; omega) (by rw [show (0 : Int32).toInt.toNat = 0 from rfl]; exact j1_12)
  exact loop12 ((4 - (0 : Int32).toInt : Int).toNat + 1) (0 : Int32) x8 (by omega) (by first | omega | decide | (have hz0 : (0 : Int32).toInt = 0 := (by decide); have hz1 : (1 : Int32).toInt = 1 := (by decide); omega)) (by first | omega | decide | (have hz0 : (0 : Int32).toInt = 0 := (by decide); have hz1 : (1 : Int32).toInt = 1 := (by decide); omega)) (by first | omega | decide | (have hz0 : (0 : Int32).toInt = 0 := (by decide); have hz1 : (1 : Int32).toInt = 1 := (by decide); omega)) (by rw [show (0 : Int32).toInt.toNat = 0 from rfl]; show _ = ((1 : Int32) <<< (pe &&& 31)) - 1; rw [ex8, ex7])
