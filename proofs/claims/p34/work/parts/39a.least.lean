set_option maxHeartbeats 4000000 in
set_option maxRecDepth 100000 in
theorem f_left (l : Launch) (g : zG) (pe : Int32) (ct : Nat → va_E) (i0 : Int32) (ln0 : Int32) (lv0 : Int32) (lk0 : Int32) (fd0 : Int32) (fL : Nat → Int32) (hI : Inv8 g idn pe ct) (h10 : ct 10 = .inr (6, [.int ln0, .int lv0, .int lk0, .int fd0, .ref 11, .ref 12, .ref 13, .ref 14, .ref 15, .ref 16])) (h16 : ct 16 = .inl (g.2 0, 8, .inl fL)) : DM l g pM false yX6_left cX6_left 2 (some .int) ({ frames := 1, cells := 0, slots := 0, locals := 22 }) (fun (ct2 : Nat → va_E) (rr : Option Value) => ∃ (r : Int32), rr = some (.int r) ∧ (((r = if 0 ≤ i0.toInt ∧ i0.toInt ≤ 7 then fL (Int32.toNatClampNeg i0) else 0))) ∧ ct = ct2) ct [.ref 10, .int i0] := by
  refine DM.K (fun K hK => ?_)
  refine GW.met (own := RX6) (loc := [(0, .ref 10), (1, .int i0)]) (by decide) rfl rfl (Nat.le_of_ble_eq_true rfl) ?_
  have hpe0 := hI.1
  obtain ⟨lns2, liv3, lak4, fnd5, h6, h7, h8, h9, hs1⟩ := a8_10 hI
  have hs10 := h10
  cases (h10.symm.trans hs1)
  obtain ⟨f12, hs11⟩ := a8_16 hI
  have hs13 := h16
  cases (h16.symm.trans hs11)
  have rg_i0 := z_rng i0
  refine dv_iload_n dX6_left_0 rfl 1 rfl ?_
  refine dv_iconst (v := 0) dX6_left_1 (by decide) ?_
  refine dv_bipush (v := 7) dX6_left_2 (by decide) ?_
  refine GW.callSN (n := 3) (As := [.int i0, .int 0, .int 7]) (rest := []) (k_X8_within l g pe ct i0 (0 : Int32) (7 : Int32) hI) (fun _ h => Bool.noConfusion h) rfl rfl 13 rfl mm_356 mm_52 mm_357 (by decide +kernel) ⟨Nat.le_of_ble_eq_true rfl, Nat.le_of_ble_eq_true rfl⟩ rfl (Nat.le_of_ble_eq_true rfl) dX6_left_4 (Nat.zero_le _) (Nat.zero_le _) rfl (fun ct14 rrr15 hBr15 hoff16 => ?_)
  obtain ⟨r15, rfl, hr15, rfl⟩ := hBr15
  refine GW.eq (S2 := [.int r15]) rfl rfl rfl ?_
  rcases hr15 with hr15 | hr15
  · skip
    obtain ⟨rfl, h17, h18⟩ := hr15
    have h17 : (0 : Int) ≤ i0.toInt := h17
    have h18 : i0.toInt ≤ (7 : Int) := h18
    refine dv_if_eq (tgt := 19) dX6_left_7 (by decide) (fun c19 => ?_) (fun c19 => ?_)
    · skip
      exact absurd c19 (by decide)
    · skip
      refine dv_aload_n dX6_left_10 rfl 0 rfl ?_
      refine dv_get (ci := 6) (v := .ref 16) (C := RX6) (T := TX6) (N := 10) ⟨by decide, rfl⟩ hs10 rfl inG6 9 (by decide) mm_131 rfl dX6_left_11 ?_
      refine dv_iload_n dX6_left_14 rfl 1 rfl ?_
      refine dv_iald 0 ⟨by decide, rfl⟩ hs13 rfl (z_in rfl (by omega) (by omega)) dX6_left_15 ?_
      refine dv_topi (fun y20 ey20 => ?_)
      refine dv_goto (tgt := 20) dX6_left_16 (by decide) ?_
      exact dv_iret dX6_left_20 rfl (by first | exact Nat.zero_le _ | decide) (by first | exact Nat.zero_le _ | decide) (by subst hK; exact ⟨y20, rfl, (by rw [if_pos (by omega)]; exact ey20), rfl⟩)
  · skip
    obtain ⟨rfl, h21⟩ := hr15
    have h21 : ¬ ((0 : Int) ≤ i0.toInt ∧ i0.toInt ≤ (7 : Int)) := h21
    refine dv_if_eq (tgt := 19) dX6_left_7 (by decide) (fun c22 => ?_) (fun c22 => ?_)
    · skip
      refine dv_iconst (v := 0) dX6_left_19 (by decide) ?_
      have q23 : (0 : Int32).toInt = 0 := by decide
      exact dv_iret dX6_left_20 rfl (by first | exact Nat.zero_le _ | decide) (by first | exact Nat.zero_le _ | decide) (by subst hK; exact ⟨0, rfl, (by rw [if_neg (by omega)]), rfl⟩)
    · skip
      exact absurd c22 (by decide)

set_option maxHeartbeats 4000000 in
set_option maxRecDepth 100000 in
theorem f_lowest (l : Launch) (g : zG) (pe : Int32) (ct : Nat → va_E) (set : Int32) (hl_set : 0 ≤ set.toInt ∧ set.toInt ≤ 65535) (hI : Inv8 g idn pe ct) : DM l g pNo false yX8_lowest cX8_lowest 2 (some .int) ({ frames := 0, cells := 0, slots := 0, locals := 0 }) (fun (ct2 : Nat → va_E) (rr : Option Value) => ∃ (r : Int32), rr = some (.int r) ∧ (((r = lowG set 32))) ∧ ct = ct2) ct [.int set] := by
  refine DM.K (fun K hK => ?_)
  refine GW.met (own := RX8) (loc := [(0, .int set)]) (by decide) rfl rfl (Nat.le_of_ble_eq_true rfl) ?_
  have hpe0 := hI.1
  refine dv_iconst (v := 0) dX8_lowest_0 (by decide) ?_
  refine dv_istore_n (lv' := [(1, .int 0), (0, .int set)]) dX8_lowest_1 rfl (by decide) rfl ?_
  have loop2 : ∀ (n2 : Nat) (v1_2 : Int32), ((32 - v1_2.toInt : Int).toNat < n2) → (0 ≤ v1_2.toInt ∧ v1_2.toInt ≤ 32) → (lowG set 32 = lowG set (32 - v1_2.toInt.toNat)) → GW l g pNo pNo false yX8_lowest cX8_lowest 2 (some .int) RX8 ({ frames := 0, cells := 0, slots := 0, locals := 0 }) K 0 0 ct 2 [(1, .int v1_2), (0, .int set)] [] := by
    intro n2
    induction n2 with
    | zero =>
      intro v1_2 hn2 b1_2 j0_2
      exact absurd hn2 (Nat.not_lt_zero _)
    | succ n2 ih2 =>
      intro v1_2 hn2 b1_2 j0_2
      refine dv_iload_n dX8_lowest_2 rfl 0 rfl ?_
      refine dv_bipush (v := 32) dX8_lowest_3 (by decide) ?_
      refine dv_icmp_ge (tgt := 25) dX8_lowest_5 (by decide) (fun c1 => ?_) (fun c1 => ?_)
      · skip
        have c1 : 32 ≤ v1_2.toInt := (z_le (by decide : (32 : Int32).toInt = 32) rfl).mp c1
        refine dv_iconst (v := (-1)) dX8_lowest_25 (by decide) ?_
        have q2 : ((-1) : Int32).toInt = -1 := by decide
        exact dv_iret dX8_lowest_26 rfl (by first | exact Nat.zero_le _ | decide) (by first | exact Nat.zero_le _ | decide) (by subst hK; exact ⟨(-1), rfl, (by rw [j0_2, show v1_2.toInt.toNat = 32 by omega]; rfl), rfl⟩)
      · skip
        have c1 : ¬ (32 ≤ v1_2.toInt) := fun q => c1 ((z_le (by decide : (32 : Int32).toInt = 32) rfl).mpr q)
        refine dv_iload_n dX8_lowest_8 rfl 1 rfl ?_
        refine dv_iload_n dX8_lowest_9 rfl 0 rfl ?_
        refine dv_iushr dX8_lowest_10 rfl ?_
        refine dv_topi (fun x3 ex3 => ?_)
        refine dv_iconst (v := 1) dX8_lowest_11 (by decide) ?_
        refine dv_iand dX8_lowest_12 ?_
        refine dv_topi (fun x4 ex4 => ?_)
        refine dv_iconst (v := 1) dX8_lowest_13 (by decide) ?_
        refine dv_icmp_ne (tgt := 19) dX8_lowest_14 (by decide) (fun c5 => ?_) (fun c5 => ?_)
        · skip
          have c5 : ¬ (x4.toInt = 1) := fun q => c5 ((z_eq rfl (by decide : (1 : Int32).toInt = 1)).mpr q)
          have hbit : ib set (v1_2.toInt.toNat) = false := by
            rcases zb_asku (x := set) (y := v1_2) (p := v1_2.toInt.toNat) (by omega) (by omega) (ex4.trans (by rw [ex3]; rfl)) with ⟨q1, q2⟩ | ⟨q1, q2⟩
            · first | exact q2 | (exfalso; omega)
            · first | exact q2 | (exfalso; omega)
          obtain ⟨x6, ex6⟩ : ∃ y : Int32, y = v1_2 + 1 := ⟨_, rfl⟩
          have tx6 : x6.toInt = v1_2.toInt + 1 := by rw [ex6]; exact z_add rfl (by decide : (1 : Int32).toInt = 1) (by omega) (by omega)
          refine dv_iinc (v := x6) (lv' := [(1, .int x6), (0, .int set)]) dX8_lowest_19 (k := 0) rfl (by rw [ex6]; rfl) (by decide) rfl ?_
          refine dv_goto (tgt := 2) dX8_lowest_22 (by decide) ?_
          exact ih2 x6 (by omega) (by omega) (by rw [show x6.toInt.toNat = v1_2.toInt.toNat + 1 by omega, j0_2, lowG_at (by omega), if_neg (by rw [hbit]; decide)])
        · skip
          have c5 : x4.toInt = 1 := (z_eq rfl (by decide : (1 : Int32).toInt = 1)).mp c5
          have hbit : ib set (v1_2.toInt.toNat) = true := by
            rcases zb_asku (x := set) (y := v1_2) (p := v1_2.toInt.toNat) (by omega) (by omega) (ex4.trans (by rw [ex3]; rfl)) with ⟨q1, q2⟩ | ⟨q1, q2⟩
            · first | exact q2 | (exfalso; omega)
            · first | exact q2 | (exfalso; omega)
          refine dv_iload_n dX8_lowest_17 rfl 0 rfl ?_
          exact dv_iret dX8_lowest_18 rfl (by first | exact Nat.zero_le _ | decide) (by first | exact Nat.zero_le _ | decide) (by subst hK; exact ⟨v1_2, rfl, (by rw [j0_2, lowG_at (by omega), if_pos hbit]; exact z_nI (by omega)), rfl⟩)
  exact loop2 ((32 - (0 : Int32).toInt : Int).toNat + 1) (0 : Int32) (by omega) (by first | omega | decide | (have hz0 : (0 : Int32).toInt = 0 := (by decide); have hz1 : (1 : Int32).toInt = 1 := (by decide); omega)) rfl

set_option maxHeartbeats 4000000 in
set_option maxRecDepth 100000 in
theorem f_least (l : Launch) (g : zG) (pe : Int32) (ct : Nat → va_E) (i0 : Int32) (ln0 : Int32) (lv0 : Int32) (lk0 : Int32) (fd0 : Int32) (fF : Nat → Int32) (hI : Inv8 g idn pe ct) (h10 : ct 10 = .inr (6, [.int ln0, .int lv0, .int lk0, .int fd0, .ref 11, .ref 12, .ref 13, .ref 14, .ref 15, .ref 16])) (h12 : ct 12 = .inl (g.2 0, 8, .inl fF)) : DM l g pM false yX6_least cX6_least 4 (some .int) ({ frames := 3, cells := 0, slots := 0, locals := 65 }) (fun (ct2 : Nat → va_E) (rr : Option Value) => ∃ (r : Int32), rr = some (.int r) ∧ (((r = (lsS ln0 lv0 fF ((min (i0.toInt + 1) ln0.toInt).toNat)).2))) ∧ Inv8 g idn pe ct2 ∧ (ct2 11 = ct 11) ∧ (ct2 15 = ct 15) ∧ (ct2 16 = ct 16)) ct [.ref 10, .int i0] := by
  refine DM.K (fun K hK => ?_)
  refine GW.met (own := RX6) (loc := [(0, .ref 10), (1, .int i0)]) (by decide) rfl rfl (Nat.le_of_ble_eq_true rfl) ?_
  have hpe0 := hI.1
  obtain ⟨lns2, liv3, lak4, fnd5, h6, h7, h8, h9, hs1⟩ := a8_10 hI
  have hs10 := h10
  cases (h10.symm.trans hs1)
  obtain ⟨f12, hp13, hs11⟩ := a8_12 hI
  have hs14 := h12
  cases (h12.symm.trans hs11)
  have hc11 : ct 11 = ct 11 := rfl
  have hc15 : ct 15 = ct 15 := rfl
  have hc16 : ct 16 = ct 16 := rfl
  have rg_i0 := z_rng i0
  refine dv_iconst (v := (-1)) dX6_least_0 (by decide) ?_
  refine dv_istore_n (lv' := [(2, .int (-1)), (0, .ref 10), (1, .int i0)]) dX6_least_1 rfl (by decide) rfl ?_
  refine dv_iconst (v := 0) dX6_least_2 (by decide) ?_
  refine dv_istore_n (lv' := [(3, .int 0), (2, .int (-1)), (0, .ref 10), (1, .int i0)]) dX6_least_3 rfl (by decide) rfl ?_
  have loop4 : ∀ (n4 : Nat) (v3_4 : Int32) (v2_4 : Int32) (lk15 : Int32) (fN17 : Nat → Int32) (ct19 : Nat → va_E), ((8 - v3_4.toInt : Int).toNat < n4) → (0 ≤ v3_4.toInt ∧ v3_4.toInt ≤ 8) → (v3_4.toInt ≤ ln0.toInt) → (v3_4.toInt ≤ max (i0.toInt + 1) 0) → (fN17 = (lsS ln0 lv0 fF (v3_4.toInt.toNat)).1) → (v2_4 = (lsS ln0 lv0 fF (v3_4.toInt.toNat)).2) → (ct19 11 = ct 11) → (ct19 15 = ct 15) → (ct19 16 = ct 16) → (ct19 10 = .inr (6, [.int ln0, .int lv0, .int lk15, .int fd0, .ref 11, .ref 12, .ref 13, .ref 14, .ref 15, .ref 16])) → (ct19 12 = .inl (g.2 0, 8, .inl fN17)) → (Inv8 g idn pe ct19) → GW l g pM pM false yX6_least cX6_least 4 (some .int) RX6 ({ frames := 3, cells := 0, slots := 0, locals := 65 }) K 0 0 ct19 4 [(3, .int v3_4), (2, .int v2_4), (0, .ref 10), (1, .int i0)] [] := by
    intro n4
    induction n4 with
    | zero =>
      intro v3_4 v2_4 lk15 fN17 ct19 hn4 b3_4 j0_4 j1_4 j2_4 j3_4 hc11 hc15 hc16 hq16 hq18 hI
      exact absurd hn4 (Nat.not_lt_zero _)
    | succ n4 ih4 =>
      intro v3_4 v2_4 lk15 fN17 ct19 hn4 b3_4 j0_4 j1_4 j2_4 j3_4 hc11 hc15 hc16 hq16 hq18 hI
      obtain ⟨lns21, liv22, lak23, fnd24, h25, h26, h27, h28, hs20⟩ := a8_10 hI
      have hs29 := hq16
      cases (hq16.symm.trans hs20)
      obtain ⟨f31, hp32, hs30⟩ := a8_12 hI
      have hs33 := hq18
      cases (hq18.symm.trans hs30)
      refine dv_iload_n dX6_least_4 rfl 0 rfl ?_
      refine dv_iload_n dX6_least_5 rfl 3 rfl ?_
      refine dv_icmp_gt (tgt := 67) dX6_least_6 (by decide) (fun c34 => ?_) (fun c34 => ?_)
      · skip
        have c34 : i0.toInt < v3_4.toInt := (z_lt rfl rfl).mp c34
        refine dv_iload_n dX6_least_67 rfl 1 rfl ?_
        exact dv_iret dX6_least_68 rfl (by first | exact Nat.zero_le _ | decide) (by first | exact Nat.zero_le _ | decide) (by subst hK; exact ⟨v2_4, rfl, (by rw [show (min (i0.toInt + 1) ln0.toInt).toNat = v3_4.toInt.toNat by omega]; exact j3_4), hI, (by assumption), (by assumption), (by assumption)⟩)
      · skip
        have c34 : ¬ (i0.toInt < v3_4.toInt) := fun q => c34 ((z_lt rfl rfl).mpr q)
        refine dv_iload_n dX6_least_9 rfl 0 rfl ?_
        refine dv_aload_n dX6_least_10 rfl 2 rfl ?_
        refine dv_get (ci := 6) (v := .int ln0) (C := RX6) (T := TX6) (N := 10) ⟨by decide, rfl⟩ hs29 rfl inG6 0 (by decide) mm_115 rfl dX6_least_11 ?_
        refine dv_icmp_ge (tgt := 67) dX6_least_14 (by decide) (fun c35 => ?_) (fun c35 => ?_)
        · skip
          have c35 : ln0.toInt ≤ v3_4.toInt := (z_le rfl rfl).mp c35
          refine dv_iload_n dX6_least_67 rfl 1 rfl ?_
          exact dv_iret dX6_least_68 rfl (by first | exact Nat.zero_le _ | decide) (by first | exact Nat.zero_le _ | decide) (by subst hK; exact ⟨v2_4, rfl, (by rw [show (min (i0.toInt + 1) ln0.toInt).toNat = v3_4.toInt.toNat by omega]; exact j3_4), hI, (by assumption), (by assumption), (by assumption)⟩)
        · skip
          have c35 : ¬ (ln0.toInt ≤ v3_4.toInt) := fun q => c35 ((z_le rfl rfl).mpr q)
          refine dv_aload_n dX6_least_17 rfl 2 rfl ?_
          refine dv_get (ci := 6) (v := .int lv0) (C := RX6) (T := TX6) (N := 10) ⟨by decide, rfl⟩ hs29 rfl inG6 1 (by decide) mm_117 rfl dX6_least_18 ?_
          refine dv_iload_n dX6_least_21 rfl 0 rfl ?_
          refine dv_ishr dX6_least_22 ?_
          refine dv_topi (fun x36 ex36 => ?_)
          have tx36 := z_shr (x := lv0) rfl (by omega) v3_4
          rw [← ex36] at tx36
          refine dv_iconst (v := 1) dX6_least_23 (by decide) ?_
          refine dv_iand dX6_least_24 ?_
          refine dv_topi (fun x37 ex37 => ?_)
          have tx37 := z_andr (x := x36) (y := 1) (by decide : (1 : Int32).toInt = 1) (by omega)
          rw [← ex37] at tx37
          refine dv_iconst (v := 1) dX6_least_25 (by decide) ?_
          refine dv_icmp_ne (tgt := 61) dX6_least_26 (by decide) (fun c38 => ?_) (fun c38 => ?_)
          · skip
            have c38 : ¬ (x37.toInt = 1) := fun q => c38 ((z_eq rfl (by decide : (1 : Int32).toInt = 1)).mpr q)
            have hlive : ib lv0 (v3_4.toInt.toNat) = false := by
              rcases zb_ask (x := lv0) (y := v3_4) (p := v3_4.toInt.toNat) (by omega) (by omega) (by omega) (ex37.trans (by rw [ex36])) with ⟨q1, q2⟩ | ⟨q1, q2⟩
              · first | exact q2 | (exfalso; omega)
              · first | exact q2 | (exfalso; omega)
            obtain ⟨x39, ex39⟩ : ∃ y : Int32, y = v3_4 + 1 := ⟨_, rfl⟩
            have tx39 : x39.toInt = v3_4.toInt + 1 := by rw [ex39]; exact z_add rfl (by decide : (1 : Int32).toInt = 1) (by omega) (by omega)
            refine dv_iinc (v := x39) (lv' := [(3, .int x39), (2, .int v2_4), (0, .ref 10), (1, .int i0)]) dX6_least_61 (k := 0) rfl (by rw [ex39]; rfl) (by decide) rfl ?_
            refine dv_goto (tgt := 4) dX6_least_64 (by decide) ?_
            have hls : lsS ln0 lv0 fF (v3_4.toInt.toNat + 1) = lsS ln0 lv0 fF (v3_4.toInt.toNat) := if_neg (by rw [hlive]; decide)
            exact ih4 x39 v2_4 lk15 fN17 ct19 (by omega) (by omega) (by omega) (by omega) (by rw [show x39.toInt.toNat = v3_4.toInt.toNat + 1 by omega, hls]; exact j2_4) (by rw [show x39.toInt.toNat = v3_4.toInt.toNat + 1 by omega, hls]; exact j3_4) hc11 hc15 hc16 hs29 hs33 hI
          · skip
            have c38 : x37.toInt = 1 := (z_eq rfl (by decide : (1 : Int32).toInt = 1)).mp c38
            have hlive : ib lv0 (v3_4.toInt.toNat) = true := by
              rcases zb_ask (x := lv0) (y := v3_4) (p := v3_4.toInt.toNat) (by omega) (by omega) (by omega) (ex37.trans (by rw [ex36])) with ⟨q1, q2⟩ | ⟨q1, q2⟩
              · first | exact q2 | (exfalso; omega)
              · first | exact q2 | (exfalso; omega)
            refine dv_aload_n dX6_least_29 rfl 2 rfl ?_
            refine GW.callV (n := 0) (As := []) (rest := []) (b := 10) (f_weigh l g pe ct19 ln0 lv0 lk15 fd0 fN17 hI hs29 hs33) (fun _ h => h) rfl rfl ⟨by decide, rfl⟩ hs29 (q := (RX6, TX6, 10)) rfl mm_885 mm_491 mm_492 mm_55 mm_493 (by decide +kernel) ⟨Nat.le_of_ble_eq_true rfl, Nat.le_of_ble_eq_true rfl⟩ rfl (Nat.le_of_ble_eq_true rfl) dX6_least_30 (Nat.zero_le _) (Nat.zero_le _) rfl (fun ct40 rrr41 hBr41 hoff42 => ?_)
            obtain ⟨rfl, hI, hk43, hk44, hk45, hk46, hk47, hk48⟩ := hBr41
            refine GW.eq (S2 := []) rfl rfl rfl ?_
            obtain ⟨lk49, elk49⟩ : ∃ z : Int32, z = (wLak ln0 lv0 fN17) := ⟨_, rfl⟩
            rw [← elk49] at hk43
            obtain ⟨fM50, hq51, hm52⟩ := hk44
            obtain ⟨lns54, liv55, lak56, fnd57, h58, h59, h60, h61, hs53⟩ := a8_10 hI
            have hs62 := hk43
            cases (hk43.symm.trans hs53)
            obtain ⟨f64, hp65, hs63⟩ := a8_13 hI
            have hs66 := hq51
            cases (hq51.symm.trans hs63)
            have hc11 : ct40 11 = ct 11 := hk45.trans hc11
            have hc15 : ct40 15 = ct 15 := hk47.trans hc15
            have hc16 : ct40 16 = ct 16 := hk48.trans hc16
            have hs67 : ct40 12 = .inl (g.2 0, 8, .inl fN17) := hk46.trans hs33
            refine dv_aload_n dX6_least_33 rfl 2 rfl ?_
            refine dv_get (ci := 6) (v := .ref 13) (C := RX6) (T := TX6) (N := 10) ⟨by decide, rfl⟩ hs62 rfl inG6 6 (by decide) mm_127 rfl dX6_least_34 ?_
            refine dv_iload_n dX6_least_37 rfl 0 rfl ?_
            refine dv_iald 0 ⟨by decide, rfl⟩ hs66 rfl (z_in rfl (by omega) (by omega)) dX6_least_38 ?_
            refine dv_topi (fun y68 ey68 => ?_)
            have hy68 := hp65 _ (z_clt (x := v3_4) rfl (by omega) (by omega))
            rw [← ey68] at hy68
            have hy68 : 0 ≤ y68.toInt ∧ y68.toInt ≤ 65535 := hy68
            refine GW.callSN (n := 1) (As := [.int y68]) (rest := []) (f_lowest l g pe ct40 y68 (by first | omega | decide) hI) (fun _ h => Bool.noConfusion h) rfl rfl 12 rfl mm_716 mm_52 mm_717 (by decide +kernel) ⟨Nat.le_of_ble_eq_true rfl, Nat.le_of_ble_eq_true rfl⟩ rfl (Nat.le_of_ble_eq_true rfl) dX6_least_39 (Nat.zero_le _) (Nat.zero_le _) rfl (fun ct69 rrr70 hBr70 hoff71 => ?_)
            obtain ⟨r70, rfl, hr70, rfl⟩ := hBr70
            refine GW.eq (S2 := [.int r70]) rfl rfl rfl ?_
            have h72 := hr70
            have h72 : r70 = lowG y68 32 := h72
            have hlr : -1 ≤ r70.toInt ∧ r70.toInt ≤ 15 := by
              rw [show r70 = lowG y68 32 by assumption]
              exact lowG_rg (by omega) (by omega) 32 (by omega)
            have hlow : r70 = lowG (wMay ln0 lv0 (lsS ln0 lv0 fF v3_4.toInt.toNat).1 (v3_4.toInt.toNat)) 32 := by
              rw [← j2_4, ← hm52 _ (by omega), show v3_4.toInt.toNat = Int32.toNatClampNeg v3_4 by have := z_clI (x := v3_4) (by omega); omega, ← ey68]
              assumption
            refine dv_istore_n (lv' := [(2, .int r70), (3, .int v3_4), (0, .ref 10), (1, .int i0)]) dX6_least_42 rfl (by decide) rfl ?_
            refine dv_aload_n dX6_least_43 rfl 2 rfl ?_
            refine dv_get (ci := 6) (v := .ref 12) (C := RX6) (T := TX6) (N := 10) ⟨by decide, rfl⟩ hs62 rfl inG6 5 (by decide) mm_125 rfl dX6_least_44 ?_
            refine dv_iload_n dX6_least_47 rfl 1 rfl ?_
            refine dv_iload_n dX6_least_48 rfl 0 rfl ?_
            refine dv_iconst (v := (-1)) dX6_least_49 (by decide) ?_
            refine dv_icmp_ne (tgt := 57) dX6_least_50 (by decide) (fun c73 => ?_) (fun c73 => ?_)
            · skip
              have c73 : ¬ (r70.toInt = (-1)) := fun q => c73 ((z_eq rfl (by decide : ((-1) : Int32).toInt = (-1))).mpr q)
              refine dv_iconst (v := 1) dX6_least_57 (by decide) ?_
              refine dv_iload_n dX6_least_58 rfl 0 rfl ?_
              refine dv_ishl dX6_least_59 ?_
              refine dv_topi (fun x74 ex74 => ?_)
              have tx74 := z_shl1 (y := r70) rfl (by omega) (k := 15) (by decide) (by omega)
              rw [← ex74] at tx74
              refine dv_iast 0 ⟨by decide, rfl⟩ hs67 rfl (z_in rfl (by omega) (by omega)) dX6_least_60 (en := .inl (g.2 0, 8, .inl (upd fN17 (Int32.toNatClampNeg v3_4) x74))) rfl (fun ct75 ec76 => ?_)
              have hp77 : ∀ j : Nat, j < 8 → (fun x : Int32 => 0 ≤ x.toInt ∧ x.toInt ≤ 65535) ((upd fN17 (Int32.toNatClampNeg v3_4) x74) j) := fun j hj => by
                unfold upd
                by_cases q : j = Int32.toNatClampNeg v3_4
                · rw [if_pos q]; exact (show 0 ≤ (x74 : Int32).toInt ∧ (x74 : Int32).toInt ≤ 65535 from (by first | omega | decide))
                · rw [if_neg q]; exact hp32 j hj
              have hI : Inv8 g idn pe ct75 := by rw [ec76]; exact up8 hI (i8_12 ⟨_, hp77, rfl⟩)
              have hc11 : ct75 11 = ct 11 := by rw [ec76]; exact (va_up_ne _ _ (by omega)).trans hc11
              have hc15 : ct75 15 = ct 15 := by rw [ec76]; exact (va_up_ne _ _ (by omega)).trans hc15
              have hc16 : ct75 16 = ct 16 := by rw [ec76]; exact (va_up_ne _ _ (by omega)).trans hc16
              have hs78 : ct75 10 = .inr (6, [.int ln0, .int lv0, .int lk49, .int fd0, .ref 11, .ref 12, .ref 13, .ref 14, .ref 15, .ref 16]) := by rw [ec76, va_up_ne _ _ (by omega)]; exact hs62
              have hs79 : ct75 13 = .inl (g.2 0, 8, .inl fM50) := by rw [ec76, va_up_ne _ _ (by omega)]; exact hs66
              have hs80 : ct75 12 = .inl (g.2 0, 8, .inl (upd fN17 (Int32.toNatClampNeg v3_4) x74)) := by rw [ec76]; exact va_up_self _ _ _
              obtain ⟨x81, ex81⟩ : ∃ y : Int32, y = v3_4 + 1 := ⟨_, rfl⟩
              have tx81 : x81.toInt = v3_4.toInt + 1 := by rw [ex81]; exact z_add rfl (by decide : (1 : Int32).toInt = 1) (by omega) (by omega)
              refine dv_iinc (v := x81) (lv' := [(3, .int x81), (2, .int r70), (0, .ref 10), (1, .int i0)]) dX6_least_61 (k := 1) rfl (by rw [ex81]; rfl) (by decide) rfl ?_
              refine dv_goto (tgt := 4) dX6_least_64 (by decide) ?_
              have hls : lsS ln0 lv0 fF (v3_4.toInt.toNat + 1) = (upd (lsS ln0 lv0 fF v3_4.toInt.toNat).1 (v3_4.toInt.toNat) (x74), r70) := by
                show (if ib lv0 (v3_4.toInt.toNat) = true then _ else _) = _
                rw [if_pos hlive, ← hlow]
                first | rw [if_pos (by omega)] | rw [if_neg (by omega), ← ex74]
              exact ih4 x81 r70 lk49 (upd fN17 (Int32.toNatClampNeg v3_4) x74) ct75 (by omega) (by omega) (by omega) (by omega) (by rw [show x81.toInt.toNat = v3_4.toInt.toNat + 1 by omega, hls, ← j2_4, show v3_4.toInt.toNat = Int32.toNatClampNeg v3_4 by have := z_clI (x := v3_4) (by omega); omega]) (by rw [show x81.toInt.toNat = v3_4.toInt.toNat + 1 by omega, hls]) hc11 hc15 hc16 hs78 hs80 hI
            · skip
              have c73 : r70.toInt = (-1) := (z_eq rfl (by decide : ((-1) : Int32).toInt = (-1))).mp c73
              refine dv_iconst (v := 0) dX6_least_53 (by decide) ?_
              refine dv_goto (tgt := 60) dX6_least_54 (by decide) ?_
              refine dv_iast 0 ⟨by decide, rfl⟩ hs67 rfl (z_in rfl (by omega) (by omega)) dX6_least_60 (en := .inl (g.2 0, 8, .inl (upd fN17 (Int32.toNatClampNeg v3_4) 0))) rfl (fun ct82 ec83 => ?_)
              have hp84 : ∀ j : Nat, j < 8 → (fun x : Int32 => 0 ≤ x.toInt ∧ x.toInt ≤ 65535) ((upd fN17 (Int32.toNatClampNeg v3_4) 0) j) := fun j hj => by
                unfold upd
                by_cases q : j = Int32.toNatClampNeg v3_4
                · rw [if_pos q]; exact (show 0 ≤ (0 : Int32).toInt ∧ (0 : Int32).toInt ≤ 65535 from (by first | omega | decide))
                · rw [if_neg q]; exact hp32 j hj
              have hI : Inv8 g idn pe ct82 := by rw [ec83]; exact up8 hI (i8_12 ⟨_, hp84, rfl⟩)
              have hc11 : ct82 11 = ct 11 := by rw [ec83]; exact (va_up_ne _ _ (by omega)).trans hc11
              have hc15 : ct82 15 = ct 15 := by rw [ec83]; exact (va_up_ne _ _ (by omega)).trans hc15
              have hc16 : ct82 16 = ct 16 := by rw [ec83]; exact (va_up_ne _ _ (by omega)).trans hc16
              have hs85 : ct82 10 = .inr (6, [.int ln0, .int lv0, .int lk49, .int fd0, .ref 11, .ref 12, .ref 13, .ref 14, .ref 15, .ref 16]) := by rw [ec83, va_up_ne _ _ (by omega)]; exact hs62
              have hs86 : ct82 13 = .inl (g.2 0, 8, .inl fM50) := by rw [ec83, va_up_ne _ _ (by omega)]; exact hs66
              have hs87 : ct82 12 = .inl (g.2 0, 8, .inl (upd fN17 (Int32.toNatClampNeg v3_4) 0)) := by rw [ec83]; exact va_up_self _ _ _
              obtain ⟨x88, ex88⟩ : ∃ y : Int32, y = v3_4 + 1 := ⟨_, rfl⟩
              have tx88 : x88.toInt = v3_4.toInt + 1 := by rw [ex88]; exact z_add rfl (by decide : (1 : Int32).toInt = 1) (by omega) (by omega)
              refine dv_iinc (v := x88) (lv' := [(3, .int x88), (2, .int r70), (0, .ref 10), (1, .int i0)]) dX6_least_61 (k := 1) rfl (by rw [ex88]; rfl) (by decide) rfl ?_
              refine dv_goto (tgt := 4) dX6_least_64 (by decide) ?_
              have hls : lsS ln0 lv0 fF (v3_4.toInt.toNat + 1) = (upd (lsS ln0 lv0 fF v3_4.toInt.toNat).1 (v3_4.toInt.toNat) ((0 : Int32)), r70) := by
                show (if ib lv0 (v3_4.toInt.toNat) = true then _ else _) = _
                rw [if_pos hlive, ← hlow]
                first | rw [if_pos (by omega)] | rw [if_neg (by omega), ← e0]
              exact ih4 x88 r70 lk49 (upd fN17 (Int32.toNatClampNeg v3_4) 0) ct82 (by omega) (by omega) (by omega) (by omega) (by rw [show x88.toInt.toNat = v3_4.toInt.toNat + 1 by omega, hls, ← j2_4, show v3_4.toInt.toNat = Int32.toNatClampNeg v3_4 by have := z_clI (x := v3_4) (by omega); omega]) (by rw [show x88.toInt.toNat = v3_4.toInt.toNat + 1 by omega, hls]) hc11 hc15 hc16 hs85 hs87 hI
  exact loop4 ((8 - (0 : Int32).toInt : Int).toNat + 1) (0 : Int32) (-1 : Int32) lk0 fF ct (by omega) (by first | omega | decide | (have hz0 : (0 : Int32).toInt = 0 := (by decide); have hz1 : (1 : Int32).toInt = 1 := (by decide); omega)) (by first | omega | decide | (have hz0 : (0 : Int32).toInt = 0 := (by decide); have hz1 : (1 : Int32).toInt = 1 := (by decide); omega)) (by first | omega | decide | (have hz0 : (0 : Int32).toInt = 0 := (by decide); have hz1 : (1 : Int32).toInt = 1 := (by decide); omega)) rfl rfl hc11 hc15 hc16 hs10 hs14 hI
