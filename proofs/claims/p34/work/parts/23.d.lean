set_option maxHeartbeats 4000000 in
set_option maxRecDepth 100000 in
theorem k_X7_byteAt (l : Launch) (g : zG) (pe : Int32) (ct : Nat → va_E) (at0 : Int32) (hI : Inv8 g idn pe ct) : DM l g pT false yX7_byteAt cX7_byteAt 2 (some .int) ({ frames := 1, cells := 0, slots := 0, locals := 22 }) (fun (ct2 : Nat → va_E) (rr : Option Value) => ∃ (r : Int32), rr = some (.int r) ∧ ((True)) ∧ ct = ct2) ct [.ref 3, .int at0] := by
  refine DM.K (fun K hK => ?_)
  refine GW.met (own := RX7) (loc := [(0, .ref 3), (1, .int at0)]) (by decide) rfl rfl (Nat.le_of_ble_eq_true rfl) ?_
  have hpe0 := hI.1
  have rg_at0 := z_rng at0
  refine dv_iload_n dX7_byteAt_0 rfl 1 rfl ?_
  refine dv_iconst (v := 0) dX7_byteAt_1 (by decide) ?_
  refine dv_aload_n dX7_byteAt_2 rfl 0 rfl ?_
  obtain ⟨len2, h3, h4, hs1⟩ := a8_3 hI
  refine dv_get (ci := 7) (v := .int len2) (C := RX7) (T := TX7) (N := 2) ⟨by decide, rfl⟩ hs1 rfl inG7 0 (by decide) mm_79 rfl dX7_byteAt_3 ?_
  refine dv_iconst (v := 1) dX7_byteAt_6 (by decide) ?_
  refine dv_isub dX7_byteAt_7 ?_
  refine dv_topi (fun x5 ex5 => ?_)
  have tx5 : x5.toInt = len2.toInt - 1 := by rw [ex5]; exact z_sub rfl (by decide : (1 : Int32).toInt = 1) (by omega) (by omega)
  refine GW.callSN (n := 3) (As := [.int at0, .int 0, .int x5]) (rest := []) (k_X8_within l g pe ct at0 (0 : Int32) x5 hI) (fun _ h => Bool.noConfusion h) rfl rfl 9 rfl mm_356 mm_52 mm_357 (by decide +kernel) ⟨Nat.le_of_ble_eq_true rfl, Nat.le_of_ble_eq_true rfl⟩ rfl (Nat.le_of_ble_eq_true rfl) dX7_byteAt_8 (Nat.zero_le _) (Nat.zero_le _) rfl (fun ct6 rrr7 hBr7 hoff8 => ?_)
  obtain ⟨r7, rfl, hr7, rfl⟩ := hBr7
  refine GW.eq (S2 := [.int r7]) rfl rfl rfl ?_
  rcases hr7 with hr7 | hr7
  · skip
    obtain ⟨rfl, h9, h10⟩ := hr7
    have h9 : (0 : Int) ≤ at0.toInt := h9
    have h10 : at0.toInt ≤ x5.toInt := h10
    refine dv_if_eq (tgt := 23) dX7_byteAt_11 (by decide) (fun c11 => ?_) (fun c11 => ?_)
    · skip
      exact absurd c11 (by decide)
    · skip
      refine dv_aload_n dX7_byteAt_14 rfl 0 rfl ?_
      refine dv_get (ci := 7) (v := .ref 4) (C := RX7) (T := TX7) (N := 2) ⟨by decide, rfl⟩ hs1 rfl inG7 1 (by decide) mm_81 rfl dX7_byteAt_15 ?_
      refine dv_iload_n dX7_byteAt_18 rfl 1 rfl ?_
      obtain ⟨f13, hs12⟩ := a8_4 hI
      refine dv_iald 0 ⟨by decide, rfl⟩ hs12 rfl (z_in rfl (by omega) (by omega)) dX7_byteAt_19 ?_
      refine dv_topi (fun y14 ey14 => ?_)
      refine dv_goto (tgt := 24) dX7_byteAt_20 (by decide) ?_
      exact dv_iret dX7_byteAt_24 rfl (by first | exact Nat.zero_le _ | decide) (by first | exact Nat.zero_le _ | decide) (by subst hK; exact ⟨y14, rfl, (trivial), rfl⟩)
  · skip
    obtain ⟨rfl, h15⟩ := hr7
    have h15 : ¬ ((0 : Int) ≤ at0.toInt ∧ at0.toInt ≤ x5.toInt) := h15
    refine dv_if_eq (tgt := 23) dX7_byteAt_11 (by decide) (fun c16 => ?_) (fun c16 => ?_)
    · skip
      refine dv_iconst (v := 0) dX7_byteAt_23 (by decide) ?_
      have q17 : (0 : Int32).toInt = 0 := by decide
      exact dv_iret dX7_byteAt_24 rfl (by first | exact Nat.zero_le _ | decide) (by first | exact Nat.zero_le _ | decide) (by subst hK; exact ⟨0, rfl, (trivial), rfl⟩)
    · skip
      exact absurd c16 (by decide)

set_option maxHeartbeats 4000000 in
set_option maxRecDepth 100000 in
theorem k_X7_clear (l : Launch) (g : zG) (pe : Int32) (ct : Nat → va_E) (hI : Inv8 g idn pe ct) : DM l g pT false yX7_clear cX7_clear 1 none ({ frames := 0, cells := 0, slots := 0, locals := 0 }) (fun (ct2 : Nat → va_E) (rr : Option Value) => rr = none ∧ Inv8 g idn pe ct2 ∧ (ct2 0 = ct 0)) ct [.ref 3] := by
  refine DM.K (fun K hK => ?_)
  refine GW.met (own := RX7) (loc := [(0, .ref 3)]) (by decide) rfl rfl (Nat.le_of_ble_eq_true rfl) ?_
  have hpe0 := hI.1
  have hk0 : ct 0 = ct 0 := rfl
  obtain ⟨bk3, dr2, h4, h5, h6, hs1⟩ := a8_0 hI
  refine dv_aload_n dX7_clear_0 rfl 0 rfl ?_
  refine dv_iconst (v := 0) dX7_clear_1 (by decide) ?_
  obtain ⟨len8, h9, h10, hs7⟩ := a8_3 hI
  refine dv_put (ci := 7) (v := .int 0) (ty := .int) (C := RX7) (T := TX7) (N := 2) ⟨by decide, rfl⟩ hs7 rfl inG7 tyX7 tyX7_ok nmX7 0 (by decide) mm_79 rfl (by decide +kernel) (fun _ => rfl) (fun _ => rfl) (Nat.le_of_ble_eq_true rfl) dX7_clear_2 (en := .inr (7, [.int 0, .ref 4])) rfl (fun ct11 ec12 => ?_)
  have hI : Inv8 g idn pe ct11 := by rw [ec12]; exact up8 hI (i8_3 ⟨(0 : Int32), (by first | omega | decide), (by first | omega | decide), rfl⟩)
  have hk0 : ct11 0 = ct 0 := by rw [ec12]; exact (va_up_ne _ _ (by omega)).trans hk0
  have hs13 : ct11 0 = .inr (8, [.ref 1, .ref 2, .ref 3, .ref 5, .ref 6, .ref 9, .ref 10, .ref 17, .ref 21, .ref 34, .ref (99 + 3 * dr2), .int pe, .int bk3]) := by rw [ec12, va_up_ne _ _ (by omega)]; exact hs1
  have hs14 : ct11 3 = .inr (7, [.int 0, .ref 4]) := by rw [ec12]; exact va_up_self _ _ _
  exact dv_vret dX7_clear_5 rfl (by first | exact Nat.zero_le _ | decide) (by first | exact Nat.zero_le _ | decide) (by subst hK; exact ⟨rfl, hI, (by assumption)⟩)

set_option maxHeartbeats 4000000 in
set_option maxRecDepth 100000 in
theorem k_X7_append (l : Launch) (g : zG) (pe : Int32) (ct : Nat → va_E) (n : Int32) (hI : Inv8 g idn pe ct) : DM l g pT false yX7_append cX7_append 3 none ({ frames := 0, cells := 0, slots := 0, locals := 0 }) (fun (ct2 : Nat → va_E) (rr : Option Value) => rr = none ∧ Inv8 g idn pe ct2) ct [.ref 3, .int n] := by
  refine DM.K (fun K hK => ?_)
  refine GW.met (own := RX7) (loc := [(0, .ref 3), (1, .int n)]) (by decide) rfl rfl (Nat.le_of_ble_eq_true rfl) ?_
  have hpe0 := hI.1
  have rg_n := z_rng n
  refine dv_bipush (v := 24) dX7_append_0 (by decide) ?_
  refine dv_istore_n (lv' := [(2, .int 24), (0, .ref 3), (1, .int n)]) dX7_append_2 rfl (by decide) rfl ?_
  have loop3 : ∀ (n3 : Nat) (v2_3 : Int32) (ct1 : Nat → va_E), ((v2_3.toInt + 8 : Int).toNat < n3) → (-8 ≤ v2_3.toInt ∧ v2_3.toInt ≤ 24) → (Inv8 g idn pe ct1) → GW l g pT pT false yX7_append cX7_append 3 none RX7 ({ frames := 0, cells := 0, slots := 0, locals := 0 }) K 0 0 ct1 3 [(2, .int v2_3), (0, .ref 3), (1, .int n)] [] := by
    intro n3
    induction n3 with
    | zero =>
      intro v2_3 ct1 hn3 b2_3 hI
      exact absurd hn3 (Nat.not_lt_zero _)
    | succ n3 ih3 =>
      intro v2_3 ct1 hn3 b2_3 hI
      refine dv_iload_n dX7_append_3 rfl 0 rfl ?_
      refine dv_if_lt (tgt := 49) dX7_append_4 (by decide) (fun c2 => ?_) (fun c2 => ?_)
      · skip
        have c2 : v2_3.toInt < 0 := (z_lt rfl (by decide : (0 : Int32).toInt = 0)).mp c2
        exact dv_vret dX7_append_49 rfl (by first | exact Nat.zero_le _ | decide) (by first | exact Nat.zero_le _ | decide) (by subst hK; exact ⟨rfl, hI⟩)
      · skip
        have c2 : ¬ (v2_3.toInt < 0) := fun q => c2 ((z_lt rfl (by decide : (0 : Int32).toInt = 0)).mpr q)
        refine dv_aload_n dX7_append_7 rfl 1 rfl ?_
        obtain ⟨len4, h5, h6, hs3⟩ := a8_3 hI
        refine dv_get (ci := 7) (v := .int len4) (C := RX7) (T := TX7) (N := 2) ⟨by decide, rfl⟩ hs3 rfl inG7 0 (by decide) mm_79 rfl dX7_append_8 ?_
        refine dv_sipush (v := 200) dX7_append_11 (by decide) ?_
        refine dv_icmp_ge (tgt := 49) dX7_append_14 (by decide) (fun c7 => ?_) (fun c7 => ?_)
        · skip
          have c7 : 200 ≤ len4.toInt := (z_le (by decide : (200 : Int32).toInt = 200) rfl).mp c7
          exact dv_vret dX7_append_49 rfl (by first | exact Nat.zero_le _ | decide) (by first | exact Nat.zero_le _ | decide) (by subst hK; exact ⟨rfl, hI⟩)
        · skip
          have c7 : ¬ (200 ≤ len4.toInt) := fun q => c7 ((z_le (by decide : (200 : Int32).toInt = 200) rfl).mpr q)
          refine dv_aload_n dX7_append_17 rfl 1 rfl ?_
          refine dv_get (ci := 7) (v := .ref 4) (C := RX7) (T := TX7) (N := 2) ⟨by decide, rfl⟩ hs3 rfl inG7 1 (by decide) mm_81 rfl dX7_append_18 ?_
          refine dv_aload_n dX7_append_21 rfl 1 rfl ?_
          refine dv_get (ci := 7) (v := .int len4) (C := RX7) (T := TX7) (N := 2) ⟨by decide, rfl⟩ hs3 rfl inG7 0 (by decide) mm_79 rfl dX7_append_22 ?_
          refine dv_iload_n dX7_append_25 rfl 2 rfl ?_
          refine dv_iload_n dX7_append_26 rfl 0 rfl ?_
          refine dv_iushr dX7_append_27 rfl ?_
          refine dv_topi (fun x8 ex8 => ?_)
          refine dv_sipush (v := 255) dX7_append_28 (by decide) ?_
          refine dv_iand dX7_append_31 ?_
          refine dv_topi (fun x9 ex9 => ?_)
          have tx9 := z_andr (x := x8) (y := 255) (by decide : (255 : Int32).toInt = 255) (by omega)
          rw [← ex9] at tx9
          obtain ⟨f11, hs10⟩ := a8_4 hI
          refine dv_iast 0 ⟨by decide, rfl⟩ hs10 rfl (z_in rfl (by omega) (by omega)) dX7_append_32 (en := .inl (g.2 0, 200, .inl (upd f11 (Int32.toNatClampNeg len4) x9))) rfl (fun ct12 ec13 => ?_)
          have hI : Inv8 g idn pe ct12 := by rw [ec13]; exact up8 hI (i8_4 ⟨_, rfl⟩)
          have hs14 : ct12 3 = .inr (7, [.int len4, .ref 4]) := by rw [ec13, va_up_ne _ _ (by omega)]; exact hs3
          have hs15 : ct12 4 = .inl (g.2 0, 200, .inl (upd f11 (Int32.toNatClampNeg len4) x9)) := by rw [ec13]; exact va_up_self _ _ _
          refine dv_aload_n dX7_append_33 rfl 1 rfl ?_
          refine dv_dup dX7_append_34 rfl ?_
          refine dv_get (ci := 7) (v := .int len4) (C := RX7) (T := TX7) (N := 2) ⟨by decide, rfl⟩ hs14 rfl inG7 0 (by decide) mm_79 rfl dX7_append_35 ?_
          refine dv_iconst (v := 1) dX7_append_38 (by decide) ?_
          refine dv_iadd dX7_append_39 ?_
          refine dv_topi (fun x16 ex16 => ?_)
          have tx16 : x16.toInt = len4.toInt + 1 := by rw [ex16]; exact z_add rfl (by decide : (1 : Int32).toInt = 1) (by omega) (by omega)
          refine dv_put (ci := 7) (v := .int x16) (ty := .int) (C := RX7) (T := TX7) (N := 2) ⟨by decide, rfl⟩ hs14 rfl inG7 tyX7 tyX7_ok nmX7 0 (by decide) mm_79 rfl (by decide +kernel) (fun _ => rfl) (fun _ => rfl) (Nat.le_of_ble_eq_true rfl) dX7_append_40 (en := .inr (7, [.int x16, .ref 4])) rfl (fun ct17 ec18 => ?_)
          have hI : Inv8 g idn pe ct17 := by rw [ec18]; exact up8 hI (i8_3 ⟨(x16 : Int32), (by first | omega | decide), (by first | omega | decide), rfl⟩)
          have hs19 : ct17 4 = .inl (g.2 0, 200, .inl (upd f11 (Int32.toNatClampNeg len4) x9)) := by rw [ec18, va_up_ne _ _ (by omega)]; exact hs15
          have hs20 : ct17 3 = .inr (7, [.int x16, .ref 4]) := by rw [ec18]; exact va_up_self _ _ _
          obtain ⟨x21, ex21⟩ : ∃ y : Int32, y = v2_3 + (-8) := ⟨_, rfl⟩
          have tx21 : x21.toInt = v2_3.toInt + (-8) := by rw [ex21]; exact z_add rfl (by decide : ((-8) : Int32).toInt = (-8)) (by omega) (by omega)
          refine dv_iinc (v := x21) (lv' := [(2, .int x21), (0, .ref 3), (1, .int n)]) dX7_append_43 (k := 0) rfl (by rw [ex21]; rfl) (by decide) rfl ?_
          refine dv_goto (tgt := 3) dX7_append_46 (by decide) ?_
          exact ih3 x21 ct17 (by omega) (by first | omega | decide | assumption) hI
  exact loop3 (((24 : Int32).toInt + 8 : Int).toNat + 1) (24 : Int32) ct (by omega) (by first | omega | decide | assumption) hI

set_option maxHeartbeats 4000000 in
set_option maxRecDepth 100000 in
theorem k_X2_add (l : Launch) (g : zG) (pe : Int32) (ct : Nat → va_E) (kb : Nat) (ow : Int32) (hf_kb : 55 ≤ kb ∧ kb < 99 ∧ (kb - 55) % 11 = 0) (hI : Inv8 g idn pe ct) : DM l g pB false yX2_add cX2_add 2 none ({ frames := 0, cells := 0, slots := 0, locals := 0 }) (fun (ct2 : Nat → va_E) (rr : Option Value) => rr = none ∧ Inv8 g idn pe ct2 ∧ (ct2 0 = ct 0)) ct [.ref kb, .int ow] := by
  refine DM.K (fun K hK => ?_)
  refine GW.met (own := RX2) (loc := [(0, .ref kb), (1, .int ow)]) (by decide) rfl rfl (Nat.le_of_ble_eq_true rfl) ?_
  have hpe0 := hI.1
  have hk0 : ct 0 = ct 0 := rfl
  obtain ⟨bk3, dr2, h4, h5, h6, hs1⟩ := a8_0 hI
  have rg_ow := z_rng ow
  refine dv_aload_n dX2_add_0 rfl 0 rfl ?_
  obtain ⟨lns8, liv9, shw10, h11, h12, h13, h14, hz15, h16, hs7⟩ := a8_40 (kc := kb) (by omega) hI
  have bhz15 := z_b01 hz15
  refine dv_get (ci := 2) (v := .int lns8) (C := RX2) (T := TX2) (N := 5) ⟨by omega, pB_of (by omega)⟩ hs7 rfl inG2 0 (by decide) mm_284 rfl dX2_add_1 ?_
  refine dv_bipush (v := 8) dX2_add_4 (by decide) ?_
  refine dv_icmp_ge (tgt := 44) dX2_add_6 (by decide) (fun c17 => ?_) (fun c17 => ?_)
  · skip
    have c17 : 8 ≤ lns8.toInt := (z_le (by decide : (8 : Int32).toInt = 8) rfl).mp c17
    exact dv_vret dX2_add_44 rfl (by first | exact Nat.zero_le _ | decide) (by first | exact Nat.zero_le _ | decide) (by subst hK; exact ⟨rfl, hI, (by assumption)⟩)
  · skip
    have c17 : ¬ (8 ≤ lns8.toInt) := fun q => c17 ((z_le (by decide : (8 : Int32).toInt = 8) rfl).mpr q)
    refine dv_aload_n dX2_add_9 rfl 0 rfl ?_
    refine dv_get (ci := 2) (v := .ref (kb + 1)) (C := RX2) (T := TX2) (N := 5) ⟨by omega, pB_of (by omega)⟩ hs7 rfl inG2 3 (by decide) mm_290 rfl dX2_add_10 ?_
    refine dv_aload_n dX2_add_13 rfl 0 rfl ?_
    refine dv_get (ci := 2) (v := .int lns8) (C := RX2) (T := TX2) (N := 5) ⟨by omega, pB_of (by omega)⟩ hs7 rfl inG2 0 (by decide) mm_284 rfl dX2_add_14 ?_
    refine dv_iload_n dX2_add_17 rfl 1 rfl ?_
    obtain ⟨f19, hs18⟩ := a8_41 (kc := kb) (by omega) hI
    refine dv_iast 0 ⟨by omega, pB_of (by omega)⟩ hs18 rfl (z_in rfl (by omega) (by omega)) dX2_add_18 (en := .inl (g.2 0, 8, .inl (upd f19 (Int32.toNatClampNeg lns8) ow))) rfl (fun ct20 ec21 => ?_)
    have hI : Inv8 g idn pe ct20 := by rw [ec21]; exact up8 hI (i8_41 (kc := kb) (by omega) ⟨_, rfl⟩)
    have hk0 : ct20 0 = ct 0 := by rw [ec21]; exact (va_up_ne _ _ (by omega)).trans hk0
    have hs22 : ct20 0 = .inr (8, [.ref 1, .ref 2, .ref 3, .ref 5, .ref 6, .ref 9, .ref 10, .ref 17, .ref 21, .ref 34, .ref (99 + 3 * dr2), .int pe, .int bk3]) := by rw [ec21, va_up_ne _ _ (by omega)]; exact hs1
    have hs23 : ct20 kb = .inr (2, [.int lns8, .int liv9, .int shw10, .ref (kb + 1), .ref (kb + 2)]) := by rw [ec21, va_up_ne _ _ (by omega)]; exact hs7
    have hs24 : ct20 (kb + 1) = .inl (g.2 0, 8, .inl (upd f19 (Int32.toNatClampNeg lns8) ow)) := by rw [ec21]; exact va_up_self _ _ _
    refine dv_aload_n dX2_add_19 rfl 0 rfl ?_
    refine dv_dup dX2_add_20 rfl ?_
    refine dv_get (ci := 2) (v := .int liv9) (C := RX2) (T := TX2) (N := 5) ⟨by omega, pB_of (by omega)⟩ hs23 rfl inG2 1 (by decide) mm_286 rfl dX2_add_21 ?_
    refine dv_iconst (v := 1) dX2_add_24 (by decide) ?_
    refine dv_aload_n dX2_add_25 rfl 0 rfl ?_
    refine dv_get (ci := 2) (v := .int lns8) (C := RX2) (T := TX2) (N := 5) ⟨by omega, pB_of (by omega)⟩ hs23 rfl inG2 0 (by decide) mm_284 rfl dX2_add_26 ?_
    refine dv_ishl dX2_add_29 ?_
    refine dv_topi (fun x25 ex25 => ?_)
    have tx25 := z_shl1 (y := lns8) rfl (by omega) (k := 7) (by decide) (by omega)
    rw [← ex25] at tx25
    refine dv_ior dX2_add_30 ?_
    refine dv_topi (fun x26 ex26 => ?_)
    have tx26 := z_or (x := liv9) (y := x25) rfl rfl (k := 8) (N := 256) (by decide) (by decide) (by omega) (by omega) (by omega) (by omega)
    rw [← ex26] at tx26
    refine dv_put (ci := 2) (v := .int x26) (ty := .int) (C := RX2) (T := TX2) (N := 5) ⟨by omega, pB_of (by omega)⟩ hs23 rfl inG2 tyX2 tyX2_ok nmX2 1 (by decide) mm_286 rfl (by decide +kernel) (fun _ => rfl) (fun _ => rfl) (Nat.le_of_ble_eq_true rfl) dX2_add_31 (en := .inr (2, [.int lns8, .int x26, .int shw10, .ref (kb + 1), .ref (kb + 2)])) rfl (fun ct27 ec28 => ?_)
    have hk0 : ct27 0 = ct 0 := by rw [ec28]; exact (va_up_ne _ _ (by omega)).trans hk0
    have hs29 : ct27 0 = .inr (8, [.ref 1, .ref 2, .ref 3, .ref 5, .ref 6, .ref 9, .ref 10, .ref 17, .ref 21, .ref 34, .ref (99 + 3 * dr2), .int pe, .int bk3]) := by rw [ec28, va_up_ne _ _ (by omega)]; exact hs22
    have hs30 : ct27 (kb + 1) = .inl (g.2 0, 8, .inl (upd f19 (Int32.toNatClampNeg lns8) ow)) := by rw [ec28, va_up_ne _ _ (by omega)]; exact hs24
    have hs31 : ct27 kb = .inr (2, [.int lns8, .int x26, .int shw10, .ref (kb + 1), .ref (kb + 2)]) := by rw [ec28]; exact va_up_self _ _ _
    refine dv_aload_n dX2_add_34 rfl 0 rfl ?_
    refine dv_dup dX2_add_35 rfl ?_
    refine dv_get (ci := 2) (v := .int lns8) (C := RX2) (T := TX2) (N := 5) ⟨by omega, pB_of (by omega)⟩ hs31 rfl inG2 0 (by decide) mm_284 rfl dX2_add_36 ?_
    refine dv_iconst (v := 1) dX2_add_39 (by decide) ?_
    refine dv_iadd dX2_add_40 ?_
    refine dv_topi (fun x32 ex32 => ?_)
    have tx32 : x32.toInt = lns8.toInt + 1 := by rw [ex32]; exact z_add rfl (by decide : (1 : Int32).toInt = 1) (by omega) (by omega)
    have hbx := z_addl (l := lns8) (v := liv9) (x := x32) (by omega) (by omega) (by omega) (by assumption) ex25 ex26 (by omega)
    refine dv_put (ci := 2) (v := .int x32) (ty := .int) (C := RX2) (T := TX2) (N := 5) ⟨by omega, pB_of (by omega)⟩ hs31 rfl inG2 tyX2 tyX2_ok nmX2 0 (by decide) mm_284 rfl (by decide +kernel) (fun _ => rfl) (fun _ => rfl) (Nat.le_of_ble_eq_true rfl) dX2_add_41 (en := .inr (2, [.int x32, .int x26, .int shw10, .ref (kb + 1), .ref (kb + 2)])) rfl (fun ct33 ec34 => ?_)
    have ec34p : ct33 = va_up ct20 kb (.inr (2, [.int x32, .int x26, .int shw10, .ref (kb + 1), .ref (kb + 2)])) := by rw [ec34, ec28, va_up_up]
    have hI : Inv8 g idn pe ct33 := by rw [ec34p]; exact up8 hI (i8_40 (kc := kb) (by omega) ⟨(x32 : Int32), (x26 : Int32), (shw10 : Int32), (by first | omega | decide), (by first | omega | decide), (by first | omega | decide), (by first | omega | decide), hz15, (by first | assumption | omega), rfl⟩)
    have hk0 : ct33 0 = ct 0 := by rw [ec34]; exact (va_up_ne _ _ (by omega)).trans hk0
    have hs35 : ct33 0 = .inr (8, [.ref 1, .ref 2, .ref 3, .ref 5, .ref 6, .ref 9, .ref 10, .ref 17, .ref 21, .ref 34, .ref (99 + 3 * dr2), .int pe, .int bk3]) := by rw [ec34, va_up_ne _ _ (by omega)]; exact hs29
    have hs36 : ct33 (kb + 1) = .inl (g.2 0, 8, .inl (upd f19 (Int32.toNatClampNeg lns8) ow)) := by rw [ec34, va_up_ne _ _ (by omega)]; exact hs30
    have hs37 : ct33 kb = .inr (2, [.int x32, .int x26, .int shw10, .ref (kb + 1), .ref (kb + 2)]) := by rw [ec34]; exact va_up_self _ _ _
    exact dv_vret dX2_add_44 rfl (by first | exact Nat.zero_le _ | decide) (by first | exact Nat.zero_le _ | decide) (by subst hK; exact ⟨rfl, hI, (by assumption)⟩)

set_option maxHeartbeats 4000000 in
set_option maxRecDepth 100000 in
theorem k_X2_owner (l : Launch) (g : zG) (pe : Int32) (ct : Nat → va_E) (kb : Nat) (i : Int32) (hf_kb : 55 ≤ kb ∧ kb < 99 ∧ (kb - 55) % 11 = 0) (hI : Inv8 g idn pe ct) : DM l g pB false yX2_owner cX2_owner 2 (some .int) ({ frames := 1, cells := 0, slots := 0, locals := 22 }) (fun (ct2 : Nat → va_E) (rr : Option Value) => ∃ (r : Int32), rr = some (.int r) ∧ ((True)) ∧ ct = ct2) ct [.ref kb, .int i] := by
  refine DM.K (fun K hK => ?_)
  refine GW.met (own := RX2) (loc := [(0, .ref kb), (1, .int i)]) (by decide) rfl rfl (Nat.le_of_ble_eq_true rfl) ?_
  have hpe0 := hI.1
  have rg_i := z_rng i
  refine dv_iload_n dX2_owner_0 rfl 1 rfl ?_
  refine dv_iconst (v := 0) dX2_owner_1 (by decide) ?_
  refine dv_aload_n dX2_owner_2 rfl 0 rfl ?_
  obtain ⟨lns2, liv3, shw4, h5, h6, h7, h8, hz9, h10, hs1⟩ := a8_40 (kc := kb) (by omega) hI
  have bhz9 := z_b01 hz9
  refine dv_get (ci := 2) (v := .int lns2) (C := RX2) (T := TX2) (N := 5) ⟨by omega, pB_of (by omega)⟩ hs1 rfl inG2 0 (by decide) mm_284 rfl dX2_owner_3 ?_
  refine dv_iconst (v := 1) dX2_owner_6 (by decide) ?_
  refine dv_isub dX2_owner_7 ?_
  refine dv_topi (fun x11 ex11 => ?_)
  have tx11 : x11.toInt = lns2.toInt - 1 := by rw [ex11]; exact z_sub rfl (by decide : (1 : Int32).toInt = 1) (by omega) (by omega)
  refine GW.callSN (n := 3) (As := [.int i, .int 0, .int x11]) (rest := []) (k_X8_within l g pe ct i (0 : Int32) x11 hI) (fun _ h => Bool.noConfusion h) rfl rfl 10 rfl mm_356 mm_52 mm_357 (by decide +kernel) ⟨Nat.le_of_ble_eq_true rfl, Nat.le_of_ble_eq_true rfl⟩ rfl (Nat.le_of_ble_eq_true rfl) dX2_owner_8 (Nat.zero_le _) (Nat.zero_le _) rfl (fun ct12 rrr13 hBr13 hoff14 => ?_)
  obtain ⟨r13, rfl, hr13, rfl⟩ := hBr13
  refine GW.eq (S2 := [.int r13]) rfl rfl rfl ?_
  rcases hr13 with hr13 | hr13
  · skip
    obtain ⟨rfl, h15, h16⟩ := hr13
    have h15 : (0 : Int) ≤ i.toInt := h15
    have h16 : i.toInt ≤ x11.toInt := h16
    refine dv_if_eq (tgt := 23) dX2_owner_11 (by decide) (fun c17 => ?_) (fun c17 => ?_)
    · skip
      exact absurd c17 (by decide)
    · skip
      refine dv_aload_n dX2_owner_14 rfl 0 rfl ?_
      refine dv_get (ci := 2) (v := .ref (kb + 1)) (C := RX2) (T := TX2) (N := 5) ⟨by omega, pB_of (by omega)⟩ hs1 rfl inG2 3 (by decide) mm_290 rfl dX2_owner_15 ?_
      refine dv_iload_n dX2_owner_18 rfl 1 rfl ?_
      obtain ⟨f19, hs18⟩ := a8_41 (kc := kb) (by omega) hI
      refine dv_iald 0 ⟨by omega, pB_of (by omega)⟩ hs18 rfl (z_in rfl (by omega) (by omega)) dX2_owner_19 ?_
      refine dv_topi (fun y20 ey20 => ?_)
      refine dv_goto (tgt := 24) dX2_owner_20 (by decide) ?_
      exact dv_iret dX2_owner_24 rfl (by first | exact Nat.zero_le _ | decide) (by first | exact Nat.zero_le _ | decide) (by subst hK; exact ⟨y20, rfl, (trivial), rfl⟩)
  · skip
    obtain ⟨rfl, h21⟩ := hr13
    have h21 : ¬ ((0 : Int) ≤ i.toInt ∧ i.toInt ≤ x11.toInt) := h21
    refine dv_if_eq (tgt := 23) dX2_owner_11 (by decide) (fun c22 => ?_) (fun c22 => ?_)
    · skip
      refine dv_iconst (v := (-1)) dX2_owner_23 (by decide) ?_
      have q23 : ((-1) : Int32).toInt = -1 := by decide
      exact dv_iret dX2_owner_24 rfl (by first | exact Nat.zero_le _ | decide) (by first | exact Nat.zero_le _ | decide) (by subst hK; exact ⟨(-1), rfl, (trivial), rfl⟩)
    · skip
      exact absurd c22 (by decide)

set_option maxHeartbeats 4000000 in
set_option maxRecDepth 100000 in
theorem k_X2_put (l : Launch) (g : zG) (pe : Int32) (ct : Nat → va_E) (kb : Nat) (i : Int32) (c0 : Int32) (nd : Int32) (hf_kb : 55 ≤ kb ∧ kb < 99 ∧ (kb - 55) % 11 = 0) (hI : Inv8 g idn pe ct) : DM l g pB false yX2_put cX2_put 4 none ({ frames := 1, cells := 0, slots := 0, locals := 22 }) (fun (ct2 : Nat → va_E) (rr : Option Value) => rr = none ∧ Inv8 g idn pe ct2 ∧ (ct2 0 = ct 0)) ct [.ref kb, .int i, .int c0, .int nd] := by
  refine DM.K (fun K hK => ?_)
  refine GW.met (own := RX2) (loc := [(0, .ref kb), (1, .int i), (2, .int c0), (3, .int nd)]) (by decide) rfl rfl (Nat.le_of_ble_eq_true rfl) ?_
  have hpe0 := hI.1
  have hk0 : ct 0 = ct 0 := rfl
  obtain ⟨bk3, dr2, h4, h5, h6, hs1⟩ := a8_0 hI
  have rg_i := z_rng i
  have rg_c0 := z_rng c0
  have rg_nd := z_rng nd
  refine dv_iload_n dX2_put_0 rfl 1 rfl ?_
  refine dv_iconst (v := 0) dX2_put_1 (by decide) ?_
  refine dv_aload_n dX2_put_2 rfl 0 rfl ?_
  obtain ⟨lns8, liv9, shw10, h11, h12, h13, h14, hz15, h16, hs7⟩ := a8_40 (kc := kb) (by omega) hI
  have bhz15 := z_b01 hz15
  refine dv_get (ci := 2) (v := .int lns8) (C := RX2) (T := TX2) (N := 5) ⟨by omega, pB_of (by omega)⟩ hs7 rfl inG2 0 (by decide) mm_284 rfl dX2_put_3 ?_
  refine dv_iconst (v := 1) dX2_put_6 (by decide) ?_
  refine dv_isub dX2_put_7 ?_
  refine dv_topi (fun x17 ex17 => ?_)
  have tx17 : x17.toInt = lns8.toInt - 1 := by rw [ex17]; exact z_sub rfl (by decide : (1 : Int32).toInt = 1) (by omega) (by omega)
  refine GW.callSN (n := 3) (As := [.int i, .int 0, .int x17]) (rest := []) (k_X8_within l g pe ct i (0 : Int32) x17 hI) (fun _ h => Bool.noConfusion h) rfl rfl 10 rfl mm_356 mm_52 mm_357 (by decide +kernel) ⟨Nat.le_of_ble_eq_true rfl, Nat.le_of_ble_eq_true rfl⟩ rfl (Nat.le_of_ble_eq_true rfl) dX2_put_8 (Nat.zero_le _) (Nat.zero_le _) rfl (fun ct18 rrr19 hBr19 hoff20 => ?_)
  obtain ⟨r19, rfl, hr19, rfl⟩ := hBr19
  refine GW.eq (S2 := [.int r19]) rfl rfl rfl ?_
  rcases hr19 with hr19 | hr19
  · skip
    obtain ⟨rfl, h21, h22⟩ := hr19
    have h21 : (0 : Int) ≤ i.toInt := h21
    have h22 : i.toInt ≤ x17.toInt := h22
    refine dv_if_eq (tgt := 30) dX2_put_11 (by decide) (fun c23 => ?_) (fun c23 => ?_)
    · skip
      exact absurd c23 (by decide)
    · skip
      refine dv_iload_n dX2_put_14 rfl 2 rfl ?_
      refine GW.callSN (n := 1) (As := [.int c0]) (rest := []) (k_X8_isColumn l g pe ct c0 hI) (fun _ h => Bool.noConfusion h) rfl rfl 11 rfl mm_401 mm_52 mm_402 (by decide +kernel) ⟨Nat.le_of_ble_eq_true rfl, Nat.le_of_ble_eq_true rfl⟩ rfl (Nat.le_of_ble_eq_true rfl) dX2_put_15 (Nat.zero_le _) (Nat.zero_le _) rfl (fun ct24 rrr25 hBr25 hoff26 => ?_)
      obtain ⟨r25, rfl, hr25, rfl⟩ := hBr25
      refine GW.eq (S2 := [.int r25]) rfl rfl rfl ?_
      rcases hr25 with hr25 | hr25
      · skip
        obtain ⟨rfl, h27, h28⟩ := hr25
        have h27 : 0 ≤ c0.toInt := h27
        have h28 : c0.toInt ≤ 3 := h28
        refine dv_if_eq (tgt := 30) dX2_put_18 (by decide) (fun c29 => ?_) (fun c29 => ?_)
        · skip
          exact absurd c29 (by decide)
        · skip
          refine dv_aload_n dX2_put_21 rfl 0 rfl ?_
          refine dv_get (ci := 2) (v := .ref (kb + 2)) (C := RX2) (T := TX2) (N := 5) ⟨by omega, pB_of (by omega)⟩ hs7 rfl inG2 4 (by decide) mm_291 rfl dX2_put_22 ?_
          refine dv_iload_n dX2_put_25 rfl 1 rfl ?_
          have hs30 := a8_42 (kc := kb) (by omega) hI
          refine dv_aldII 7 ⟨by omega, pB_of (by omega)⟩ hs30 rfl (z_in rfl (by omega) (by omega)) dX2_put_26 (r := ((kb + 2) + 1 + 1 * i.toInt.toNat)) (zF42_r (x := i) (by omega) (by omega)) ?_
          refine dv_iload_n dX2_put_27 rfl 2 rfl ?_
          refine dv_iload_n dX2_put_28 rfl 3 rfl ?_
          obtain ⟨f32, hs31⟩ := a8_43 (kc := ((kb + 2) + 1 + 1 * i.toInt.toNat)) (by omega) hI
          refine dv_iast 0 ⟨by omega, pB_of (by omega)⟩ hs31 rfl (z_in rfl (by omega) (by omega)) dX2_put_29 (en := .inl (g.2 0, 4, .inl (upd f32 (Int32.toNatClampNeg c0) nd))) rfl (fun ct33 ec34 => ?_)
          have hI : Inv8 g idn pe ct33 := by rw [ec34]; exact up8 hI (i8_43 (kc := ((kb + 2) + 1 + 1 * i.toInt.toNat)) (by omega) ⟨_, rfl⟩)
          have hk0 : ct33 0 = ct 0 := by rw [ec34]; exact (va_up_ne _ _ (by omega)).trans hk0
          have hs35 : ct33 0 = .inr (8, [.ref 1, .ref 2, .ref 3, .ref 5, .ref 6, .ref 9, .ref 10, .ref 17, .ref 21, .ref 34, .ref (99 + 3 * dr2), .int pe, .int bk3]) := by rw [ec34, va_up_ne _ _ (by omega)]; exact hs1
          have hs36 : ct33 ((kb + 2) + 1 + 1 * i.toInt.toNat) = .inl (g.2 0, 4, .inl (upd f32 (Int32.toNatClampNeg c0) nd)) := by rw [ec34]; exact va_up_self _ _ _
          exact dv_vret dX2_put_30 rfl (by first | exact Nat.zero_le _ | decide) (by first | exact Nat.zero_le _ | decide) (by subst hK; exact ⟨rfl, hI, (by assumption)⟩)
      · skip
        obtain ⟨rfl, h37⟩ := hr25
        have h37 : ¬ (0 ≤ c0.toInt ∧ c0.toInt ≤ 3) := h37
        refine dv_if_eq (tgt := 30) dX2_put_18 (by decide) (fun c38 => ?_) (fun c38 => ?_)
        · skip
          exact dv_vret dX2_put_30 rfl (by first | exact Nat.zero_le _ | decide) (by first | exact Nat.zero_le _ | decide) (by subst hK; exact ⟨rfl, hI, (by assumption)⟩)
        · skip
          exact absurd c38 (by decide)
  · skip
    obtain ⟨rfl, h39⟩ := hr19
    have h39 : ¬ ((0 : Int) ≤ i.toInt ∧ i.toInt ≤ x17.toInt) := h39
    refine dv_if_eq (tgt := 30) dX2_put_11 (by decide) (fun c40 => ?_) (fun c40 => ?_)
    · skip
      exact dv_vret dX2_put_30 rfl (by first | exact Nat.zero_le _ | decide) (by first | exact Nat.zero_le _ | decide) (by subst hK; exact ⟨rfl, hI, (by assumption)⟩)
    · skip
      exact absurd c40 (by decide)

set_option maxHeartbeats 4000000 in
set_option maxRecDepth 100000 in
theorem k_X2_nodeAt (l : Launch) (g : zG) (pe : Int32) (ct : Nat → va_E) (kb : Nat) (i : Int32) (c0 : Int32) (hf_kb : 55 ≤ kb ∧ kb < 99 ∧ (kb - 55) % 11 = 0) (hI : Inv8 g idn pe ct) : DM l g pB false yX2_nodeAt cX2_nodeAt 3 (some .int) ({ frames := 0, cells := 0, slots := 0, locals := 0 }) (fun (ct2 : Nat → va_E) (rr : Option Value) => ∃ (r : Int32), rr = some (.int r) ∧ ((True)) ∧ ct = ct2) ct [.ref kb, .int i, .int c0] := by
  refine DM.K (fun K hK => ?_)
  refine GW.met (own := RX2) (loc := [(0, .ref kb), (1, .int i), (2, .int c0)]) (by decide) rfl rfl (Nat.le_of_ble_eq_true rfl) ?_
  have hpe0 := hI.1
  have rg_i := z_rng i
  have rg_c0 := z_rng c0
  refine dv_iload_n dX2_nodeAt_0 rfl 1 rfl ?_
  refine dv_if_lt (tgt := 32) dX2_nodeAt_1 (by decide) (fun c1 => ?_) (fun c1 => ?_)
  · skip
    have c1 : i.toInt < 0 := (z_lt rfl (by decide : (0 : Int32).toInt = 0)).mp c1
    refine dv_iconst (v := (-1)) dX2_nodeAt_32 (by decide) ?_
    have q2 : ((-1) : Int32).toInt = -1 := by decide
    exact dv_iret dX2_nodeAt_33 rfl (by first | exact Nat.zero_le _ | decide) (by first | exact Nat.zero_le _ | decide) (by subst hK; exact ⟨(-1), rfl, (trivial), rfl⟩)
  · skip
    have c1 : ¬ (i.toInt < 0) := fun q => c1 ((z_lt rfl (by decide : (0 : Int32).toInt = 0)).mpr q)
    refine dv_iload_n dX2_nodeAt_4 rfl 1 rfl ?_
    refine dv_aload_n dX2_nodeAt_5 rfl 0 rfl ?_
    obtain ⟨lns4, liv5, shw6, h7, h8, h9, h10, hz11, h12, hs3⟩ := a8_40 (kc := kb) (by omega) hI
    have bhz11 := z_b01 hz11
    refine dv_get (ci := 2) (v := .int lns4) (C := RX2) (T := TX2) (N := 5) ⟨by omega, pB_of (by omega)⟩ hs3 rfl inG2 0 (by decide) mm_284 rfl dX2_nodeAt_6 ?_
    refine dv_icmp_ge (tgt := 32) dX2_nodeAt_9 (by decide) (fun c13 => ?_) (fun c13 => ?_)
    · skip
      have c13 : lns4.toInt ≤ i.toInt := (z_le rfl rfl).mp c13
      refine dv_iconst (v := (-1)) dX2_nodeAt_32 (by decide) ?_
      have q14 : ((-1) : Int32).toInt = -1 := by decide
      exact dv_iret dX2_nodeAt_33 rfl (by first | exact Nat.zero_le _ | decide) (by first | exact Nat.zero_le _ | decide) (by subst hK; exact ⟨(-1), rfl, (trivial), rfl⟩)
    · skip
      have c13 : ¬ (lns4.toInt ≤ i.toInt) := fun q => c13 ((z_le rfl rfl).mpr q)
      refine dv_iload_n dX2_nodeAt_12 rfl 2 rfl ?_
      refine dv_if_lt (tgt := 32) dX2_nodeAt_13 (by decide) (fun c15 => ?_) (fun c15 => ?_)
      · skip
        have c15 : c0.toInt < 0 := (z_lt rfl (by decide : (0 : Int32).toInt = 0)).mp c15
        refine dv_iconst (v := (-1)) dX2_nodeAt_32 (by decide) ?_
        have q16 : ((-1) : Int32).toInt = -1 := by decide
        exact dv_iret dX2_nodeAt_33 rfl (by first | exact Nat.zero_le _ | decide) (by first | exact Nat.zero_le _ | decide) (by subst hK; exact ⟨(-1), rfl, (trivial), rfl⟩)
      · skip
        have c15 : ¬ (c0.toInt < 0) := fun q => c15 ((z_lt rfl (by decide : (0 : Int32).toInt = 0)).mpr q)
        refine dv_iload_n dX2_nodeAt_16 rfl 2 rfl ?_
        refine dv_iconst (v := 4) dX2_nodeAt_17 (by decide) ?_
        refine dv_icmp_ge (tgt := 32) dX2_nodeAt_18 (by decide) (fun c17 => ?_) (fun c17 => ?_)
        · skip
          have c17 : 4 ≤ c0.toInt := (z_le (by decide : (4 : Int32).toInt = 4) rfl).mp c17
          refine dv_iconst (v := (-1)) dX2_nodeAt_32 (by decide) ?_
          have q18 : ((-1) : Int32).toInt = -1 := by decide
          exact dv_iret dX2_nodeAt_33 rfl (by first | exact Nat.zero_le _ | decide) (by first | exact Nat.zero_le _ | decide) (by subst hK; exact ⟨(-1), rfl, (trivial), rfl⟩)
        · skip
          have c17 : ¬ (4 ≤ c0.toInt) := fun q => c17 ((z_le (by decide : (4 : Int32).toInt = 4) rfl).mpr q)
          refine dv_aload_n dX2_nodeAt_21 rfl 0 rfl ?_
          refine dv_get (ci := 2) (v := .ref (kb + 2)) (C := RX2) (T := TX2) (N := 5) ⟨by omega, pB_of (by omega)⟩ hs3 rfl inG2 4 (by decide) mm_291 rfl dX2_nodeAt_22 ?_
          refine dv_iload_n dX2_nodeAt_25 rfl 1 rfl ?_
          have hs19 := a8_42 (kc := kb) (by omega) hI
          refine dv_aldII 7 ⟨by omega, pB_of (by omega)⟩ hs19 rfl (z_in rfl (by omega) (by omega)) dX2_nodeAt_26 (r := ((kb + 2) + 1 + 1 * i.toInt.toNat)) (zF42_r (x := i) (by omega) (by omega)) ?_
          refine dv_iload_n dX2_nodeAt_27 rfl 2 rfl ?_
          obtain ⟨f21, hs20⟩ := a8_43 (kc := ((kb + 2) + 1 + 1 * i.toInt.toNat)) (by omega) hI
          refine dv_iald 0 ⟨by omega, pB_of (by omega)⟩ hs20 rfl (z_in rfl (by omega) (by omega)) dX2_nodeAt_28 ?_
          refine dv_topi (fun y22 ey22 => ?_)
          refine dv_goto (tgt := 33) dX2_nodeAt_29 (by decide) ?_
          exact dv_iret dX2_nodeAt_33 rfl (by first | exact Nat.zero_le _ | decide) (by first | exact Nat.zero_le _ | decide) (by subst hK; exact ⟨y22, rfl, (trivial), rfl⟩)

set_option maxHeartbeats 4000000 in
set_option maxRecDepth 100000 in
theorem k_X2_exchange (l : Launch) (g : zG) (pe : Int32) (ct : Nat → va_E) (kb : Nat) (i : Int32) (j : Int32) (c0 : Int32) (hf_kb : 55 ≤ kb ∧ kb < 99 ∧ (kb - 55) % 11 = 0) (hI : Inv8 g idn pe ct) : DM l g pB false yX2_exchange cX2_exchange 5 none ({ frames := 2, cells := 0, slots := 0, locals := 45 }) (fun (ct2 : Nat → va_E) (rr : Option Value) => rr = none ∧ Inv8 g idn pe ct2) ct [.ref kb, .int i, .int j, .int c0] := by
  refine DM.K (fun K hK => ?_)
  refine GW.met (own := RX2) (loc := [(0, .ref kb), (1, .int i), (2, .int j), (3, .int c0)]) (by decide) rfl rfl (Nat.le_of_ble_eq_true rfl) ?_
  have hpe0 := hI.1
  have rg_i := z_rng i
  have rg_j := z_rng j
  have rg_c0 := z_rng c0
  refine dv_aload_n dX2_exchange_0 rfl 0 rfl ?_
  refine dv_iload_n dX2_exchange_1 rfl 1 rfl ?_
  refine dv_iload_n dX2_exchange_2 rfl 3 rfl ?_
  obtain ⟨lns3, liv4, shw5, h6, h7, h8, h9, hz10, h11, hs2⟩ := a8_40 (kc := kb) (by omega) hI
  have bhz10 := z_b01 hz10
  refine GW.callV (n := 2) (As := [.int i, .int c0]) (rest := []) (b := kb) (k_X2_nodeAt l g pe ct kb i c0 (by omega) hI) (fun _ h => h) rfl rfl ⟨by omega, pB_of (by omega)⟩ hs2 (q := (RX2, TX2, 5)) rfl mm_656 mm_462 mm_463 mm_60 mm_464 (by decide +kernel) ⟨Nat.le_of_ble_eq_true rfl, Nat.le_of_ble_eq_true rfl⟩ rfl (Nat.le_of_ble_eq_true rfl) dX2_exchange_3 (Nat.zero_le _) (Nat.zero_le _) rfl (fun ct1 rrr12 hBr12 hoff13 => ?_)
  obtain ⟨r12, rfl, hr12, rfl⟩ := hBr12
  refine GW.eq (S2 := [.int r12]) rfl rfl rfl ?_
  refine dv_istore (lv' := [(4, .int r12), (0, .ref kb), (1, .int i), (2, .int j), (3, .int c0)]) dX2_exchange_6 (by decide) rfl ?_
  refine dv_aload_n dX2_exchange_8 rfl 1 rfl ?_
  refine dv_iload_n dX2_exchange_9 rfl 2 rfl ?_
  refine dv_iload_n dX2_exchange_10 rfl 4 rfl ?_
  refine dv_aload_n dX2_exchange_11 rfl 1 rfl ?_
  refine dv_iload_n dX2_exchange_12 rfl 3 rfl ?_
  refine dv_iload_n dX2_exchange_13 rfl 4 rfl ?_
  refine GW.callV (n := 2) (As := [.int j, .int c0]) (rest := [.int c0, .int i, .ref kb]) (b := kb) (k_X2_nodeAt l g pe ct kb j c0 (by omega) hI) (fun _ h => h) rfl rfl ⟨by omega, pB_of (by omega)⟩ hs2 (q := (RX2, TX2, 5)) rfl mm_656 mm_462 mm_463 mm_60 mm_464 (by decide +kernel) ⟨Nat.le_of_ble_eq_true rfl, Nat.le_of_ble_eq_true rfl⟩ rfl (Nat.le_of_ble_eq_true rfl) dX2_exchange_14 (Nat.zero_le _) (Nat.zero_le _) rfl (fun ct14 rrr15 hBr15 hoff16 => ?_)
  obtain ⟨r15, rfl, hr15, rfl⟩ := hBr15
  refine GW.eq (S2 := [.int r15, .int c0, .int i, .ref kb]) rfl rfl rfl ?_
  refine GW.callV (n := 3) (As := [.int i, .int c0, .int r15]) (rest := []) (b := kb) (k_X2_put l g pe ct kb i c0 r15 (by omega) hI) (fun _ h => h) rfl rfl ⟨by omega, pB_of (by omega)⟩ hs2 (q := (RX2, TX2, 5)) rfl mm_657 mm_397 mm_398 mm_60 mm_399 (by decide +kernel) ⟨Nat.le_of_ble_eq_true rfl, Nat.le_of_ble_eq_true rfl⟩ rfl (Nat.le_of_ble_eq_true rfl) dX2_exchange_17 (Nat.zero_le _) (Nat.zero_le _) rfl (fun ct17 rrr18 hBr18 hoff19 => ?_)
  obtain ⟨rfl, hI, hk20⟩ := hBr18
  refine GW.eq (S2 := []) rfl rfl rfl ?_
  refine dv_aload_n dX2_exchange_20 rfl 1 rfl ?_
  refine dv_iload_n dX2_exchange_21 rfl 3 rfl ?_
  refine dv_iload_n dX2_exchange_22 rfl 4 rfl ?_
  refine dv_iload dX2_exchange_23 0 rfl ?_
  obtain ⟨lns23, liv24, shw25, h26, h27, h28, h29, hz30, h31, hs22⟩ := a8_40 (kc := kb) (by omega) hI
  have bhz30 := z_b01 hz30
  refine GW.callV (n := 3) (As := [.int j, .int c0, .int r12]) (rest := []) (b := kb) (k_X2_put l g pe ct17 kb j c0 r12 (by omega) hI) (fun _ h => h) rfl rfl ⟨by omega, pB_of (by omega)⟩ hs22 (q := (RX2, TX2, 5)) rfl mm_657 mm_397 mm_398 mm_60 mm_399 (by decide +kernel) ⟨Nat.le_of_ble_eq_true rfl, Nat.le_of_ble_eq_true rfl⟩ rfl (Nat.le_of_ble_eq_true rfl) dX2_exchange_25 (Nat.zero_le _) (Nat.zero_le _) rfl (fun ct21 rrr32 hBr32 hoff33 => ?_)
  obtain ⟨rfl, hI, hk34⟩ := hBr32
  refine GW.eq (S2 := []) rfl rfl rfl ?_
  exact dv_vret dX2_exchange_28 rfl (by first | exact Nat.zero_le _ | decide) (by first | exact Nat.zero_le _ | decide) (by subst hK; exact ⟨rfl, hI⟩)

set_option maxHeartbeats 4000000 in
set_option maxRecDepth 100000 in
theorem k_X5_add (l : Launch) (g : zG) (pe : Int32) (ct : Nat → va_E) (o1 : Int32) (o2 : Int32) (hI : Inv8 g idn pe ct) : DM l g pL false yX5_add cX5_add 3 none ({ frames := 0, cells := 0, slots := 0, locals := 0 }) (fun (ct2 : Nat → va_E) (rr : Option Value) => rr = none ∧ Inv8 g idn pe ct2) ct [.ref 6, .int o1, .int o2] := by
  refine DM.K (fun K hK => ?_)
  refine GW.met (own := RX5) (loc := [(0, .ref 6), (1, .int o1), (2, .int o2)]) (by decide) rfl rfl (Nat.le_of_ble_eq_true rfl) ?_
  have hpe0 := hI.1
  have rg_o1 := z_rng o1
  have rg_o2 := z_rng o2
  refine dv_aload_n dX5_add_0 rfl 0 rfl ?_
  obtain ⟨num2, h3, h4, hs1⟩ := a8_6 hI
  refine dv_get (ci := 5) (v := .int num2) (C := RX5) (T := TX5) (N := 3) ⟨by decide, rfl⟩ hs1 rfl inG5 0 (by decide) mm_96 rfl dX5_add_1 ?_
  refine dv_bipush (v := 40) dX5_add_4 (by decide) ?_
  refine dv_icmp_ge (tgt := 39) dX5_add_6 (by decide) (fun c5 => ?_) (fun c5 => ?_)
  · skip
    have c5 : 40 ≤ num2.toInt := (z_le (by decide : (40 : Int32).toInt = 40) rfl).mp c5
    exact dv_vret dX5_add_39 rfl (by first | exact Nat.zero_le _ | decide) (by first | exact Nat.zero_le _ | decide) (by subst hK; exact ⟨rfl, hI⟩)
  · skip
    have c5 : ¬ (40 ≤ num2.toInt) := fun q => c5 ((z_le (by decide : (40 : Int32).toInt = 40) rfl).mpr q)
    refine dv_aload_n dX5_add_9 rfl 0 rfl ?_
    refine dv_get (ci := 5) (v := .ref 7) (C := RX5) (T := TX5) (N := 3) ⟨by decide, rfl⟩ hs1 rfl inG5 1 (by decide) mm_98 rfl dX5_add_10 ?_
    refine dv_aload_n dX5_add_13 rfl 0 rfl ?_
    refine dv_get (ci := 5) (v := .int num2) (C := RX5) (T := TX5) (N := 3) ⟨by decide, rfl⟩ hs1 rfl inG5 0 (by decide) mm_96 rfl dX5_add_14 ?_
    refine dv_iload_n dX5_add_17 rfl 1 rfl ?_
    obtain ⟨f7, hs6⟩ := a8_7 hI
    refine dv_iast 0 ⟨by decide, rfl⟩ hs6 rfl (z_in rfl (by omega) (by omega)) dX5_add_18 (en := .inl (g.2 0, 40, .inl (upd f7 (Int32.toNatClampNeg num2) o1))) rfl (fun ct8 ec9 => ?_)
    have hI : Inv8 g idn pe ct8 := by rw [ec9]; exact up8 hI (i8_7 ⟨_, rfl⟩)
    have hs10 : ct8 6 = .inr (5, [.int num2, .ref 7, .ref 8]) := by rw [ec9, va_up_ne _ _ (by omega)]; exact hs1
    have hs11 : ct8 7 = .inl (g.2 0, 40, .inl (upd f7 (Int32.toNatClampNeg num2) o1)) := by rw [ec9]; exact va_up_self _ _ _
    refine dv_aload_n dX5_add_19 rfl 0 rfl ?_
    refine dv_get (ci := 5) (v := .ref 8) (C := RX5) (T := TX5) (N := 3) ⟨by decide, rfl⟩ hs10 rfl inG5 2 (by decide) mm_99 rfl dX5_add_20 ?_
    refine dv_aload_n dX5_add_23 rfl 0 rfl ?_
    refine dv_get (ci := 5) (v := .int num2) (C := RX5) (T := TX5) (N := 3) ⟨by decide, rfl⟩ hs10 rfl inG5 0 (by decide) mm_96 rfl dX5_add_24 ?_
    refine dv_iload_n dX5_add_27 rfl 2 rfl ?_
    obtain ⟨f13, hs12⟩ := a8_8 hI
    refine dv_iast 0 ⟨by decide, rfl⟩ hs12 rfl (z_in rfl (by omega) (by omega)) dX5_add_28 (en := .inl (g.2 0, 40, .inl (upd f13 (Int32.toNatClampNeg num2) o2))) rfl (fun ct14 ec15 => ?_)
    have hI : Inv8 g idn pe ct14 := by rw [ec15]; exact up8 hI (i8_8 ⟨_, rfl⟩)
    have hs16 : ct14 6 = .inr (5, [.int num2, .ref 7, .ref 8]) := by rw [ec15, va_up_ne _ _ (by omega)]; exact hs10
    have hs17 : ct14 7 = .inl (g.2 0, 40, .inl (upd f7 (Int32.toNatClampNeg num2) o1)) := by rw [ec15, va_up_ne _ _ (by omega)]; exact hs11
    have hs18 : ct14 8 = .inl (g.2 0, 40, .inl (upd f13 (Int32.toNatClampNeg num2) o2)) := by rw [ec15]; exact va_up_self _ _ _
    refine dv_aload_n dX5_add_29 rfl 0 rfl ?_
    refine dv_dup dX5_add_30 rfl ?_
    refine dv_get (ci := 5) (v := .int num2) (C := RX5) (T := TX5) (N := 3) ⟨by decide, rfl⟩ hs16 rfl inG5 0 (by decide) mm_96 rfl dX5_add_31 ?_
    refine dv_iconst (v := 1) dX5_add_34 (by decide) ?_
    refine dv_iadd dX5_add_35 ?_
    refine dv_topi (fun x19 ex19 => ?_)
    have tx19 : x19.toInt = num2.toInt + 1 := by rw [ex19]; exact z_add rfl (by decide : (1 : Int32).toInt = 1) (by omega) (by omega)
    refine dv_put (ci := 5) (v := .int x19) (ty := .int) (C := RX5) (T := TX5) (N := 3) ⟨by decide, rfl⟩ hs16 rfl inG5 tyX5 tyX5_ok nmX5 0 (by decide) mm_96 rfl (by decide +kernel) (fun _ => rfl) (fun _ => rfl) (Nat.le_of_ble_eq_true rfl) dX5_add_36 (en := .inr (5, [.int x19, .ref 7, .ref 8])) rfl (fun ct20 ec21 => ?_)
    have hI : Inv8 g idn pe ct20 := by rw [ec21]; exact up8 hI (i8_6 ⟨(x19 : Int32), (by first | omega | decide), (by first | omega | decide), rfl⟩)
    have hs22 : ct20 7 = .inl (g.2 0, 40, .inl (upd f7 (Int32.toNatClampNeg num2) o1)) := by rw [ec21, va_up_ne _ _ (by omega)]; exact hs17
    have hs23 : ct20 8 = .inl (g.2 0, 40, .inl (upd f13 (Int32.toNatClampNeg num2) o2)) := by rw [ec21, va_up_ne _ _ (by omega)]; exact hs18
    have hs24 : ct20 6 = .inr (5, [.int x19, .ref 7, .ref 8]) := by rw [ec21]; exact va_up_self _ _ _
    exact dv_vret dX5_add_39 rfl (by first | exact Nat.zero_le _ | decide) (by first | exact Nat.zero_le _ | decide) (by subst hK; exact ⟨rfl, hI⟩)

set_option maxHeartbeats 4000000 in
set_option maxRecDepth 100000 in
theorem k_X5_reached (l : Launch) (g : zG) (pe : Int32) (ct : Nat → va_E) (pl : Int32) (al : Int32) (hI : Inv8 g idn pe ct) : DM l g pL false yX5_reached cX5_reached 9 (some .int) ({ frames := 0, cells := 0, slots := 0, locals := 0 }) (fun (ct2 : Nat → va_E) (rr : Option Value) => ∃ (r : Int32), rr = some (.int r) ∧ ((True)) ∧ ct = ct2) ct [.ref 6, .int pl, .int al] := by
  refine DM.K (fun K hK => ?_)
  refine GW.met (own := RX5) (loc := [(0, .ref 6), (1, .int pl), (2, .int al)]) (by decide) rfl rfl (Nat.le_of_ble_eq_true rfl) ?_
  have hpe0 := hI.1
  have rg_pl := z_rng pl
  have rg_al := z_rng al
  refine dv_iconst (v := 1) dX5_reached_0 (by decide) ?_
  refine dv_iload_n dX5_reached_1 rfl 1 rfl ?_
  refine dv_ishl dX5_reached_2 ?_
  refine dv_topi (fun x1 ex1 => ?_)
  refine dv_istore_n (lv' := [(3, .int x1), (0, .ref 6), (1, .int pl), (2, .int al)]) dX5_reached_3 rfl (by decide) rfl ?_
  refine dv_iconst (v := 1) dX5_reached_4 (by decide) ?_
  refine dv_istore (lv' := [(4, .int 1), (3, .int x1), (0, .ref 6), (1, .int pl), (2, .int al)]) dX5_reached_5 (by decide) rfl ?_
  refine dv_iconst (v := 0) dX5_reached_7 (by decide) ?_
  refine dv_istore (lv' := [(5, .int 0), (4, .int 1), (3, .int x1), (0, .ref 6), (1, .int pl), (2, .int al)]) dX5_reached_8 (by decide) rfl ?_
  have loop10 : ∀ (n10 : Nat) (v5_10 : Int32) (v4_10 : Int32) (v3_10 : Int32), ((32 - v5_10.toInt : Int).toNat < n10) → (0 ≤ v5_10.toInt ∧ v5_10.toInt ≤ 32) → GW l g pL pL false yX5_reached cX5_reached 9 (some .int) RX5 ({ frames := 0, cells := 0, slots := 0, locals := 0 }) K 0 0 ct 10 [(5, .int v5_10), (4, .int v4_10), (3, .int v3_10), (0, .ref 6), (1, .int pl), (2, .int al)] [] := by
    intro n10
    induction n10 with
    | zero =>
      intro v5_10 v4_10 v3_10 hn10 b5_10
      exact absurd hn10 (Nat.not_lt_zero _)
    | succ n10 ih10 =>
      intro v5_10 v4_10 v3_10 hn10 b5_10
      refine dv_iload dX5_reached_10 0 rfl ?_
      refine dv_bipush (v := 32) dX5_reached_12 (by decide) ?_
      refine dv_icmp_ge (tgt := 97) dX5_reached_14 (by decide) (fun c2 => ?_) (fun c2 => ?_)
      · skip
        have c2 : 32 ≤ v5_10.toInt := (z_le (by decide : (32 : Int32).toInt = 32) rfl).mp c2
        refine dv_iload_n dX5_reached_97 rfl 2 rfl ?_
        exact dv_iret dX5_reached_98 rfl (by first | exact Nat.zero_le _ | decide) (by first | exact Nat.zero_le _ | decide) (by subst hK; exact ⟨v3_10, rfl, (trivial), rfl⟩)
      · skip
        have c2 : ¬ (32 ≤ v5_10.toInt) := fun q => c2 ((z_le (by decide : (32 : Int32).toInt = 32) rfl).mpr q)
        refine dv_iload dX5_reached_17 1 rfl ?_
        refine dv_if_eq (tgt := 97) dX5_reached_19 (by decide) (fun c3 => ?_) (fun c3 => ?_)
        · skip
          have c3 : v4_10.toInt = 0 := (z_eq rfl (by decide : (0 : Int32).toInt = 0)).mp c3
          refine dv_iload_n dX5_reached_97 rfl 2 rfl ?_
          exact dv_iret dX5_reached_98 rfl (by first | exact Nat.zero_le _ | decide) (by first | exact Nat.zero_le _ | decide) (by subst hK; exact ⟨v3_10, rfl, (trivial), rfl⟩)
        · skip
          have c3 : ¬ (v4_10.toInt = 0) := fun q => c3 ((z_eq rfl (by decide : (0 : Int32).toInt = 0)).mpr q)
          refine dv_iload_n dX5_reached_22 rfl 2 rfl ?_
          refine dv_istore (lv' := [(6, .int v3_10), (5, .int v5_10), (4, .int v4_10), (3, .int v3_10), (0, .ref 6), (1, .int pl), (2, .int al)]) dX5_reached_23 (by decide) rfl ?_
          refine dv_iconst (v := 0) dX5_reached_25 (by decide) ?_
          refine dv_istore (lv' := [(7, .int 0), (6, .int v3_10), (5, .int v5_10), (4, .int v4_10), (3, .int v3_10), (0, .ref 6), (1, .int pl), (2, .int al)]) dX5_reached_26 (by decide) rfl ?_
          have loop28 : ∀ (n28 : Nat) (v7_28 : Int32) (v3_28 : Int32), ((40 - v7_28.toInt : Int).toNat < n28) → (0 ≤ v7_28.toInt ∧ v7_28.toInt ≤ 40) → GW l g pL pL false yX5_reached cX5_reached 9 (some .int) RX5 ({ frames := 0, cells := 0, slots := 0, locals := 0 }) K 0 0 ct 28 [(7, .int v7_28), (6, .int v3_10), (5, .int v5_10), (4, .int v4_10), (3, .int v3_28), (0, .ref 6), (1, .int pl), (2, .int al)] [] := by
            intro n28
            induction n28 with
            | zero =>
              intro v7_28 v3_28 hn28 b7_28
              exact absurd hn28 (Nat.not_lt_zero _)
            | succ n28 ih28 =>
              intro v7_28 v3_28 hn28 b7_28
              refine dv_iload dX5_reached_28 0 rfl ?_
              refine dv_aload_n dX5_reached_30 rfl 5 rfl ?_
              obtain ⟨num5, h6, h7, hs4⟩ := a8_6 hI
              refine dv_get (ci := 5) (v := .int num5) (C := RX5) (T := TX5) (N := 3) ⟨by decide, rfl⟩ hs4 rfl inG5 0 (by decide) mm_96 rfl dX5_reached_31 ?_
              refine dv_icmp_ge (tgt := 78) dX5_reached_34 (by decide) (fun c8 => ?_) (fun c8 => ?_)
              · skip
                have c8 : num5.toInt ≤ v7_28.toInt := (z_le rfl rfl).mp c8
                refine dv_iload_n dX5_reached_78 rfl 4 rfl ?_
                refine dv_iload dX5_reached_79 1 rfl ?_
                refine dv_icmp_eq (tgt := 88) dX5_reached_81 (by decide) (fun c9 => ?_) (fun c9 => ?_)
                · skip
                  have c9 : v3_28.toInt = v3_10.toInt := (z_eq rfl rfl).mp c9
                  refine dv_iconst (v := 0) dX5_reached_88 (by decide) ?_
                  refine dv_istore (lv' := [(4, .int 0), (7, .int v7_28), (6, .int v3_10), (5, .int v5_10), (3, .int v3_28), (0, .ref 6), (1, .int pl), (2, .int al)]) dX5_reached_89 (by decide) rfl ?_
                  obtain ⟨x10, ex10⟩ : ∃ y : Int32, y = v5_10 + 1 := ⟨_, rfl⟩
                  have tx10 : x10.toInt = v5_10.toInt + 1 := by rw [ex10]; exact z_add rfl (by decide : (1 : Int32).toInt = 1) (by omega) (by omega)
                  refine dv_iinc (v := x10) (lv' := [(5, .int x10), (4, .int 0), (7, .int v7_28), (6, .int v3_10), (3, .int v3_28), (0, .ref 6), (1, .int pl), (2, .int al)]) dX5_reached_91 (k := 3) rfl (by rw [ex10]; rfl) (by decide) rfl ?_
                  refine dv_goto (tgt := 10) dX5_reached_94 (by decide) ?_
                  refine dv_sub (loc2 := [(5, .int x10), (4, .int 0), (3, .int v3_28), (0, .ref 6), (1, .int pl), (2, .int al)]) [0, 1, 4, 5, 6, 7] rfl ?_
                  exact ih10 x10 (0 : Int32) v3_28 (by omega) (by first | omega | decide | assumption)
                · skip
                  have c9 : ¬ (v3_28.toInt = v3_10.toInt) := fun q => c9 ((z_eq rfl rfl).mpr q)
                  refine dv_iconst (v := 1) dX5_reached_84 (by decide) ?_
                  refine dv_goto (tgt := 89) dX5_reached_85 (by decide) ?_
                  refine dv_istore (lv' := [(4, .int 1), (7, .int v7_28), (6, .int v3_10), (5, .int v5_10), (3, .int v3_28), (0, .ref 6), (1, .int pl), (2, .int al)]) dX5_reached_89 (by decide) rfl ?_
                  obtain ⟨x11, ex11⟩ : ∃ y : Int32, y = v5_10 + 1 := ⟨_, rfl⟩
                  have tx11 : x11.toInt = v5_10.toInt + 1 := by rw [ex11]; exact z_add rfl (by decide : (1 : Int32).toInt = 1) (by omega) (by omega)
                  refine dv_iinc (v := x11) (lv' := [(5, .int x11), (4, .int 1), (7, .int v7_28), (6, .int v3_10), (3, .int v3_28), (0, .ref 6), (1, .int pl), (2, .int al)]) dX5_reached_91 (k := 3) rfl (by rw [ex11]; rfl) (by decide) rfl ?_
                  refine dv_goto (tgt := 10) dX5_reached_94 (by decide) ?_
                  refine dv_sub (loc2 := [(5, .int x11), (4, .int 1), (3, .int v3_28), (0, .ref 6), (1, .int pl), (2, .int al)]) [0, 1, 4, 5, 6, 7] rfl ?_
                  exact ih10 x11 (1 : Int32) v3_28 (by omega) (by first | omega | decide | assumption)
              · skip
                have c8 : ¬ (num5.toInt ≤ v7_28.toInt) := fun q => c8 ((z_le rfl rfl).mpr q)
                refine dv_iconst (v := 1) dX5_reached_37 (by decide) ?_
                refine dv_aload_n dX5_reached_38 rfl 5 rfl ?_
                refine dv_get (ci := 5) (v := .ref 7) (C := RX5) (T := TX5) (N := 3) ⟨by decide, rfl⟩ hs4 rfl inG5 1 (by decide) mm_98 rfl dX5_reached_39 ?_
                refine dv_iload dX5_reached_42 0 rfl ?_
                obtain ⟨f13, hs12⟩ := a8_7 hI
                refine dv_iald 0 ⟨by decide, rfl⟩ hs12 rfl (z_in rfl (by omega) (by omega)) dX5_reached_44 ?_
                refine dv_topi (fun y14 ey14 => ?_)
                refine dv_ishl dX5_reached_45 ?_
                refine dv_topi (fun x15 ex15 => ?_)
                refine dv_iconst (v := 1) dX5_reached_46 (by decide) ?_
                refine dv_aload_n dX5_reached_47 rfl 5 rfl ?_
                refine dv_get (ci := 5) (v := .ref 8) (C := RX5) (T := TX5) (N := 3) ⟨by decide, rfl⟩ hs4 rfl inG5 2 (by decide) mm_99 rfl dX5_reached_48 ?_
                refine dv_iload dX5_reached_51 0 rfl ?_
                obtain ⟨f17, hs16⟩ := a8_8 hI
                refine dv_iald 0 ⟨by decide, rfl⟩ hs16 rfl (z_in rfl (by omega) (by omega)) dX5_reached_53 ?_
                refine dv_topi (fun y18 ey18 => ?_)
                refine dv_ishl dX5_reached_54 ?_
                refine dv_topi (fun x19 ex19 => ?_)
                refine dv_ior dX5_reached_55 ?_
                refine dv_topi (fun x20 ex20 => ?_)
                refine dv_istore (lv' := [(8, .int x20), (7, .int v7_28), (6, .int v3_10), (5, .int v5_10), (4, .int v4_10), (3, .int v3_28), (0, .ref 6), (1, .int pl), (2, .int al)]) dX5_reached_56 (by decide) rfl ?_
                refine dv_iload_n dX5_reached_58 rfl 5 rfl ?_
                refine dv_iload dX5_reached_59 0 rfl ?_
                refine dv_iand dX5_reached_61 ?_
                refine dv_topi (fun x21 ex21 => ?_)
                refine dv_if_eq (tgt := 72) dX5_reached_62 (by decide) (fun c22 => ?_) (fun c22 => ?_)
                · skip
                  have c22 : x21.toInt = 0 := (z_eq rfl (by decide : (0 : Int32).toInt = 0)).mp c22
                  obtain ⟨x23, ex23⟩ : ∃ y : Int32, y = v7_28 + 1 := ⟨_, rfl⟩
                  have tx23 : x23.toInt = v7_28.toInt + 1 := by rw [ex23]; exact z_add rfl (by decide : (1 : Int32).toInt = 1) (by omega) (by omega)
                  refine dv_iinc (v := x23) (lv' := [(7, .int x23), (8, .int x20), (6, .int v3_10), (5, .int v5_10), (4, .int v4_10), (3, .int v3_28), (0, .ref 6), (1, .int pl), (2, .int al)]) dX5_reached_72 (k := 1) rfl (by rw [ex23]; rfl) (by decide) rfl ?_
                  refine dv_goto (tgt := 28) dX5_reached_75 (by decide) ?_
                  refine dv_sub (loc2 := [(7, .int x23), (6, .int v3_10), (5, .int v5_10), (4, .int v4_10), (3, .int v3_28), (0, .ref 6), (1, .int pl), (2, .int al)]) [0, 2, 3, 4, 5, 6, 7, 8] rfl ?_
                  exact ih28 x23 v3_28 (by omega) (by first | omega | decide | assumption)
                · skip
                  have c22 : ¬ (x21.toInt = 0) := fun q => c22 ((z_eq rfl (by decide : (0 : Int32).toInt = 0)).mpr q)
                  refine dv_iload_n dX5_reached_65 rfl 5 rfl ?_
                  refine dv_iload dX5_reached_66 0 rfl ?_
                  refine dv_iload_n dX5_reached_68 rfl 8 rfl ?_
                  refine dv_iand dX5_reached_69 ?_
                  refine dv_topi (fun x24 ex24 => ?_)
                  refine dv_ior dX5_reached_70 ?_
                  refine dv_topi (fun x25 ex25 => ?_)
                  refine dv_istore_n (lv' := [(3, .int x25), (8, .int x20), (7, .int v7_28), (6, .int v3_10), (5, .int v5_10), (4, .int v4_10), (0, .ref 6), (1, .int pl), (2, .int al)]) dX5_reached_71 rfl (by decide) rfl ?_
                  obtain ⟨x26, ex26⟩ : ∃ y : Int32, y = v7_28 + 1 := ⟨_, rfl⟩
                  have tx26 : x26.toInt = v7_28.toInt + 1 := by rw [ex26]; exact z_add rfl (by decide : (1 : Int32).toInt = 1) (by omega) (by omega)
                  refine dv_iinc (v := x26) (lv' := [(7, .int x26), (3, .int x25), (8, .int x20), (6, .int v3_10), (5, .int v5_10), (4, .int v4_10), (0, .ref 6), (1, .int pl), (2, .int al)]) dX5_reached_72 (k := 2) rfl (by rw [ex26]; rfl) (by decide) rfl ?_
                  refine dv_goto (tgt := 28) dX5_reached_75 (by decide) ?_
                  refine dv_sub (loc2 := [(7, .int x26), (6, .int v3_10), (5, .int v5_10), (4, .int v4_10), (3, .int x25), (0, .ref 6), (1, .int pl), (2, .int al)]) [0, 3, 4, 5, 1, 6, 7, 8] rfl ?_
                  exact ih28 x26 x25 (by omega) (by first | omega | decide | assumption)
          exact loop28 ((40 - (0 : Int32).toInt : Int).toNat + 1) (0 : Int32) v3_10 (by omega) (by first | omega | decide | assumption)
  exact loop10 ((32 - (0 : Int32).toInt : Int).toNat + 1) (0 : Int32) (1 : Int32) x1 (by omega) (by first | omega | decide | assumption)

set_option maxHeartbeats 4000000 in
set_option maxRecDepth 100000 in
theorem k_X4_isOf (l : Launch) (g : zG) (pe : Int32) (ct : Nat → va_E) (kg : Nat) (b : Int32) (i : Int32) (hf_kg : 99 ≤ kg ∧ kg < 126 ∧ (kg - 99) % 3 = 0) (hI : Inv8 g idn pe ct) : DM l g pG false yX4_isOf cX4_isOf 3 (some .boolean) ({ frames := 0, cells := 0, slots := 0, locals := 0 }) (fun (ct2 : Nat → va_E) (rr : Option Value) => ∃ (r : Int32), rr = some (.int r) ∧ ((True)) ∧ ct = ct2) ct [.ref kg, .int b, .int i] := by
  refine DM.K (fun K hK => ?_)
  refine GW.met (own := RX4) (loc := [(0, .ref kg), (1, .int b), (2, .int i)]) (by decide) rfl rfl (Nat.le_of_ble_eq_true rfl) ?_
  have hpe0 := hI.1
  have rg_b := z_rng b
  have rg_i := z_rng i
  refine dv_aload_n dX4_isOf_0 rfl 0 rfl ?_
  obtain ⟨tld2, ofb3, hol4, flt5, fla6, ofl7, len8, atx9, ref10, hz11, h12, h13, h14, h15, hz16, hs1⟩ := a8_44 (kc := kg) (by omega) hI
  have bhz11 := z_b01 hz11
  have bhz16 := z_b01 hz16
  refine dv_get (ci := 4) (v := .int tld2) (C := RX4) (T := TX4) (N := 11) ⟨by omega, pG_of (by omega)⟩ hs1 rfl inG4 0 (by decide) mm_214 rfl dX4_isOf_1 ?_
  refine dv_if_eq (tgt := 27) dX4_isOf_4 (by decide) (fun c17 => ?_) (fun c17 => ?_)
  · skip
    have c17 : tld2.toInt = 0 := (z_eq rfl (by decide : (0 : Int32).toInt = 0)).mp c17
    refine dv_iconst (v := 0) dX4_isOf_27 (by decide) ?_
    have q18 : (0 : Int32).toInt = 0 := by decide
    exact dv_zret dX4_isOf_28 rfl rfl (by first | exact Nat.zero_le _ | decide) (by first | exact Nat.zero_le _ | decide) (by subst hK; exact ⟨0, rfl, (trivial), rfl⟩)
  · skip
    have c17 : ¬ (tld2.toInt = 0) := fun q => c17 ((z_eq rfl (by decide : (0 : Int32).toInt = 0)).mpr q)
    refine dv_aload_n dX4_isOf_7 rfl 0 rfl ?_
    refine dv_get (ci := 4) (v := .int ofb3) (C := RX4) (T := TX4) (N := 11) ⟨by omega, pG_of (by omega)⟩ hs1 rfl inG4 1 (by decide) mm_216 rfl dX4_isOf_8 ?_
    refine dv_iload_n dX4_isOf_11 rfl 1 rfl ?_
    refine dv_icmp_ne (tgt := 27) dX4_isOf_12 (by decide) (fun c19 => ?_) (fun c19 => ?_)
    · skip
      have c19 : ¬ (ofb3.toInt = b.toInt) := fun q => c19 ((z_eq rfl rfl).mpr q)
      refine dv_iconst (v := 0) dX4_isOf_27 (by decide) ?_
      have q20 : (0 : Int32).toInt = 0 := by decide
      exact dv_zret dX4_isOf_28 rfl rfl (by first | exact Nat.zero_le _ | decide) (by first | exact Nat.zero_le _ | decide) (by subst hK; exact ⟨0, rfl, (trivial), rfl⟩)
    · skip
      have c19 : ofb3.toInt = b.toInt := (z_eq rfl rfl).mp c19
      refine dv_aload_n dX4_isOf_15 rfl 0 rfl ?_
      refine dv_get (ci := 4) (v := .int ofl7) (C := RX4) (T := TX4) (N := 11) ⟨by omega, pG_of (by omega)⟩ hs1 rfl inG4 5 (by decide) mm_224 rfl dX4_isOf_16 ?_
      refine dv_iload_n dX4_isOf_19 rfl 2 rfl ?_
      refine dv_icmp_ne (tgt := 27) dX4_isOf_20 (by decide) (fun c21 => ?_) (fun c21 => ?_)
      · skip
        have c21 : ¬ (ofl7.toInt = i.toInt) := fun q => c21 ((z_eq rfl rfl).mpr q)
        refine dv_iconst (v := 0) dX4_isOf_27 (by decide) ?_
        have q22 : (0 : Int32).toInt = 0 := by decide
        exact dv_zret dX4_isOf_28 rfl rfl (by first | exact Nat.zero_le _ | decide) (by first | exact Nat.zero_le _ | decide) (by subst hK; exact ⟨0, rfl, (trivial), rfl⟩)
      · skip
        have c21 : ofl7.toInt = i.toInt := (z_eq rfl rfl).mp c21
        refine dv_iconst (v := 1) dX4_isOf_23 (by decide) ?_
        refine dv_goto (tgt := 28) dX4_isOf_24 (by decide) ?_
        have q23 : (1 : Int32).toInt = 1 := by decide
        exact dv_zret dX4_isOf_28 rfl rfl (by first | exact Nat.zero_le _ | decide) (by first | exact Nat.zero_le _ | decide) (by subst hK; exact ⟨1, rfl, (trivial), rfl⟩)
