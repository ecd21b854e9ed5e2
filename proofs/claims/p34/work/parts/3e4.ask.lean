set_option maxHeartbeats 4000000 in
set_option maxRecDepth 100000 in
theorem k_X0_makeRoom (l : Launch) (g : zG) (pe : Int32) (ct : Nat → va_E) (who : Int32) (hl_who : 0 ≤ who.toInt ∧ who.toInt ≤ 65535) (hI : Inv8 g idn pe ct) : DM l g pQ true yX0_makeRoom cX0_makeRoom 4 none ({ frames := 0, cells := 1, slots := 131072, locals := 0 }) (fun (ct2 : Nat → va_E) (rr : Option Value) => rr = none ∧ Inv8 g idn pe ct2) ct [.ref 17, .int who] := by
  refine DM.K (fun K hK => ?_)
  refine GW.met (own := RX0) (loc := [(0, .ref 17), (1, .int who)]) (by decide) rfl rfl (Nat.le_of_ble_eq_true rfl) ?_
  have hpe0 := hI.1
  refine dv_aload_n dX0_makeRoom_0 rfl 0 rfl ?_
  obtain ⟨spc2, tim3, h4, h5, hs1⟩ := a8_17 hI
  refine dv_get (ci := 0) (v := .ref 20) (C := RX0) (T := TX0) (N := 5) ⟨by decide, rfl⟩ hs1 rfl inG0 3 (by decide) mm_163 rfl dX0_makeRoom_1 ?_
  obtain ⟨n7, f8, h9, h10, hs6⟩ := a8_20 hI
  have zhs6 : zlen (ct 20) = n7 := by rw [hs6]; rfl
  have qnn7 : (nI n7).toInt = ((n7 : Nat) : Int) := nI_toInt (by omega)
  refine dv_alen 0 ⟨by decide, rfl⟩ hs6 (ty := .int) rfl (v := (nI n7)) (rfl) dX0_makeRoom_4 ?_
  refine dv_istore_n (lv' := [(2, .int (nI n7)), (0, .ref 17), (1, .int who)]) dX0_makeRoom_5 rfl (by decide) rfl ?_
  refine dv_iconst (v := 0) dX0_makeRoom_6 (by decide) ?_
  refine dv_istore_n (lv' := [(3, .int 0), (2, .int (nI n7)), (0, .ref 17), (1, .int who)]) dX0_makeRoom_7 rfl (by decide) rfl ?_
  have loop8 : ∀ (n8 : Nat) (v3_8 : Int32) (v2_8 : Int32) (ct11 : Nat → va_E), ((16 - v3_8.toInt : Int).toNat < n8) → (0 ≤ v3_8.toInt ∧ v3_8.toInt ≤ 16) → (1 ≤ v2_8.toInt ∧ v2_8.toInt ≤ 131072) → (Inv8 g idn pe ct11) → GW l g pQ pQ true yX0_makeRoom cX0_makeRoom 4 none RX0 ({ frames := 0, cells := 1, slots := 131072, locals := 0 }) K 0 0 ct11 8 [(3, .int v3_8), (2, .int v2_8), (0, .ref 17), (1, .int who)] [] := by
    intro n8
    induction n8 with
    | zero =>
      intro v3_8 v2_8 ct11 hn8 b3_8 b2_8 hI
      exact absurd hn8 (Nat.not_lt_zero _)
    | succ n8 ih8 =>
      intro v3_8 v2_8 ct11 hn8 b3_8 b2_8 hI
      refine dv_iload_n dX0_makeRoom_8 rfl 0 rfl ?_
      refine dv_bipush (v := 16) dX0_makeRoom_9 (by decide) ?_
      refine dv_icmp_ge (tgt := 29) dX0_makeRoom_11 (by decide) (fun c12 => ?_) (fun c12 => ?_)
      · skip
        have c12 : 16 ≤ v3_8.toInt := (z_le (by decide : (16 : Int32).toInt = 16) rfl).mp c12
        refine dv_iload_n dX0_makeRoom_29 rfl 1 rfl ?_
        refine dv_aload_n dX0_makeRoom_30 rfl 2 rfl ?_
        obtain ⟨spc14, tim15, h16, h17, hs13⟩ := a8_17 hI
        refine dv_get (ci := 0) (v := .ref 20) (C := RX0) (T := TX0) (N := 5) ⟨by decide, rfl⟩ hs13 rfl inG0 3 (by decide) mm_163 rfl dX0_makeRoom_31 ?_
        obtain ⟨n19, f20, h21, h22, hs18⟩ := a8_20 hI
        have zhs18 : zlen (ct11 20) = n19 := by rw [hs18]; rfl
        have qnn19 : (nI n19).toInt = ((n19 : Nat) : Int) := nI_toInt (by omega)
        refine dv_alen 0 ⟨by decide, rfl⟩ hs18 (ty := .int) rfl (v := (nI n19)) (rfl) dX0_makeRoom_34 ?_
        refine dv_icmp_le (tgt := 45) dX0_makeRoom_35 (by decide) (fun c23 => ?_) (fun c23 => ?_)
        · skip
          have c23 : v2_8.toInt ≤ ((n19 : Nat) : Int) := (z_le rfl (nI_toInt (by omega))).mp c23
          exact dv_vret dX0_makeRoom_45 rfl (by first | exact Nat.zero_le _ | decide) (by first | exact Nat.zero_le _ | decide) (by subst hK; exact ⟨rfl, hI⟩)
        · skip
          have c23 : ¬ (v2_8.toInt ≤ ((n19 : Nat) : Int)) := fun q => c23 ((z_le rfl (nI_toInt (by omega))).mpr q)
          refine dv_aload_n dX0_makeRoom_38 rfl 2 rfl ?_
          refine dv_iload_n dX0_makeRoom_39 rfl 1 rfl ?_
          obtain ⟨f25, hs24⟩ := a8_18 hI
          obtain ⟨f27, hs26⟩ := a8_19 hI
          exact dv_grow (n := v2_8) (N := v2_8.toInt.toNat) hs13 hs24 hs26 hs18 (by omega) rfl (by omega) rfl rfl mm_87 mm_163 dX0_makeRoom_40 dX0_makeRoom_42 dX0_makeRoom_45 (by subst hK; exact ⟨rfl, up8 hI (i8_20 ⟨_, _, by omega, by omega, rfl⟩)⟩)
      · skip
        have c12 : ¬ (16 ≤ v3_8.toInt) := fun q => c12 ((z_le (by decide : (16 : Int32).toInt = 16) rfl).mpr q)
        refine dv_iload_n dX0_makeRoom_14 rfl 1 rfl ?_
        refine dv_iload_n dX0_makeRoom_15 rfl 3 rfl ?_
        refine dv_icmp_gt (tgt := 29) dX0_makeRoom_16 (by decide) (fun c28 => ?_) (fun c28 => ?_)
        · skip
          have c28 : who.toInt < v2_8.toInt := (z_lt rfl rfl).mp c28
          refine dv_iload_n dX0_makeRoom_29 rfl 1 rfl ?_
          refine dv_aload_n dX0_makeRoom_30 rfl 2 rfl ?_
          obtain ⟨spc30, tim31, h32, h33, hs29⟩ := a8_17 hI
          refine dv_get (ci := 0) (v := .ref 20) (C := RX0) (T := TX0) (N := 5) ⟨by decide, rfl⟩ hs29 rfl inG0 3 (by decide) mm_163 rfl dX0_makeRoom_31 ?_
          obtain ⟨n35, f36, h37, h38, hs34⟩ := a8_20 hI
          have zhs34 : zlen (ct11 20) = n35 := by rw [hs34]; rfl
          have qnn35 : (nI n35).toInt = ((n35 : Nat) : Int) := nI_toInt (by omega)
          refine dv_alen 0 ⟨by decide, rfl⟩ hs34 (ty := .int) rfl (v := (nI n35)) (rfl) dX0_makeRoom_34 ?_
          refine dv_icmp_le (tgt := 45) dX0_makeRoom_35 (by decide) (fun c39 => ?_) (fun c39 => ?_)
          · skip
            have c39 : v2_8.toInt ≤ ((n35 : Nat) : Int) := (z_le rfl (nI_toInt (by omega))).mp c39
            exact dv_vret dX0_makeRoom_45 rfl (by first | exact Nat.zero_le _ | decide) (by first | exact Nat.zero_le _ | decide) (by subst hK; exact ⟨rfl, hI⟩)
          · skip
            have c39 : ¬ (v2_8.toInt ≤ ((n35 : Nat) : Int)) := fun q => c39 ((z_le rfl (nI_toInt (by omega))).mpr q)
            refine dv_aload_n dX0_makeRoom_38 rfl 2 rfl ?_
            refine dv_iload_n dX0_makeRoom_39 rfl 1 rfl ?_
            obtain ⟨f41, hs40⟩ := a8_18 hI
            obtain ⟨f43, hs42⟩ := a8_19 hI
            exact dv_grow (n := v2_8) (N := v2_8.toInt.toNat) hs29 hs40 hs42 hs34 (by omega) rfl (by omega) rfl rfl mm_87 mm_163 dX0_makeRoom_40 dX0_makeRoom_42 dX0_makeRoom_45 (by subst hK; exact ⟨rfl, up8 hI (i8_20 ⟨_, _, by omega, by omega, rfl⟩)⟩)
        · skip
          have c28 : ¬ (who.toInt < v2_8.toInt) := fun q => c28 ((z_lt rfl rfl).mpr q)
          refine dv_iconst (v := 2) dX0_makeRoom_19 (by decide) ?_
          refine dv_iload_n dX0_makeRoom_20 rfl 1 rfl ?_
          refine dv_imul dX0_makeRoom_21 ?_
          refine dv_topi (fun x44 ex44 => ?_)
          have tx44 : x44.toInt = 2 * v2_8.toInt := by rw [ex44]; exact z_mul (by decide : (2 : Int32).toInt = 2) rfl (by omega) (by omega)
          refine dv_istore_n (lv' := [(2, .int x44), (3, .int v3_8), (0, .ref 17), (1, .int who)]) dX0_makeRoom_22 rfl (by decide) rfl ?_
          obtain ⟨x45, ex45⟩ : ∃ y : Int32, y = v3_8 + 1 := ⟨_, rfl⟩
          have tx45 : x45.toInt = v3_8.toInt + 1 := by rw [ex45]; exact z_add rfl (by decide : (1 : Int32).toInt = 1) (by omega) (by omega)
          refine dv_iinc (v := x45) (lv' := [(3, .int x45), (2, .int x44), (0, .ref 17), (1, .int who)]) dX0_makeRoom_23 (k := 1) rfl (by rw [ex45]; rfl) (by decide) rfl ?_
          refine dv_goto (tgt := 8) dX0_makeRoom_26 (by decide) ?_
          exact ih8 x45 x44 ct11 (by omega) (by first | omega | decide | assumption) (by first | omega | decide | assumption) hI
  exact loop8 ((16 - (0 : Int32).toInt : Int).toNat + 1) (0 : Int32) (nI n7) ct (by omega) (by first | omega | decide | assumption) (by first | omega | decide | assumption) hI

set_option maxHeartbeats 4000000 in
set_option maxRecDepth 100000 in
theorem k_X0_prepare (l : Launch) (g : zG) (pe : Int32) (ct : Nat → va_E) (who : Int32) (hl_who : 0 ≤ who.toInt ∧ who.toInt ≤ 65535) (hI : Inv8 g idn pe ct) : DM l g pA true yX0_prepare cX0_prepare 7 none ({ frames := 1, cells := 1, slots := 131072, locals := 24 }) (fun (ct2 : Nat → va_E) (rr : Option Value) => rr = none ∧ Inv8 g idn pe ct2) ct [.ref 17, .ref 1, .int who] := by
  refine DM.K (fun K hK => ?_)
  refine GW.met (own := RX0) (loc := [(0, .ref 17), (1, .ref 1), (2, .int who)]) (by decide) rfl rfl (Nat.le_of_ble_eq_true rfl) ?_
  have hpe0 := hI.1
  refine dv_aload_n dX0_prepare_0 rfl 0 rfl ?_
  refine dv_iload_n dX0_prepare_1 rfl 2 rfl ?_
  obtain ⟨spc3, tim4, h5, h6, hs2⟩ := a8_17 hI
  refine GW.callVA (n := 1) (As := [.int who]) (rest := []) (b := 17) (k_X0_makeRoom l g pe ct who (by first | omega | decide) hI) sub_pQ_pA rfl (fun k hk hk1 => ⟨fun e => hk1 (by rw [e]; exact ⟨by decide, rfl⟩), fun idn ad2 h => no20 hI (by have h1 : k = 1 ∨ (17 ≤ k ∧ k < 21) ∨ (35 ≤ k ∧ k < 55) := of_decide_eq_true hk.2; omega) (fun e => hk1 (by rw [e]; exact ⟨by decide, rfl⟩)) h⟩) rfl rfl (fun _ _ hk => by rw [hK] at hk; obtain ⟨rfl, -⟩ := hk; exact fun _ _ => rfl) (fun _ _ hk => by obtain ⟨rfl, -⟩ := hk; exact fun _ _ => rfl) ⟨by decide, rfl⟩ hs2 (q := (RX0, TX0, 5)) rfl mm_730 mm_732 mm_35 mm_56 mm_733 (by decide +kernel) ⟨(Nat.le_of_ble_eq_true rfl), (Nat.le_of_ble_eq_true rfl)⟩ rfl (Nat.le_of_ble_eq_true rfl) dX0_prepare_2 (Nat.le_of_ble_eq_true rfl) (Nat.le_of_ble_eq_true rfl) rfl (fun ct1 rrr7 hBr7 hoff8 => ?_)
  obtain ⟨rfl, hI⟩ := hBr7
  refine GW.eq (S2 := []) rfl rfl rfl ?_
  refine dv_aload_n dX0_prepare_5 rfl 0 rfl ?_
  refine dv_iconst (v := 0) dX0_prepare_6 (by decide) ?_
  obtain ⟨spc10, tim11, h12, h13, hs9⟩ := a8_17 hI
  refine dv_put (ci := 0) (v := .int 0) (ty := .int) (C := RX0) (T := TX0) (N := 5) ⟨by decide, rfl⟩ hs9 rfl inG0 tyX0 tyX0_ok nmX0 1 (by decide) mm_161 rfl (by decide +kernel) (fun _ => rfl) (fun _ => rfl) (Nat.le_of_ble_eq_true rfl) dX0_prepare_7 (en := .inr (0, [.ref 18, .int 0, .ref 19, .ref 20, .int tim11])) rfl (fun ct14 ec15 => ?_)
  have hI : Inv8 g idn pe ct14 := by rw [ec15]; exact up8 hI (i8_17 ⟨(0 : Int32), (tim11 : Int32), (by first | omega | decide), (by first | omega | decide), rfl⟩)
  have hs16 : ct14 17 = .inr (0, [.ref 18, .int 0, .ref 19, .ref 20, .int tim11]) := by rw [ec15]; exact va_up_self _ _ _
  refine dv_iconst (v := 1) dX0_prepare_10 (by decide) ?_
  refine dv_iload_n dX0_prepare_11 rfl 2 rfl ?_
  refine GW.callSN (n := 1) (As := [.int who]) (rest := [.int 1]) (k_low16 l g pe ct14 who (by first | omega | decide) hI) (fun _ h => Bool.noConfusion h) rfl rfl 14 rfl mm_716 mm_52 mm_717 (by decide +kernel) ⟨Nat.le_of_ble_eq_true rfl, Nat.le_of_ble_eq_true rfl⟩ rfl (Nat.le_of_ble_eq_true rfl) dX0_prepare_12 (Nat.le_of_ble_eq_true rfl) (Nat.le_of_ble_eq_true rfl) rfl (fun ct17 rrr18 hBr18 hoff19 => ?_)
  obtain ⟨r18, rfl, hr18, rfl⟩ := hBr18
  refine GW.eq (S2 := [.int r18, .int 1]) rfl rfl rfl ?_
  obtain ⟨hr18_0, hr18_1⟩ := hr18
  have hr18_0 : -1 ≤ r18.toInt := hr18_0
  have hr18_1 : r18.toInt ≤ 15 := hr18_1
  refine dv_iconst (v := 0) dX0_prepare_15 (by decide) ?_
  refine dv_mmax mm_735 mm_538 mm_61 mm_539 (Nat.le_of_ble_eq_true rfl) (Nat.le_of_ble_eq_true rfl) (Nat.le_of_ble_eq_true rfl) (Nat.le_of_ble_eq_true rfl) dX0_prepare_16 ?_
  refine dv_topi (fun x20 ex20 => ?_)
  have tx20 := z_max (x := r18) (y := 0) rfl (by decide : (0 : Int32).toInt = 0)
  rw [← ex20] at tx20
  refine dv_ishl dX0_prepare_19 ?_
  refine dv_topi (fun x21 ex21 => ?_)
  have tx21 := z_shl1 (y := x20) rfl (by omega) (k := 15) (by decide) (by omega)
  rw [← ex21] at tx21
  refine dv_istore_n (lv' := [(3, .int x21), (0, .ref 17), (1, .ref 1), (2, .int who)]) dX0_prepare_20 rfl (by decide) rfl ?_
  refine dv_iconst (v := 0) dX0_prepare_21 (by decide) ?_
  refine dv_istore (lv' := [(4, .int 0), (3, .int x21), (0, .ref 17), (1, .ref 1), (2, .int who)]) dX0_prepare_22 (by decide) rfl ?_
  have loop24 : ∀ (n24 : Nat) (v4_24 : Int32) (ct22 : Nat → va_E), ((4 - v4_24.toInt : Int).toNat < n24) → (0 ≤ v4_24.toInt ∧ v4_24.toInt ≤ 4) → (Inv8 g idn pe ct22) → GW l g pA pA true yX0_prepare cX0_prepare 7 none RX0 ({ frames := 1, cells := 1, slots := 131072, locals := 24 }) K 1 131072 ct22 24 [(4, .int v4_24), (3, .int x21), (0, .ref 17), (1, .ref 1), (2, .int who)] [] := by
    intro n24
    induction n24 with
    | zero =>
      intro v4_24 ct22 hn24 b4_24 hI
      exact absurd hn24 (Nat.not_lt_zero _)
    | succ n24 ih24 =>
      intro v4_24 ct22 hn24 b4_24 hI
      refine dv_iload dX0_prepare_24 0 rfl ?_
      refine dv_iconst (v := 4) dX0_prepare_26 (by decide) ?_
      refine dv_icmp_ge (tgt := 95) dX0_prepare_27 (by decide) (fun c23 => ?_) (fun c23 => ?_)
      · skip
        have c23 : 4 ≤ v4_24.toInt := (z_le (by decide : (4 : Int32).toInt = 4) rfl).mp c23
        exact dv_vret dX0_prepare_95 rfl (by first | exact Nat.zero_le _ | decide) (by first | exact Nat.zero_le _ | decide) (by subst hK; exact ⟨rfl, hI⟩)
      · skip
        have c23 : ¬ (4 ≤ v4_24.toInt) := fun q => c23 ((z_le (by decide : (4 : Int32).toInt = 4) rfl).mpr q)
        refine dv_iload dX0_prepare_30 0 rfl ?_
        refine dv_aload_n dX0_prepare_32 rfl 3 rfl ?_
        have hs24 := a8_1 hI
        refine dv_alen 4 ⟨by decide, rfl⟩ hs24 (ty := .object "TwoFit$Column") rfl (v := 4) (rfl) dX0_prepare_33 ?_
        refine dv_icmp_ge (tgt := 95) dX0_prepare_34 (by decide) (fun c25 => ?_) (fun c25 => ?_)
        · skip
          have c25 : 4 ≤ v4_24.toInt := (z_le (by decide : (4 : Int32).toInt = 4) rfl).mp c25
          exfalso
          omega
        · skip
          have c25 : ¬ (4 ≤ v4_24.toInt) := fun q => c25 ((z_le (by decide : (4 : Int32).toInt = 4) rfl).mpr q)
          refine dv_iconst (v := 0) dX0_prepare_37 (by decide) ?_
          refine dv_istore (lv' := [(5, .int 0), (4, .int v4_24), (3, .int x21), (0, .ref 17), (1, .ref 1), (2, .int who)]) dX0_prepare_38 (by decide) rfl ?_
          have loop40 : ∀ (n40 : Nat) (v5_40 : Int32) (ct26 : Nat → va_E), ((32 - v5_40.toInt : Int).toNat < n40) → (0 ≤ v5_40.toInt ∧ v5_40.toInt ≤ 32) → (Inv8 g idn pe ct26) → GW l g pA pA true yX0_prepare cX0_prepare 7 none RX0 ({ frames := 1, cells := 1, slots := 131072, locals := 24 }) K 1 131072 ct26 40 [(5, .int v5_40), (4, .int v4_24), (3, .int x21), (0, .ref 17), (1, .ref 1), (2, .int who)] [] := by
            intro n40
            induction n40 with
            | zero =>
              intro v5_40 ct26 hn40 b5_40 hI
              exact absurd hn40 (Nat.not_lt_zero _)
            | succ n40 ih40 =>
              intro v5_40 ct26 hn40 b5_40 hI
              refine dv_iload dX0_prepare_40 0 rfl ?_
              refine dv_bipush (v := 32) dX0_prepare_42 (by decide) ?_
              refine dv_icmp_ge (tgt := 89) dX0_prepare_44 (by decide) (fun c27 => ?_) (fun c27 => ?_)
              · skip
                have c27 : 32 ≤ v5_40.toInt := (z_le (by decide : (32 : Int32).toInt = 32) rfl).mp c27
                obtain ⟨x28, ex28⟩ : ∃ y : Int32, y = v4_24 + 1 := ⟨_, rfl⟩
                have tx28 : x28.toInt = v4_24.toInt + 1 := by rw [ex28]; exact z_add rfl (by decide : (1 : Int32).toInt = 1) (by omega) (by omega)
                refine dv_iinc (v := x28) (lv' := [(4, .int x28), (5, .int v5_40), (3, .int x21), (0, .ref 17), (1, .ref 1), (2, .int who)]) dX0_prepare_89 (k := 1) rfl (by rw [ex28]; rfl) (by decide) rfl ?_
                refine dv_goto (tgt := 24) dX0_prepare_92 (by decide) ?_
                refine dv_sub (loc2 := [(4, .int x28), (3, .int x21), (0, .ref 17), (1, .ref 1), (2, .int who)]) [0, 2, 3, 4, 5] rfl ?_
                exact ih24 x28 ct26 (by omega) (by first | omega | decide | assumption) hI
              · skip
                have c27 : ¬ (32 ≤ v5_40.toInt) := fun q => c27 ((z_le (by decide : (32 : Int32).toInt = 32) rfl).mpr q)
                refine dv_aload_n dX0_prepare_47 rfl 4 rfl ?_
                refine dv_iload dX0_prepare_48 1 rfl ?_
                have hs29 := a8_1 hI
                refine dv_aldq 4 ⟨by decide, rfl⟩ hs29 rfl (z_in rfl (by omega) (by omega)) dX0_prepare_50 (r := (0 + 35 + 5 * v4_24.toInt.toNat)) (zF1_r (x := v4_24) (by omega) (by omega)) ?_
                refine dv_iload dX0_prepare_51 0 rfl ?_
                obtain ⟨we32, se33, h34, h35, hs31⟩ := a8_35 (kc := (0 + 35 + 5 * v4_24.toInt.toNat)) (by omega) hI
                refine GW.callV (n := 1) (As := [.int v5_40]) (rest := []) (b := (0 + 35 + 5 * v4_24.toInt.toNat)) (k_X3_whoBelow l g pe ct26 (0 + 35 + 5 * v4_24.toInt.toNat) v5_40 (by omega) hI) sub_pK_pA rfl rfl ⟨by omega, pK_of (by omega)⟩ hs31 (q := (RX3, TX3, 6)) rfl mm_736 mm_466 mm_467 mm_59 mm_468 (by decide +kernel) ⟨Nat.le_of_ble_eq_true rfl, Nat.le_of_ble_eq_true rfl⟩ rfl (Nat.le_of_ble_eq_true rfl) dX0_prepare_53 (Nat.le_of_ble_eq_true rfl) (Nat.le_of_ble_eq_true rfl) rfl (fun ct30 rrr36 hBr36 hoff37 => ?_)
                obtain ⟨r36, rfl, hr36, rfl⟩ := hBr36
                refine GW.eq (S2 := [.int r36]) rfl rfl rfl ?_
                refine dv_iload_n dX0_prepare_56 rfl 5 rfl ?_
                refine dv_iand dX0_prepare_57 ?_
                refine dv_topi (fun x38 ex38 => ?_)
                have tx38 := z_andr (x := r36) (y := who) rfl (by omega)
                rw [← ex38] at tx38
                refine dv_istore (lv' := [(6, .int x38), (5, .int v5_40), (4, .int v4_24), (3, .int x21), (0, .ref 17), (1, .ref 1), (2, .int who)]) dX0_prepare_58 (by decide) rfl ?_
                refine dv_aload_n dX0_prepare_60 rfl 4 rfl ?_
                refine dv_iload dX0_prepare_61 0 rfl ?_
                refine dv_iload_n dX0_prepare_63 rfl 3 rfl ?_
                refine dv_iand dX0_prepare_64 ?_
                refine dv_topi (fun x39 ex39 => ?_)
                have tx39 := z_andr (x := x38) (y := x21) rfl (by omega)
                rw [← ex39] at tx39
                refine dv_if_ne (tgt := 77) dX0_prepare_65 (by decide) (fun c40 => ?_) (fun c40 => ?_)
                · skip
                  have c40 : ¬ (x39.toInt = 0) := fun q => c40 ((z_eq rfl (by decide : (0 : Int32).toInt = 0)).mpr q)
                  refine dv_iload dX0_prepare_77 0 rfl ?_
                  refine dv_iload_n dX0_prepare_79 rfl 6 rfl ?_
                  obtain ⟨spc43, tim44, h45, h46, hs42⟩ := a8_17 hI
                  refine GW.callV (n := 2) (As := [.int x38, .int who]) (rest := []) (b := 17) (k_X0_addSplit l g pe ct26 x38 who hI) sub_pQ_pA rfl rfl ⟨by decide, rfl⟩ hs42 (q := (RX0, TX0, 5)) rfl mm_737 mm_739 mm_36 mm_56 mm_740 (by decide +kernel) ⟨Nat.le_of_ble_eq_true rfl, Nat.le_of_ble_eq_true rfl⟩ rfl (Nat.le_of_ble_eq_true rfl) dX0_prepare_80 (Nat.le_of_ble_eq_true rfl) (Nat.le_of_ble_eq_true rfl) rfl (fun ct41 rrr47 hBr47 hoff48 => ?_)
                  obtain ⟨rfl, hI, hzs⟩ := hBr47
                  refine GW.eq (S2 := []) rfl rfl rfl ?_
                  have hs49 : ct41 1 = .inl (g.2 4, 4, .inr (.inr (.inr (.inr (zF1 idn 0))))) := (hoff48 _ (pQ_no (by decide))).trans hs29
                  have hs50 : ct41 (0 + 35 + 5 * v4_24.toInt.toNat) = .inr (3, [.int we32, .ref ((0 + 35 + 5 * v4_24.toInt.toNat) + 1), .ref ((0 + 35 + 5 * v4_24.toInt.toNat) + 2), .ref ((0 + 35 + 5 * v4_24.toInt.toNat) + 3), .ref ((0 + 35 + 5 * v4_24.toInt.toNat) + 4), .int se33]) := (hoff48 _ (pQ_no (by omega))).trans hs31
                  obtain ⟨x51, ex51⟩ : ∃ y : Int32, y = v5_40 + 1 := ⟨_, rfl⟩
                  have tx51 : x51.toInt = v5_40.toInt + 1 := by rw [ex51]; exact z_add rfl (by decide : (1 : Int32).toInt = 1) (by omega) (by omega)
                  refine dv_iinc (v := x51) (lv' := [(5, .int x51), (6, .int x38), (4, .int v4_24), (3, .int x21), (0, .ref 17), (1, .ref 1), (2, .int who)]) dX0_prepare_83 (k := 1) rfl (by rw [ex51]; rfl) (by decide) rfl ?_
                  refine dv_goto (tgt := 40) dX0_prepare_86 (by decide) ?_
                  refine dv_sub (loc2 := [(5, .int x51), (4, .int v4_24), (3, .int x21), (0, .ref 17), (1, .ref 1), (2, .int who)]) [0, 2, 3, 4, 5, 6] rfl ?_
                  exact ih40 x51 ct41 (by omega) (by first | omega | decide | assumption) hI
                · skip
                  have c40 : x39.toInt = 0 := (z_eq rfl (by decide : (0 : Int32).toInt = 0)).mp c40
                  refine dv_iload_n dX0_prepare_68 rfl 6 rfl ?_
                  refine dv_iload dX0_prepare_69 0 rfl ?_
                  refine dv_iconst (v := (-1)) dX0_prepare_71 (by decide) ?_
                  refine dv_ixor dX0_prepare_72 ?_
                  refine dv_topi (fun x52 ex52 => ?_)
                  refine dv_iand dX0_prepare_73 ?_
                  refine dv_topi (fun x53 ex53 => ?_)
                  have tx53 := z_andl (x := who) (y := x52) rfl (by omega)
                  rw [← ex53] at tx53
                  refine dv_goto (tgt := 79) dX0_prepare_74 (by decide) ?_
                  refine dv_iload_n dX0_prepare_79 rfl 6 rfl ?_
                  obtain ⟨spc56, tim57, h58, h59, hs55⟩ := a8_17 hI
                  refine GW.callV (n := 2) (As := [.int x53, .int who]) (rest := []) (b := 17) (k_X0_addSplit l g pe ct26 x53 who hI) sub_pQ_pA rfl rfl ⟨by decide, rfl⟩ hs55 (q := (RX0, TX0, 5)) rfl mm_737 mm_739 mm_36 mm_56 mm_740 (by decide +kernel) ⟨Nat.le_of_ble_eq_true rfl, Nat.le_of_ble_eq_true rfl⟩ rfl (Nat.le_of_ble_eq_true rfl) dX0_prepare_80 (Nat.le_of_ble_eq_true rfl) (Nat.le_of_ble_eq_true rfl) rfl (fun ct54 rrr60 hBr60 hoff61 => ?_)
                  obtain ⟨rfl, hI, hzs⟩ := hBr60
                  refine GW.eq (S2 := []) rfl rfl rfl ?_
                  have hs62 : ct54 1 = .inl (g.2 4, 4, .inr (.inr (.inr (.inr (zF1 idn 0))))) := (hoff61 _ (pQ_no (by decide))).trans hs29
                  have hs63 : ct54 (0 + 35 + 5 * v4_24.toInt.toNat) = .inr (3, [.int we32, .ref ((0 + 35 + 5 * v4_24.toInt.toNat) + 1), .ref ((0 + 35 + 5 * v4_24.toInt.toNat) + 2), .ref ((0 + 35 + 5 * v4_24.toInt.toNat) + 3), .ref ((0 + 35 + 5 * v4_24.toInt.toNat) + 4), .int se33]) := (hoff61 _ (pQ_no (by omega))).trans hs31
                  obtain ⟨x64, ex64⟩ : ∃ y : Int32, y = v5_40 + 1 := ⟨_, rfl⟩
                  have tx64 : x64.toInt = v5_40.toInt + 1 := by rw [ex64]; exact z_add rfl (by decide : (1 : Int32).toInt = 1) (by omega) (by omega)
                  refine dv_iinc (v := x64) (lv' := [(5, .int x64), (6, .int x38), (4, .int v4_24), (3, .int x21), (0, .ref 17), (1, .ref 1), (2, .int who)]) dX0_prepare_83 (k := 1) rfl (by rw [ex64]; rfl) (by decide) rfl ?_
                  refine dv_goto (tgt := 40) dX0_prepare_86 (by decide) ?_
                  refine dv_sub (loc2 := [(5, .int x64), (4, .int v4_24), (3, .int x21), (0, .ref 17), (1, .ref 1), (2, .int who)]) [0, 2, 3, 4, 5, 6] rfl ?_
                  exact ih40 x64 ct54 (by omega) (by first | omega | decide | assumption) hI
          exact loop40 ((32 - (0 : Int32).toInt : Int).toNat + 1) (0 : Int32) ct22 (by omega) (by first | omega | decide | assumption) hI
  exact loop24 ((4 - (0 : Int32).toInt : Int).toNat + 1) (0 : Int32) ct14 (by omega) (by first | omega | decide | assumption) hI
