set_option maxHeartbeats 4000000 in
set_option maxRecDepth 100000 in
theorem k_X3_climb (l : Launch) (g : zG) (pe : Int32) (ct : Nat → va_E) (kc : Nat) (v : Int32) (mo : Int32) (bi : Int32) (hf_kc : 35 ≤ kc ∧ kc < 55 ∧ (kc - 35) % 5 = 0) (hI : Inv8 g idn pe ct) : DM l g pK false yX3_climb cX3_climb 6 none ({ frames := 1, cells := 0, slots := 0, locals := 22 }) (fun (ct2 : Nat → va_E) (rr : Option Value) => rr = none ∧ Inv8 g idn pe ct2) ct [.ref kc, .int v, .int mo, .int bi] := by
  refine DM.K (fun K hK => ?_)
  refine GW.met (own := RX3) (loc := [(0, .ref kc), (1, .int v), (2, .int mo), (3, .int bi)]) (by decide) rfl rfl (Nat.le_of_ble_eq_true rfl) ?_
  have hpe0 := hI.1
  have rg_v := z_rng v
  have rg_mo := z_rng mo
  have rg_bi := z_rng bi
  refine dv_iload_n dX3_climb_0 rfl 1 rfl ?_
  refine dv_istore (lv' := [(4, .int v), (0, .ref kc), (1, .int v), (2, .int mo), (3, .int bi)]) dX3_climb_1 (by decide) rfl ?_
  refine dv_iconst (v := 0) dX3_climb_3 (by decide) ?_
  refine dv_istore (lv' := [(5, .int 0), (4, .int v), (0, .ref kc), (1, .int v), (2, .int mo), (3, .int bi)]) dX3_climb_4 (by decide) rfl ?_
  have loop6 : ∀ (n6 : Nat) (v5_6 : Int32) (v4_6 : Int32) (ct1 : Nat → va_E), ((32 - v5_6.toInt : Int).toNat < n6) → (0 ≤ v5_6.toInt ∧ v5_6.toInt ≤ 32) → (Inv8 g idn pe ct1) → GW l g pK pK false yX3_climb cX3_climb 6 none RX3 ({ frames := 1, cells := 0, slots := 0, locals := 22 }) K 0 0 ct1 6 [(5, .int v5_6), (4, .int v4_6), (0, .ref kc), (1, .int v), (2, .int mo), (3, .int bi)] [] := by
    intro n6
    induction n6 with
    | zero =>
      intro v5_6 v4_6 ct1 hn6 b5_6 hI
      exact absurd hn6 (Nat.not_lt_zero _)
    | succ n6 ih6 =>
      intro v5_6 v4_6 ct1 hn6 b5_6 hI
      refine dv_iload dX3_climb_6 0 rfl ?_
      refine dv_bipush (v := 32) dX3_climb_8 (by decide) ?_
      refine dv_icmp_ge (tgt := 61) dX3_climb_10 (by decide) (fun c2 => ?_) (fun c2 => ?_)
      · skip
        have c2 : 32 ≤ v5_6.toInt := (z_le (by decide : (32 : Int32).toInt = 32) rfl).mp c2
        exact dv_vret dX3_climb_61 rfl (by first | exact Nat.zero_le _ | decide) (by first | exact Nat.zero_le _ | decide) (by subst hK; exact ⟨rfl, hI⟩)
      · skip
        have c2 : ¬ (32 ≤ v5_6.toInt) := fun q => c2 ((z_le (by decide : (32 : Int32).toInt = 32) rfl).mpr q)
        refine dv_iload dX3_climb_13 1 rfl ?_
        refine dv_iconst (v := 0) dX3_climb_15 (by decide) ?_
        refine dv_bipush (v := 31) dX3_climb_16 (by decide) ?_
        refine GW.callSN (n := 3) (As := [.int v4_6, .int 0, .int 31]) (rest := []) (k_X8_within l g pe ct1 v4_6 (0 : Int32) (31 : Int32) hI) (fun _ h => Bool.noConfusion h) rfl rfl 7 rfl mm_356 mm_52 mm_357 (by decide +kernel) ⟨Nat.le_of_ble_eq_true rfl, Nat.le_of_ble_eq_true rfl⟩ rfl (Nat.le_of_ble_eq_true rfl) dX3_climb_18 (Nat.zero_le _) (Nat.zero_le _) rfl (fun ct3 rrr4 hBr4 hoff5 => ?_)
        obtain ⟨r4, rfl, hr4, rfl⟩ := hBr4
        refine GW.eq (S2 := [.int r4]) rfl rfl rfl ?_
        rcases hr4 with hr4 | hr4
        · skip
          obtain ⟨rfl, h6, h7⟩ := hr4
          have h6 : (0 : Int) ≤ v4_6.toInt := h6
          have h7 : v4_6.toInt ≤ (31 : Int) := h7
          refine dv_if_eq (tgt := 61) dX3_climb_21 (by decide) (fun c8 => ?_) (fun c8 => ?_)
          · skip
            exact absurd c8 (by decide)
          · skip
            refine dv_aload_n dX3_climb_24 rfl 2 rfl ?_
            obtain ⟨we10, se11, h12, h13, hs9⟩ := a8_35 (kc := kc) (by omega) hI
            refine dv_get (ci := 3) (v := .ref (kc + 2)) (C := RX3) (T := TX3) (N := 6) ⟨by omega, pK_of (by omega)⟩ hs9 rfl inG3 2 (by decide) mm_261 rfl dX3_climb_25 ?_
            refine dv_iload dX3_climb_28 1 rfl ?_
            refine dv_dup2_11 dX3_climb_30 rfl rfl ?_
            obtain ⟨f15, hs14⟩ := a8_37 (kc := kc) (by omega) hI
            refine dv_iald 0 ⟨by omega, pK_of (by omega)⟩ hs14 rfl (z_in rfl (by omega) (by omega)) dX3_climb_31 ?_
            refine dv_topi (fun y16 ey16 => ?_)
            refine dv_iload_n dX3_climb_32 rfl 4 rfl ?_
            refine dv_iadd dX3_climb_33 ?_
            refine dv_topi (fun x17 ex17 => ?_)
            refine dv_iast 0 ⟨by omega, pK_of (by omega)⟩ hs14 rfl (z_in rfl (by omega) (by omega)) dX3_climb_34 (en := .inl (g.2 0, 33, .inl (upd f15 (Int32.toNatClampNeg v4_6) x17))) rfl (fun ct18 ec19 => ?_)
            have hI : Inv8 g idn pe ct18 := by rw [ec19]; exact up8 hI (i8_37 (kc := kc) (by omega) ⟨_, rfl⟩)
            have hs20 : ct18 kc = .inr (3, [.int we10, .ref (kc + 1), .ref (kc + 2), .ref (kc + 3), .ref (kc + 4), .int se11]) := by rw [ec19, va_up_ne _ _ (by omega)]; exact hs9
            have hs21 : ct18 (kc + 2) = .inl (g.2 0, 33, .inl (upd f15 (Int32.toNatClampNeg v4_6) x17)) := by rw [ec19]; exact va_up_self _ _ _
            refine dv_aload_n dX3_climb_35 rfl 2 rfl ?_
            refine dv_get (ci := 3) (v := .ref (kc + 3)) (C := RX3) (T := TX3) (N := 6) ⟨by omega, pK_of (by omega)⟩ hs20 rfl inG3 3 (by decide) mm_262 rfl dX3_climb_36 ?_
            refine dv_iload dX3_climb_39 1 rfl ?_
            refine dv_dup2_11 dX3_climb_41 rfl rfl ?_
            obtain ⟨f23, hs22⟩ := a8_38 (kc := kc) (by omega) hI
            refine dv_iald 0 ⟨by omega, pK_of (by omega)⟩ hs22 rfl (z_in rfl (by omega) (by omega)) dX3_climb_42 ?_
            refine dv_topi (fun y24 ey24 => ?_)
            refine dv_iload_n dX3_climb_43 rfl 5 rfl ?_
            refine dv_ior dX3_climb_44 ?_
            refine dv_topi (fun x25 ex25 => ?_)
            refine dv_iast 0 ⟨by omega, pK_of (by omega)⟩ hs22 rfl (z_in rfl (by omega) (by omega)) dX3_climb_45 (en := .inl (g.2 0, 33, .inl (upd f23 (Int32.toNatClampNeg v4_6) x25))) rfl (fun ct26 ec27 => ?_)
            have hI : Inv8 g idn pe ct26 := by rw [ec27]; exact up8 hI (i8_38 (kc := kc) (by omega) ⟨_, rfl⟩)
            have hs28 : ct26 kc = .inr (3, [.int we10, .ref (kc + 1), .ref (kc + 2), .ref (kc + 3), .ref (kc + 4), .int se11]) := by rw [ec27, va_up_ne _ _ (by omega)]; exact hs20
            have hs29 : ct26 (kc + 2) = .inl (g.2 0, 33, .inl (upd f15 (Int32.toNatClampNeg v4_6) x17)) := by rw [ec27, va_up_ne _ _ (by omega)]; exact hs21
            have hs30 : ct26 (kc + 3) = .inl (g.2 0, 33, .inl (upd f23 (Int32.toNatClampNeg v4_6) x25)) := by rw [ec27]; exact va_up_self _ _ _
            refine dv_aload_n dX3_climb_46 rfl 2 rfl ?_
            refine dv_get (ci := 3) (v := .ref (kc + 1)) (C := RX3) (T := TX3) (N := 6) ⟨by omega, pK_of (by omega)⟩ hs28 rfl inG3 1 (by decide) mm_260 rfl dX3_climb_47 ?_
            refine dv_iload dX3_climb_50 1 rfl ?_
            obtain ⟨f32, hs31⟩ := a8_36 (kc := kc) (by omega) hI
            refine dv_iald 0 ⟨by omega, pK_of (by omega)⟩ hs31 rfl (z_in rfl (by omega) (by omega)) dX3_climb_52 ?_
            refine dv_topi (fun y33 ey33 => ?_)
            refine dv_istore (lv' := [(4, .int y33), (5, .int v5_6), (0, .ref kc), (1, .int v), (2, .int mo), (3, .int bi)]) dX3_climb_53 (by decide) rfl ?_
            obtain ⟨x34, ex34⟩ : ∃ y : Int32, y = v5_6 + 1 := ⟨_, rfl⟩
            have tx34 : x34.toInt = v5_6.toInt + 1 := by rw [ex34]; exact z_add rfl (by decide : (1 : Int32).toInt = 1) (by omega) (by omega)
            refine dv_iinc (v := x34) (lv' := [(5, .int x34), (4, .int y33), (0, .ref kc), (1, .int v), (2, .int mo), (3, .int bi)]) dX3_climb_55 (k := 1) rfl (by rw [ex34]; rfl) (by decide) rfl ?_
            refine dv_goto (tgt := 6) dX3_climb_58 (by decide) ?_
            exact ih6 x34 y33 ct26 (by omega) (by first | omega | decide | assumption) hI
        · skip
          obtain ⟨rfl, h35⟩ := hr4
          have h35 : ¬ ((0 : Int) ≤ v4_6.toInt ∧ v4_6.toInt ≤ (31 : Int)) := h35
          refine dv_if_eq (tgt := 61) dX3_climb_21 (by decide) (fun c36 => ?_) (fun c36 => ?_)
          · skip
            exact dv_vret dX3_climb_61 rfl (by first | exact Nat.zero_le _ | decide) (by first | exact Nat.zero_le _ | decide) (by subst hK; exact ⟨rfl, hI⟩)
          · skip
            exact absurd c36 (by decide)
  exact loop6 ((32 - (0 : Int32).toInt : Int).toNat + 1) (0 : Int32) v ct (by omega) (by first | omega | decide | assumption) hI

set_option maxHeartbeats 4000000 in
set_option maxRecDepth 100000 in
theorem k_X3_hang (l : Launch) (g : zG) (pe : Int32) (ct : Nat → va_E) (kc : Nat) (nd : Int32) (up : Int32) (hf_kc : 35 ≤ kc ∧ kc < 55 ∧ (kc - 35) % 5 = 0) (hI : Inv8 g idn pe ct) : DM l g pK false yX3_hang cX3_hang 4 none ({ frames := 2, cells := 0, slots := 0, locals := 47 }) (fun (ct2 : Nat → va_E) (rr : Option Value) => rr = none ∧ Inv8 g idn pe ct2) ct [.ref kc, .int nd, .int up] := by
  refine DM.K (fun K hK => ?_)
  refine GW.met (own := RX3) (loc := [(0, .ref kc), (1, .int nd), (2, .int up)]) (by decide) rfl rfl (Nat.le_of_ble_eq_true rfl) ?_
  have hpe0 := hI.1
  have rg_nd := z_rng nd
  have rg_up := z_rng up
  refine dv_iload_n dX3_hang_0 rfl 1 rfl ?_
  refine dv_iconst (v := 0) dX3_hang_1 (by decide) ?_
  refine dv_bipush (v := 31) dX3_hang_2 (by decide) ?_
  refine GW.callSN (n := 3) (As := [.int nd, .int 0, .int 31]) (rest := []) (k_X8_within l g pe ct nd (0 : Int32) (31 : Int32) hI) (fun _ h => Bool.noConfusion h) rfl rfl 7 rfl mm_356 mm_52 mm_357 (by decide +kernel) ⟨Nat.le_of_ble_eq_true rfl, Nat.le_of_ble_eq_true rfl⟩ rfl (Nat.le_of_ble_eq_true rfl) dX3_hang_4 (Nat.zero_le _) (Nat.zero_le _) rfl (fun ct1 rrr2 hBr2 hoff3 => ?_)
  obtain ⟨r2, rfl, hr2, rfl⟩ := hBr2
  refine GW.eq (S2 := [.int r2]) rfl rfl rfl ?_
  rcases hr2 with hr2 | hr2
  · skip
    obtain ⟨rfl, h4, h5⟩ := hr2
    have h4 : (0 : Int) ≤ nd.toInt := h4
    have h5 : nd.toInt ≤ (31 : Int) := h5
    refine dv_if_ne (tgt := 11) dX3_hang_7 (by decide) (fun c6 => ?_) (fun c6 => ?_)
    · skip
      refine dv_aload_n dX3_hang_11 rfl 0 rfl ?_
      obtain ⟨we8, se9, h10, h11, hs7⟩ := a8_35 (kc := kc) (by omega) hI
      refine dv_get (ci := 3) (v := .ref (kc + 1)) (C := RX3) (T := TX3) (N := 6) ⟨by omega, pK_of (by omega)⟩ hs7 rfl inG3 1 (by decide) mm_260 rfl dX3_hang_12 ?_
      refine dv_iload_n dX3_hang_15 rfl 1 rfl ?_
      refine dv_iload_n dX3_hang_16 rfl 2 rfl ?_
      obtain ⟨f13, hs12⟩ := a8_36 (kc := kc) (by omega) hI
      refine dv_iast 0 ⟨by omega, pK_of (by omega)⟩ hs12 rfl (z_in rfl (by omega) (by omega)) dX3_hang_17 (en := .inl (g.2 0, 32, .inl (upd f13 (Int32.toNatClampNeg nd) up))) rfl (fun ct14 ec15 => ?_)
      have hI : Inv8 g idn pe ct14 := by rw [ec15]; exact up8 hI (i8_36 (kc := kc) (by omega) ⟨_, rfl⟩)
      have hs16 : ct14 kc = .inr (3, [.int we8, .ref (kc + 1), .ref (kc + 2), .ref (kc + 3), .ref (kc + 4), .int se9]) := by rw [ec15, va_up_ne _ _ (by omega)]; exact hs7
      have hs17 : ct14 (kc + 1) = .inl (g.2 0, 32, .inl (upd f13 (Int32.toNatClampNeg nd) up)) := by rw [ec15]; exact va_up_self _ _ _
      refine dv_iconst (v := 0) dX3_hang_18 (by decide) ?_
      refine dv_istore_n (lv' := [(3, .int 0), (0, .ref kc), (1, .int nd), (2, .int up)]) dX3_hang_19 rfl (by decide) rfl ?_
      have loop20 : ∀ (n20 : Nat) (v3_20 : Int32) (ct18 : Nat → va_E), ((32 - v3_20.toInt : Int).toNat < n20) → (0 ≤ v3_20.toInt ∧ v3_20.toInt ≤ 32) → (Inv8 g idn pe ct18) → GW l g pK pK false yX3_hang cX3_hang 4 none RX3 ({ frames := 2, cells := 0, slots := 0, locals := 47 }) K 0 0 ct18 20 [(3, .int v3_20), (0, .ref kc), (1, .int nd), (2, .int up)] [] := by
        intro n20
        induction n20 with
        | zero =>
          intro v3_20 ct18 hn20 b3_20 hI
          exact absurd hn20 (Nat.not_lt_zero _)
        | succ n20 ih20 =>
          intro v3_20 ct18 hn20 b3_20 hI
          refine dv_iload_n dX3_hang_20 rfl 0 rfl ?_
          refine dv_bipush (v := 32) dX3_hang_21 (by decide) ?_
          refine dv_icmp_ge (tgt := 46) dX3_hang_23 (by decide) (fun c19 => ?_) (fun c19 => ?_)
          · skip
            have c19 : 32 ≤ v3_20.toInt := (z_le (by decide : (32 : Int32).toInt = 32) rfl).mp c19
            refine dv_iconst (v := 0) dX3_hang_46 (by decide) ?_
            refine dv_istore_n (lv' := [(3, .int 0), (0, .ref kc), (1, .int nd), (2, .int up)]) dX3_hang_47 rfl (by decide) rfl ?_
            have loop48 : ∀ (n48 : Nat) (v3_48 : Int32) (ct20 : Nat → va_E), ((16 - v3_48.toInt : Int).toNat < n48) → (0 ≤ v3_48.toInt ∧ v3_48.toInt ≤ 16) → (Inv8 g idn pe ct20) → GW l g pK pK false yX3_hang cX3_hang 4 none RX3 ({ frames := 2, cells := 0, slots := 0, locals := 47 }) K 0 0 ct20 48 [(3, .int v3_48), (0, .ref kc), (1, .int nd), (2, .int up)] [] := by
              intro n48
              induction n48 with
              | zero =>
                intro v3_48 ct20 hn48 b3_48 hI
                exact absurd hn48 (Nat.not_lt_zero _)
              | succ n48 ih48 =>
                intro v3_48 ct20 hn48 b3_48 hI
                refine dv_iload_n dX3_hang_48 rfl 0 rfl ?_
                refine dv_bipush (v := 16) dX3_hang_49 (by decide) ?_
                refine dv_icmp_ge (tgt := 67) dX3_hang_51 (by decide) (fun c21 => ?_) (fun c21 => ?_)
                · skip
                  have c21 : 16 ≤ v3_48.toInt := (z_le (by decide : (16 : Int32).toInt = 16) rfl).mp c21
                  refine dv_iconst (v := 0) dX3_hang_67 (by decide) ?_
                  refine dv_istore_n (lv' := [(3, .int 0), (0, .ref kc), (1, .int nd), (2, .int up)]) dX3_hang_68 rfl (by decide) rfl ?_
                  have loop69 : ∀ (n69 : Nat) (v3_69 : Int32) (ct22 : Nat → va_E), ((16 - v3_69.toInt : Int).toNat < n69) → (0 ≤ v3_69.toInt ∧ v3_69.toInt ≤ 16) → (Inv8 g idn pe ct22) → GW l g pK pK false yX3_hang cX3_hang 4 none RX3 ({ frames := 2, cells := 0, slots := 0, locals := 47 }) K 0 0 ct22 69 [(3, .int v3_69), (0, .ref kc), (1, .int nd), (2, .int up)] [] := by
                    intro n69
                    induction n69 with
                    | zero =>
                      intro v3_69 ct22 hn69 b3_69 hI
                      exact absurd hn69 (Nat.not_lt_zero _)
                    | succ n69 ih69 =>
                      intro v3_69 ct22 hn69 b3_69 hI
                      refine dv_iload_n dX3_hang_69 rfl 0 rfl ?_
                      refine dv_aload_n dX3_hang_70 rfl 1 rfl ?_
                      obtain ⟨we24, se25, h26, h27, hs23⟩ := a8_35 (kc := kc) (by omega) hI
                      refine dv_get (ci := 3) (v := .int se25) (C := RX3) (T := TX3) (N := 6) ⟨by omega, pK_of (by omega)⟩ hs23 rfl inG3 5 (by decide) mm_264 rfl dX3_hang_71 ?_
                      refine dv_icmp_ge (tgt := 97) dX3_hang_74 (by decide) (fun c28 => ?_) (fun c28 => ?_)
                      · skip
                        have c28 : se25.toInt ≤ v3_69.toInt := (z_le rfl rfl).mp c28
                        exact dv_vret dX3_hang_97 rfl (by first | exact Nat.zero_le _ | decide) (by first | exact Nat.zero_le _ | decide) (by subst hK; exact ⟨rfl, hI⟩)
                      · skip
                        have c28 : ¬ (se25.toInt ≤ v3_69.toInt) := fun q => c28 ((z_le rfl rfl).mpr q)
                        refine dv_aload_n dX3_hang_77 rfl 1 rfl ?_
                        refine dv_aload_n dX3_hang_78 rfl 1 rfl ?_
                        refine dv_get (ci := 3) (v := .ref (kc + 4)) (C := RX3) (T := TX3) (N := 6) ⟨by omega, pK_of (by omega)⟩ hs23 rfl inG3 4 (by decide) mm_263 rfl dX3_hang_79 ?_
                        refine dv_iload_n dX3_hang_82 rfl 0 rfl ?_
                        obtain ⟨f30, hs29⟩ := a8_39 (kc := kc) (by omega) hI
                        refine dv_iald 0 ⟨by omega, pK_of (by omega)⟩ hs29 rfl (z_in rfl (by omega) (by omega)) dX3_hang_83 ?_
                        refine dv_topi (fun y31 ey31 => ?_)
                        refine dv_iconst (v := 0) dX3_hang_84 (by decide) ?_
                        refine dv_iconst (v := 1) dX3_hang_85 (by decide) ?_
                        refine dv_iload_n dX3_hang_86 rfl 0 rfl ?_
                        refine dv_ishl dX3_hang_87 ?_
                        refine dv_topi (fun x32 ex32 => ?_)
                        have tx32 := z_shl1 (y := v3_69) rfl (by omega) (k := 15) (by decide) (by omega)
                        rw [← ex32] at tx32
                        refine GW.callV (n := 3) (As := [.int y31, .int 0, .int x32]) (rest := []) (b := kc) (k_X3_climb l g pe ct22 kc y31 (0 : Int32) x32 (by omega) hI) (fun _ h => h) rfl rfl ⟨by omega, pK_of (by omega)⟩ hs23 (q := (RX3, TX3, 6)) rfl mm_552 mm_554 mm_17 mm_59 mm_555 (by decide +kernel) ⟨Nat.le_of_ble_eq_true rfl, Nat.le_of_ble_eq_true rfl⟩ rfl (Nat.le_of_ble_eq_true rfl) dX3_hang_88 (Nat.zero_le _) (Nat.zero_le _) rfl (fun ct33 rrr34 hBr34 hoff35 => ?_)
                        obtain ⟨rfl, hI⟩ := hBr34
                        refine GW.eq (S2 := []) rfl rfl rfl ?_
                        obtain ⟨x36, ex36⟩ : ∃ y : Int32, y = v3_69 + 1 := ⟨_, rfl⟩
                        have tx36 : x36.toInt = v3_69.toInt + 1 := by rw [ex36]; exact z_add rfl (by decide : (1 : Int32).toInt = 1) (by omega) (by omega)
                        refine dv_iinc (v := x36) (lv' := [(3, .int x36), (0, .ref kc), (1, .int nd), (2, .int up)]) dX3_hang_91 (k := 0) rfl (by rw [ex36]; rfl) (by decide) rfl ?_
                        refine dv_goto (tgt := 69) dX3_hang_94 (by decide) ?_
                        exact ih69 x36 ct33 (by omega) (by first | omega | decide | assumption) hI
                  exact loop69 ((16 - (0 : Int32).toInt : Int).toNat + 1) (0 : Int32) ct20 (by omega) (by first | omega | decide | assumption) hI
                · skip
                  have c21 : ¬ (16 ≤ v3_48.toInt) := fun q => c21 ((z_le (by decide : (16 : Int32).toInt = 16) rfl).mpr q)
                  refine dv_aload_n dX3_hang_54 rfl 1 rfl ?_
                  refine dv_iload_n dX3_hang_55 rfl 0 rfl ?_
                  refine dv_iconst (v := 1) dX3_hang_56 (by decide) ?_
                  refine dv_iconst (v := 0) dX3_hang_57 (by decide) ?_
                  obtain ⟨we39, se40, h41, h42, hs38⟩ := a8_35 (kc := kc) (by omega) hI
                  refine GW.callV (n := 3) (As := [.int v3_48, .int 1, .int 0]) (rest := []) (b := kc) (k_X3_climb l g pe ct20 kc v3_48 (1 : Int32) (0 : Int32) (by omega) hI) (fun _ h => h) rfl rfl ⟨by omega, pK_of (by omega)⟩ hs38 (q := (RX3, TX3, 6)) rfl mm_552 mm_554 mm_17 mm_59 mm_555 (by decide +kernel) ⟨Nat.le_of_ble_eq_true rfl, Nat.le_of_ble_eq_true rfl⟩ rfl (Nat.le_of_ble_eq_true rfl) dX3_hang_58 (Nat.zero_le _) (Nat.zero_le _) rfl (fun ct37 rrr43 hBr43 hoff44 => ?_)
                  obtain ⟨rfl, hI⟩ := hBr43
                  refine GW.eq (S2 := []) rfl rfl rfl ?_
                  obtain ⟨x45, ex45⟩ : ∃ y : Int32, y = v3_48 + 1 := ⟨_, rfl⟩
                  have tx45 : x45.toInt = v3_48.toInt + 1 := by rw [ex45]; exact z_add rfl (by decide : (1 : Int32).toInt = 1) (by omega) (by omega)
                  refine dv_iinc (v := x45) (lv' := [(3, .int x45), (0, .ref kc), (1, .int nd), (2, .int up)]) dX3_hang_61 (k := 0) rfl (by rw [ex45]; rfl) (by decide) rfl ?_
                  refine dv_goto (tgt := 48) dX3_hang_64 (by decide) ?_
                  exact ih48 x45 ct37 (by omega) (by first | omega | decide | assumption) hI
            exact loop48 ((16 - (0 : Int32).toInt : Int).toNat + 1) (0 : Int32) ct18 (by omega) (by first | omega | decide | assumption) hI
          · skip
            have c19 : ¬ (32 ≤ v3_20.toInt) := fun q => c19 ((z_le (by decide : (32 : Int32).toInt = 32) rfl).mpr q)
            refine dv_aload_n dX3_hang_26 rfl 1 rfl ?_
            obtain ⟨we47, se48, h49, h50, hs46⟩ := a8_35 (kc := kc) (by omega) hI
            refine dv_get (ci := 3) (v := .ref (kc + 2)) (C := RX3) (T := TX3) (N := 6) ⟨by omega, pK_of (by omega)⟩ hs46 rfl inG3 2 (by decide) mm_261 rfl dX3_hang_27 ?_
            refine dv_iload_n dX3_hang_30 rfl 0 rfl ?_
            refine dv_iconst (v := 0) dX3_hang_31 (by decide) ?_
            obtain ⟨f52, hs51⟩ := a8_37 (kc := kc) (by omega) hI
            refine dv_iast 0 ⟨by omega, pK_of (by omega)⟩ hs51 rfl (z_in rfl (by omega) (by omega)) dX3_hang_32 (en := .inl (g.2 0, 33, .inl (upd f52 (Int32.toNatClampNeg v3_20) 0))) rfl (fun ct53 ec54 => ?_)
            have hI : Inv8 g idn pe ct53 := by rw [ec54]; exact up8 hI (i8_37 (kc := kc) (by omega) ⟨_, rfl⟩)
            have hs55 : ct53 kc = .inr (3, [.int we47, .ref (kc + 1), .ref (kc + 2), .ref (kc + 3), .ref (kc + 4), .int se48]) := by rw [ec54, va_up_ne _ _ (by omega)]; exact hs46
            have hs56 : ct53 (kc + 2) = .inl (g.2 0, 33, .inl (upd f52 (Int32.toNatClampNeg v3_20) 0)) := by rw [ec54]; exact va_up_self _ _ _
            refine dv_aload_n dX3_hang_33 rfl 1 rfl ?_
            refine dv_get (ci := 3) (v := .ref (kc + 3)) (C := RX3) (T := TX3) (N := 6) ⟨by omega, pK_of (by omega)⟩ hs55 rfl inG3 3 (by decide) mm_262 rfl dX3_hang_34 ?_
            refine dv_iload_n dX3_hang_37 rfl 0 rfl ?_
            refine dv_iconst (v := 0) dX3_hang_38 (by decide) ?_
            obtain ⟨f58, hs57⟩ := a8_38 (kc := kc) (by omega) hI
            refine dv_iast 0 ⟨by omega, pK_of (by omega)⟩ hs57 rfl (z_in rfl (by omega) (by omega)) dX3_hang_39 (en := .inl (g.2 0, 33, .inl (upd f58 (Int32.toNatClampNeg v3_20) 0))) rfl (fun ct59 ec60 => ?_)
            have hI : Inv8 g idn pe ct59 := by rw [ec60]; exact up8 hI (i8_38 (kc := kc) (by omega) ⟨_, rfl⟩)
            have hs61 : ct59 kc = .inr (3, [.int we47, .ref (kc + 1), .ref (kc + 2), .ref (kc + 3), .ref (kc + 4), .int se48]) := by rw [ec60, va_up_ne _ _ (by omega)]; exact hs55
            have hs62 : ct59 (kc + 2) = .inl (g.2 0, 33, .inl (upd f52 (Int32.toNatClampNeg v3_20) 0)) := by rw [ec60, va_up_ne _ _ (by omega)]; exact hs56
            have hs63 : ct59 (kc + 3) = .inl (g.2 0, 33, .inl (upd f58 (Int32.toNatClampNeg v3_20) 0)) := by rw [ec60]; exact va_up_self _ _ _
            obtain ⟨x64, ex64⟩ : ∃ y : Int32, y = v3_20 + 1 := ⟨_, rfl⟩
            have tx64 : x64.toInt = v3_20.toInt + 1 := by rw [ex64]; exact z_add rfl (by decide : (1 : Int32).toInt = 1) (by omega) (by omega)
            refine dv_iinc (v := x64) (lv' := [(3, .int x64), (0, .ref kc), (1, .int nd), (2, .int up)]) dX3_hang_40 (k := 0) rfl (by rw [ex64]; rfl) (by decide) rfl ?_
            refine dv_goto (tgt := 20) dX3_hang_43 (by decide) ?_
            exact ih20 x64 ct59 (by omega) (by first | omega | decide | assumption) hI
      exact loop20 ((32 - (0 : Int32).toInt : Int).toNat + 1) (0 : Int32) ct14 (by omega) (by first | omega | decide | assumption) hI
    · skip
      exact absurd c6 (by decide)
  · skip
    obtain ⟨rfl, h65⟩ := hr2
    have h65 : ¬ ((0 : Int) ≤ nd.toInt ∧ nd.toInt ≤ (31 : Int)) := h65
    refine dv_if_ne (tgt := 11) dX3_hang_7 (by decide) (fun c66 => ?_) (fun c66 => ?_)
    · skip
      exact absurd c66 (by decide)
    · skip
      exact dv_vret dX3_hang_10 rfl (by first | exact Nat.zero_le _ | decide) (by first | exact Nat.zero_le _ | decide) (by subst hK; exact ⟨rfl, hI⟩)

set_option maxHeartbeats 4000000 in
set_option maxRecDepth 100000 in
theorem k_X3_settle (l : Launch) (g : zG) (pe : Int32) (ct : Nat → va_E) (kc : Nat) (p0 : Int32) (v : Int32) (hf_kc : 35 ≤ kc ∧ kc < 55 ∧ (kc - 35) % 5 = 0) (hI : Inv8 g idn pe ct) : DM l g pK false yX3_settle cX3_settle 3 none ({ frames := 2, cells := 0, slots := 0, locals := 47 }) (fun (ct2 : Nat → va_E) (rr : Option Value) => rr = none ∧ Inv8 g idn pe ct2) ct [.ref kc, .int p0, .int v] := by
  refine DM.K (fun K hK => ?_)
  refine GW.met (own := RX3) (loc := [(0, .ref kc), (1, .int p0), (2, .int v)]) (by decide) rfl rfl (Nat.le_of_ble_eq_true rfl) ?_
  have hpe0 := hI.1
  have rg_p0 := z_rng p0
  have rg_v := z_rng v
  refine dv_iload_n dX3_settle_0 rfl 1 rfl ?_
  refine dv_iconst (v := 0) dX3_settle_1 (by decide) ?_
  refine dv_bipush (v := 15) dX3_settle_2 (by decide) ?_
  refine GW.callSN (n := 3) (As := [.int p0, .int 0, .int 15]) (rest := []) (k_X8_within l g pe ct p0 (0 : Int32) (15 : Int32) hI) (fun _ h => Bool.noConfusion h) rfl rfl 7 rfl mm_356 mm_52 mm_357 (by decide +kernel) ⟨Nat.le_of_ble_eq_true rfl, Nat.le_of_ble_eq_true rfl⟩ rfl (Nat.le_of_ble_eq_true rfl) dX3_settle_4 (Nat.zero_le _) (Nat.zero_le _) rfl (fun ct1 rrr2 hBr2 hoff3 => ?_)
  obtain ⟨r2, rfl, hr2, rfl⟩ := hBr2
  refine GW.eq (S2 := [.int r2]) rfl rfl rfl ?_
  rcases hr2 with hr2 | hr2
  · skip
    obtain ⟨rfl, h4, h5⟩ := hr2
    have h4 : (0 : Int) ≤ p0.toInt := h4
    have h5 : p0.toInt ≤ (15 : Int) := h5
    refine dv_if_eq (tgt := 53) dX3_settle_7 (by decide) (fun c6 => ?_) (fun c6 => ?_)
    · skip
      exact absurd c6 (by decide)
    · skip
      refine dv_iload_n dX3_settle_10 rfl 2 rfl ?_
      refine GW.callSN (n := 1) (As := [.int v]) (rest := []) (k_X8_isValue l g pe ct v hI) (fun _ h => Bool.noConfusion h) rfl rfl 8 rfl mm_565 mm_52 mm_566 (by decide +kernel) ⟨Nat.le_of_ble_eq_true rfl, Nat.le_of_ble_eq_true rfl⟩ rfl (Nat.le_of_ble_eq_true rfl) dX3_settle_11 (Nat.zero_le _) (Nat.zero_le _) rfl (fun ct7 rrr8 hBr8 hoff9 => ?_)
      obtain ⟨r8, rfl, hr8, rfl⟩ := hBr8
      refine GW.eq (S2 := [.int r8]) rfl rfl rfl ?_
      rcases hr8 with hr8 | hr8
      · skip
        obtain ⟨rfl, h10, h11⟩ := hr8
        have h10 : 0 ≤ v.toInt := h10
        have h11 : v.toInt ≤ 15 := h11
        refine dv_if_eq (tgt := 53) dX3_settle_14 (by decide) (fun c12 => ?_) (fun c12 => ?_)
        · skip
          exact absurd c12 (by decide)
        · skip
          refine dv_aload_n dX3_settle_17 rfl 0 rfl ?_
          obtain ⟨we14, se15, h16, h17, hs13⟩ := a8_35 (kc := kc) (by omega) hI
          refine dv_get (ci := 3) (v := .ref (kc + 4)) (C := RX3) (T := TX3) (N := 6) ⟨by omega, pK_of (by omega)⟩ hs13 rfl inG3 4 (by decide) mm_263 rfl dX3_settle_18 ?_
          refine dv_iload_n dX3_settle_21 rfl 1 rfl ?_
          refine dv_iload_n dX3_settle_22 rfl 2 rfl ?_
          obtain ⟨f19, hs18⟩ := a8_39 (kc := kc) (by omega) hI
          refine dv_iast 0 ⟨by omega, pK_of (by omega)⟩ hs18 rfl (z_in rfl (by omega) (by omega)) dX3_settle_23 (en := .inl (g.2 0, 16, .inl (upd f19 (Int32.toNatClampNeg p0) v))) rfl (fun ct20 ec21 => ?_)
          have hI : Inv8 g idn pe ct20 := by rw [ec21]; exact up8 hI (i8_39 (kc := kc) (by omega) ⟨_, rfl⟩)
          have hs22 : ct20 kc = .inr (3, [.int we14, .ref (kc + 1), .ref (kc + 2), .ref (kc + 3), .ref (kc + 4), .int se15]) := by rw [ec21, va_up_ne _ _ (by omega)]; exact hs13
          have hs23 : ct20 (kc + 4) = .inl (g.2 0, 16, .inl (upd f19 (Int32.toNatClampNeg p0) v)) := by rw [ec21]; exact va_up_self _ _ _
          refine dv_aload_n dX3_settle_24 rfl 0 rfl ?_
          refine dv_iload_n dX3_settle_25 rfl 1 rfl ?_
          refine dv_iconst (v := 1) dX3_settle_26 (by decide) ?_
          refine dv_iadd dX3_settle_27 ?_
          refine dv_topi (fun x24 ex24 => ?_)
          have tx24 : x24.toInt = p0.toInt + 1 := by rw [ex24]; exact z_add rfl (by decide : (1 : Int32).toInt = 1) (by omega) (by omega)
          refine dv_put (ci := 3) (v := .int x24) (ty := .int) (C := RX3) (T := TX3) (N := 6) ⟨by omega, pK_of (by omega)⟩ hs22 rfl inG3 tyX3 tyX3_ok nmX3 5 (by decide) mm_264 rfl (by decide +kernel) (fun _ => rfl) (fun _ => rfl) (Nat.le_of_ble_eq_true rfl) dX3_settle_28 (en := .inr (3, [.int we14, .ref (kc + 1), .ref (kc + 2), .ref (kc + 3), .ref (kc + 4), .int x24])) rfl (fun ct25 ec26 => ?_)
          have hI : Inv8 g idn pe ct25 := by rw [ec26]; exact up8 hI (i8_35 (kc := kc) (by omega) ⟨(we14 : Int32), (x24 : Int32), (by first | omega | decide), (by first | omega | decide), rfl⟩)
          have hs27 : ct25 (kc + 4) = .inl (g.2 0, 16, .inl (upd f19 (Int32.toNatClampNeg p0) v)) := by rw [ec26, va_up_ne _ _ (by omega)]; exact hs23
          have hs28 : ct25 kc = .inr (3, [.int we14, .ref (kc + 1), .ref (kc + 2), .ref (kc + 3), .ref (kc + 4), .int x24]) := by rw [ec26]; exact va_up_self _ _ _
          refine dv_aload_n dX3_settle_31 rfl 0 rfl ?_
          refine dv_iload_n dX3_settle_32 rfl 2 rfl ?_
          refine dv_iconst (v := 0) dX3_settle_33 (by decide) ?_
          refine dv_iconst (v := 1) dX3_settle_34 (by decide) ?_
          refine dv_iload_n dX3_settle_35 rfl 1 rfl ?_
          refine dv_ishl dX3_settle_36 ?_
          refine dv_topi (fun x29 ex29 => ?_)
          have tx29 := z_shl1 (y := p0) rfl (by omega) (k := 15) (by decide) (by omega)
          rw [← ex29] at tx29
          refine GW.callV (n := 3) (As := [.int v, .int 0, .int x29]) (rest := []) (b := kc) (k_X3_climb l g pe ct25 kc v (0 : Int32) x29 (by omega) hI) (fun _ h => h) rfl rfl ⟨by omega, pK_of (by omega)⟩ hs28 (q := (RX3, TX3, 6)) rfl mm_552 mm_554 mm_17 mm_59 mm_555 (by decide +kernel) ⟨Nat.le_of_ble_eq_true rfl, Nat.le_of_ble_eq_true rfl⟩ rfl (Nat.le_of_ble_eq_true rfl) dX3_settle_37 (Nat.zero_le _) (Nat.zero_le _) rfl (fun ct30 rrr31 hBr31 hoff32 => ?_)
          obtain ⟨rfl, hI⟩ := hBr31
          refine GW.eq (S2 := []) rfl rfl rfl ?_
          refine dv_aload_n dX3_settle_40 rfl 0 rfl ?_
          obtain ⟨we34, se35, h36, h37, hs33⟩ := a8_35 (kc := kc) (by omega) hI
          refine dv_get (ci := 3) (v := .ref (kc + 3)) (C := RX3) (T := TX3) (N := 6) ⟨by omega, pK_of (by omega)⟩ hs33 rfl inG3 3 (by decide) mm_262 rfl dX3_settle_41 ?_
          refine dv_bipush (v := 32) dX3_settle_44 (by decide) ?_
          refine dv_dup2_11 dX3_settle_46 rfl rfl ?_
          obtain ⟨f39, hs38⟩ := a8_38 (kc := kc) (by omega) hI
          refine dv_iald 0 ⟨by omega, pK_of (by omega)⟩ hs38 rfl (z_in (by decide : (32 : Int32).toInt = 32) (by omega) (by omega)) dX3_settle_47 ?_
          refine dv_topi (fun y40 ey40 => ?_)
          refine dv_iconst (v := 1) dX3_settle_48 (by decide) ?_
          refine dv_iload_n dX3_settle_49 rfl 1 rfl ?_
          refine dv_ishl dX3_settle_50 ?_
          refine dv_topi (fun x41 ex41 => ?_)
          have tx41 := z_shl1 (y := p0) rfl (by omega) (k := 15) (by decide) (by omega)
          rw [← ex41] at tx41
          refine dv_ior dX3_settle_51 ?_
          refine dv_topi (fun x42 ex42 => ?_)
          refine dv_iast 0 ⟨by omega, pK_of (by omega)⟩ hs38 rfl (z_in (by decide : (32 : Int32).toInt = 32) (by omega) (by omega)) dX3_settle_52 (en := .inl (g.2 0, 33, .inl (upd f39 (Int32.toNatClampNeg 32) x42))) rfl (fun ct43 ec44 => ?_)
          have hI : Inv8 g idn pe ct43 := by rw [ec44]; exact up8 hI (i8_38 (kc := kc) (by omega) ⟨_, rfl⟩)
          have hs45 : ct43 kc = .inr (3, [.int we34, .ref (kc + 1), .ref (kc + 2), .ref (kc + 3), .ref (kc + 4), .int se35]) := by rw [ec44, va_up_ne _ _ (by omega)]; exact hs33
          have hs46 : ct43 (kc + 3) = .inl (g.2 0, 33, .inl (upd f39 (Int32.toNatClampNeg 32) x42)) := by rw [ec44]; exact va_up_self _ _ _
          exact dv_vret dX3_settle_53 rfl (by first | exact Nat.zero_le _ | decide) (by first | exact Nat.zero_le _ | decide) (by subst hK; exact ⟨rfl, hI⟩)
      · skip
        obtain ⟨rfl, h47⟩ := hr8
        have h47 : ¬ (0 ≤ v.toInt ∧ v.toInt ≤ 15) := h47
        refine dv_if_eq (tgt := 53) dX3_settle_14 (by decide) (fun c48 => ?_) (fun c48 => ?_)
        · skip
          exact dv_vret dX3_settle_53 rfl (by first | exact Nat.zero_le _ | decide) (by first | exact Nat.zero_le _ | decide) (by subst hK; exact ⟨rfl, hI⟩)
        · skip
          exact absurd c48 (by decide)
  · skip
    obtain ⟨rfl, h49⟩ := hr2
    have h49 : ¬ ((0 : Int) ≤ p0.toInt ∧ p0.toInt ≤ (15 : Int)) := h49
    refine dv_if_eq (tgt := 53) dX3_settle_7 (by decide) (fun c50 => ?_) (fun c50 => ?_)
    · skip
      exact dv_vret dX3_settle_53 rfl (by first | exact Nat.zero_le _ | decide) (by first | exact Nat.zero_le _ | decide) (by subst hK; exact ⟨rfl, hI⟩)
    · skip
      exact absurd c50 (by decide)

set_option maxHeartbeats 4000000 in
set_option maxRecDepth 100000 in
theorem k_X3_raised (l : Launch) (g : zG) (pe : Int32) (ct : Nat → va_E) (kc : Nat) (v : Int32) (n : Int32) (hf_kc : 35 ≤ kc ∧ kc < 55 ∧ (kc - 35) % 5 = 0) (hI : Inv8 g idn pe ct) : DM l g pK false yX3_raised cX3_raised 5 (some .int) ({ frames := 1, cells := 0, slots := 0, locals := 22 }) (fun (ct2 : Nat → va_E) (rr : Option Value) => ∃ (r : Int32), rr = some (.int r) ∧ ((True)) ∧ ct = ct2) ct [.ref kc, .int v, .int n] := by
  refine DM.K (fun K hK => ?_)
  refine GW.met (own := RX3) (loc := [(0, .ref kc), (1, .int v), (2, .int n)]) (by decide) rfl rfl (Nat.le_of_ble_eq_true rfl) ?_
  have hpe0 := hI.1
  have rg_v := z_rng v
  have rg_n := z_rng n
  refine dv_iload_n dX3_raised_0 rfl 1 rfl ?_
  refine dv_istore_n (lv' := [(3, .int v), (0, .ref kc), (1, .int v), (2, .int n)]) dX3_raised_1 rfl (by decide) rfl ?_
  refine dv_iconst (v := 0) dX3_raised_2 (by decide) ?_
  refine dv_istore (lv' := [(4, .int 0), (3, .int v), (0, .ref kc), (1, .int v), (2, .int n)]) dX3_raised_3 (by decide) rfl ?_
  have loop5 : ∀ (n5 : Nat) (v4_5 : Int32) (v3_5 : Int32), ((n.toInt - v4_5.toInt : Int).toNat < n5) → (0 ≤ v4_5.toInt ∧ v4_5.toInt ≤ 2147483647) → GW l g pK pK false yX3_raised cX3_raised 5 (some .int) RX3 ({ frames := 1, cells := 0, slots := 0, locals := 22 }) K 0 0 ct 5 [(4, .int v4_5), (3, .int v3_5), (0, .ref kc), (1, .int v), (2, .int n)] [] := by
    intro n5
    induction n5 with
    | zero =>
      intro v4_5 v3_5 hn5 b4_5
      exact absurd hn5 (Nat.not_lt_zero _)
    | succ n5 ih5 =>
      intro v4_5 v3_5 hn5 b4_5
      refine dv_iload dX3_raised_5 0 rfl ?_
      refine dv_iload_n dX3_raised_7 rfl 4 rfl ?_
      refine dv_icmp_ge (tgt := 49) dX3_raised_8 (by decide) (fun c1 => ?_) (fun c1 => ?_)
      · skip
        have c1 : n.toInt ≤ v4_5.toInt := (z_le rfl rfl).mp c1
        refine dv_iload_n dX3_raised_49 rfl 1 rfl ?_
        exact dv_iret dX3_raised_50 rfl (by first | exact Nat.zero_le _ | decide) (by first | exact Nat.zero_le _ | decide) (by subst hK; exact ⟨v3_5, rfl, (trivial), rfl⟩)
      · skip
        have c1 : ¬ (n.toInt ≤ v4_5.toInt) := fun q => c1 ((z_le rfl rfl).mpr q)
        refine dv_iload_n dX3_raised_11 rfl 1 rfl ?_
        refine dv_iconst (v := 0) dX3_raised_12 (by decide) ?_
        refine dv_bipush (v := 31) dX3_raised_13 (by decide) ?_
        refine GW.callSN (n := 3) (As := [.int v3_5, .int 0, .int 31]) (rest := []) (k_X8_within l g pe ct v3_5 (0 : Int32) (31 : Int32) hI) (fun _ h => Bool.noConfusion h) rfl rfl 7 rfl mm_356 mm_52 mm_357 (by decide +kernel) ⟨Nat.le_of_ble_eq_true rfl, Nat.le_of_ble_eq_true rfl⟩ rfl (Nat.le_of_ble_eq_true rfl) dX3_raised_15 (Nat.zero_le _) (Nat.zero_le _) rfl (fun ct2 rrr3 hBr3 hoff4 => ?_)
        obtain ⟨r3, rfl, hr3, rfl⟩ := hBr3
        refine GW.eq (S2 := [.int r3]) rfl rfl rfl ?_
        rcases hr3 with hr3 | hr3
        · skip
          obtain ⟨rfl, h5, h6⟩ := hr3
          have h5 : (0 : Int) ≤ v3_5.toInt := h5
          have h6 : v3_5.toInt ≤ (31 : Int) := h6
          refine dv_if_eq (tgt := 49) dX3_raised_18 (by decide) (fun c7 => ?_) (fun c7 => ?_)
          · skip
            exact absurd c7 (by decide)
          · skip
            refine dv_aload_n dX3_raised_21 rfl 2 rfl ?_
            obtain ⟨we9, se10, h11, h12, hs8⟩ := a8_35 (kc := kc) (by omega) hI
            refine dv_get (ci := 3) (v := .ref (kc + 1)) (C := RX3) (T := TX3) (N := 6) ⟨by omega, pK_of (by omega)⟩ hs8 rfl inG3 1 (by decide) mm_260 rfl dX3_raised_22 ?_
            refine dv_iload_n dX3_raised_25 rfl 1 rfl ?_
            obtain ⟨f14, hs13⟩ := a8_36 (kc := kc) (by omega) hI
            refine dv_iald 0 ⟨by omega, pK_of (by omega)⟩ hs13 rfl (z_in rfl (by omega) (by omega)) dX3_raised_26 ?_
            refine dv_topi (fun y15 ey15 => ?_)
            refine dv_iconst (v := (-1)) dX3_raised_27 (by decide) ?_
            refine dv_icmp_ne (tgt := 36) dX3_raised_28 (by decide) (fun c16 => ?_) (fun c16 => ?_)
            · skip
              have c16 : ¬ (y15.toInt = (-1)) := fun q => c16 ((z_eq rfl (by decide : ((-1) : Int32).toInt = (-1))).mpr q)
              refine dv_aload_n dX3_raised_36 rfl 2 rfl ?_
              refine dv_get (ci := 3) (v := .ref (kc + 1)) (C := RX3) (T := TX3) (N := 6) ⟨by omega, pK_of (by omega)⟩ hs8 rfl inG3 1 (by decide) mm_260 rfl dX3_raised_37 ?_
              refine dv_iload_n dX3_raised_40 rfl 1 rfl ?_
              refine dv_iald 0 ⟨by omega, pK_of (by omega)⟩ hs13 rfl (z_in rfl (by omega) (by omega)) dX3_raised_41 ?_
              refine dv_topi (fun y17 ey17 => ?_)
              refine dv_istore_n (lv' := [(3, .int y17), (4, .int v4_5), (0, .ref kc), (1, .int v), (2, .int n)]) dX3_raised_42 rfl (by decide) rfl ?_
              obtain ⟨x18, ex18⟩ : ∃ y : Int32, y = v4_5 + 1 := ⟨_, rfl⟩
              have tx18 : x18.toInt = v4_5.toInt + 1 := by rw [ex18]; exact z_add rfl (by decide : (1 : Int32).toInt = 1) (by omega) (by omega)
              refine dv_iinc (v := x18) (lv' := [(4, .int x18), (3, .int y17), (0, .ref kc), (1, .int v), (2, .int n)]) dX3_raised_43 (k := 1) rfl (by rw [ex18]; rfl) (by decide) rfl ?_
              refine dv_goto (tgt := 5) dX3_raised_46 (by decide) ?_
              exact ih5 x18 y17 (by omega) (by first | omega | decide | assumption)
            · skip
              have c16 : y15.toInt = (-1) := (z_eq rfl (by decide : ((-1) : Int32).toInt = (-1))).mp c16
              refine dv_bipush (v := 32) dX3_raised_31 (by decide) ?_
              refine dv_goto (tgt := 42) dX3_raised_33 (by decide) ?_
              refine dv_istore_n (lv' := [(3, .int 32), (4, .int v4_5), (0, .ref kc), (1, .int v), (2, .int n)]) dX3_raised_42 rfl (by decide) rfl ?_
              obtain ⟨x19, ex19⟩ : ∃ y : Int32, y = v4_5 + 1 := ⟨_, rfl⟩
              have tx19 : x19.toInt = v4_5.toInt + 1 := by rw [ex19]; exact z_add rfl (by decide : (1 : Int32).toInt = 1) (by omega) (by omega)
              refine dv_iinc (v := x19) (lv' := [(4, .int x19), (3, .int 32), (0, .ref kc), (1, .int v), (2, .int n)]) dX3_raised_43 (k := 1) rfl (by rw [ex19]; rfl) (by decide) rfl ?_
              refine dv_goto (tgt := 5) dX3_raised_46 (by decide) ?_
              exact ih5 x19 (32 : Int32) (by omega) (by first | omega | decide | assumption)
        · skip
          obtain ⟨rfl, h20⟩ := hr3
          have h20 : ¬ ((0 : Int) ≤ v3_5.toInt ∧ v3_5.toInt ≤ (31 : Int)) := h20
          refine dv_if_eq (tgt := 49) dX3_raised_18 (by decide) (fun c21 => ?_) (fun c21 => ?_)
          · skip
            refine dv_iload_n dX3_raised_49 rfl 1 rfl ?_
            exact dv_iret dX3_raised_50 rfl (by first | exact Nat.zero_le _ | decide) (by first | exact Nat.zero_le _ | decide) (by subst hK; exact ⟨v3_5, rfl, (trivial), rfl⟩)
          · skip
            exact absurd c21 (by decide)
  exact loop5 ((n.toInt - (0 : Int32).toInt : Int).toNat + 1) (0 : Int32) v (by omega) (by first | omega | decide | assumption)

set_option maxHeartbeats 4000000 in
set_option maxRecDepth 100000 in
theorem k_X3_valueOf (l : Launch) (g : zG) (pe : Int32) (ct : Nat → va_E) (kc : Nat) (nd : Int32) (hf_kc : 35 ≤ kc ∧ kc < 55 ∧ (kc - 35) % 5 = 0) (hI : Inv8 g idn pe ct) : DM l g pK false yX3_valueOf cX3_valueOf 2 (some .int) ({ frames := 0, cells := 0, slots := 0, locals := 0 }) (fun (ct2 : Nat → va_E) (rr : Option Value) => ∃ (r : Int32), rr = some (.int r) ∧ ((True)) ∧ ct = ct2) ct [.ref kc, .int nd] := by
  refine DM.K (fun K hK => ?_)
  refine GW.met (own := RX3) (loc := [(0, .ref kc), (1, .int nd)]) (by decide) rfl rfl (Nat.le_of_ble_eq_true rfl) ?_
  have hpe0 := hI.1
  have rg_nd := z_rng nd
  refine dv_iload_n dX3_valueOf_0 rfl 1 rfl ?_
  refine dv_if_lt (tgt := 19) dX3_valueOf_1 (by decide) (fun c1 => ?_) (fun c1 => ?_)
  · skip
    have c1 : nd.toInt < 0 := (z_lt rfl (by decide : (0 : Int32).toInt = 0)).mp c1
    refine dv_iconst (v := 0) dX3_valueOf_19 (by decide) ?_
    have q2 : (0 : Int32).toInt = 0 := by decide
    exact dv_iret dX3_valueOf_20 rfl (by first | exact Nat.zero_le _ | decide) (by first | exact Nat.zero_le _ | decide) (by subst hK; exact ⟨0, rfl, (trivial), rfl⟩)
  · skip
    have c1 : ¬ (nd.toInt < 0) := fun q => c1 ((z_lt rfl (by decide : (0 : Int32).toInt = 0)).mpr q)
    refine dv_iload_n dX3_valueOf_4 rfl 1 rfl ?_
    refine dv_bipush (v := 16) dX3_valueOf_5 (by decide) ?_
    refine dv_icmp_ge (tgt := 19) dX3_valueOf_7 (by decide) (fun c3 => ?_) (fun c3 => ?_)
    · skip
      have c3 : 16 ≤ nd.toInt := (z_le (by decide : (16 : Int32).toInt = 16) rfl).mp c3
      refine dv_iconst (v := 0) dX3_valueOf_19 (by decide) ?_
      have q4 : (0 : Int32).toInt = 0 := by decide
      exact dv_iret dX3_valueOf_20 rfl (by first | exact Nat.zero_le _ | decide) (by first | exact Nat.zero_le _ | decide) (by subst hK; exact ⟨0, rfl, (trivial), rfl⟩)
    · skip
      have c3 : ¬ (16 ≤ nd.toInt) := fun q => c3 ((z_le (by decide : (16 : Int32).toInt = 16) rfl).mpr q)
      refine dv_aload_n dX3_valueOf_10 rfl 0 rfl ?_
      obtain ⟨we6, se7, h8, h9, hs5⟩ := a8_35 (kc := kc) (by omega) hI
      refine dv_get (ci := 3) (v := .ref (kc + 4)) (C := RX3) (T := TX3) (N := 6) ⟨by omega, pK_of (by omega)⟩ hs5 rfl inG3 4 (by decide) mm_263 rfl dX3_valueOf_11 ?_
      refine dv_iload_n dX3_valueOf_14 rfl 1 rfl ?_
      obtain ⟨f11, hs10⟩ := a8_39 (kc := kc) (by omega) hI
      refine dv_iald 0 ⟨by omega, pK_of (by omega)⟩ hs10 rfl (z_in rfl (by omega) (by omega)) dX3_valueOf_15 ?_
      refine dv_topi (fun y12 ey12 => ?_)
      refine dv_goto (tgt := 20) dX3_valueOf_16 (by decide) ?_
      exact dv_iret dX3_valueOf_20 rfl (by first | exact Nat.zero_le _ | decide) (by first | exact Nat.zero_le _ | decide) (by subst hK; exact ⟨y12, rfl, (trivial), rfl⟩)

set_option maxHeartbeats 4000000 in
set_option maxRecDepth 100000 in
theorem k_X3_whoBelow (l : Launch) (g : zG) (pe : Int32) (ct : Nat → va_E) (kc : Nat) (nd : Int32) (hf_kc : 35 ≤ kc ∧ kc < 55 ∧ (kc - 35) % 5 = 0) (hI : Inv8 g idn pe ct) : DM l g pK false yX3_whoBelow cX3_whoBelow 2 (some .int) ({ frames := 0, cells := 0, slots := 0, locals := 0 }) (fun (ct2 : Nat → va_E) (rr : Option Value) => ∃ (r : Int32), rr = some (.int r) ∧ ((True)) ∧ ct = ct2) ct [.ref kc, .int nd] := by
  refine DM.K (fun K hK => ?_)
  refine GW.met (own := RX3) (loc := [(0, .ref kc), (1, .int nd)]) (by decide) rfl rfl (Nat.le_of_ble_eq_true rfl) ?_
  have hpe0 := hI.1
  have rg_nd := z_rng nd
  refine dv_iload_n dX3_whoBelow_0 rfl 1 rfl ?_
  refine dv_if_lt (tgt := 19) dX3_whoBelow_1 (by decide) (fun c1 => ?_) (fun c1 => ?_)
  · skip
    have c1 : nd.toInt < 0 := (z_lt rfl (by decide : (0 : Int32).toInt = 0)).mp c1
    refine dv_iconst (v := 0) dX3_whoBelow_19 (by decide) ?_
    have q2 : (0 : Int32).toInt = 0 := by decide
    exact dv_iret dX3_whoBelow_20 rfl (by first | exact Nat.zero_le _ | decide) (by first | exact Nat.zero_le _ | decide) (by subst hK; exact ⟨0, rfl, (trivial), rfl⟩)
  · skip
    have c1 : ¬ (nd.toInt < 0) := fun q => c1 ((z_lt rfl (by decide : (0 : Int32).toInt = 0)).mpr q)
    refine dv_iload_n dX3_whoBelow_4 rfl 1 rfl ?_
    refine dv_bipush (v := 32) dX3_whoBelow_5 (by decide) ?_
    refine dv_icmp_gt (tgt := 19) dX3_whoBelow_7 (by decide) (fun c3 => ?_) (fun c3 => ?_)
    · skip
      have c3 : 32 < nd.toInt := (z_lt (by decide : (32 : Int32).toInt = 32) rfl).mp c3
      refine dv_iconst (v := 0) dX3_whoBelow_19 (by decide) ?_
      have q4 : (0 : Int32).toInt = 0 := by decide
      exact dv_iret dX3_whoBelow_20 rfl (by first | exact Nat.zero_le _ | decide) (by first | exact Nat.zero_le _ | decide) (by subst hK; exact ⟨0, rfl, (trivial), rfl⟩)
    · skip
      have c3 : ¬ (32 < nd.toInt) := fun q => c3 ((z_lt (by decide : (32 : Int32).toInt = 32) rfl).mpr q)
      refine dv_aload_n dX3_whoBelow_10 rfl 0 rfl ?_
      obtain ⟨we6, se7, h8, h9, hs5⟩ := a8_35 (kc := kc) (by omega) hI
      refine dv_get (ci := 3) (v := .ref (kc + 3)) (C := RX3) (T := TX3) (N := 6) ⟨by omega, pK_of (by omega)⟩ hs5 rfl inG3 3 (by decide) mm_262 rfl dX3_whoBelow_11 ?_
      refine dv_iload_n dX3_whoBelow_14 rfl 1 rfl ?_
      obtain ⟨f11, hs10⟩ := a8_38 (kc := kc) (by omega) hI
      refine dv_iald 0 ⟨by omega, pK_of (by omega)⟩ hs10 rfl (z_in rfl (by omega) (by omega)) dX3_whoBelow_15 ?_
      refine dv_topi (fun y12 ey12 => ?_)
      refine dv_goto (tgt := 20) dX3_whoBelow_16 (by decide) ?_
      exact dv_iret dX3_whoBelow_20 rfl (by first | exact Nat.zero_le _ | decide) (by first | exact Nat.zero_le _ | decide) (by subst hK; exact ⟨y12, rfl, (trivial), rfl⟩)

set_option maxHeartbeats 4000000 in
set_option maxRecDepth 100000 in
theorem k_X3_valuesBelow (l : Launch) (g : zG) (pe : Int32) (ct : Nat → va_E) (kc : Nat) (nd : Int32) (hf_kc : 35 ≤ kc ∧ kc < 55 ∧ (kc - 35) % 5 = 0) (hI : Inv8 g idn pe ct) : DM l g pK false yX3_valuesBelow cX3_valuesBelow 2 (some .int) ({ frames := 0, cells := 0, slots := 0, locals := 0 }) (fun (ct2 : Nat → va_E) (rr : Option Value) => ∃ (r : Int32), rr = some (.int r) ∧ ((True)) ∧ ct = ct2) ct [.ref kc, .int nd] := by
  refine DM.K (fun K hK => ?_)
  refine GW.met (own := RX3) (loc := [(0, .ref kc), (1, .int nd)]) (by decide) rfl rfl (Nat.le_of_ble_eq_true rfl) ?_
  have hpe0 := hI.1
  have rg_nd := z_rng nd
  refine dv_iload_n dX3_valuesBelow_0 rfl 1 rfl ?_
  refine dv_if_lt (tgt := 19) dX3_valuesBelow_1 (by decide) (fun c1 => ?_) (fun c1 => ?_)
  · skip
    have c1 : nd.toInt < 0 := (z_lt rfl (by decide : (0 : Int32).toInt = 0)).mp c1
    refine dv_iconst (v := 0) dX3_valuesBelow_19 (by decide) ?_
    have q2 : (0 : Int32).toInt = 0 := by decide
    exact dv_iret dX3_valuesBelow_20 rfl (by first | exact Nat.zero_le _ | decide) (by first | exact Nat.zero_le _ | decide) (by subst hK; exact ⟨0, rfl, (trivial), rfl⟩)
  · skip
    have c1 : ¬ (nd.toInt < 0) := fun q => c1 ((z_lt rfl (by decide : (0 : Int32).toInt = 0)).mpr q)
    refine dv_iload_n dX3_valuesBelow_4 rfl 1 rfl ?_
    refine dv_bipush (v := 32) dX3_valuesBelow_5 (by decide) ?_
    refine dv_icmp_gt (tgt := 19) dX3_valuesBelow_7 (by decide) (fun c3 => ?_) (fun c3 => ?_)
    · skip
      have c3 : 32 < nd.toInt := (z_lt (by decide : (32 : Int32).toInt = 32) rfl).mp c3
      refine dv_iconst (v := 0) dX3_valuesBelow_19 (by decide) ?_
      have q4 : (0 : Int32).toInt = 0 := by decide
      exact dv_iret dX3_valuesBelow_20 rfl (by first | exact Nat.zero_le _ | decide) (by first | exact Nat.zero_le _ | decide) (by subst hK; exact ⟨0, rfl, (trivial), rfl⟩)
    · skip
      have c3 : ¬ (32 < nd.toInt) := fun q => c3 ((z_lt (by decide : (32 : Int32).toInt = 32) rfl).mpr q)
      refine dv_aload_n dX3_valuesBelow_10 rfl 0 rfl ?_
      obtain ⟨we6, se7, h8, h9, hs5⟩ := a8_35 (kc := kc) (by omega) hI
      refine dv_get (ci := 3) (v := .ref (kc + 2)) (C := RX3) (T := TX3) (N := 6) ⟨by omega, pK_of (by omega)⟩ hs5 rfl inG3 2 (by decide) mm_261 rfl dX3_valuesBelow_11 ?_
      refine dv_iload_n dX3_valuesBelow_14 rfl 1 rfl ?_
      obtain ⟨f11, hs10⟩ := a8_37 (kc := kc) (by omega) hI
      refine dv_iald 0 ⟨by omega, pK_of (by omega)⟩ hs10 rfl (z_in rfl (by omega) (by omega)) dX3_valuesBelow_15 ?_
      refine dv_topi (fun y12 ey12 => ?_)
      refine dv_goto (tgt := 20) dX3_valuesBelow_16 (by decide) ?_
      exact dv_iret dX3_valuesBelow_20 rfl (by first | exact Nat.zero_le _ | decide) (by first | exact Nat.zero_le _ | decide) (by subst hK; exact ⟨y12, rfl, (trivial), rfl⟩)

set_option maxHeartbeats 4000000 in
set_option maxRecDepth 100000 in
theorem k_X3_lossOf (l : Launch) (g : zG) (pe : Int32) (ct : Nat → va_E) (kc : Nat) (nd : Int32) (hf_kc : 35 ≤ kc ∧ kc < 55 ∧ (kc - 35) % 5 = 0) (hI : Inv8 g idn pe ct) : DM l g pK false yX3_lossOf cX3_lossOf 2 (some .int) ({ frames := 1, cells := 0, slots := 0, locals := 21 }) (fun (ct2 : Nat → va_E) (rr : Option Value) => ∃ (r : Int32), rr = some (.int r) ∧ ((True)) ∧ ct = ct2) ct [.ref kc, .int nd] := by
  refine DM.K (fun K hK => ?_)
  refine GW.met (own := RX3) (loc := [(0, .ref kc), (1, .int nd)]) (by decide) rfl rfl (Nat.le_of_ble_eq_true rfl) ?_
  have hpe0 := hI.1
  have rg_nd := z_rng nd
  refine dv_aload_n dX3_lossOf_0 rfl 0 rfl ?_
  obtain ⟨we2, se3, h4, h5, hs1⟩ := a8_35 (kc := kc) (by omega) hI
  refine dv_get (ci := 3) (v := .int we2) (C := RX3) (T := TX3) (N := 6) ⟨by omega, pK_of (by omega)⟩ hs1 rfl inG3 0 (by decide) mm_258 rfl dX3_lossOf_1 ?_
  refine dv_aload_n dX3_lossOf_4 rfl 0 rfl ?_
  refine dv_iload_n dX3_lossOf_5 rfl 1 rfl ?_
  refine GW.callV (n := 1) (As := [.int nd]) (rest := [.int we2]) (b := kc) (k_X3_valuesBelow l g pe ct kc nd (by omega) hI) (fun _ h => h) rfl rfl ⟨by omega, pK_of (by omega)⟩ hs1 (q := (RX3, TX3, 6)) rfl mm_809 mm_810 mm_811 mm_59 mm_812 (by decide +kernel) ⟨Nat.le_of_ble_eq_true rfl, Nat.le_of_ble_eq_true rfl⟩ rfl (Nat.le_of_ble_eq_true rfl) dX3_lossOf_6 (Nat.zero_le _) (Nat.zero_le _) rfl (fun ct6 rrr7 hBr7 hoff8 => ?_)
  obtain ⟨r7, rfl, hr7, rfl⟩ := hBr7
  refine GW.eq (S2 := [.int r7, .int we2]) rfl rfl rfl ?_
  refine dv_iconst (v := 1) dX3_lossOf_9 (by decide) ?_
  refine dv_isub dX3_lossOf_10 ?_
  refine dv_topi (fun x9 ex9 => ?_)
  refine dv_iconst (v := 0) dX3_lossOf_11 (by decide) ?_
  refine dv_mmax mm_813 mm_538 mm_61 mm_539 (Nat.le_of_ble_eq_true rfl) (Nat.le_of_ble_eq_true rfl) (Nat.zero_le _) (Nat.zero_le _) dX3_lossOf_12 ?_
  refine dv_topi (fun x10 ex10 => ?_)
  have tx10 := z_max (x := x9) (y := 0) rfl (by decide : (0 : Int32).toInt = 0)
  rw [← ex10] at tx10
  refine dv_imul dX3_lossOf_15 ?_
  refine dv_topi (fun x11 ex11 => ?_)
  exact dv_iret dX3_lossOf_16 rfl (by first | exact Nat.zero_le _ | decide) (by first | exact Nat.zero_le _ | decide) (by subst hK; exact ⟨x11, rfl, (trivial), rfl⟩)
