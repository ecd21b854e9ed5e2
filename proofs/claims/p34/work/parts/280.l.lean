set_option maxHeartbeats 4000000 in
set_option maxRecDepth 100000 in
theorem k_X0_keep (l : Launch) (g : zG) (pe : Int32) (ct : Nat → va_E) (who : Int32) (le : Int32) (mo : Int32) (hl_who : 0 ≤ who.toInt ∧ who.toInt ≤ 65535) (hI : Inv8 g idn pe ct) (hw : who.toInt < zlen (ct 20)) : DM l g pQ false yX0_keep cX0_keep 4 none ({ frames := 0, cells := 0, slots := 0, locals := 0 }) (fun (ct2 : Nat → va_E) (rr : Option Value) => rr = none ∧ Inv8 g idn pe ct2 ∧ zlen (ct2 20) = zlen (ct 20)) ct [.ref 17, .int who, .int le, .int mo] := by
  refine DM.K (fun K hK => ?_)
  refine GW.met (own := RX0) (loc := [(0, .ref 17), (1, .int who), (2, .int le), (3, .int mo)]) (by decide) rfl rfl (Nat.le_of_ble_eq_true rfl) ?_
  have hpe0 := hI.1
  have hz : zlen (ct 20) = zlen (ct 20) := rfl
  have rg_le := z_rng le
  have rg_mo := z_rng mo
  refine dv_aload_n dX0_keep_0 rfl 0 rfl ?_
  obtain ⟨spc2, tim3, h4, h5, hs1⟩ := a8_17 hI
  refine dv_get (ci := 0) (v := .ref 20) (C := RX0) (T := TX0) (N := 5) ⟨by decide, rfl⟩ hs1 rfl inG0 3 (by decide) mm_163 rfl dX0_keep_1 ?_
  refine dv_iload_n dX0_keep_4 rfl 1 rfl ?_
  refine dv_aload_n dX0_keep_5 rfl 0 rfl ?_
  refine dv_get (ci := 0) (v := .int tim3) (C := RX0) (T := TX0) (N := 5) ⟨by decide, rfl⟩ hs1 rfl inG0 4 (by decide) mm_164 rfl dX0_keep_6 ?_
  refine dv_bipush (v := 10) dX0_keep_9 (by decide) ?_
  refine dv_ishl dX0_keep_11 ?_
  refine dv_topi (fun x6 ex6 => ?_)
  refine dv_iload_n dX0_keep_12 rfl 2 rfl ?_
  refine dv_iconst (v := 5) dX0_keep_13 (by decide) ?_
  refine dv_ishl dX0_keep_14 ?_
  refine dv_topi (fun x7 ex7 => ?_)
  refine dv_ior dX0_keep_15 ?_
  refine dv_topi (fun x8 ex8 => ?_)
  refine dv_iload_n dX0_keep_16 rfl 3 rfl ?_
  refine dv_ior dX0_keep_17 ?_
  refine dv_topi (fun x9 ex9 => ?_)
  obtain ⟨n11, f12, h13, h14, hs10⟩ := a8_20 hI
  have zhs10 : zlen (ct 20) = n11 := by rw [hs10]; rfl
  refine dv_iast 0 ⟨by decide, rfl⟩ hs10 rfl (z_in rfl (by omega) (by omega)) dX0_keep_18 (en := .inl (g.2 0, n11, .inl (upd f12 (Int32.toNatClampNeg who) x9))) rfl (fun ct15 ec16 => ?_)
  have hI : Inv8 g idn pe ct15 := by rw [ec16]; exact up8 hI (i8_20 ⟨n11, _, (by omega), (by omega), rfl⟩)
  have hz : zlen (ct15 20) = zlen (ct 20) := by rw [ec16, va_up_self]; exact Eq.trans rfl ((congrArg zlen hs10).symm.trans hz)
  have hs17 : ct15 17 = .inr (0, [.ref 18, .int spc2, .ref 19, .ref 20, .int tim3]) := by rw [ec16, va_up_ne _ _ (by omega)]; exact hs1
  have hs18 : ct15 20 = .inl (g.2 0, n11, .inl (upd f12 (Int32.toNatClampNeg who) x9)) := by rw [ec16]; exact va_up_self _ _ _
  exact dv_vret dX0_keep_19 rfl (by first | exact Nat.zero_le _ | decide) (by first | exact Nat.zero_le _ | decide) (by subst hK; exact ⟨rfl, hI, hz⟩)

set_option maxHeartbeats 4000000 in
set_option maxRecDepth 100000 in
theorem k_X0_atLeast (l : Launch) (g : zG) (pe : Int32) (ct : Nat → va_E) (who : Int32) (hl_who : 0 ≤ who.toInt ∧ who.toInt ≤ 65535) (hI : Inv8 g idn pe ct) : DM l g pQ false yX0_atLeast cX0_atLeast 7 (some .int) ({ frames := 1, cells := 0, slots := 0, locals := 20 }) (fun (ct2 : Nat → va_E) (rr : Option Value) => ∃ (r : Int32), rr = some (.int r) ∧ ((True)) ∧ Inv8 g idn pe ct2 ∧ zlen (ct2 20) = zlen (ct 20)) ct [.ref 17, .int who] := by
  refine DM.K (fun K hK => ?_)
  refine GW.met (own := RX0) (loc := [(0, .ref 17), (1, .int who)]) (by decide) rfl rfl (Nat.le_of_ble_eq_true rfl) ?_
  have hpe0 := hI.1
  have hz : zlen (ct 20) = zlen (ct 20) := rfl
  refine dv_iload_n dX0_atLeast_0 rfl 1 rfl ?_
  refine GW.callS (n := 1) (As := [.int who]) (rest := []) (k_bce l g pe ct who hI) (fun _ h => Bool.noConfusion h) rfl rfl mm_749 mm_499 mm_62 mm_500 (by decide +kernel) ⟨Nat.le_of_ble_eq_true rfl, Nat.le_of_ble_eq_true rfl⟩ rfl (Nat.le_of_ble_eq_true rfl) dX0_atLeast_1 (Nat.zero_le _) (Nat.zero_le _) rfl (fun ct1 rrr2 hBr2 hoff3 => ?_)
  obtain ⟨r2, rfl, hr2, rfl⟩ := hBr2
  refine GW.eq (S2 := [.int r2]) rfl rfl rfl ?_
  have hqr2 := hr2
  subst r2
  have hbr2 := z_bc (x := who) (by omega) (by omega)
  refine dv_istore_n (lv' := [(2, .int (bcf who)), (0, .ref 17), (1, .int who)]) dX0_atLeast_4 rfl (by decide) rfl ?_
  refine dv_iconst (v := 0) dX0_atLeast_5 (by decide) ?_
  refine dv_istore_n (lv' := [(3, .int 0), (2, .int (bcf who)), (0, .ref 17), (1, .int who)]) dX0_atLeast_6 rfl (by decide) rfl ?_
  have loop7 : ∀ (n7 : Nat) (v3_7 : Int32) (ct4 : Nat → va_E), ((17 - v3_7.toInt : Int).toNat < n7) → (0 ≤ v3_7.toInt ∧ v3_7.toInt ≤ 17) → (zlen (ct4 20) = zlen (ct 20)) → (Inv8 g idn pe ct4) → GW l g pQ pQ false yX0_atLeast cX0_atLeast 7 (some .int) RX0 ({ frames := 1, cells := 0, slots := 0, locals := 20 }) K 0 0 ct4 7 [(3, .int v3_7), (2, .int (bcf who)), (0, .ref 17), (1, .int who)] [] := by
    intro n7
    induction n7 with
    | zero =>
      intro v3_7 ct4 hn7 b3_7 hz hI
      exact absurd hn7 (Nat.not_lt_zero _)
    | succ n7 ih7 =>
      intro v3_7 ct4 hn7 b3_7 hz hI
      refine dv_iload_n dX0_atLeast_7 rfl 0 rfl ?_
      refine dv_bipush (v := 16) dX0_atLeast_8 (by decide) ?_
      refine dv_icmp_gt (tgt := 26) dX0_atLeast_10 (by decide) (fun c5 => ?_) (fun c5 => ?_)
      · skip
        have c5 : 16 < v3_7.toInt := (z_lt (by decide : (16 : Int32).toInt = 16) rfl).mp c5
        refine dv_iconst (v := 0) dX0_atLeast_26 (by decide) ?_
        refine dv_istore_n (lv' := [(3, .int 0), (2, .int (bcf who)), (0, .ref 17), (1, .int who)]) dX0_atLeast_27 rfl (by decide) rfl ?_
        have loop28 : ∀ (n28 : Nat) (v3_28 : Int32) (ct6 : Nat → va_E), ((128 - v3_28.toInt : Int).toNat < n28) → (0 ≤ v3_28.toInt ∧ v3_28.toInt ≤ 128) → (zlen (ct6 20) = zlen (ct 20)) → (Inv8 g idn pe ct6) → GW l g pQ pQ false yX0_atLeast cX0_atLeast 7 (some .int) RX0 ({ frames := 1, cells := 0, slots := 0, locals := 20 }) K 0 0 ct6 28 [(3, .int v3_28), (2, .int (bcf who)), (0, .ref 17), (1, .int who)] [] := by
          intro n28
          induction n28 with
          | zero =>
            intro v3_28 ct6 hn28 b3_28 hz hI
            exact absurd hn28 (Nat.not_lt_zero _)
          | succ n28 ih28 =>
            intro v3_28 ct6 hn28 b3_28 hz hI
            refine dv_iload_n dX0_atLeast_28 rfl 0 rfl ?_
            refine dv_aload_n dX0_atLeast_29 rfl 2 rfl ?_
            obtain ⟨spc8, tim9, h10, h11, hs7⟩ := a8_17 hI
            refine dv_get (ci := 0) (v := .int spc8) (C := RX0) (T := TX0) (N := 5) ⟨by decide, rfl⟩ hs7 rfl inG0 1 (by decide) mm_161 rfl dX0_atLeast_30 ?_
            refine dv_icmp_ge (tgt := 73) dX0_atLeast_33 (by decide) (fun c12 => ?_) (fun c12 => ?_)
            · skip
              have c12 : spc8.toInt ≤ v3_28.toInt := (z_le rfl rfl).mp c12
              refine dv_iconst (v := 0) dX0_atLeast_73 (by decide) ?_
              refine dv_istore_n (lv' := [(3, .int 0), (2, .int (bcf who)), (0, .ref 17), (1, .int who)]) dX0_atLeast_74 rfl (by decide) rfl ?_
              refine dv_iload_n dX0_atLeast_75 rfl 1 rfl ?_
              refine dv_istore (lv' := [(4, .int (bcf who)), (3, .int 0), (2, .int (bcf who)), (0, .ref 17), (1, .int who)]) dX0_atLeast_76 (by decide) rfl ?_
              refine dv_bipush (v := 16) dX0_atLeast_78 (by decide) ?_
              refine dv_istore (lv' := [(5, .int 16), (4, .int (bcf who)), (3, .int 0), (2, .int (bcf who)), (0, .ref 17), (1, .int who)]) dX0_atLeast_80 (by decide) rfl ?_
              have loop82 : ∀ (n82 : Nat) (v5_82 : Int32) (v4_82 : Int32) (v3_82 : Int32) (ct13 : Nat → va_E), ((v5_82.toInt : Int).toNat < n82) → (0 ≤ v5_82.toInt ∧ v5_82.toInt ≤ 16) → (0 ≤ v4_82.toInt ∧ v4_82.toInt ≤ 16) → (zlen (ct13 20) = zlen (ct 20)) → (Inv8 g idn pe ct13) → GW l g pQ pQ false yX0_atLeast cX0_atLeast 7 (some .int) RX0 ({ frames := 1, cells := 0, slots := 0, locals := 20 }) K 0 0 ct13 82 [(5, .int v5_82), (4, .int v4_82), (3, .int v3_82), (2, .int (bcf who)), (0, .ref 17), (1, .int who)] [] := by
                intro n82
                induction n82 with
                | zero =>
                  intro v5_82 v4_82 v3_82 ct13 hn82 b5_82 b4_82 hz hI
                  exact absurd hn82 (Nat.not_lt_zero _)
                | succ n82 ih82 =>
                  intro v5_82 v4_82 v3_82 ct13 hn82 b5_82 b4_82 hz hI
                  refine dv_iload dX0_atLeast_82 0 rfl ?_
                  refine dv_if_le (tgt := 137) dX0_atLeast_84 (by decide) (fun c14 => ?_) (fun c14 => ?_)
                  · skip
                    have c14 : v5_82.toInt ≤ 0 := (z_le rfl (by decide : (0 : Int32).toInt = 0)).mp c14
                    refine dv_iload_n dX0_atLeast_137 rfl 2 rfl ?_
                    exact dv_iret dX0_atLeast_138 rfl (by first | exact Nat.zero_le _ | decide) (by first | exact Nat.zero_le _ | decide) (by subst hK; exact ⟨v3_82, rfl, (trivial), hI, hz⟩)
                  · skip
                    have c14 : ¬ (v5_82.toInt ≤ 0) := fun q => c14 ((z_le rfl (by decide : (0 : Int32).toInt = 0)).mpr q)
                    refine dv_iconst (v := 0) dX0_atLeast_87 (by decide) ?_
                    refine dv_istore (lv' := [(6, .int 0), (5, .int v5_82), (4, .int v4_82), (3, .int v3_82), (2, .int (bcf who)), (0, .ref 17), (1, .int who)]) dX0_atLeast_88 (by decide) rfl ?_
                    have loop90 : ∀ (n90 : Nat) (v6_90 : Int32) (v4_90 : Int32) (v3_90 : Int32) (ct15 : Nat → va_E), ((v4_90.toInt : Int).toNat < n90) → (0 ≤ v4_90.toInt ∧ v4_90.toInt ≤ 16) → (zlen (ct15 20) = zlen (ct 20)) → (Inv8 g idn pe ct15) → GW l g pQ pQ false yX0_atLeast cX0_atLeast 7 (some .int) RX0 ({ frames := 1, cells := 0, slots := 0, locals := 20 }) K 0 0 ct15 90 [(6, .int v6_90), (5, .int v5_82), (4, .int v4_90), (3, .int v3_90), (2, .int (bcf who)), (0, .ref 17), (1, .int who)] [] := by
                      intro n90
                      induction n90 with
                      | zero =>
                        intro v6_90 v4_90 v3_90 ct15 hn90 b4_90 hz hI
                        exact absurd hn90 (Nat.not_lt_zero _)
                      | succ n90 ih90 =>
                        intro v6_90 v4_90 v3_90 ct15 hn90 b4_90 hz hI
                        refine dv_iload dX0_atLeast_90 0 rfl ?_
                        refine dv_aload_n dX0_atLeast_92 rfl 5 rfl ?_
                        obtain ⟨spc17, tim18, h19, h20, hs16⟩ := a8_17 hI
                        refine dv_get (ci := 0) (v := .ref 19) (C := RX0) (T := TX0) (N := 5) ⟨by decide, rfl⟩ hs16 rfl inG0 2 (by decide) mm_162 rfl dX0_atLeast_93 ?_
                        refine dv_iload dX0_atLeast_96 1 rfl ?_
                        obtain ⟨f22, hs21⟩ := a8_19 hI
                        refine dv_iald 0 ⟨by decide, rfl⟩ hs21 rfl (z_in rfl (by omega) (by omega)) dX0_atLeast_98 ?_
                        refine dv_topi (fun y23 ey23 => ?_)
                        refine dv_icmp_ge (tgt := 131) dX0_atLeast_99 (by decide) (fun c24 => ?_) (fun c24 => ?_)
                        · skip
                          have c24 : y23.toInt ≤ v6_90.toInt := (z_le rfl rfl).mp c24
                          obtain ⟨x25, ex25⟩ : ∃ y : Int32, y = v5_82 + (-1) := ⟨_, rfl⟩
                          have tx25 : x25.toInt = v5_82.toInt + (-1) := by rw [ex25]; exact z_add rfl (by decide : ((-1) : Int32).toInt = (-1)) (by omega) (by omega)
                          refine dv_iinc (v := x25) (lv' := [(5, .int x25), (6, .int v6_90), (4, .int v4_90), (3, .int v3_90), (2, .int (bcf who)), (0, .ref 17), (1, .int who)]) dX0_atLeast_131 (k := 1) rfl (by rw [ex25]; rfl) (by decide) rfl ?_
                          refine dv_goto (tgt := 82) dX0_atLeast_134 (by decide) ?_
                          refine dv_sub (loc2 := [(5, .int x25), (4, .int v4_90), (3, .int v3_90), (2, .int (bcf who)), (0, .ref 17), (1, .int who)]) [0, 2, 3, 4, 5, 6] rfl ?_
                          exact ih82 x25 v4_90 v3_90 ct15 (by omega) (by first | omega | decide | assumption) (by first | omega | decide | assumption) hz hI
                        · skip
                          have c24 : ¬ (y23.toInt ≤ v6_90.toInt) := fun q => c24 ((z_le rfl rfl).mpr q)
                          refine dv_iload dX0_atLeast_102 2 rfl ?_
                          refine dv_iconst (v := 1) dX0_atLeast_104 (by decide) ?_
                          refine dv_icmp_le (tgt := 131) dX0_atLeast_105 (by decide) (fun c26 => ?_) (fun c26 => ?_)
                          · skip
                            have c26 : v4_90.toInt ≤ 1 := (z_le rfl (by decide : (1 : Int32).toInt = 1)).mp c26
                            obtain ⟨x27, ex27⟩ : ∃ y : Int32, y = v5_82 + (-1) := ⟨_, rfl⟩
                            have tx27 : x27.toInt = v5_82.toInt + (-1) := by rw [ex27]; exact z_add rfl (by decide : ((-1) : Int32).toInt = (-1)) (by omega) (by omega)
                            refine dv_iinc (v := x27) (lv' := [(5, .int x27), (6, .int v6_90), (4, .int v4_90), (3, .int v3_90), (2, .int (bcf who)), (0, .ref 17), (1, .int who)]) dX0_atLeast_131 (k := 1) rfl (by rw [ex27]; rfl) (by decide) rfl ?_
                            refine dv_goto (tgt := 82) dX0_atLeast_134 (by decide) ?_
                            refine dv_sub (loc2 := [(5, .int x27), (4, .int v4_90), (3, .int v3_90), (2, .int (bcf who)), (0, .ref 17), (1, .int who)]) [0, 2, 3, 4, 5, 6] rfl ?_
                            exact ih82 x27 v4_90 v3_90 ct15 (by omega) (by first | omega | decide | assumption) (by first | omega | decide | assumption) hz hI
                          · skip
                            have c26 : ¬ (v4_90.toInt ≤ 1) := fun q => c26 ((z_le rfl (by decide : (1 : Int32).toInt = 1)).mpr q)
                            refine dv_iload dX0_atLeast_108 2 rfl ?_
                            refine dv_iload dX0_atLeast_110 1 rfl ?_
                            refine dv_iload dX0_atLeast_112 2 rfl ?_
                            refine dv_iconst (v := 2) dX0_atLeast_114 (by decide) ?_
                            refine dv_idiv dX0_atLeast_115 (by decide) ?_
                            refine dv_topi (fun x28 ex28 => ?_)
                            have tx28 := z_div (x := v4_90) (y := 2) rfl (by decide : (2 : Int32).toInt = 2) (by omega) (by omega)
                            rw [← ex28] at tx28
                            refine dv_mmin mm_755 mm_680 mm_61 mm_681 (Nat.le_of_ble_eq_true rfl) (Nat.le_of_ble_eq_true rfl) (Nat.zero_le _) (Nat.zero_le _) dX0_atLeast_116 ?_
                            refine dv_topi (fun x29 ex29 => ?_)
                            have tx29 := z_min (x := v5_82) (y := x28) rfl rfl
                            rw [← ex29] at tx29
                            refine dv_isub dX0_atLeast_119 ?_
                            refine dv_topi (fun x30 ex30 => ?_)
                            have tx30 : x30.toInt = v4_90.toInt - x29.toInt := by rw [ex30]; exact z_sub rfl rfl (by omega) (by omega)
                            refine dv_istore (lv' := [(4, .int x30), (6, .int v6_90), (5, .int v5_82), (3, .int v3_90), (2, .int (bcf who)), (0, .ref 17), (1, .int who)]) dX0_atLeast_120 (by decide) rfl ?_
                            obtain ⟨x31, ex31⟩ : ∃ y : Int32, y = v3_90 + 1 := ⟨_, rfl⟩
                            refine dv_iinc (v := x31) (lv' := [(3, .int x31), (4, .int x30), (6, .int v6_90), (5, .int v5_82), (2, .int (bcf who)), (0, .ref 17), (1, .int who)]) dX0_atLeast_122 (k := 3) rfl (by rw [ex31]; rfl) (by decide) rfl ?_
                            obtain ⟨x32, ex32⟩ : ∃ y : Int32, y = v6_90 + 1 := ⟨_, rfl⟩
                            refine dv_iinc (v := x32) (lv' := [(6, .int x32), (3, .int x31), (4, .int x30), (5, .int v5_82), (2, .int (bcf who)), (0, .ref 17), (1, .int who)]) dX0_atLeast_125 (k := 2) rfl (by rw [ex32]; rfl) (by decide) rfl ?_
                            refine dv_goto (tgt := 90) dX0_atLeast_128 (by decide) ?_
                            refine dv_sub (loc2 := [(6, .int x32), (5, .int v5_82), (4, .int x30), (3, .int x31), (2, .int (bcf who)), (0, .ref 17), (1, .int who)]) [0, 3, 2, 1, 4, 5, 6] rfl ?_
                            exact ih90 x32 x30 x31 ct15 (by omega) (by first | omega | decide | assumption) hz hI
                    exact loop90 ((v4_82.toInt : Int).toNat + 1) (0 : Int32) v4_82 v3_82 ct13 (by omega) (by first | omega | decide | assumption) hz hI
              exact loop82 (((16 : Int32).toInt : Int).toNat + 1) (16 : Int32) (bcf who) (0 : Int32) ct6 (by omega) (by first | omega | decide | assumption) (by first | omega | decide | assumption) hz hI
            · skip
              have c12 : ¬ (spc8.toInt ≤ v3_28.toInt) := fun q => c12 ((z_le rfl rfl).mpr q)
              refine dv_iload_n dX0_atLeast_36 rfl 3 rfl ?_
              refine dv_aload_n dX0_atLeast_37 rfl 2 rfl ?_
              refine dv_get (ci := 0) (v := .ref 18) (C := RX0) (T := TX0) (N := 5) ⟨by decide, rfl⟩ hs7 rfl inG0 0 (by decide) mm_160 rfl dX0_atLeast_38 ?_
              refine dv_iload_n dX0_atLeast_41 rfl 0 rfl ?_
              obtain ⟨f34, hs33⟩ := a8_18 hI
              refine dv_iald 0 ⟨by decide, rfl⟩ hs33 rfl (z_in rfl (by omega) (by omega)) dX0_atLeast_42 ?_
              refine dv_topi (fun y35 ey35 => ?_)
              refine dv_iand dX0_atLeast_43 ?_
              refine dv_topi (fun x36 ex36 => ?_)
              have tx36 := z_andl (x := who) (y := y35) rfl (by omega)
              rw [← ex36] at tx36
              refine GW.callS (n := 1) (As := [.int x36]) (rest := []) (k_bce l g pe ct6 x36 hI) (fun _ h => Bool.noConfusion h) rfl rfl mm_749 mm_499 mm_62 mm_500 (by decide +kernel) ⟨Nat.le_of_ble_eq_true rfl, Nat.le_of_ble_eq_true rfl⟩ rfl (Nat.le_of_ble_eq_true rfl) dX0_atLeast_44 (Nat.zero_le _) (Nat.zero_le _) rfl (fun ct37 rrr38 hBr38 hoff39 => ?_)
              obtain ⟨r38, rfl, hr38, rfl⟩ := hBr38
              refine GW.eq (S2 := [.int r38]) rfl rfl rfl ?_
              have hqr38 := hr38
              subst r38
              have hbr38 := z_bc (x := x36) (by omega) (by omega)
              have hmx36 : (bcf x36).toInt ≤ (bcf who).toInt := by rw [ex36]; exact z_bcand hl_who.1 hl_who.2
              refine dv_istore (lv' := [(4, .int (bcf x36)), (3, .int v3_28), (2, .int (bcf who)), (0, .ref 17), (1, .int who)]) dX0_atLeast_47 (by decide) rfl ?_
              refine dv_aload_n dX0_atLeast_49 rfl 3 rfl ?_
              refine dv_get (ci := 0) (v := .ref 19) (C := RX0) (T := TX0) (N := 5) ⟨by decide, rfl⟩ hs7 rfl inG0 2 (by decide) mm_162 rfl dX0_atLeast_50 ?_
              refine dv_iload dX0_atLeast_53 0 rfl ?_
              refine dv_iload_n dX0_atLeast_55 rfl 2 rfl ?_
              refine dv_iload dX0_atLeast_56 0 rfl ?_
              refine dv_isub dX0_atLeast_58 ?_
              refine dv_topi (fun x40 ex40 => ?_)
              have tx40 : x40.toInt = (bcf who).toInt - (bcf x36).toInt := by rw [ex40]; exact z_sub rfl rfl (by omega) (by omega)
              refine dv_mmin mm_755 mm_680 mm_61 mm_681 (Nat.le_of_ble_eq_true rfl) (Nat.le_of_ble_eq_true rfl) (Nat.zero_le _) (Nat.zero_le _) dX0_atLeast_59 ?_
              refine dv_topi (fun x41 ex41 => ?_)
              have tx41 := z_min (x := (bcf x36)) (y := x40) rfl rfl
              rw [← ex41] at tx41
              refine dv_dup2_11 dX0_atLeast_62 rfl rfl ?_
              obtain ⟨f43, hs42⟩ := a8_19 hI
              refine dv_iald 0 ⟨by decide, rfl⟩ hs42 rfl (z_in rfl (by omega) (by omega)) dX0_atLeast_63 ?_
              refine dv_topi (fun y44 ey44 => ?_)
              refine dv_iconst (v := 1) dX0_atLeast_64 (by decide) ?_
              refine dv_iadd dX0_atLeast_65 ?_
              refine dv_topi (fun x45 ex45 => ?_)
              refine dv_iast 0 ⟨by decide, rfl⟩ hs42 rfl (z_in rfl (by omega) (by omega)) dX0_atLeast_66 (en := .inl (g.2 0, 17, .inl (upd f43 (Int32.toNatClampNeg x41) x45))) rfl (fun ct46 ec47 => ?_)
              have hI : Inv8 g idn pe ct46 := by rw [ec47]; exact up8 hI (i8_19 ⟨_, rfl⟩)
              have hz : zlen (ct46 20) = zlen (ct 20) := by rw [ec47]; exact (congrArg zlen (va_up_ne _ _ (by omega))).trans hz
              have hs48 : ct46 17 = .inr (0, [.ref 18, .int spc8, .ref 19, .ref 20, .int tim9]) := by rw [ec47, va_up_ne _ _ (by omega)]; exact hs7
              have hs49 : ct46 18 = .inl (g.2 0, 128, .inl f34) := by rw [ec47, va_up_ne _ _ (by omega)]; exact hs33
              have hs50 : ct46 19 = .inl (g.2 0, 17, .inl (upd f43 (Int32.toNatClampNeg x41) x45)) := by rw [ec47]; exact va_up_self _ _ _
              obtain ⟨x51, ex51⟩ : ∃ y : Int32, y = v3_28 + 1 := ⟨_, rfl⟩
              have tx51 : x51.toInt = v3_28.toInt + 1 := by rw [ex51]; exact z_add rfl (by decide : (1 : Int32).toInt = 1) (by omega) (by omega)
              refine dv_iinc (v := x51) (lv' := [(3, .int x51), (4, .int (bcf x36)), (2, .int (bcf who)), (0, .ref 17), (1, .int who)]) dX0_atLeast_67 (k := 1) rfl (by rw [ex51]; rfl) (by decide) rfl ?_
              refine dv_goto (tgt := 28) dX0_atLeast_70 (by decide) ?_
              refine dv_sub (loc2 := [(3, .int x51), (2, .int (bcf who)), (0, .ref 17), (1, .int who)]) [0, 2, 3, 4] rfl ?_
              exact ih28 x51 ct46 (by omega) (by first | omega | decide | assumption) hz hI
        exact loop28 ((128 - (0 : Int32).toInt : Int).toNat + 1) (0 : Int32) ct4 (by omega) (by first | omega | decide | assumption) hz hI
      · skip
        have c5 : ¬ (16 < v3_7.toInt) := fun q => c5 ((z_lt (by decide : (16 : Int32).toInt = 16) rfl).mpr q)
        refine dv_aload_n dX0_atLeast_13 rfl 2 rfl ?_
        obtain ⟨spc53, tim54, h55, h56, hs52⟩ := a8_17 hI
        refine dv_get (ci := 0) (v := .ref 19) (C := RX0) (T := TX0) (N := 5) ⟨by decide, rfl⟩ hs52 rfl inG0 2 (by decide) mm_162 rfl dX0_atLeast_14 ?_
        refine dv_iload_n dX0_atLeast_17 rfl 0 rfl ?_
        refine dv_iconst (v := 0) dX0_atLeast_18 (by decide) ?_
        obtain ⟨f58, hs57⟩ := a8_19 hI
        refine dv_iast 0 ⟨by decide, rfl⟩ hs57 rfl (z_in rfl (by omega) (by omega)) dX0_atLeast_19 (en := .inl (g.2 0, 17, .inl (upd f58 (Int32.toNatClampNeg v3_7) 0))) rfl (fun ct59 ec60 => ?_)
        have hI : Inv8 g idn pe ct59 := by rw [ec60]; exact up8 hI (i8_19 ⟨_, rfl⟩)
        have hz : zlen (ct59 20) = zlen (ct 20) := by rw [ec60]; exact (congrArg zlen (va_up_ne _ _ (by omega))).trans hz
        have hs61 : ct59 17 = .inr (0, [.ref 18, .int spc53, .ref 19, .ref 20, .int tim54]) := by rw [ec60, va_up_ne _ _ (by omega)]; exact hs52
        have hs62 : ct59 19 = .inl (g.2 0, 17, .inl (upd f58 (Int32.toNatClampNeg v3_7) 0)) := by rw [ec60]; exact va_up_self _ _ _
        obtain ⟨x63, ex63⟩ : ∃ y : Int32, y = v3_7 + 1 := ⟨_, rfl⟩
        have tx63 : x63.toInt = v3_7.toInt + 1 := by rw [ex63]; exact z_add rfl (by decide : (1 : Int32).toInt = 1) (by omega) (by omega)
        refine dv_iinc (v := x63) (lv' := [(3, .int x63), (2, .int (bcf who)), (0, .ref 17), (1, .int who)]) dX0_atLeast_20 (k := 0) rfl (by rw [ex63]; rfl) (by decide) rfl ?_
        refine dv_goto (tgt := 7) dX0_atLeast_23 (by decide) ?_
        exact ih7 x63 ct59 (by omega) (by first | omega | decide | assumption) hz hI
  exact loop7 ((17 - (0 : Int32).toInt : Int).toNat + 1) (0 : Int32) ct (by omega) (by first | omega | decide | assumption) hz hI
