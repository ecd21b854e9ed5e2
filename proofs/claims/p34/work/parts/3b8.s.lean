set_option maxHeartbeats 4000000 in
set_option maxRecDepth 100000 in
theorem f_safeLines (l : Launch) (g : zG) (pe : Int32) (ct : Nat → va_E) (b : Int32) (k : Int32) (ln0 : Int32) (lv0 : Int32) (lk0 : Int32) (fd0 : Int32) (fF : Nat → Int32) (hl_b : 0 ≤ b.toInt ∧ b.toInt ≤ 3) (hI : Inv8 g idn pe ct) (h10 : ct 10 = .inr (6, [.int ln0, .int lv0, .int lk0, .int fd0, .ref 11, .ref 12, .ref 13, .ref 14, .ref 15, .ref 16])) (h12 : ct 12 = .inl (g.2 0, 8, .inl fF)) : DM l g pAll false yX8_safeLines cX8_safeLines 7 (some .int) ({ frames := 3, cells := 0, slots := 0, locals := 66 }) (fun (ct2 : Nat → va_E) (rr : Option Value) => ∃ (r : Int32), rr = some (.int r) ∧ (((r = slS l g pe ct b k (wMay ln0 lv0 fF) 8) ∧ (0 ≤ r.toInt) ∧ (r.toInt ≤ 255))) ∧ Inv8 g idn pe ct2 ∧ (∀ k, ¬ dIn pM k → ct2 k = ct k) ∧ (ct2 10 = .inr (6, [.int ln0, .int lv0, .int (wLak ln0 lv0 fF), .int fd0, .ref 11, .ref 12, .ref 13, .ref 14, .ref 15, .ref 16])) ∧ (∃ fM2 : Nat → Int32, ct2 13 = .inl (g.2 0, 8, .inl fM2) ∧ ∀ j, j < 8 → fM2 j = wMay ln0 lv0 fF j) ∧ (ct2 11 = ct 11) ∧ (ct2 12 = ct 12) ∧ (ct2 15 = ct 15) ∧ (ct2 16 = ct 16)) ct [.ref 0, .int b, .int k] := by
  refine DM.K (fun K hK => ?_)
  refine GW.met (own := RX8) (loc := [(0, .ref 0), (1, .int b), (2, .int k)]) (by decide) rfl rfl (Nat.le_of_ble_eq_true rfl) ?_
  have hpe0 := hI.1
  obtain ⟨lns2, liv3, lak4, fnd5, h6, h7, h8, h9, hs1⟩ := a8_10 hI
  have hs10 := h10
  cases (h10.symm.trans hs1)
  obtain ⟨f12, hp13, hs11⟩ := a8_12 hI
  have hs14 := h12
  cases (h12.symm.trans hs11)
  have hof : ∀ k, ¬ dIn pM k → ct k = ct k := fun _ _ => rfl
  have hc11 : ct 11 = ct 11 := rfl
  have hc12 : ct 12 = ct 12 := rfl
  have hc15 : ct 15 = ct 15 := rfl
  have hc16 : ct 16 = ct 16 := rfl
  have rg_k := z_rng k
  have hI0 := hI
  refine dv_aload_n dX8_safeLines_0 rfl 0 rfl ?_
  obtain ⟨bk17, dr16, h18, h19, h20, hs15⟩ := a8_0 hI
  refine dv_get (ci := 8) (v := .ref 10) (C := RX8) (T := TX8) (N := 13) ⟨by decide, rfl⟩ hs15 rfl inG8 6 (by decide) mm_309 rfl dX8_safeLines_1 ?_
  refine GW.callV (n := 0) (As := []) (rest := []) (b := 10) (f_weigh l g pe ct ln0 lv0 lk0 fd0 fF hI hs10 hs14) sub_pM_pAll rfl rfl ⟨by decide, rfl⟩ hs10 (q := (RX6, TX6, 10)) rfl mm_490 mm_491 mm_492 mm_55 mm_493 (by decide +kernel) ⟨Nat.le_of_ble_eq_true rfl, Nat.le_of_ble_eq_true rfl⟩ rfl (Nat.le_of_ble_eq_true rfl) dX8_safeLines_4 (Nat.zero_le _) (Nat.zero_le _) rfl (fun ct21 rrr22 hBr22 hoff23 => ?_)
  obtain ⟨rfl, hI, hk24, hk25, hk26, hk27, hk28, hk29⟩ := hBr22
  have hof : ∀ k, ¬ dIn pM k → ct21 k = ct k := fun k hk => (hoff23 k hk).trans (hof k hk)
  refine GW.eq (S2 := []) rfl rfl rfl ?_
  have hs30 : ct21 0 = .inr (8, [.ref 1, .ref 2, .ref 3, .ref 5, .ref 6, .ref 9, .ref 10, .ref 17, .ref 21, .ref 34, .ref (99 + 3 * dr16), .int pe, .int bk17]) := (hoff23 _ (pM_no (by decide))).trans hs15
  obtain ⟨lk31, elk31⟩ : ∃ z : Int32, z = (wLak ln0 lv0 fF) := ⟨_, rfl⟩
  rw [← elk31] at hk24
  obtain ⟨fM32, hq33, hm34⟩ := hk25
  obtain ⟨lns36, liv37, lak38, fnd39, h40, h41, h42, h43, hs35⟩ := a8_10 hI
  have hs44 := hk24
  cases (hk24.symm.trans hs35)
  obtain ⟨f46, hp47, hs45⟩ := a8_13 hI
  have hs48 := hq33
  cases (hq33.symm.trans hs45)
  have hc11 : ct21 11 = ct 11 := hk26.trans hc11
  have hc12 : ct21 12 = ct 12 := hk27.trans hc12
  have hc15 : ct21 15 = ct 15 := hk28.trans hc15
  have hc16 : ct21 16 = ct 16 := hk29.trans hc16
  have hs49 : ct21 12 = .inl (g.2 0, 8, .inl fF) := hk27.trans hs14
  refine dv_iconst (v := 0) dX8_safeLines_7 (by decide) ?_
  refine dv_istore_n (lv' := [(3, .int 0), (0, .ref 0), (1, .int b), (2, .int k)]) dX8_safeLines_8 rfl (by decide) rfl ?_
  refine dv_iconst (v := 0) dX8_safeLines_9 (by decide) ?_
  refine dv_istore (lv' := [(4, .int 0), (3, .int 0), (0, .ref 0), (1, .int b), (2, .int k)]) dX8_safeLines_10 (by decide) rfl ?_
  have loop12 : ∀ (n12 : Nat) (v4_12 : Int32) (v3_12 : Int32) (ct50 : Nat → va_E), ((8 - v4_12.toInt : Int).toNat < n12) → (0 ≤ v4_12.toInt ∧ v4_12.toInt ≤ 8) → (0 ≤ v3_12.toInt ∧ v3_12.toInt ≤ 255) → (v3_12 = slS l g pe ct b k (wMay ln0 lv0 fF) v4_12.toInt.toNat) → (ct50 11 = ct 11) → (ct50 12 = ct 12) → (ct50 15 = ct 15) → (ct50 16 = ct 16) → (ct50 10 = .inr (6, [.int ln0, .int lv0, .int lk31, .int fd0, .ref 11, .ref 12, .ref 13, .ref 14, .ref 15, .ref 16])) → (ct50 13 = .inl (g.2 0, 8, .inl fM32)) → (∀ k, ¬ dIn pM k → ct50 k = ct k) → (Inv8 g idn pe ct50) → GW l g pAll pAll false yX8_safeLines cX8_safeLines 7 (some .int) RX8 ({ frames := 3, cells := 0, slots := 0, locals := 66 }) K 0 0 ct50 12 [(4, .int v4_12), (3, .int v3_12), (0, .ref 0), (1, .int b), (2, .int k)] [] := by
    intro n12
    induction n12 with
    | zero =>
      intro v4_12 v3_12 ct50 hn12 b4_12 b3_12 j0_12 hc11 hc12 hc15 hc16 kp10_12 kp13_12 hof hI
      exact absurd hn12 (Nat.not_lt_zero _)
    | succ n12 ih12 =>
      intro v4_12 v3_12 ct50 hn12 b4_12 b3_12 j0_12 hc11 hc12 hc15 hc16 kp10_12 kp13_12 hof hI
      have hs51 : ct50 12 = .inl (g.2 0, 8, .inl fF) := hc12.trans hs14
      refine dv_iload dX8_safeLines_12 0 rfl ?_
      refine dv_bipush (v := 8) dX8_safeLines_14 (by decide) ?_
      refine dv_icmp_ge (tgt := 99) dX8_safeLines_16 (by decide) (fun c52 => ?_) (fun c52 => ?_)
      · skip
        have c52 : 8 ≤ v4_12.toInt := (z_le (by decide : (8 : Int32).toInt = 8) rfl).mp c52
        refine dv_iload_n dX8_safeLines_99 rfl 1 rfl ?_
        exact dv_iret dX8_safeLines_100 rfl (by first | exact Nat.zero_le _ | decide) (by first | exact Nat.zero_le _ | decide) (by subst hK; exact ⟨v3_12, rfl, (⟨by rw [j0_12, show v4_12.toInt.toNat = 8 by omega], by omega, by omega⟩), hI, hof, (by rw [← elk31]; exact kp10_12), (⟨_, kp13_12, hm34⟩), (by assumption), (by assumption), (by assumption), (by assumption)⟩)
      · skip
        have c52 : ¬ (8 ≤ v4_12.toInt) := fun q => c52 ((z_le (by decide : (8 : Int32).toInt = 8) rfl).mpr q)
        refine dv_aload_n dX8_safeLines_19 rfl 2 rfl ?_
        refine dv_iload_n dX8_safeLines_20 rfl 3 rfl ?_
        refine dv_iload dX8_safeLines_21 0 rfl ?_
        obtain ⟨bk56, dr55, h57, h58, h59, hs54⟩ := a8_0 hI
        refine GW.callV (n := 2) (As := [.int b, .int v4_12]) (rest := []) (b := 0) (f_isLive l g pe ct50 b v4_12 hI) sub_pCl_pAll rfl rfl ⟨by decide, rfl⟩ hs54 (q := (RX8, TX8, 13)) rfl mm_422 mm_424 mm_5 mm_52 mm_425 (by decide +kernel) ⟨Nat.le_of_ble_eq_true rfl, Nat.le_of_ble_eq_true rfl⟩ rfl (Nat.le_of_ble_eq_true rfl) dX8_safeLines_23 (Nat.zero_le _) (Nat.zero_le _) rfl (fun ct53 rrr60 hBr60 hoff61 => ?_)
        obtain ⟨r60, rfl, hr60, rfl⟩ := hBr60
        refine GW.eq (S2 := [.int r60]) rfl rfl rfl ?_
        rcases hr60 with hr60 | hr60
        · skip
          obtain ⟨rfl, h62, h63, h64, h65⟩ := hr60
          have h62 : LIV ct50 b v4_12 = true := h62
          have h63 : 0 ≤ b.toInt ∧ b.toInt ≤ 3 := h63
          have h64 : 0 ≤ v4_12.toInt ∧ v4_12.toInt ≤ 7 := h64
          have h65 : LIN ct50 b v4_12 = true := h65
          refine dv_if_eq (tgt := 93) dX8_safeLines_26 (by decide) (fun c66 => ?_) (fun c66 => ?_)
          · skip
            exact absurd c66 (by decide)
          · skip
            have hli : LIV ct b (nI v4_12.toInt.toNat) = true := by
              rw [← z_nI (x := v4_12) (k := v4_12.toInt.toNat) (by omega), ← LIV_o hof]
              assumption
            refine dv_aload_n dX8_safeLines_29 rfl 2 rfl ?_
            refine dv_get (ci := 8) (v := .ref 5) (C := RX8) (T := TX8) (N := 13) ⟨by decide, rfl⟩ hs54 rfl inG8 3 (by decide) mm_306 rfl dX8_safeLines_30 ?_
            refine dv_iload_n dX8_safeLines_33 rfl 3 rfl ?_
            have hs67 := a8_5 hI
            refine dv_aldq 5 ⟨by decide, rfl⟩ hs67 rfl (z_in rfl (by omega) (by omega)) dX8_safeLines_34 (r := (0 + 55 + 11 * b.toInt.toNat)) (zF5_r (x := b) (by omega) (by omega)) ?_
            refine dv_iload dX8_safeLines_35 0 rfl ?_
            obtain ⟨lns70, liv71, shw72, h73, h74, h75, h76, hz77, h78, hs69⟩ := a8_40 (kc := (0 + 55 + 11 * b.toInt.toNat)) (by omega) hI
            have bhz77 := z_b01 hz77
            refine GW.callV (n := 1) (As := [.int v4_12]) (rest := []) (b := (0 + 55 + 11 * b.toInt.toNat)) (eOwner_s l g pe ct50 (0 + 55 + 11 * b.toInt.toNat) v4_12 (by omega) hI) sub_pB_pAll rfl rfl ⟨by omega, pB_of (by omega)⟩ hs69 (q := (RX2, TX2, 5)) rfl mm_382 mm_383 mm_384 mm_60 mm_385 (by decide +kernel) ⟨Nat.le_of_ble_eq_true rfl, Nat.le_of_ble_eq_true rfl⟩ rfl (Nat.le_of_ble_eq_true rfl) dX8_safeLines_37 (Nat.zero_le _) (Nat.zero_le _) rfl (fun ct68 rrr79 hBr79 hoff80 => ?_)
            obtain ⟨r79, rfl, hr79, rfl⟩ := hBr79
            refine GW.eq (S2 := [.int r79]) rfl rfl rfl ?_
            obtain ⟨h81, h82⟩ := hr79
            have h81 : r79 = eOwner l g pe ct50 (0 + 55 + 11 * b.toInt.toNat) v4_12 := h81
            have h82 : True := h82
            have how : r79 = eOwner l g pe ct (0 + 55 + 11 * b.toInt.toNat) (nI v4_12.toInt.toNat) := by rw [h81, eOwner_o hof, ← z_nI (x := v4_12) (k := v4_12.toInt.toNat) (by omega)]
            refine dv_istore (lv' := [(5, .int r79), (4, .int v4_12), (3, .int v3_12), (0, .ref 0), (1, .int b), (2, .int k)]) dX8_safeLines_40 (by decide) rfl ?_
            refine dv_aload_n dX8_safeLines_42 rfl 3 rfl ?_
            refine dv_iload dX8_safeLines_43 0 rfl ?_
            refine GW.callV (n := 1) (As := [.int r79]) (rest := []) (b := 0) (k_X8_isPerson l g pe ct50 r79 hI) sub_pCl_pAll rfl rfl ⟨by decide, rfl⟩ hs54 (q := (RX8, TX8, 13)) rfl mm_370 mm_372 mm_1 mm_52 mm_373 (by decide +kernel) ⟨Nat.le_of_ble_eq_true rfl, Nat.le_of_ble_eq_true rfl⟩ rfl (Nat.le_of_ble_eq_true rfl) dX8_safeLines_45 (Nat.zero_le _) (Nat.zero_le _) rfl (fun ct83 rrr84 hBr84 hoff85 => ?_)
            obtain ⟨r84, rfl, hr84, rfl⟩ := hBr84
            refine GW.eq (S2 := [.int r84]) rfl rfl rfl ?_
            rcases hr84 with hr84 | hr84
            · skip
              obtain ⟨rfl, h86, h87⟩ := hr84
              have h86 : 0 ≤ r79.toInt := h86
              have h87 : r79.toInt < pe.toInt := h87
              refine dv_if_eq (tgt := 61) dX8_safeLines_48 (by decide) (fun c88 => ?_) (fun c88 => ?_)
              · skip
                exact absurd c88 (by decide)
              · skip
                refine dv_aload_n dX8_safeLines_51 rfl 3 rfl ?_
                refine dv_get (ci := 8) (v := .ref 2) (C := RX8) (T := TX8) (N := 13) ⟨by decide, rfl⟩ hs54 rfl inG8 1 (by decide) mm_304 rfl dX8_safeLines_52 ?_
                refine dv_iload dX8_safeLines_55 0 rfl ?_
                obtain ⟨f90, hs89⟩ := a8_2 hI
                refine dv_iald 0 ⟨by decide, rfl⟩ hs89 rfl (z_in rfl (by omega) (by omega)) dX8_safeLines_57 ?_
                refine dv_topi (fun y91 ey91 => ?_)
                refine dv_goto (tgt := 62) dX8_safeLines_58 (by decide) ?_
                have hws : y91 = wshF pe ct r79 := by
                  unfold wshF
                  rw [if_pos ⟨by omega, by omega⟩, ey91, show Int32.toNatClampNeg r79 = r79.toInt.toNat from z_cl (by omega), zar_of ((hof 2 (pM_no (by omega))).symm.trans hs89)]
                refine dv_istore (lv' := [(6, .int y91), (5, .int r79), (4, .int v4_12), (3, .int v3_12), (0, .ref 0), (1, .int b), (2, .int k)]) dX8_safeLines_62 (by decide) rfl ?_
                refine dv_aload_n dX8_safeLines_64 rfl 4 rfl ?_
                refine dv_get (ci := 8) (v := .ref 10) (C := RX8) (T := TX8) (N := 13) ⟨by decide, rfl⟩ hs54 rfl inG8 6 (by decide) mm_309 rfl dX8_safeLines_65 ?_
                refine dv_get (ci := 6) (v := .ref 13) (C := RX6) (T := TX6) (N := 10) ⟨by decide, rfl⟩ kp10_12 rfl inG6 6 (by decide) mm_128 rfl dX8_safeLines_68 ?_
                refine dv_iload dX8_safeLines_71 2 rfl ?_
                refine dv_iald 0 ⟨by decide, rfl⟩ kp13_12 rfl (z_in rfl (by omega) (by omega)) dX8_safeLines_73 ?_
                refine dv_topi (fun y92 ey92 => ?_)
                have hy92 := hp47 _ (z_clt (x := v4_12) rfl (by omega) (by omega))
                rw [← ey92] at hy92
                have hy92 : 0 ≤ y92.toInt ∧ y92.toInt ≤ 65535 := hy92
                refine GW.callS (n := 1) (As := [.int y92]) (rest := []) (k_bce l g pe ct50 y92 hI) (fun _ h => Bool.noConfusion h) rfl rfl mm_504 mm_499 mm_62 mm_500 (by decide +kernel) ⟨Nat.le_of_ble_eq_true rfl, Nat.le_of_ble_eq_true rfl⟩ rfl (Nat.le_of_ble_eq_true rfl) dX8_safeLines_74 (Nat.zero_le _) (Nat.zero_le _) rfl (fun ct93 rrr94 hBr94 hoff95 => ?_)
                obtain ⟨r94, rfl, hr94, rfl⟩ := hBr94
                refine GW.eq (S2 := [.int r94]) rfl rfl rfl ?_
                have hqr94 := hr94
                subst r94
                have hbr94 := z_bc (x := y92) (by omega) (by omega)
                refine dv_iload_n dX8_safeLines_77 rfl 6 rfl ?_
                refine dv_iload dX8_safeLines_78 0 rfl ?_
                refine dv_mmax mm_537 mm_538 mm_61 mm_539 (Nat.le_of_ble_eq_true rfl) (Nat.le_of_ble_eq_true rfl) (Nat.zero_le _) (Nat.zero_le _) dX8_safeLines_80 ?_
                refine dv_topi (fun x96 ex96 => ?_)
                have tx96 := z_max (x := k) (y := y91) rfl rfl
                rw [← ex96] at tx96
                have hmx : x96 = mxI k (wshF pe ct (eOwner l g pe ct (0 + 55 + 11 * b.toInt.toNat) (nI v4_12.toInt.toNat))) := by rw [← how, ← hws, ex96]; rfl
                have hmy : y92 = wMay ln0 lv0 fF v4_12.toInt.toNat := by rw [ey92, hm34 _ (by have := z_clI (x := v4_12) (by omega); omega), show Int32.toNatClampNeg v4_12 = v4_12.toInt.toNat from z_cl (by omega)]
                refine dv_icmp_lt (tgt := 93) dX8_safeLines_83 (by decide) (fun c97 => ?_) (fun c97 => ?_)
                · skip
                  have c97 : (bcf y92).toInt < x96.toInt := (z_lt rfl rfl).mp c97
                  obtain ⟨x98, ex98⟩ : ∃ y : Int32, y = v4_12 + 1 := ⟨_, rfl⟩
                  have tx98 : x98.toInt = v4_12.toInt + 1 := by rw [ex98]; exact z_add rfl (by decide : (1 : Int32).toInt = 1) (by omega) (by omega)
                  refine dv_iinc (v := x98) (lv' := [(4, .int x98), (6, .int y91), (5, .int r79), (3, .int v3_12), (0, .ref 0), (1, .int b), (2, .int k)]) dX8_safeLines_93 (k := 2) rfl (by rw [ex98]; rfl) (by decide) rfl ?_
                  refine dv_goto (tgt := 12) dX8_safeLines_96 (by decide) ?_
                  refine dv_sub (loc2 := [(4, .int x98), (3, .int v3_12), (0, .ref 0), (1, .int b), (2, .int k)]) [0, 3, 4, 5, 6] rfl ?_
                  exact ih12 x98 v3_12 ct50 (by omega) (by omega) (by omega) (by rw [show x98.toInt.toNat = v4_12.toInt.toNat + 1 by omega]; show _ = (if LIV ct b (nI v4_12.toInt.toNat) = true ∧ _ ≤ _ then _ else _); rw [← hmx, ← hmy, if_neg (fun q => by have q2 := q.2; omega)]; exact j0_12) hc11 hc12 hc15 hc16 kp10_12 kp13_12 hof hI
                · skip
                  have c97 : ¬ ((bcf y92).toInt < x96.toInt) := fun q => c97 ((z_lt rfl rfl).mpr q)
                  refine dv_iload_n dX8_safeLines_86 rfl 3 rfl ?_
                  refine dv_iconst (v := 1) dX8_safeLines_87 (by decide) ?_
                  refine dv_iload dX8_safeLines_88 2 rfl ?_
                  refine dv_ishl dX8_safeLines_90 ?_
                  refine dv_topi (fun x99 ex99 => ?_)
                  have tx99 := z_shl1e (y := v4_12) (by omega) (by omega)
                  rw [← ex99] at tx99
                  have ux99 := z_shl1 (y := v4_12) rfl (by omega) (k := 7) (by decide) (by omega)
                  rw [← ex99] at ux99
                  refine dv_ior dX8_safeLines_91 ?_
                  refine dv_topi (fun x100 ex100 => ?_)
                  have tx100 := z_or (x := v3_12) (y := x99) rfl rfl (k := 8) (N := 256) (by decide) (by decide) (by omega) (by omega) (by omega) (by omega)
                  rw [← ex100] at tx100
                  refine dv_istore_n (lv' := [(3, .int x100), (6, .int y91), (5, .int r79), (4, .int v4_12), (0, .ref 0), (1, .int b), (2, .int k)]) dX8_safeLines_92 rfl (by decide) rfl ?_
                  obtain ⟨x101, ex101⟩ : ∃ y : Int32, y = v4_12 + 1 := ⟨_, rfl⟩
                  have tx101 : x101.toInt = v4_12.toInt + 1 := by rw [ex101]; exact z_add rfl (by decide : (1 : Int32).toInt = 1) (by omega) (by omega)
                  refine dv_iinc (v := x101) (lv' := [(4, .int x101), (3, .int x100), (6, .int y91), (5, .int r79), (0, .ref 0), (1, .int b), (2, .int k)]) dX8_safeLines_93 (k := 3) rfl (by rw [ex101]; rfl) (by decide) rfl ?_
                  refine dv_goto (tgt := 12) dX8_safeLines_96 (by decide) ?_
                  refine dv_sub (loc2 := [(4, .int x101), (3, .int x100), (0, .ref 0), (1, .int b), (2, .int k)]) [0, 1, 4, 5, 6] rfl ?_
                  exact ih12 x101 x100 ct50 (by omega) (by omega) (by omega) (by rw [show x101.toInt.toNat = v4_12.toInt.toNat + 1 by omega]; show _ = (if LIV ct b (nI v4_12.toInt.toNat) = true ∧ _ ≤ _ then _ else _); rw [← hmx, ← hmy, if_pos ⟨hli, by omega⟩, ← j0_12, ex100, ex99, ← z_nI (x := v4_12) (k := v4_12.toInt.toNat) (by omega)]) hc11 hc12 hc15 hc16 kp10_12 kp13_12 hof hI
            · skip
              obtain ⟨rfl, h102⟩ := hr84
              have h102 : ¬ (0 ≤ r79.toInt ∧ r79.toInt < pe.toInt) := h102
              refine dv_if_eq (tgt := 61) dX8_safeLines_48 (by decide) (fun c103 => ?_) (fun c103 => ?_)
              · skip
                refine dv_iconst (v := 0) dX8_safeLines_61 (by decide) ?_
                have hws : (0 : Int32) = wshF pe ct r79 := by unfold wshF; rw [if_neg (by omega)]
                refine dv_istore (lv' := [(6, .int 0), (5, .int r79), (4, .int v4_12), (3, .int v3_12), (0, .ref 0), (1, .int b), (2, .int k)]) dX8_safeLines_62 (by decide) rfl ?_
                refine dv_aload_n dX8_safeLines_64 rfl 4 rfl ?_
                refine dv_get (ci := 8) (v := .ref 10) (C := RX8) (T := TX8) (N := 13) ⟨by decide, rfl⟩ hs54 rfl inG8 6 (by decide) mm_309 rfl dX8_safeLines_65 ?_
                refine dv_get (ci := 6) (v := .ref 13) (C := RX6) (T := TX6) (N := 10) ⟨by decide, rfl⟩ kp10_12 rfl inG6 6 (by decide) mm_128 rfl dX8_safeLines_68 ?_
                refine dv_iload dX8_safeLines_71 2 rfl ?_
                refine dv_iald 0 ⟨by decide, rfl⟩ kp13_12 rfl (z_in rfl (by omega) (by omega)) dX8_safeLines_73 ?_
                refine dv_topi (fun y104 ey104 => ?_)
                have hy104 := hp47 _ (z_clt (x := v4_12) rfl (by omega) (by omega))
                rw [← ey104] at hy104
                have hy104 : 0 ≤ y104.toInt ∧ y104.toInt ≤ 65535 := hy104
                refine GW.callS (n := 1) (As := [.int y104]) (rest := []) (k_bce l g pe ct50 y104 hI) (fun _ h => Bool.noConfusion h) rfl rfl mm_504 mm_499 mm_62 mm_500 (by decide +kernel) ⟨Nat.le_of_ble_eq_true rfl, Nat.le_of_ble_eq_true rfl⟩ rfl (Nat.le_of_ble_eq_true rfl) dX8_safeLines_74 (Nat.zero_le _) (Nat.zero_le _) rfl (fun ct105 rrr106 hBr106 hoff107 => ?_)
                obtain ⟨r106, rfl, hr106, rfl⟩ := hBr106
                refine GW.eq (S2 := [.int r106]) rfl rfl rfl ?_
                have hqr106 := hr106
                subst r106
                have hbr106 := z_bc (x := y104) (by omega) (by omega)
                refine dv_iload_n dX8_safeLines_77 rfl 6 rfl ?_
                refine dv_iload dX8_safeLines_78 0 rfl ?_
                refine dv_mmax mm_537 mm_538 mm_61 mm_539 (Nat.le_of_ble_eq_true rfl) (Nat.le_of_ble_eq_true rfl) (Nat.zero_le _) (Nat.zero_le _) dX8_safeLines_80 ?_
                refine dv_topi (fun x108 ex108 => ?_)
                have tx108 := z_max (x := k) (y := 0) rfl (by decide : (0 : Int32).toInt = 0)
                rw [← ex108] at tx108
                have hmx : x108 = mxI k (wshF pe ct (eOwner l g pe ct (0 + 55 + 11 * b.toInt.toNat) (nI v4_12.toInt.toNat))) := by rw [← how, ← hws, ex108]; rfl
                have hmy : y104 = wMay ln0 lv0 fF v4_12.toInt.toNat := by rw [ey104, hm34 _ (by have := z_clI (x := v4_12) (by omega); omega), show Int32.toNatClampNeg v4_12 = v4_12.toInt.toNat from z_cl (by omega)]
                refine dv_icmp_lt (tgt := 93) dX8_safeLines_83 (by decide) (fun c109 => ?_) (fun c109 => ?_)
                · skip
                  have c109 : (bcf y104).toInt < x108.toInt := (z_lt rfl rfl).mp c109
                  obtain ⟨x110, ex110⟩ : ∃ y : Int32, y = v4_12 + 1 := ⟨_, rfl⟩
                  have tx110 : x110.toInt = v4_12.toInt + 1 := by rw [ex110]; exact z_add rfl (by decide : (1 : Int32).toInt = 1) (by omega) (by omega)
                  refine dv_iinc (v := x110) (lv' := [(4, .int x110), (6, .int 0), (5, .int r79), (3, .int v3_12), (0, .ref 0), (1, .int b), (2, .int k)]) dX8_safeLines_93 (k := 2) rfl (by rw [ex110]; rfl) (by decide) rfl ?_
                  refine dv_goto (tgt := 12) dX8_safeLines_96 (by decide) ?_
                  refine dv_sub (loc2 := [(4, .int x110), (3, .int v3_12), (0, .ref 0), (1, .int b), (2, .int k)]) [0, 3, 4, 5, 6] rfl ?_
                  exact ih12 x110 v3_12 ct50 (by omega) (by omega) (by omega) (by rw [show x110.toInt.toNat = v4_12.toInt.toNat + 1 by omega]; show _ = (if LIV ct b (nI v4_12.toInt.toNat) = true ∧ _ ≤ _ then _ else _); rw [← hmx, ← hmy, if_neg (fun q => by have q2 := q.2; omega)]; exact j0_12) hc11 hc12 hc15 hc16 kp10_12 kp13_12 hof hI
                · skip
                  have c109 : ¬ ((bcf y104).toInt < x108.toInt) := fun q => c109 ((z_lt rfl rfl).mpr q)
                  refine dv_iload_n dX8_safeLines_86 rfl 3 rfl ?_
                  refine dv_iconst (v := 1) dX8_safeLines_87 (by decide) ?_
                  refine dv_iload dX8_safeLines_88 2 rfl ?_
                  refine dv_ishl dX8_safeLines_90 ?_
                  refine dv_topi (fun x111 ex111 => ?_)
                  have tx111 := z_shl1e (y := v4_12) (by omega) (by omega)
                  rw [← ex111] at tx111
                  have ux111 := z_shl1 (y := v4_12) rfl (by omega) (k := 7) (by decide) (by omega)
                  rw [← ex111] at ux111
                  refine dv_ior dX8_safeLines_91 ?_
                  refine dv_topi (fun x112 ex112 => ?_)
                  have tx112 := z_or (x := v3_12) (y := x111) rfl rfl (k := 8) (N := 256) (by decide) (by decide) (by omega) (by omega) (by omega) (by omega)
                  rw [← ex112] at tx112
                  refine dv_istore_n (lv' := [(3, .int x112), (6, .int 0), (5, .int r79), (4, .int v4_12), (0, .ref 0), (1, .int b), (2, .int k)]) dX8_safeLines_92 rfl (by decide) rfl ?_
                  obtain ⟨x113, ex113⟩ : ∃ y : Int32, y = v4_12 + 1 := ⟨_, rfl⟩
                  have tx113 : x113.toInt = v4_12.toInt + 1 := by rw [ex113]; exact z_add rfl (by decide : (1 : Int32).toInt = 1) (by omega) (by omega)
                  refine dv_iinc (v := x113) (lv' := [(4, .int x113), (3, .int x112), (6, .int 0), (5, .int r79), (0, .ref 0), (1, .int b), (2, .int k)]) dX8_safeLines_93 (k := 3) rfl (by rw [ex113]; rfl) (by decide) rfl ?_
                  refine dv_goto (tgt := 12) dX8_safeLines_96 (by decide) ?_
                  refine dv_sub (loc2 := [(4, .int x113), (3, .int x112), (0, .ref 0), (1, .int b), (2, .int k)]) [0, 1, 4, 5, 6] rfl ?_
                  exact ih12 x113 x112 ct50 (by omega) (by omega) (by omega) (by rw [show x113.toInt.toNat = v4_12.toInt.toNat + 1 by omega]; show _ = (if LIV ct b (nI v4_12.toInt.toNat) = true ∧ _ ≤ _ then _ else _); rw [← hmx, ← hmy, if_pos ⟨hli, by omega⟩, ← j0_12, ex112, ex111, ← z_nI (x := v4_12) (k := v4_12.toInt.toNat) (by omega)]) hc11 hc12 hc15 hc16 kp10_12 kp13_12 hof hI
              · skip
                exact absurd c103 (by decide)
        · skip
          obtain ⟨rfl, h114⟩ := hr60
          have h114 : LIV ct50 b v4_12 = false := h114
          refine dv_if_eq (tgt := 93) dX8_safeLines_26 (by decide) (fun c115 => ?_) (fun c115 => ?_)
          · skip
            have hnl : LIV ct b (nI v4_12.toInt.toNat) = false := by
              rw [← z_nI (x := v4_12) (k := v4_12.toInt.toNat) (by omega), ← LIV_o hof]
              assumption
            obtain ⟨x116, ex116⟩ : ∃ y : Int32, y = v4_12 + 1 := ⟨_, rfl⟩
            have tx116 : x116.toInt = v4_12.toInt + 1 := by rw [ex116]; exact z_add rfl (by decide : (1 : Int32).toInt = 1) (by omega) (by omega)
            refine dv_iinc (v := x116) (lv' := [(4, .int x116), (3, .int v3_12), (0, .ref 0), (1, .int b), (2, .int k)]) dX8_safeLines_93 (k := 0) rfl (by rw [ex116]; rfl) (by decide) rfl ?_
            refine dv_goto (tgt := 12) dX8_safeLines_96 (by decide) ?_
            exact ih12 x116 v3_12 ct50 (by omega) (by omega) (by omega) (by rw [show x116.toInt.toNat = v4_12.toInt.toNat + 1 by omega]; show _ = (if LIV ct b (nI v4_12.toInt.toNat) = true ∧ _ ≤ _ then _ else _); rw [if_neg (fun q => by have q1 := q.1; rw [hnl] at q1; exact absurd q1 (by decide))]; exact j0_12) hc11 hc12 hc15 hc16 kp10_12 kp13_12 hof hI
          · skip
            exact absurd c115 (by decide)
  exact loop12 ((8 - (0 : Int32).toInt : Int).toNat + 1) (0 : Int32) (0 : Int32) ct21 (by omega) (by first | omega | decide | (have hz0 : (0 : Int32).toInt = 0 := (by decide); have hz1 : (1 : Int32).toInt = 1 := (by decide); omega)) (by first | omega | decide | (have hz0 : (0 : Int32).toInt = 0 := (by decide); have hz1 : (1 : Int32).toInt = 1 := (by decide); omega)) rfl hc11 hc12 hc15 hc16 hs44 hs48 hof hI

set_option maxHeartbeats 4000000 in
set_option maxRecDepth 100000 in
theorem f_safe (l : Launch) (g : zG) (pe : Int32) (ct : Nat → va_E) (b : Int32) (k : Int32) (kn : Int32) (hI : Inv8 g idn pe ct) : DM l g pAll false yX8_safe cX8_safe 4 (some .int) ({ frames := 5, cells := 0, slots := 0, locals := 117 }) (fun (ct2 : Nat → va_E) (rr : Option Value) => ∃ (r : Int32), rr = some (.int r) ∧ (((r = qSafe l g pe ct b k kn) ∧ (True))) ∧ Inv8 g idn pe ct2 ∧ (∀ k, ¬ dIn pM k → ct2 k = ct k)) ct [.ref 0, .int b, .int k, .int kn] := by
  refine DM.K (fun K hK => ?_)
  refine GW.met (own := RX8) (loc := [(0, .ref 0), (1, .int b), (2, .int k), (3, .int kn)]) (by decide) rfl rfl (Nat.le_of_ble_eq_true rfl) ?_
  have hpe0 := hI.1
  have hof : ∀ k, ¬ dIn pM k → ct k = ct k := fun _ _ => rfl
  have rg_b := z_rng b
  have rg_k := z_rng k
  have rg_kn := z_rng kn
  obtain ⟨bk3, dr2, h4, h5, h6, hs1⟩ := a8_0 hI
  have hzb : (bkF ct).toInt = bk3.toInt := by unfold bkF; rw [hs1]; rfl
  have hI0 := hI
  refine dv_aload_n dX8_safe_0 rfl 0 rfl ?_
  refine dv_iload_n dX8_safe_1 rfl 1 rfl ?_
  refine GW.callV (n := 1) (As := [.int b]) (rest := []) (b := 0) (f_isBook l g pe ct b hI) sub_pCl_pAll rfl rfl ⟨by decide, rfl⟩ hs1 (q := (RX8, TX8, 13)) rfl mm_415 mm_417 mm_4 mm_52 mm_418 (by decide +kernel) ⟨Nat.le_of_ble_eq_true rfl, Nat.le_of_ble_eq_true rfl⟩ rfl (Nat.le_of_ble_eq_true rfl) dX8_safe_2 (Nat.zero_le _) (Nat.zero_le _) rfl (fun ct7 rrr8 hBr8 hoff9 => ?_)
  obtain ⟨r8, rfl, hr8, rfl⟩ := hBr8
  refine GW.eq (S2 := [.int r8]) rfl rfl rfl ?_
  rcases hr8 with hr8 | hr8
  · skip
    obtain ⟨rfl, h10, h11, h12⟩ := hr8
    have h10 : 0 ≤ b.toInt := h10
    have h11 : b.toInt < (bkF ct).toInt := h11
    have h12 : b.toInt ≤ 3 := h12
    refine dv_if_eq (tgt := 22) dX8_safe_5 (by decide) (fun c13 => ?_) (fun c13 => ?_)
    · skip
      exact absurd c13 (by decide)
    · skip
      refine dv_iload_n dX8_safe_8 rfl 2 rfl ?_
      refine GW.callS (n := 1) (As := [.int k]) (rest := []) (k_X8_isBar l g pe ct k hI) (fun _ h => Bool.noConfusion h) rfl rfl mm_530 mm_531 mm_52 mm_532 (by decide +kernel) ⟨Nat.le_of_ble_eq_true rfl, Nat.le_of_ble_eq_true rfl⟩ rfl (Nat.le_of_ble_eq_true rfl) dX8_safe_9 (Nat.zero_le _) (Nat.zero_le _) rfl (fun ct14 rrr15 hBr15 hoff16 => ?_)
      obtain ⟨r15, rfl, hr15, rfl⟩ := hBr15
      refine GW.eq (S2 := [.int r15]) rfl rfl rfl ?_
      rcases hr15 with hr15 | hr15
      · skip
        obtain ⟨rfl, h17, h18⟩ := hr15
        have h17 : 1 ≤ k.toInt := h17
        have h18 : k.toInt ≤ 16 := h18
        refine dv_if_eq (tgt := 22) dX8_safe_12 (by decide) (fun c19 => ?_) (fun c19 => ?_)
        · skip
          exact absurd c19 (by decide)
        · skip
          refine dv_iload_n dX8_safe_15 rfl 3 rfl ?_
          refine GW.callS (n := 1) (As := [.int kn]) (rest := []) (k_X8_areGossips l g pe ct kn hI) (fun _ h => Bool.noConfusion h) rfl rfl mm_419 mm_420 mm_52 mm_421 (by decide +kernel) ⟨Nat.le_of_ble_eq_true rfl, Nat.le_of_ble_eq_true rfl⟩ rfl (Nat.le_of_ble_eq_true rfl) dX8_safe_16 (Nat.zero_le _) (Nat.zero_le _) rfl (fun ct20 rrr21 hBr21 hoff22 => ?_)
          obtain ⟨r21, rfl, hr21, rfl⟩ := hBr21
          refine GW.eq (S2 := [.int r21]) rfl rfl rfl ?_
          rcases hr21 with hr21 | hr21
          · skip
            obtain ⟨rfl, h23, h24⟩ := hr21
            have h23 : 0 ≤ kn.toInt := h23
            have h24 : kn.toInt ≤ 255 := h24
            refine dv_if_ne (tgt := 24) dX8_safe_19 (by decide) (fun c25 => ?_) (fun c25 => ?_)
            · skip
              refine dv_aload_n dX8_safe_24 rfl 0 rfl ?_
              refine dv_iload_n dX8_safe_25 rfl 1 rfl ?_
              refine dv_iload_n dX8_safe_26 rfl 3 rfl ?_
              refine GW.callV (n := 2) (As := [.int b, .int kn]) (rest := []) (b := 0) (f_fit l g pe ct b kn (by first | omega | decide) (by first | omega | decide) hI) (fun _ h => h) rfl rfl ⟨by decide, rfl⟩ hs1 (q := (RX8, TX8, 13)) rfl mm_426 mm_428 mm_6 mm_52 mm_429 (by decide +kernel) ⟨Nat.le_of_ble_eq_true rfl, Nat.le_of_ble_eq_true rfl⟩ rfl (Nat.le_of_ble_eq_true rfl) dX8_safe_27 (Nat.zero_le _) (Nat.zero_le _) rfl (fun ct26 rrr27 hBr27 hoff28 => ?_)
              obtain ⟨rfl, hI, hcf36, hk29, hk30, hk31, hk32, hk33, hk34, hk35⟩ := hBr27
              have hof : ∀ k, ¬ dIn pM k → ct26 k = ct k := fun k hk => (hcf36 k hk).trans (hof k hk)
              refine GW.eq (S2 := []) rfl rfl rfl ?_
              have hs37 : ct26 0 = .inr (8, [.ref 1, .ref 2, .ref 3, .ref 5, .ref 6, .ref 9, .ref 10, .ref 17, .ref 21, .ref 34, .ref (99 + 3 * dr2), .int pe, .int bk3]) := (hcf36 _ (pM_no (by decide))).trans hs1
              obtain ⟨lk38, fd39, hq40⟩ := hk29
              obtain ⟨fF41, hq42, hf43⟩ := hk30
              obtain ⟨fD44, hq45, hd46⟩ := hk31
              obtain ⟨lnfF41, e1fF41⟩ : ∃ z : Int32, z = lnF ct b.toInt.toNat := ⟨_, rfl⟩
              obtain ⟨lvfF41, e2fF41⟩ : ∃ z : Int32, z = lvF ct b.toInt.toNat := ⟨_, rfl⟩
              rw [← e1fF41, ← e2fF41] at hq40
              obtain ⟨lns48, liv49, lak50, fnd51, h52, h53, h54, h55, hs47⟩ := a8_10 hI
              have hs56 := hq40
              cases (hq40.symm.trans hs47)
              obtain ⟨f58, hp59, hs57⟩ := a8_12 hI
              have hs60 := hq42
              cases (hq42.symm.trans hs57)
              obtain ⟨f62, hs61⟩ := a8_11 hI
              have hs63 := hq45
              cases (hq45.symm.trans hs61)
              have hof1 := hof
              refine dv_aload_n dX8_safe_30 rfl 0 rfl ?_
              refine dv_iload_n dX8_safe_31 rfl 1 rfl ?_
              refine dv_iload_n dX8_safe_32 rfl 2 rfl ?_
              refine GW.callV (n := 2) (As := [.int b, .int k]) (rest := []) (b := 0) (f_safeLines l g pe ct26 b k lnfF41 lvfF41 lk38 fd39 fF41 (by first | omega | decide) hI hs56 hs60) (fun _ h => h) rfl rfl ⟨by decide, rfl⟩ hs37 (q := (RX8, TX8, 13)) rfl mm_533 mm_535 mm_16 mm_52 mm_536 (by decide +kernel) ⟨Nat.le_of_ble_eq_true rfl, Nat.le_of_ble_eq_true rfl⟩ rfl (Nat.le_of_ble_eq_true rfl) dX8_safe_33 (Nat.zero_le _) (Nat.zero_le _) rfl (fun ct64 rrr65 hBr65 hoff66 => ?_)
              obtain ⟨r65, rfl, hr65, hI, hcf73, hk67, hk68, hk69, hk70, hk71, hk72⟩ := hBr65
              have hof : ∀ k, ¬ dIn pM k → ct64 k = ct k := fun k hk => (hcf73 k hk).trans (hof k hk)
              refine GW.eq (S2 := [.int r65]) rfl rfl rfl ?_
              have hs74 : ct64 0 = .inr (8, [.ref 1, .ref 2, .ref 3, .ref 5, .ref 6, .ref 9, .ref 10, .ref 17, .ref 21, .ref 34, .ref (99 + 3 * dr2), .int pe, .int bk3]) := (hcf73 _ (pM_no (by decide))).trans hs37
              obtain ⟨lk75, elk75⟩ : ∃ z : Int32, z = (wLak lnfF41 lvfF41 fF41) := ⟨_, rfl⟩
              rw [← elk75] at hk67
              obtain ⟨fM76, hq77, hm78⟩ := hk68
              obtain ⟨lns80, liv81, lak82, fnd83, h84, h85, h86, h87, hs79⟩ := a8_10 hI
              have hs88 := hk67
              cases (hk67.symm.trans hs79)
              obtain ⟨f90, hp91, hs89⟩ := a8_13 hI
              have hs92 := hq77
              cases (hq77.symm.trans hs89)
              have hs93 : ct64 11 = .inl (g.2 0, 8, .inl fD44) := hk69.trans hs63
              have hs94 : ct64 12 = .inl (g.2 0, 8, .inl fF41) := hk70.trans hs60
              obtain ⟨h95, h96, h97⟩ := hr65
              have h95 : r65 = slS l g pe ct26 b k (wMay lnfF41 lvfF41 fF41) 8 := h95
              have h96 : 0 ≤ r65.toInt := h96
              have h97 : r65.toInt ≤ 255 := h97
              exact dv_iret dX8_safe_36 rfl (by first | exact Nat.zero_le _ | decide) (by first | exact Nat.zero_le _ | decide) (by subst hK; exact ⟨r65, rfl, (⟨by unfold qSafe; rw [if_pos ⟨by omega, by omega, by omega, by omega, by omega, by omega⟩, h95, slS_o hof1, e1fF41, e2fF41]; exact SLF_c hf43, trivial⟩), hI, hof⟩)
            · skip
              exact absurd c25 (by decide)
          · skip
            obtain ⟨rfl, h98⟩ := hr21
            have h98 : ¬ (0 ≤ kn.toInt ∧ kn.toInt ≤ 255) := h98
            refine dv_if_ne (tgt := 24) dX8_safe_19 (by decide) (fun c99 => ?_) (fun c99 => ?_)
            · skip
              exact absurd c99 (by decide)
            · skip
              refine dv_iconst (v := (-1)) dX8_safe_22 (by decide) ?_
              have q100 : ((-1) : Int32).toInt = -1 := by decide
              exact dv_iret dX8_safe_23 rfl (by first | exact Nat.zero_le _ | decide) (by first | exact Nat.zero_le _ | decide) (by subst hK; exact ⟨(-1), rfl, (⟨by unfold qSafe; rw [if_neg (fun q => by have q1 := q.1; have q2 := q.2.1; have q3 := q.2.2.1; have q4 := q.2.2.2.1; have q5 := q.2.2.2.2.1; have q6 := q.2.2.2.2.2; omega)], trivial⟩), hI, hof⟩)
      · skip
        obtain ⟨rfl, h101⟩ := hr15
        have h101 : ¬ (1 ≤ k.toInt ∧ k.toInt ≤ 16) := h101
        refine dv_if_eq (tgt := 22) dX8_safe_12 (by decide) (fun c102 => ?_) (fun c102 => ?_)
        · skip
          refine dv_iconst (v := (-1)) dX8_safe_22 (by decide) ?_
          have q103 : ((-1) : Int32).toInt = -1 := by decide
          exact dv_iret dX8_safe_23 rfl (by first | exact Nat.zero_le _ | decide) (by first | exact Nat.zero_le _ | decide) (by subst hK; exact ⟨(-1), rfl, (⟨by unfold qSafe; rw [if_neg (fun q => by have q1 := q.1; have q2 := q.2.1; have q3 := q.2.2.1; have q4 := q.2.2.2.1; have q5 := q.2.2.2.2.1; have q6 := q.2.2.2.2.2; omega)], trivial⟩), hI, hof⟩)
        · skip
          exact absurd c102 (by decide)
  · skip
    obtain ⟨rfl, h104⟩ := hr8
    have h104 : ¬ (0 ≤ b.toInt ∧ b.toInt < (bkF ct).toInt) := h104
    refine dv_if_eq (tgt := 22) dX8_safe_5 (by decide) (fun c105 => ?_) (fun c105 => ?_)
    · skip
      refine dv_iconst (v := (-1)) dX8_safe_22 (by decide) ?_
      have q106 : ((-1) : Int32).toInt = -1 := by decide
      exact dv_iret dX8_safe_23 rfl (by first | exact Nat.zero_le _ | decide) (by first | exact Nat.zero_le _ | decide) (by subst hK; exact ⟨(-1), rfl, (⟨by unfold qSafe; rw [if_neg (fun q => by have q1 := q.1; have q2 := q.2.1; have q3 := q.2.2.1; have q4 := q.2.2.2.1; have q5 := q.2.2.2.2.1; have q6 := q.2.2.2.2.2; omega)], trivial⟩), hI, hof⟩)
    · skip
      exact absurd c105 (by decide)

set_option maxHeartbeats 4000000 in
set_option maxRecDepth 100000 in
theorem f_mayLaid (l : Launch) (g : zG) (pe : Int32) (ct : Nat → va_E) (b : Int32) (i : Int32) (kn : Int32) (fD : Nat → Int32) (hl_b : 0 ≤ b.toInt ∧ b.toInt ≤ 3) (hl_i : 0 ≤ i.toInt ∧ i.toInt ≤ 7) (hl_kn : 0 ≤ kn.toInt ∧ kn.toInt ≤ 255) (hI : Inv8 g idn pe ct) (h11 : ct 11 = .inl (g.2 0, 8, .inl fD)) : DM l g pAll false yX8_mayLaid cX8_mayLaid 4 (some .int) ({ frames := 4, cells := 0, slots := 0, locals := 95 }) (fun (ct2 : Nat → va_E) (rr : Option Value) => ∃ (r : Int32), rr = some (.int r) ∧ (((r = wMay (lnF ct b.toInt.toNat) (lvF ct b.toInt.toNat) (FTL l g pe ct b kn fD) i.toInt.toNat) ∧ (0 ≤ r.toInt) ∧ (r.toInt ≤ 65535))) ∧ Inv8 g idn pe ct2 ∧ (∀ k, ¬ dIn pM k → ct2 k = ct k) ∧ (ct2 11 = ct 11) ∧ (ct2 15 = ct 15) ∧ (ct2 16 = ct 16)) ct [.ref 0, .int b, .int i, .int kn] := by
  refine DM.K (fun K hK => ?_)
  refine GW.met (own := RX8) (loc := [(0, .ref 0), (1, .int b), (2, .int i), (3, .int kn)]) (by decide) rfl rfl (Nat.le_of_ble_eq_true rfl) ?_
  have hpe0 := hI.1
  obtain ⟨f2, hs1⟩ := a8_11 hI
  have hs3 := h11
  cases (h11.symm.trans hs1)
  have hof : ∀ k, ¬ dIn pM k → ct k = ct k := fun _ _ => rfl
  have hc11 : ct 11 = ct 11 := rfl
  have hc15 : ct 15 = ct 15 := rfl
  have hc16 : ct 16 = ct 16 := rfl
  obtain ⟨bk6, dr5, h7, h8, h9, hs4⟩ := a8_0 hI
  have hzb : (bkF ct).toInt = bk6.toInt := by unfold bkF; rw [hs4]; rfl
  have hI0 := hI
  refine dv_aload_n dX8_mayLaid_0 rfl 0 rfl ?_
  refine dv_iload_n dX8_mayLaid_1 rfl 1 rfl ?_
  refine dv_iload_n dX8_mayLaid_2 rfl 3 rfl ?_
  refine GW.callV (n := 2) (As := [.int b, .int kn]) (rest := []) (b := 0) (f_fitLaid l g pe ct b kn fD (by first | omega | decide) (by first | omega | decide) hI hs3) (fun _ h => h) rfl rfl ⟨by decide, rfl⟩ hs4 (q := (RX8, TX8, 13)) rfl mm_449 mm_451 mm_10 mm_52 mm_452 (by decide +kernel) ⟨Nat.le_of_ble_eq_true rfl, Nat.le_of_ble_eq_true rfl⟩ rfl (Nat.le_of_ble_eq_true rfl) dX8_mayLaid_3 (Nat.zero_le _) (Nat.zero_le _) rfl (fun ct10 rrr11 hBr11 hoff12 => ?_)
  obtain ⟨rfl, hI, hcf20, hk13, hk14, hk15, hk16, hk17, hk18, hk19⟩ := hBr11
  have hof : ∀ k, ¬ dIn pM k → ct10 k = ct k := fun k hk => (hcf20 k hk).trans (hof k hk)
  refine GW.eq (S2 := []) rfl rfl rfl ?_
  have hs21 : ct10 0 = .inr (8, [.ref 1, .ref 2, .ref 3, .ref 5, .ref 6, .ref 9, .ref 10, .ref 17, .ref 21, .ref 34, .ref (99 + 3 * dr5), .int pe, .int bk6]) := (hcf20 _ (pM_no (by decide))).trans hs4
  obtain ⟨lk22, fd23, hq24⟩ := hk13
  obtain ⟨fF25, hq26, hf27⟩ := hk14
  obtain ⟨lnfF25, e1fF25⟩ : ∃ z : Int32, z = (lnF ct b.toInt.toNat) := ⟨_, rfl⟩
  obtain ⟨lvfF25, e2fF25⟩ : ∃ z : Int32, z = (lvF ct b.toInt.toNat) := ⟨_, rfl⟩
  rw [← e1fF25, ← e2fF25] at hq24
  obtain ⟨lns29, liv30, lak31, fnd32, h33, h34, h35, h36, hs28⟩ := a8_10 hI
  have hs37 := hq24
  cases (hq24.symm.trans hs28)
  obtain ⟨f39, hp40, hs38⟩ := a8_12 hI
  have hs41 := hq26
  cases (hq26.symm.trans hs38)
  have hc11 : ct10 11 = ct 11 := hk15.trans hc11
  have hc15 : ct10 15 = ct 15 := hk18.trans hc15
  have hc16 : ct10 16 = ct 16 := hk19.trans hc16
  have hs42 : ct10 11 = .inl (g.2 0, 8, .inl fD) := hk15.trans hs3
  refine dv_aload_n dX8_mayLaid_6 rfl 0 rfl ?_
  refine dv_get (ci := 8) (v := .ref 10) (C := RX8) (T := TX8) (N := 13) ⟨by decide, rfl⟩ hs21 rfl inG8 6 (by decide) mm_309 rfl dX8_mayLaid_7 ?_
  refine GW.callV (n := 0) (As := []) (rest := []) (b := 10) (f_weigh l g pe ct10 lnfF25 lvfF25 lk22 fd23 fF25 hI hs37 hs41) sub_pM_pAll rfl rfl ⟨by decide, rfl⟩ hs37 (q := (RX6, TX6, 10)) rfl mm_490 mm_491 mm_492 mm_55 mm_493 (by decide +kernel) ⟨Nat.le_of_ble_eq_true rfl, Nat.le_of_ble_eq_true rfl⟩ rfl (Nat.le_of_ble_eq_true rfl) dX8_mayLaid_10 (Nat.zero_le _) (Nat.zero_le _) rfl (fun ct43 rrr44 hBr44 hoff45 => ?_)
  obtain ⟨rfl, hI, hk46, hk47, hk48, hk49, hk50, hk51⟩ := hBr44
  have hof : ∀ k, ¬ dIn pM k → ct43 k = ct k := fun k hk => (hoff45 k hk).trans (hof k hk)
  refine GW.eq (S2 := []) rfl rfl rfl ?_
  have hs52 : ct43 0 = .inr (8, [.ref 1, .ref 2, .ref 3, .ref 5, .ref 6, .ref 9, .ref 10, .ref 17, .ref 21, .ref 34, .ref (99 + 3 * dr5), .int pe, .int bk6]) := (hoff45 _ (pM_no (by decide))).trans hs21
  obtain ⟨lk53, elk53⟩ : ∃ z : Int32, z = (wLak lnfF25 lvfF25 fF25) := ⟨_, rfl⟩
  rw [← elk53] at hk46
  obtain ⟨fM54, hq55, hm56⟩ := hk47
  obtain ⟨lns58, liv59, lak60, fnd61, h62, h63, h64, h65, hs57⟩ := a8_10 hI
  have hs66 := hk46
  cases (hk46.symm.trans hs57)
  obtain ⟨f68, hp69, hs67⟩ := a8_13 hI
  have hs70 := hq55
  cases (hq55.symm.trans hs67)
  have hc11 : ct43 11 = ct 11 := hk48.trans hc11
  have hc15 : ct43 15 = ct 15 := hk50.trans hc15
  have hc16 : ct43 16 = ct 16 := hk51.trans hc16
  have hs71 : ct43 11 = .inl (g.2 0, 8, .inl fD) := hk48.trans hs42
  have hs72 : ct43 12 = .inl (g.2 0, 8, .inl fF25) := hk49.trans hs41
  refine dv_aload_n dX8_mayLaid_13 rfl 0 rfl ?_
  refine dv_get (ci := 8) (v := .ref 10) (C := RX8) (T := TX8) (N := 13) ⟨by decide, rfl⟩ hs52 rfl inG8 6 (by decide) mm_309 rfl dX8_mayLaid_14 ?_
  refine dv_get (ci := 6) (v := .ref 13) (C := RX6) (T := TX6) (N := 10) ⟨by decide, rfl⟩ hs66 rfl inG6 6 (by decide) mm_128 rfl dX8_mayLaid_17 ?_
  refine dv_iload_n dX8_mayLaid_20 rfl 2 rfl ?_
  refine dv_iald 0 ⟨by decide, rfl⟩ hs70 rfl (z_in rfl (by omega) (by omega)) dX8_mayLaid_21 ?_
  refine dv_topi (fun y73 ey73 => ?_)
  have hy73 := hp69 _ (z_clt (x := i) rfl (by omega) (by omega))
  rw [← ey73] at hy73
  have hy73 : 0 ≤ y73.toInt ∧ y73.toInt ≤ 65535 := hy73
  exact dv_iret dX8_mayLaid_22 rfl (by first | exact Nat.zero_le _ | decide) (by first | exact Nat.zero_le _ | decide) (by subst hK; exact ⟨y73, rfl, (⟨by rw [ey73, hm56 _ (by have := z_clI (x := i) (by omega); omega), ← e1fF25, ← e2fF25, show Int32.toNatClampNeg i = i.toInt.toNat from z_cl (by omega)]; exact wMay_c hf27 (by omega), by omega, by omega⟩), hI, hof, (by assumption), (by assumption), (by assumption)⟩)

set_option maxHeartbeats 4000000 in
set_option maxRecDepth 100000 in
theorem f_fewestGossips (l : Launch) (g : zG) (pe : Int32) (ct : Nat → va_E) (b : Int32) (i : Int32) (hl_b : 0 ≤ b.toInt ∧ b.toInt ≤ 3) (hl_i : 0 ≤ i.toInt ∧ i.toInt ≤ 7) (hI : Inv8 g idn pe ct) : DM l g pAll false yX8_fewestGossips cX8_fewestGossips 7 (some .int) ({ frames := 5, cells := 0, slots := 0, locals := 118 }) (fun (ct2 : Nat → va_E) (rr : Option Value) => ∃ (r : Int32), rr = some (.int r) ∧ (((r = bfS l g pe ct b i 256))) ∧ Inv8 g idn pe ct2 ∧ (∀ k, ¬ dIn pM k → ct2 k = ct k) ∧ (∃ fD2 : Nat → Int32, ct2 11 = .inl (g.2 0, 8, .inl fD2) ∧ ∀ j, j < 8 → fD2 j = LDF l g pe ct b (eOpen l g pe ct b) j)) ct [.ref 0, .int b, .int i] := by
  refine DM.K (fun K hK => ?_)
  refine GW.met (own := RX8) (loc := [(0, .ref 0), (1, .int b), (2, .int i)]) (by decide) rfl rfl (Nat.le_of_ble_eq_true rfl) ?_
  have hpe0 := hI.1
  have hof : ∀ k, ¬ dIn pM k → ct k = ct k := fun _ _ => rfl
  obtain ⟨bk3, dr2, h4, h5, h6, hs1⟩ := a8_0 hI
  have hzb : (bkF ct).toInt = bk3.toInt := by unfold bkF; rw [hs1]; rfl
  have hI0 := hI
  refine dv_iconst (v := 0) dX8_fewestGossips_0 (by decide) ?_
  refine dv_istore_n (lv' := [(3, .int 0), (0, .ref 0), (1, .int b), (2, .int i)]) dX8_fewestGossips_1 rfl (by decide) rfl ?_
  refine dv_iconst (v := 0) dX8_fewestGossips_2 (by decide) ?_
  refine dv_istore (lv' := [(4, .int 0), (3, .int 0), (0, .ref 0), (1, .int b), (2, .int i)]) dX8_fewestGossips_3 (by decide) rfl ?_
  have loop5 : ∀ (n5 : Nat) (v4_5 : Int32) (v3_5 : Int32) (ct7 : Nat → va_E), ((8 - v4_5.toInt : Int).toNat < n5) → (0 ≤ v4_5.toInt ∧ v4_5.toInt ≤ 8) → (0 ≤ v3_5.toInt ∧ v3_5.toInt ≤ 255) → (v3_5 = usS ct b v4_5.toInt.toNat) → (∀ k, ¬ dIn pM k → ct7 k = ct k) → (Inv8 g idn pe ct7) → GW l g pAll pAll false yX8_fewestGossips cX8_fewestGossips 7 (some .int) RX8 ({ frames := 5, cells := 0, slots := 0, locals := 118 }) K 0 0 ct7 5 [(4, .int v4_5), (3, .int v3_5), (0, .ref 0), (1, .int b), (2, .int i)] [] := by
    intro n5
    induction n5 with
    | zero =>
      intro v4_5 v3_5 ct7 hn5 b4_5 b3_5 j0_5 hof hI
      exact absurd hn5 (Nat.not_lt_zero _)
    | succ n5 ih5 =>
      intro v4_5 v3_5 ct7 hn5 b4_5 b3_5 j0_5 hof hI
      refine dv_iload dX8_fewestGossips_5 0 rfl ?_
      refine dv_bipush (v := 8) dX8_fewestGossips_7 (by decide) ?_
      refine dv_icmp_ge (tgt := 52) dX8_fewestGossips_9 (by decide) (fun c8 => ?_) (fun c8 => ?_)
      · skip
        have c8 : 8 ≤ v4_5.toInt := (z_le (by decide : (8 : Int32).toInt = 8) rfl).mp c8
        refine dv_aload_n dX8_fewestGossips_52 rfl 2 rfl ?_
        have hofq := hof
        refine dv_iload_n dX8_fewestGossips_53 rfl 3 rfl ?_
        refine dv_aload_n dX8_fewestGossips_54 rfl 2 rfl ?_
        refine dv_iload_n dX8_fewestGossips_55 rfl 3 rfl ?_
        obtain ⟨bk12, dr11, h13, h14, h15, hs10⟩ := a8_0 hI
        refine GW.callV (n := 1) (As := [.int b]) (rest := [.int b, .ref 0]) (b := 0) (eOpen_s l g pe ct7 b (by first | omega | decide) hI) sub_pCl_pAll rfl rfl ⟨by decide, rfl⟩ hs10 (q := (RX8, TX8, 13)) rfl mm_430 mm_432 mm_7 mm_52 mm_433 (by decide +kernel) ⟨Nat.le_of_ble_eq_true rfl, Nat.le_of_ble_eq_true rfl⟩ rfl (Nat.le_of_ble_eq_true rfl) dX8_fewestGossips_56 (Nat.zero_le _) (Nat.zero_le _) rfl (fun ct9 rrr16 hBr16 hoff17 => ?_)
        obtain ⟨r16, rfl, hr16, rfl⟩ := hBr16
        refine GW.eq (S2 := [.int r16, .int b, .ref 0]) rfl rfl rfl ?_
        obtain ⟨h18, h19, h20⟩ := hr16
        have h18 : r16 = eOpen l g pe ct7 b := h18
        have h19 : 0 ≤ r16.toInt := h19
        have h20 : r16.toInt ≤ 15 := h20
        refine GW.callV (n := 2) (As := [.int b, .int r16]) (rest := []) (b := 0) (f_layOut l g pe ct7 b r16 (by first | omega | decide) (by first | omega | decide) hI) (fun _ h => h) rfl rfl ⟨by decide, rfl⟩ hs10 (q := (RX8, TX8, 13)) rfl mm_438 mm_440 mm_9 mm_52 mm_441 (by decide +kernel) ⟨Nat.le_of_ble_eq_true rfl, Nat.le_of_ble_eq_true rfl⟩ rfl (Nat.le_of_ble_eq_true rfl) dX8_fewestGossips_59 (Nat.zero_le _) (Nat.zero_le _) rfl (fun ct21 rrr22 hBr22 hoff23 => ?_)
        obtain ⟨rfl, hI, hcf31, hk24, hk25, hk26, hk27, hk28, hk29, hk30⟩ := hBr22
        have hof : ∀ k, ¬ dIn pM k → ct21 k = ct k := fun k hk => (hcf31 k hk).trans (hof k hk)
        refine GW.eq (S2 := []) rfl rfl rfl ?_
        have hs32 : ct21 0 = .inr (8, [.ref 1, .ref 2, .ref 3, .ref 5, .ref 6, .ref 9, .ref 10, .ref 17, .ref 21, .ref 34, .ref (99 + 3 * dr11), .int pe, .int bk12]) := (hcf31 _ (pM_no (by decide))).trans hs10
        obtain ⟨fD33, hq34, hd35⟩ := hk24
        obtain ⟨f37, hs36⟩ := a8_11 hI
        have hs38 := hq34
        cases (hq34.symm.trans hs36)
        refine dv_iconst (v := (-1)) dX8_fewestGossips_62 (by decide) ?_
        refine dv_istore (lv' := [(4, .int (-1)), (3, .int v3_5), (0, .ref 0), (1, .int b), (2, .int i)]) dX8_fewestGossips_63 (by decide) rfl ?_
        have hlaid : ∀ j, j < 8 → fD33 j = LDF l g pe ct b (eOpen l g pe ct b) j := fun j hj => by rw [hd35 j hj, h18, LDF_o hofq, eOpen_o hofq]
        have hus : v3_5 = usS ct b 8 := by rw [show (8 : Nat) = v4_5.toInt.toNat by omega]; exact j0_5
        refine dv_iconst (v := 0) dX8_fewestGossips_65 (by decide) ?_
        refine dv_istore (lv' := [(5, .int 0), (4, .int (-1)), (3, .int v3_5), (0, .ref 0), (1, .int b), (2, .int i)]) dX8_fewestGossips_66 (by decide) rfl ?_
        have loop68 : ∀ (n68 : Nat) (v5_68 : Int32) (v4_68 : Int32) (ct39 : Nat → va_E), ((256 - v5_68.toInt : Int).toNat < n68) → (0 ≤ v5_68.toInt ∧ v5_68.toInt ≤ 256) → (-1 ≤ v4_68.toInt ∧ v4_68.toInt ≤ 255) → (v4_68 = bfS l g pe ct b i (v5_68.toInt.toNat)) → (ct39 11 = .inl (g.2 0, 8, .inl fD33)) → (∀ k, ¬ dIn pM k → ct39 k = ct k) → (Inv8 g idn pe ct39) → GW l g pAll pAll false yX8_fewestGossips cX8_fewestGossips 7 (some .int) RX8 ({ frames := 5, cells := 0, slots := 0, locals := 118 }) K 0 0 ct39 68 [(5, .int v5_68), (4, .int v4_68), (3, .int v3_5), (0, .ref 0), (1, .int b), (2, .int i)] [] := by
          intro n68
          induction n68 with
          | zero =>
            intro v5_68 v4_68 ct39 hn68 b5_68 b4_68 j0_68 kp11_68 hof hI
            exact absurd hn68 (Nat.not_lt_zero _)
          | succ n68 ih68 =>
            intro v5_68 v4_68 ct39 hn68 b5_68 b4_68 j0_68 kp11_68 hof hI
            refine dv_iload dX8_fewestGossips_68 0 rfl ?_
            refine dv_sipush (v := 256) dX8_fewestGossips_70 (by decide) ?_
            refine dv_icmp_ge (tgt := 141) dX8_fewestGossips_73 (by decide) (fun c40 => ?_) (fun c40 => ?_)
            · skip
              have c40 : 256 ≤ v5_68.toInt := (z_le (by decide : (256 : Int32).toInt = 256) rfl).mp c40
              refine dv_iload dX8_fewestGossips_141 1 rfl ?_
              exact dv_iret dX8_fewestGossips_143 rfl (by first | exact Nat.zero_le _ | decide) (by first | exact Nat.zero_le _ | decide) (by subst hK; exact ⟨v4_68, rfl, (by rw [j0_68, show v5_68.toInt.toNat = 256 by omega]), hI, hof, (⟨_, kp11_68, hlaid⟩)⟩)
            · skip
              have c40 : ¬ (256 ≤ v5_68.toInt) := fun q => c40 ((z_le (by decide : (256 : Int32).toInt = 256) rfl).mpr q)
              refine dv_iload dX8_fewestGossips_76 1 rfl ?_
              refine dv_iconst (v := (-1)) dX8_fewestGossips_78 (by decide) ?_
              refine dv_icmp_eq (tgt := 95) dX8_fewestGossips_79 (by decide) (fun c41 => ?_) (fun c41 => ?_)
              · skip
                have c41 : v4_68.toInt = (-1) := (z_eq rfl (by decide : ((-1) : Int32).toInt = (-1))).mp c41
                refine dv_iconst (v := 1) dX8_fewestGossips_95 (by decide) ?_
                refine dv_goto (tgt := 100) dX8_fewestGossips_96 (by decide) ?_
                refine dv_istore (lv' := [(6, .int 1), (5, .int v5_68), (4, .int v4_68), (3, .int v3_5), (0, .ref 0), (1, .int b), (2, .int i)]) dX8_fewestGossips_100 (by decide) rfl ?_
                refine dv_iload dX8_fewestGossips_102 0 rfl ?_
                refine dv_if_eq (tgt := 135) dX8_fewestGossips_104 (by decide) (fun c42 => ?_) (fun c42 => ?_)
                · skip
                  exact absurd c42 (by decide)
                · skip
                  refine dv_iload dX8_fewestGossips_107 1 rfl ?_
                  refine dv_iload_n dX8_fewestGossips_109 rfl 3 rfl ?_
                  refine dv_iconst (v := (-1)) dX8_fewestGossips_110 (by decide) ?_
                  refine dv_ixor dX8_fewestGossips_111 ?_
                  refine dv_topi (fun x43 ex43 => ?_)
                  refine dv_iand dX8_fewestGossips_112 ?_
                  refine dv_topi (fun x44 ex44 => ?_)
                  refine dv_if_ne (tgt := 135) dX8_fewestGossips_113 (by decide) (fun c45 => ?_) (fun c45 => ?_)
                  · skip
                    have c45 : ¬ (x44.toInt = 0) := fun q => c45 ((z_eq rfl (by decide : (0 : Int32).toInt = 0)).mpr q)
                    obtain ⟨x46, ex46⟩ : ∃ y : Int32, y = v5_68 + 1 := ⟨_, rfl⟩
                    have tx46 : x46.toInt = v5_68.toInt + 1 := by rw [ex46]; exact z_add rfl (by decide : (1 : Int32).toInt = 1) (by omega) (by omega)
                    refine dv_iinc (v := x46) (lv' := [(5, .int x46), (6, .int 1), (4, .int v4_68), (3, .int v3_5), (0, .ref 0), (1, .int b), (2, .int i)]) dX8_fewestGossips_135 (k := 1) rfl (by rw [ex46]; rfl) (by decide) rfl ?_
                    refine dv_goto (tgt := 68) dX8_fewestGossips_138 (by decide) ?_
                    refine dv_sub (loc2 := [(5, .int x46), (4, .int v4_68), (3, .int v3_5), (0, .ref 0), (1, .int b), (2, .int i)]) [0, 2, 3, 4, 5, 6] rfl ?_
                    exact ih68 x46 v4_68 ct39 (by omega) (by omega) (by omega) (by rw [show x46.toInt.toNat = v5_68.toInt.toNat + 1 by omega]; show _ = (if ((bfS l g pe ct b i v5_68.toInt.toNat).toInt = -1 ∨ (bcf (nI v5_68.toInt.toNat)).toInt < (bcf (bfS l g pe ct b i v5_68.toInt.toNat)).toInt) ∧ (nI v5_68.toInt.toNat &&& (usS ct b 8 ^^^ (-1))).toInt = 0 ∧ (bcf (qMay l g pe ct b (nI v5_68.toInt.toNat) i.toInt.toNat)).toInt = 1 then nI v5_68.toInt.toNat else _); rw [← j0_68, ← z_nI (x := v5_68) (k := v5_68.toInt.toNat) (by omega)]; rw [if_neg (fun q => by have q2 := q.2.1; rw [← hus, ← ex43, ← ex44] at q2; omega)]) kp11_68 hof hI
                  · skip
                    have c45 : x44.toInt = 0 := (z_eq rfl (by decide : (0 : Int32).toInt = 0)).mp c45
                    have hof2 := hof
                    refine dv_aload_n dX8_fewestGossips_116 rfl 4 rfl ?_
                    refine dv_iload_n dX8_fewestGossips_117 rfl 5 rfl ?_
                    refine dv_iload_n dX8_fewestGossips_118 rfl 6 rfl ?_
                    refine dv_iload dX8_fewestGossips_119 1 rfl ?_
                    obtain ⟨bk50, dr49, h51, h52, h53, hs48⟩ := a8_0 hI
                    refine GW.callV (n := 3) (As := [.int b, .int i, .int v5_68]) (rest := []) (b := 0) (f_mayLaid l g pe ct39 b i v5_68 fD33 (by first | omega | decide) (by first | omega | decide) (by first | omega | decide) hI kp11_68) (fun _ h => h) rfl rfl ⟨by decide, rfl⟩ hs48 (q := (RX8, TX8, 13)) rfl mm_711 mm_713 mm_33 mm_52 mm_714 (by decide +kernel) ⟨Nat.le_of_ble_eq_true rfl, Nat.le_of_ble_eq_true rfl⟩ rfl (Nat.le_of_ble_eq_true rfl) dX8_fewestGossips_121 (Nat.zero_le _) (Nat.zero_le _) rfl (fun ct47 rrr54 hBr54 hoff55 => ?_)
                    obtain ⟨r54, rfl, hr54, hI, hcf59, hk56, hk57, hk58⟩ := hBr54
                    have hof : ∀ k, ¬ dIn pM k → ct47 k = ct k := fun k hk => (hcf59 k hk).trans (hof k hk)
                    refine GW.eq (S2 := [.int r54]) rfl rfl rfl ?_
                    have hs60 : ct47 0 = .inr (8, [.ref 1, .ref 2, .ref 3, .ref 5, .ref 6, .ref 9, .ref 10, .ref 17, .ref 21, .ref 34, .ref (99 + 3 * dr49), .int pe, .int bk50]) := (hcf59 _ (pM_no (by decide))).trans hs48
                    have hs61 : ct47 11 = .inl (g.2 0, 8, .inl fD33) := hk56.trans kp11_68
                    obtain ⟨h62, h63, h64⟩ := hr54
                    have h62 : r54 = wMay (lnF ct39 b.toInt.toNat) (lvF ct39 b.toInt.toNat) (FTL l g pe ct39 b v5_68 fD33) i.toInt.toNat := h62
                    have h63 : 0 ≤ r54.toInt := h63
                    have h64 : r54.toInt ≤ 65535 := h64
                    have hmay : r54 = qMay l g pe ct b v5_68 i.toInt.toNat := by
                      rw [h62]
                      unfold qMay
                      rw [lnF_o hof2, lvF_o hof2]
                      exact wMay_c (fun j hj => (FTL_p hof2 (gix_rg hI0)).trans (FTL_L (hlaid j hj))) (by omega)
                    refine GW.callS (n := 1) (As := [.int r54]) (rest := []) (k_bce l g pe ct47 r54 hI) (fun _ h => Bool.noConfusion h) rfl rfl mm_504 mm_499 mm_62 mm_500 (by decide +kernel) ⟨Nat.le_of_ble_eq_true rfl, Nat.le_of_ble_eq_true rfl⟩ rfl (Nat.le_of_ble_eq_true rfl) dX8_fewestGossips_124 (Nat.zero_le _) (Nat.zero_le _) rfl (fun ct65 rrr66 hBr66 hoff67 => ?_)
                    obtain ⟨r66, rfl, hr66, rfl⟩ := hBr66
                    refine GW.eq (S2 := [.int r66]) rfl rfl rfl ?_
                    have hqr66 := hr66
                    subst r66
                    refine dv_iconst (v := 1) dX8_fewestGossips_127 (by decide) ?_
                    refine dv_icmp_ne (tgt := 135) dX8_fewestGossips_128 (by decide) (fun c68 => ?_) (fun c68 => ?_)
                    · skip
                      have c68 : ¬ ((bcf r54).toInt = 1) := fun q => c68 ((z_eq rfl (by decide : (1 : Int32).toInt = 1)).mpr q)
                      obtain ⟨x69, ex69⟩ : ∃ y : Int32, y = v5_68 + 1 := ⟨_, rfl⟩
                      have tx69 : x69.toInt = v5_68.toInt + 1 := by rw [ex69]; exact z_add rfl (by decide : (1 : Int32).toInt = 1) (by omega) (by omega)
                      refine dv_iinc (v := x69) (lv' := [(5, .int x69), (6, .int 1), (4, .int v4_68), (3, .int v3_5), (0, .ref 0), (1, .int b), (2, .int i)]) dX8_fewestGossips_135 (k := 1) rfl (by rw [ex69]; rfl) (by decide) rfl ?_
                      refine dv_goto (tgt := 68) dX8_fewestGossips_138 (by decide) ?_
                      refine dv_sub (loc2 := [(5, .int x69), (4, .int v4_68), (3, .int v3_5), (0, .ref 0), (1, .int b), (2, .int i)]) [0, 2, 3, 4, 5, 6] rfl ?_
                      exact ih68 x69 v4_68 ct47 (by omega) (by omega) (by omega) (by rw [show x69.toInt.toNat = v5_68.toInt.toNat + 1 by omega]; show _ = (if ((bfS l g pe ct b i v5_68.toInt.toNat).toInt = -1 ∨ (bcf (nI v5_68.toInt.toNat)).toInt < (bcf (bfS l g pe ct b i v5_68.toInt.toNat)).toInt) ∧ (nI v5_68.toInt.toNat &&& (usS ct b 8 ^^^ (-1))).toInt = 0 ∧ (bcf (qMay l g pe ct b (nI v5_68.toInt.toNat) i.toInt.toNat)).toInt = 1 then nI v5_68.toInt.toNat else _); rw [← j0_68, ← z_nI (x := v5_68) (k := v5_68.toInt.toNat) (by omega)]; rw [if_neg (fun q => by have q3 := q.2.2; rw [← hmay] at q3; omega)]) hs61 hof hI
                    · skip
                      have c68 : (bcf r54).toInt = 1 := (z_eq rfl (by decide : (1 : Int32).toInt = 1)).mp c68
                      refine dv_iload dX8_fewestGossips_131 1 rfl ?_
                      refine dv_istore (lv' := [(4, .int v5_68), (6, .int 1), (5, .int v5_68), (3, .int v3_5), (0, .ref 0), (1, .int b), (2, .int i)]) dX8_fewestGossips_133 (by decide) rfl ?_
                      obtain ⟨x70, ex70⟩ : ∃ y : Int32, y = v5_68 + 1 := ⟨_, rfl⟩
                      have tx70 : x70.toInt = v5_68.toInt + 1 := by rw [ex70]; exact z_add rfl (by decide : (1 : Int32).toInt = 1) (by omega) (by omega)
                      refine dv_iinc (v := x70) (lv' := [(5, .int x70), (4, .int v5_68), (6, .int 1), (3, .int v3_5), (0, .ref 0), (1, .int b), (2, .int i)]) dX8_fewestGossips_135 (k := 2) rfl (by rw [ex70]; rfl) (by decide) rfl ?_
                      refine dv_goto (tgt := 68) dX8_fewestGossips_138 (by decide) ?_
                      refine dv_sub (loc2 := [(5, .int x70), (4, .int v5_68), (3, .int v3_5), (0, .ref 0), (1, .int b), (2, .int i)]) [0, 1, 3, 4, 5, 6] rfl ?_
                      exact ih68 x70 v5_68 ct47 (by omega) (by omega) (by omega) (by rw [show x70.toInt.toNat = v5_68.toInt.toNat + 1 by omega]; show _ = (if ((bfS l g pe ct b i v5_68.toInt.toNat).toInt = -1 ∨ (bcf (nI v5_68.toInt.toNat)).toInt < (bcf (bfS l g pe ct b i v5_68.toInt.toNat)).toInt) ∧ (nI v5_68.toInt.toNat &&& (usS ct b 8 ^^^ (-1))).toInt = 0 ∧ (bcf (qMay l g pe ct b (nI v5_68.toInt.toNat) i.toInt.toNat)).toInt = 1 then nI v5_68.toInt.toNat else _); rw [← j0_68, ← z_nI (x := v5_68) (k := v5_68.toInt.toNat) (by omega)]; rw [if_pos ⟨by first | exact Or.inl (by omega) | exact Or.inr (by omega), by rw [← hus, ← ex43, ← ex44]; omega, by rw [← hmay]; omega⟩]) hs61 hof hI
              · skip
                have c41 : ¬ (v4_68.toInt = (-1)) := fun q => c41 ((z_eq rfl (by decide : ((-1) : Int32).toInt = (-1))).mpr q)
                refine dv_iload dX8_fewestGossips_82 0 rfl ?_
                refine GW.callS (n := 1) (As := [.int v5_68]) (rest := []) (k_bce l g pe ct39 v5_68 hI) (fun _ h => Bool.noConfusion h) rfl rfl mm_504 mm_499 mm_62 mm_500 (by decide +kernel) ⟨Nat.le_of_ble_eq_true rfl, Nat.le_of_ble_eq_true rfl⟩ rfl (Nat.le_of_ble_eq_true rfl) dX8_fewestGossips_84 (Nat.zero_le _) (Nat.zero_le _) rfl (fun ct71 rrr72 hBr72 hoff73 => ?_)
                obtain ⟨r72, rfl, hr72, rfl⟩ := hBr72
                refine GW.eq (S2 := [.int r72]) rfl rfl rfl ?_
                have hqr72 := hr72
                subst r72
                have hbr72 := z_bc (x := v5_68) (by omega) (by omega)
                refine dv_iload dX8_fewestGossips_87 1 rfl ?_
                refine GW.callS (n := 1) (As := [.int v4_68]) (rest := [.int (bcf v5_68)]) (k_bce l g pe ct39 v4_68 hI) (fun _ h => Bool.noConfusion h) rfl rfl mm_504 mm_499 mm_62 mm_500 (by decide +kernel) ⟨Nat.le_of_ble_eq_true rfl, Nat.le_of_ble_eq_true rfl⟩ rfl (Nat.le_of_ble_eq_true rfl) dX8_fewestGossips_89 (Nat.zero_le _) (Nat.zero_le _) rfl (fun ct74 rrr75 hBr75 hoff76 => ?_)
                obtain ⟨r75, rfl, hr75, rfl⟩ := hBr75
                refine GW.eq (S2 := [.int r75, .int (bcf v5_68)]) rfl rfl rfl ?_
                have hqr75 := hr75
                subst r75
                have hbr75 := z_bc (x := v4_68) (by omega) (by omega)
                refine dv_icmp_ge (tgt := 99) dX8_fewestGossips_92 (by decide) (fun c77 => ?_) (fun c77 => ?_)
                · skip
                  have c77 : (bcf v4_68).toInt ≤ (bcf v5_68).toInt := (z_le rfl rfl).mp c77
                  refine dv_iconst (v := 0) dX8_fewestGossips_99 (by decide) ?_
                  refine dv_istore (lv' := [(6, .int 0), (5, .int v5_68), (4, .int v4_68), (3, .int v3_5), (0, .ref 0), (1, .int b), (2, .int i)]) dX8_fewestGossips_100 (by decide) rfl ?_
                  refine dv_iload dX8_fewestGossips_102 0 rfl ?_
                  refine dv_if_eq (tgt := 135) dX8_fewestGossips_104 (by decide) (fun c78 => ?_) (fun c78 => ?_)
                  · skip
                    obtain ⟨x79, ex79⟩ : ∃ y : Int32, y = v5_68 + 1 := ⟨_, rfl⟩
                    have tx79 : x79.toInt = v5_68.toInt + 1 := by rw [ex79]; exact z_add rfl (by decide : (1 : Int32).toInt = 1) (by omega) (by omega)
                    refine dv_iinc (v := x79) (lv' := [(5, .int x79), (6, .int 0), (4, .int v4_68), (3, .int v3_5), (0, .ref 0), (1, .int b), (2, .int i)]) dX8_fewestGossips_135 (k := 1) rfl (by rw [ex79]; rfl) (by decide) rfl ?_
                    refine dv_goto (tgt := 68) dX8_fewestGossips_138 (by decide) ?_
                    refine dv_sub (loc2 := [(5, .int x79), (4, .int v4_68), (3, .int v3_5), (0, .ref 0), (1, .int b), (2, .int i)]) [0, 2, 3, 4, 5, 6] rfl ?_
                    exact ih68 x79 v4_68 ct39 (by omega) (by omega) (by omega) (by rw [show x79.toInt.toNat = v5_68.toInt.toNat + 1 by omega]; show _ = (if ((bfS l g pe ct b i v5_68.toInt.toNat).toInt = -1 ∨ (bcf (nI v5_68.toInt.toNat)).toInt < (bcf (bfS l g pe ct b i v5_68.toInt.toNat)).toInt) ∧ (nI v5_68.toInt.toNat &&& (usS ct b 8 ^^^ (-1))).toInt = 0 ∧ (bcf (qMay l g pe ct b (nI v5_68.toInt.toNat) i.toInt.toNat)).toInt = 1 then nI v5_68.toInt.toNat else _); rw [← j0_68, ← z_nI (x := v5_68) (k := v5_68.toInt.toNat) (by omega)]; rw [if_neg (fun q => by have q1 := q.1; omega)]) kp11_68 hof hI
                  · skip
                    exact absurd c78 (by decide)
                · skip
                  have c77 : ¬ ((bcf v4_68).toInt ≤ (bcf v5_68).toInt) := fun q => c77 ((z_le rfl rfl).mpr q)
                  refine dv_iconst (v := 1) dX8_fewestGossips_95 (by decide) ?_
                  refine dv_goto (tgt := 100) dX8_fewestGossips_96 (by decide) ?_
                  refine dv_istore (lv' := [(6, .int 1), (5, .int v5_68), (4, .int v4_68), (3, .int v3_5), (0, .ref 0), (1, .int b), (2, .int i)]) dX8_fewestGossips_100 (by decide) rfl ?_
                  refine dv_iload dX8_fewestGossips_102 0 rfl ?_
                  refine dv_if_eq (tgt := 135) dX8_fewestGossips_104 (by decide) (fun c80 => ?_) (fun c80 => ?_)
                  · skip
                    exact absurd c80 (by decide)
                  · skip
                    refine dv_iload dX8_fewestGossips_107 1 rfl ?_
                    refine dv_iload_n dX8_fewestGossips_109 rfl 3 rfl ?_
                    refine dv_iconst (v := (-1)) dX8_fewestGossips_110 (by decide) ?_
                    refine dv_ixor dX8_fewestGossips_111 ?_
                    refine dv_topi (fun x81 ex81 => ?_)
                    refine dv_iand dX8_fewestGossips_112 ?_
                    refine dv_topi (fun x82 ex82 => ?_)
                    refine dv_if_ne (tgt := 135) dX8_fewestGossips_113 (by decide) (fun c83 => ?_) (fun c83 => ?_)
                    · skip
                      have c83 : ¬ (x82.toInt = 0) := fun q => c83 ((z_eq rfl (by decide : (0 : Int32).toInt = 0)).mpr q)
                      obtain ⟨x84, ex84⟩ : ∃ y : Int32, y = v5_68 + 1 := ⟨_, rfl⟩
                      have tx84 : x84.toInt = v5_68.toInt + 1 := by rw [ex84]; exact z_add rfl (by decide : (1 : Int32).toInt = 1) (by omega) (by omega)
                      refine dv_iinc (v := x84) (lv' := [(5, .int x84), (6, .int 1), (4, .int v4_68), (3, .int v3_5), (0, .ref 0), (1, .int b), (2, .int i)]) dX8_fewestGossips_135 (k := 1) rfl (by rw [ex84]; rfl) (by decide) rfl ?_
                      refine dv_goto (tgt := 68) dX8_fewestGossips_138 (by decide) ?_
                      refine dv_sub (loc2 := [(5, .int x84), (4, .int v4_68), (3, .int v3_5), (0, .ref 0), (1, .int b), (2, .int i)]) [0, 2, 3, 4, 5, 6] rfl ?_
                      exact ih68 x84 v4_68 ct39 (by omega) (by omega) (by omega) (by rw [show x84.toInt.toNat = v5_68.toInt.toNat + 1 by omega]; show _ = (if ((bfS l g pe ct b i v5_68.toInt.toNat).toInt = -1 ∨ (bcf (nI v5_68.toInt.toNat)).toInt < (bcf (bfS l g pe ct b i v5_68.toInt.toNat)).toInt) ∧ (nI v5_68.toInt.toNat &&& (usS ct b 8 ^^^ (-1))).toInt = 0 ∧ (bcf (qMay l g pe ct b (nI v5_68.toInt.toNat) i.toInt.toNat)).toInt = 1 then nI v5_68.toInt.toNat else _); rw [← j0_68, ← z_nI (x := v5_68) (k := v5_68.toInt.toNat) (by omega)]; rw [if_neg (fun q => by have q2 := q.2.1; rw [← hus, ← ex81, ← ex82] at q2; omega)]) kp11_68 hof hI
                    · skip
                      have c83 : x82.toInt = 0 := (z_eq rfl (by decide : (0 : Int32).toInt = 0)).mp c83
                      have hof2 := hof
                      refine dv_aload_n dX8_fewestGossips_116 rfl 4 rfl ?_
                      refine dv_iload_n dX8_fewestGossips_117 rfl 5 rfl ?_
                      refine dv_iload_n dX8_fewestGossips_118 rfl 6 rfl ?_
                      refine dv_iload dX8_fewestGossips_119 1 rfl ?_
                      obtain ⟨bk88, dr87, h89, h90, h91, hs86⟩ := a8_0 hI
                      refine GW.callV (n := 3) (As := [.int b, .int i, .int v5_68]) (rest := []) (b := 0) (f_mayLaid l g pe ct39 b i v5_68 fD33 (by first | omega | decide) (by first | omega | decide) (by first | omega | decide) hI kp11_68) (fun _ h => h) rfl rfl ⟨by decide, rfl⟩ hs86 (q := (RX8, TX8, 13)) rfl mm_711 mm_713 mm_33 mm_52 mm_714 (by decide +kernel) ⟨Nat.le_of_ble_eq_true rfl, Nat.le_of_ble_eq_true rfl⟩ rfl (Nat.le_of_ble_eq_true rfl) dX8_fewestGossips_121 (Nat.zero_le _) (Nat.zero_le _) rfl (fun ct85 rrr92 hBr92 hoff93 => ?_)
                      obtain ⟨r92, rfl, hr92, hI, hcf97, hk94, hk95, hk96⟩ := hBr92
                      have hof : ∀ k, ¬ dIn pM k → ct85 k = ct k := fun k hk => (hcf97 k hk).trans (hof k hk)
                      refine GW.eq (S2 := [.int r92]) rfl rfl rfl ?_
                      have hs98 : ct85 0 = .inr (8, [.ref 1, .ref 2, .ref 3, .ref 5, .ref 6, .ref 9, .ref 10, .ref 17, .ref 21, .ref 34, .ref (99 + 3 * dr87), .int pe, .int bk88]) := (hcf97 _ (pM_no (by decide))).trans hs86
                      have hs99 : ct85 11 = .inl (g.2 0, 8, .inl fD33) := hk94.trans kp11_68
                      obtain ⟨h100, h101, h102⟩ := hr92
                      have h100 : r92 = wMay (lnF ct39 b.toInt.toNat) (lvF ct39 b.toInt.toNat) (FTL l g pe ct39 b v5_68 fD33) i.toInt.toNat := h100
                      have h101 : 0 ≤ r92.toInt := h101
                      have h102 : r92.toInt ≤ 65535 := h102
                      have hmay : r92 = qMay l g pe ct b v5_68 i.toInt.toNat := by
                        rw [h100]
                        unfold qMay
                        rw [lnF_o hof2, lvF_o hof2]
                        exact wMay_c (fun j hj => (FTL_p hof2 (gix_rg hI0)).trans (FTL_L (hlaid j hj))) (by omega)
                      refine GW.callS (n := 1) (As := [.int r92]) (rest := []) (k_bce l g pe ct85 r92 hI) (fun _ h => Bool.noConfusion h) rfl rfl mm_504 mm_499 mm_62 mm_500 (by decide +kernel) ⟨Nat.le_of_ble_eq_true rfl, Nat.le_of_ble_eq_true rfl⟩ rfl (Nat.le_of_ble_eq_true rfl) dX8_fewestGossips_124 (Nat.zero_le _) (Nat.zero_le _) rfl (fun ct103 rrr104 hBr104 hoff105 => ?_)
                      obtain ⟨r104, rfl, hr104, rfl⟩ := hBr104
                      refine GW.eq (S2 := [.int r104]) rfl rfl rfl ?_
                      have hqr104 := hr104
                      subst r104
                      refine dv_iconst (v := 1) dX8_fewestGossips_127 (by decide) ?_
                      refine dv_icmp_ne (tgt := 135) dX8_fewestGossips_128 (by decide) (fun c106 => ?_) (fun c106 => ?_)
                      · skip
                        have c106 : ¬ ((bcf r92).toInt = 1) := fun q => c106 ((z_eq rfl (by decide : (1 : Int32).toInt = 1)).mpr q)
                        obtain ⟨x107, ex107⟩ : ∃ y : Int32, y = v5_68 + 1 := ⟨_, rfl⟩
                        have tx107 : x107.toInt = v5_68.toInt + 1 := by rw [ex107]; exact z_add rfl (by decide : (1 : Int32).toInt = 1) (by omega) (by omega)
                        refine dv_iinc (v := x107) (lv' := [(5, .int x107), (6, .int 1), (4, .int v4_68), (3, .int v3_5), (0, .ref 0), (1, .int b), (2, .int i)]) dX8_fewestGossips_135 (k := 1) rfl (by rw [ex107]; rfl) (by decide) rfl ?_
                        refine dv_goto (tgt := 68) dX8_fewestGossips_138 (by decide) ?_
                        refine dv_sub (loc2 := [(5, .int x107), (4, .int v4_68), (3, .int v3_5), (0, .ref 0), (1, .int b), (2, .int i)]) [0, 2, 3, 4, 5, 6] rfl ?_
                        exact ih68 x107 v4_68 ct85 (by omega) (by omega) (by omega) (by rw [show x107.toInt.toNat = v5_68.toInt.toNat + 1 by omega]; show _ = (if ((bfS l g pe ct b i v5_68.toInt.toNat).toInt = -1 ∨ (bcf (nI v5_68.toInt.toNat)).toInt < (bcf (bfS l g pe ct b i v5_68.toInt.toNat)).toInt) ∧ (nI v5_68.toInt.toNat &&& (usS ct b 8 ^^^ (-1))).toInt = 0 ∧ (bcf (qMay l g pe ct b (nI v5_68.toInt.toNat) i.toInt.toNat)).toInt = 1 then nI v5_68.toInt.toNat else _); rw [← j0_68, ← z_nI (x := v5_68) (k := v5_68.toInt.toNat) (by omega)]; rw [if_neg (fun q => by have q3 := q.2.2; rw [← hmay] at q3; omega)]) hs99 hof hI
                      · skip
                        have c106 : (bcf r92).toInt = 1 := (z_eq rfl (by decide : (1 : Int32).toInt = 1)).mp c106
                        refine dv_iload dX8_fewestGossips_131 1 rfl ?_
                        refine dv_istore (lv' := [(4, .int v5_68), (6, .int 1), (5, .int v5_68), (3, .int v3_5), (0, .ref 0), (1, .int b), (2, .int i)]) dX8_fewestGossips_133 (by decide) rfl ?_
                        obtain ⟨x108, ex108⟩ : ∃ y : Int32, y = v5_68 + 1 := ⟨_, rfl⟩
                        have tx108 : x108.toInt = v5_68.toInt + 1 := by rw [ex108]; exact z_add rfl (by decide : (1 : Int32).toInt = 1) (by omega) (by omega)
                        refine dv_iinc (v := x108) (lv' := [(5, .int x108), (4, .int v5_68), (6, .int 1), (3, .int v3_5), (0, .ref 0), (1, .int b), (2, .int i)]) dX8_fewestGossips_135 (k := 2) rfl (by rw [ex108]; rfl) (by decide) rfl ?_
                        refine dv_goto (tgt := 68) dX8_fewestGossips_138 (by decide) ?_
                        refine dv_sub (loc2 := [(5, .int x108), (4, .int v5_68), (3, .int v3_5), (0, .ref 0), (1, .int b), (2, .int i)]) [0, 1, 3, 4, 5, 6] rfl ?_
                        exact ih68 x108 v5_68 ct85 (by omega) (by omega) (by omega) (by rw [show x108.toInt.toNat = v5_68.toInt.toNat + 1 by omega]; show _ = (if ((bfS l g pe ct b i v5_68.toInt.toNat).toInt = -1 ∨ (bcf (nI v5_68.toInt.toNat)).toInt < (bcf (bfS l g pe ct b i v5_68.toInt.toNat)).toInt) ∧ (nI v5_68.toInt.toNat &&& (usS ct b 8 ^^^ (-1))).toInt = 0 ∧ (bcf (qMay l g pe ct b (nI v5_68.toInt.toNat) i.toInt.toNat)).toInt = 1 then nI v5_68.toInt.toNat else _); rw [← j0_68, ← z_nI (x := v5_68) (k := v5_68.toInt.toNat) (by omega)]; rw [if_pos ⟨by first | exact Or.inl (by omega) | exact Or.inr (by omega), by rw [← hus, ← ex81, ← ex82]; omega, by rw [← hmay]; omega⟩]) hs99 hof hI
        exact loop68 ((256 - (0 : Int32).toInt : Int).toNat + 1) (0 : Int32) (-1 : Int32) ct21 (by omega) (by first | omega | decide | (have hz0 : (0 : Int32).toInt = 0 := (by decide); have hz1 : (1 : Int32).toInt = 1 := (by decide); omega)) (by first | omega | decide | (have hz0 : (0 : Int32).toInt = 0 := (by decide); have hz1 : (1 : Int32).toInt = 1 := (by decide); omega)) rfl hs38 hof hI
      · skip
        have c8 : ¬ (8 ≤ v4_5.toInt) := fun q => c8 ((z_le (by decide : (8 : Int32).toInt = 8) rfl).mpr q)
        refine dv_aload_n dX8_fewestGossips_12 rfl 2 rfl ?_
        obtain ⟨bk111, dr110, h112, h113, h114, hs109⟩ := a8_0 hI
        refine dv_get (ci := 8) (v := .ref 9) (C := RX8) (T := TX8) (N := 13) ⟨by decide, rfl⟩ hs109 rfl inG8 5 (by decide) mm_308 rfl dX8_fewestGossips_13 ?_
        refine dv_iload dX8_fewestGossips_16 0 rfl ?_
        obtain ⟨f116, hgf117, hs115⟩ := a8_9 hI
        obtain ⟨j118, hj118, ej118⟩ := hgf117 _ (z_clt (x := v4_5) rfl (by omega) (by omega))
        refine dv_aldq 6 ⟨by decide, rfl⟩ hs115 rfl (z_in rfl (by omega) (by omega)) dX8_fewestGossips_18 (r := (99 + 3 * j118)) ej118 ?_
        have hgx : gix ct (v4_5.toInt.toNat) = 99 + 3 * j118 := by
          rw [← gix_o hof]
          unfold gix
          rw [hs115]
          show (_ : Option Nat).getD 0 = _
          rw [show v4_5.toInt.toNat = Int32.toNatClampNeg v4_5 by have := z_clI (x := v4_5) (by omega); omega]
          exact congrArg (fun o => Option.getD o 0) ej118
        obtain ⟨tld120, ofb121, hol122, flt123, fla124, ofl125, len126, atx127, ref128, hz129, h130, h131, h132, h133, hz134, hs119⟩ := a8_44 (kc := (99 + 3 * j118)) (by omega) hI
        have bhz129 := z_b01 hz129
        have bhz134 := z_b01 hz134
        refine dv_get (ci := 4) (v := .int tld120) (C := RX4) (T := TX4) (N := 11) ⟨by omega, pAll_of (by omega)⟩ hs119 rfl inG4 0 (by decide) mm_215 rfl dX8_fewestGossips_19 ?_
        refine dv_if_eq (tgt := 46) dX8_fewestGossips_22 (by decide) (fun c135 => ?_) (fun c135 => ?_)
        · skip
          have c135 : tld120.toInt = 0 := (z_eq rfl (by decide : (0 : Int32).toInt = 0)).mp c135
          obtain ⟨x136, ex136⟩ : ∃ y : Int32, y = v4_5 + 1 := ⟨_, rfl⟩
          have tx136 : x136.toInt = v4_5.toInt + 1 := by rw [ex136]; exact z_add rfl (by decide : (1 : Int32).toInt = 1) (by omega) (by omega)
          refine dv_iinc (v := x136) (lv' := [(4, .int x136), (3, .int v3_5), (0, .ref 0), (1, .int b), (2, .int i)]) dX8_fewestGossips_46 (k := 0) rfl (by rw [ex136]; rfl) (by decide) rfl ?_
          refine dv_goto (tgt := 5) dX8_fewestGossips_49 (by decide) ?_
          exact ih5 x136 v3_5 ct7 (by omega) (by omega) (by omega) (by rw [show x136.toInt.toNat = v4_5.toInt.toNat + 1 by omega]; show _ = (if ¬ (zf 0 (ct (gix ct (v4_5.toInt.toNat)))).toInt = 0 ∧ (zf 1 (ct (gix ct (v4_5.toInt.toNat)))).toInt = b.toInt then _ else _); rw [show zf 0 (ct (gix ct (v4_5.toInt.toNat))) = tld120 by rw [hgx, ← hof (99 + 3 * j118) (pM_no (by omega)), hs119]; rfl, if_neg (fun q => by have q1 := q.1; omega)]; exact j0_5) hof hI
        · skip
          have c135 : ¬ (tld120.toInt = 0) := fun q => c135 ((z_eq rfl (by decide : (0 : Int32).toInt = 0)).mpr q)
          refine dv_aload_n dX8_fewestGossips_25 rfl 2 rfl ?_
          refine dv_get (ci := 8) (v := .ref 9) (C := RX8) (T := TX8) (N := 13) ⟨by decide, rfl⟩ hs109 rfl inG8 5 (by decide) mm_308 rfl dX8_fewestGossips_26 ?_
          refine dv_iload dX8_fewestGossips_29 0 rfl ?_
          obtain ⟨j137, hj137, ej137⟩ := hgf117 _ (z_clt (x := v4_5) rfl (by omega) (by omega))
          refine dv_aldq 6 ⟨by decide, rfl⟩ hs115 rfl (z_in rfl (by omega) (by omega)) dX8_fewestGossips_31 (r := (99 + 3 * j137)) ej137 ?_
          have hgy : gix ct (v4_5.toInt.toNat) = 99 + 3 * j137 := by
            rw [← gix_o hof]
            unfold gix
            rw [hs115]
            show (_ : Option Nat).getD 0 = _
            rw [show v4_5.toInt.toNat = Int32.toNatClampNeg v4_5 by have := z_clI (x := v4_5) (by omega); omega]
            exact congrArg (fun o => Option.getD o 0) ej137
          obtain ⟨tld139, ofb140, hol141, flt142, fla143, ofl144, len145, atx146, ref147, hz148, h149, h150, h151, h152, hz153, hs138⟩ := a8_44 (kc := (99 + 3 * j137)) (by omega) hI
          have bhz148 := z_b01 hz148
          have bhz153 := z_b01 hz153
          refine dv_get (ci := 4) (v := .int ofb140) (C := RX4) (T := TX4) (N := 11) ⟨by omega, pAll_of (by omega)⟩ hs138 rfl inG4 1 (by decide) mm_217 rfl dX8_fewestGossips_32 ?_
          refine dv_iload_n dX8_fewestGossips_35 rfl 3 rfl ?_
          refine dv_icmp_ne (tgt := 46) dX8_fewestGossips_36 (by decide) (fun c154 => ?_) (fun c154 => ?_)
          · skip
            have c154 : ¬ (ofb140.toInt = b.toInt) := fun q => c154 ((z_eq rfl rfl).mpr q)
            obtain ⟨x155, ex155⟩ : ∃ y : Int32, y = v4_5 + 1 := ⟨_, rfl⟩
            have tx155 : x155.toInt = v4_5.toInt + 1 := by rw [ex155]; exact z_add rfl (by decide : (1 : Int32).toInt = 1) (by omega) (by omega)
            refine dv_iinc (v := x155) (lv' := [(4, .int x155), (3, .int v3_5), (0, .ref 0), (1, .int b), (2, .int i)]) dX8_fewestGossips_46 (k := 0) rfl (by rw [ex155]; rfl) (by decide) rfl ?_
            refine dv_goto (tgt := 5) dX8_fewestGossips_49 (by decide) ?_
            exact ih5 x155 v3_5 ct7 (by omega) (by omega) (by omega) (by rw [show x155.toInt.toNat = v4_5.toInt.toNat + 1 by omega]; show _ = (if ¬ (zf 0 (ct (gix ct (v4_5.toInt.toNat)))).toInt = 0 ∧ (zf 1 (ct (gix ct (v4_5.toInt.toNat)))).toInt = b.toInt then _ else _); rw [show zf 0 (ct (gix ct (v4_5.toInt.toNat))) = tld120 by rw [hgx, ← hof (99 + 3 * j118) (pM_no (by omega)), hs119]; rfl, show zf 1 (ct (gix ct (v4_5.toInt.toNat))) = ofb140 by rw [hgy, ← hof (99 + 3 * j137) (pM_no (by omega)), hs138]; rfl, if_neg (fun q => by have q1 := q.1; have q2 := q.2; omega)]; exact j0_5) hof hI
          · skip
            have c154 : ofb140.toInt = b.toInt := (z_eq rfl rfl).mp c154
            refine dv_iload_n dX8_fewestGossips_39 rfl 1 rfl ?_
            refine dv_iconst (v := 1) dX8_fewestGossips_40 (by decide) ?_
            refine dv_iload dX8_fewestGossips_41 0 rfl ?_
            refine dv_ishl dX8_fewestGossips_43 ?_
            refine dv_topi (fun x156 ex156 => ?_)
            have tx156 := z_shl1e (y := v4_5) (by omega) (by omega)
            rw [← ex156] at tx156
            have ux156 := z_shl1 (y := v4_5) rfl (by omega) (k := 7) (by decide) (by omega)
            rw [← ex156] at ux156
            refine dv_ior dX8_fewestGossips_44 ?_
            refine dv_topi (fun x157 ex157 => ?_)
            have tx157 := z_or (x := v3_5) (y := x156) rfl rfl (k := 8) (N := 256) (by decide) (by decide) (by omega) (by omega) (by omega) (by omega)
            rw [← ex157] at tx157
            refine dv_istore_n (lv' := [(3, .int x157), (4, .int v4_5), (0, .ref 0), (1, .int b), (2, .int i)]) dX8_fewestGossips_45 rfl (by decide) rfl ?_
            obtain ⟨x158, ex158⟩ : ∃ y : Int32, y = v4_5 + 1 := ⟨_, rfl⟩
            have tx158 : x158.toInt = v4_5.toInt + 1 := by rw [ex158]; exact z_add rfl (by decide : (1 : Int32).toInt = 1) (by omega) (by omega)
            refine dv_iinc (v := x158) (lv' := [(4, .int x158), (3, .int x157), (0, .ref 0), (1, .int b), (2, .int i)]) dX8_fewestGossips_46 (k := 1) rfl (by rw [ex158]; rfl) (by decide) rfl ?_
            refine dv_goto (tgt := 5) dX8_fewestGossips_49 (by decide) ?_
            exact ih5 x158 x157 ct7 (by omega) (by omega) (by omega) (by rw [show x158.toInt.toNat = v4_5.toInt.toNat + 1 by omega]; show _ = (if ¬ (zf 0 (ct (gix ct (v4_5.toInt.toNat)))).toInt = 0 ∧ (zf 1 (ct (gix ct (v4_5.toInt.toNat)))).toInt = b.toInt then _ else _); rw [show zf 0 (ct (gix ct (v4_5.toInt.toNat))) = tld120 by rw [hgx, ← hof (99 + 3 * j118) (pM_no (by omega)), hs119]; rfl, show zf 1 (ct (gix ct (v4_5.toInt.toNat))) = ofb140 by rw [hgy, ← hof (99 + 3 * j137) (pM_no (by omega)), hs138]; rfl, if_pos ⟨by omega, by omega⟩, ← j0_5, ex157, ex156, ← z_nI (x := v4_5) (k := v4_5.toInt.toNat) (by omega)]) hof hI
  exact loop5 ((8 - (0 : Int32).toInt : Int).toNat + 1) (0 : Int32) (0 : Int32) ct (by omega) (by first | omega | decide | (have hz0 : (0 : Int32).toInt = 0 := (by decide); have hz1 : (1 : Int32).toInt = 1 := (by decide); omega)) (by first | omega | decide | (have hz0 : (0 : Int32).toInt = 0 := (by decide); have hz1 : (1 : Int32).toInt = 1 := (by decide); omega)) rfl hof hI

set_option maxHeartbeats 4000000 in
set_option maxRecDepth 100000 in
theorem f_fewest (l : Launch) (g : zG) (pe : Int32) (ct : Nat → va_E) (b : Int32) (i : Int32) (wh : Int32) (hI : Inv8 g idn pe ct) : DM l g pAll false yX8_fewest cX8_fewest 5 (some .int) ({ frames := 6, cells := 0, slots := 0, locals := 144 }) (fun (ct2 : Nat → va_E) (rr : Option Value) => ∃ (r : Int32), rr = some (.int r) ∧ (((r = qFst l g pe ct b i wh) ∧ (True))) ∧ Inv8 g idn pe ct2 ∧ (∀ k, ¬ dIn pM k → ct2 k = ct k)) ct [.ref 0, .int b, .int i, .int wh] := by
  refine DM.K (fun K hK => ?_)
  refine GW.met (own := RX8) (loc := [(0, .ref 0), (1, .int b), (2, .int i), (3, .int wh)]) (by decide) rfl rfl (Nat.le_of_ble_eq_true rfl) ?_
  have hpe0 := hI.1
  have hof : ∀ k, ¬ dIn pM k → ct k = ct k := fun _ _ => rfl
  have rg_b := z_rng b
  have rg_i := z_rng i
  have rg_wh := z_rng wh
  obtain ⟨bk3, dr2, h4, h5, h6, hs1⟩ := a8_0 hI
  have hzb : (bkF ct).toInt = bk3.toInt := by unfold bkF; rw [hs1]; rfl
  have hI0 := hI
  refine dv_aload_n dX8_fewest_0 rfl 0 rfl ?_
  refine dv_iload_n dX8_fewest_1 rfl 1 rfl ?_
  refine dv_iload_n dX8_fewest_2 rfl 2 rfl ?_
  refine GW.callV (n := 2) (As := [.int b, .int i]) (rest := []) (b := 0) (f_isLine l g pe ct b i hI) sub_pCl_pAll rfl rfl ⟨by decide, rfl⟩ hs1 (q := (RX8, TX8, 13)) rfl mm_411 mm_413 mm_3 mm_52 mm_414 (by decide +kernel) ⟨Nat.le_of_ble_eq_true rfl, Nat.le_of_ble_eq_true rfl⟩ rfl (Nat.le_of_ble_eq_true rfl) dX8_fewest_3 (Nat.zero_le _) (Nat.zero_le _) rfl (fun ct7 rrr8 hBr8 hoff9 => ?_)
  obtain ⟨r8, rfl, hr8, rfl⟩ := hBr8
  refine GW.eq (S2 := [.int r8]) rfl rfl rfl ?_
  rcases hr8 with hr8 | hr8
  · skip
    obtain ⟨rfl, h10, h11, h12, h13, h14⟩ := hr8
    have h10 : LIN ct b i = true := h10
    have h11 : 0 ≤ b.toInt ∧ b.toInt ≤ 3 := h11
    have h12 : 0 ≤ i.toInt ∧ i.toInt ≤ 7 := h12
    have h13 : b.toInt < (bkF ct).toInt := h13
    have h14 : i.toInt < (lnF ct b.toInt.toNat).toInt := h14
    refine dv_if_eq (tgt := 18) dX8_fewest_6 (by decide) (fun c15 => ?_) (fun c15 => ?_)
    · skip
      exact absurd c15 (by decide)
    · skip
      refine dv_iload_n dX8_fewest_9 rfl 3 rfl ?_
      refine dv_iconst (v := 0) dX8_fewest_10 (by decide) ?_
      refine dv_iconst (v := 2) dX8_fewest_11 (by decide) ?_
      refine GW.callS (n := 3) (As := [.int wh, .int 0, .int 2]) (rest := []) (k_X8_within l g pe ct wh (0 : Int32) (2 : Int32) hI) (fun _ h => Bool.noConfusion h) rfl rfl mm_355 mm_356 mm_52 mm_357 (by decide +kernel) ⟨Nat.le_of_ble_eq_true rfl, Nat.le_of_ble_eq_true rfl⟩ rfl (Nat.le_of_ble_eq_true rfl) dX8_fewest_12 (Nat.zero_le _) (Nat.zero_le _) rfl (fun ct16 rrr17 hBr17 hoff18 => ?_)
      obtain ⟨r17, rfl, hr17, rfl⟩ := hBr17
      refine GW.eq (S2 := [.int r17]) rfl rfl rfl ?_
      rcases hr17 with hr17 | hr17
      · skip
        obtain ⟨rfl, h19, h20⟩ := hr17
        have h19 : (0 : Int) ≤ wh.toInt := h19
        have h20 : wh.toInt ≤ (2 : Int) := h20
        refine dv_if_ne (tgt := 20) dX8_fewest_15 (by decide) (fun c21 => ?_) (fun c21 => ?_)
        · skip
          refine dv_aload_n dX8_fewest_20 rfl 0 rfl ?_
          refine dv_iload_n dX8_fewest_21 rfl 1 rfl ?_
          refine dv_iload_n dX8_fewest_22 rfl 2 rfl ?_
          refine GW.callV (n := 2) (As := [.int b, .int i]) (rest := []) (b := 0) (f_isLive l g pe ct b i hI) sub_pCl_pAll rfl rfl ⟨by decide, rfl⟩ hs1 (q := (RX8, TX8, 13)) rfl mm_422 mm_424 mm_5 mm_52 mm_425 (by decide +kernel) ⟨Nat.le_of_ble_eq_true rfl, Nat.le_of_ble_eq_true rfl⟩ rfl (Nat.le_of_ble_eq_true rfl) dX8_fewest_23 (Nat.zero_le _) (Nat.zero_le _) rfl (fun ct22 rrr23 hBr23 hoff24 => ?_)
          obtain ⟨r23, rfl, hr23, rfl⟩ := hBr23
          refine GW.eq (S2 := [.int r23]) rfl rfl rfl ?_
          rcases hr23 with hr23 | hr23
          · skip
            obtain ⟨rfl, h25, h26, h27, h28⟩ := hr23
            have h25 : LIV ct b i = true := h25
            have h26 : 0 ≤ b.toInt ∧ b.toInt ≤ 3 := h26
            have h27 : 0 ≤ i.toInt ∧ i.toInt ≤ 7 := h27
            have h28 : LIN ct b i = true := h28
            refine dv_if_ne (tgt := 32) dX8_fewest_26 (by decide) (fun c29 => ?_) (fun c29 => ?_)
            · skip
              refine dv_aload_n dX8_fewest_32 rfl 0 rfl ?_
              refine dv_iload_n dX8_fewest_33 rfl 1 rfl ?_
              refine dv_iload_n dX8_fewest_34 rfl 2 rfl ?_
              refine GW.callV (n := 2) (As := [.int b, .int i]) (rest := []) (b := 0) (f_fewestGossips l g pe ct b i (by first | omega | decide) (by first | omega | decide) hI) (fun _ h => h) rfl rfl ⟨by decide, rfl⟩ hs1 (q := (RX8, TX8, 13)) rfl mm_707 mm_709 mm_32 mm_52 mm_710 (by decide +kernel) ⟨Nat.le_of_ble_eq_true rfl, Nat.le_of_ble_eq_true rfl⟩ rfl (Nat.le_of_ble_eq_true rfl) dX8_fewest_35 (Nat.zero_le _) (Nat.zero_le _) rfl (fun ct30 rrr31 hBr31 hoff32 => ?_)
              obtain ⟨r31, rfl, hr31, hI, hcf34, hk33⟩ := hBr31
              have hof : ∀ k, ¬ dIn pM k → ct30 k = ct k := fun k hk => (hcf34 k hk).trans (hof k hk)
              refine GW.eq (S2 := [.int r31]) rfl rfl rfl ?_
              have hs35 : ct30 0 = .inr (8, [.ref 1, .ref 2, .ref 3, .ref 5, .ref 6, .ref 9, .ref 10, .ref 17, .ref 21, .ref 34, .ref (99 + 3 * dr2), .int pe, .int bk3]) := (hcf34 _ (pM_no (by decide))).trans hs1
              obtain ⟨fD36, hq37, hd38⟩ := hk33
              obtain ⟨f40, hs39⟩ := a8_11 hI
              have hs41 := hq37
              cases (hq37.symm.trans hs39)
              have h42 := hr31
              have h42 : r31 = bfS l g pe ct b i 256 := h42
              have hbf : r31 = bfS l g pe ct b i 256 := h42
              have hbr : -1 ≤ r31.toInt ∧ r31.toInt ≤ 255 := by rw [hbf]; exact bfS_rg 256 (by omega)
              refine dv_istore (lv' := [(4, .int r31), (0, .ref 0), (1, .int b), (2, .int i), (3, .int wh)]) dX8_fewest_38 (by decide) rfl ?_
              refine dv_iload dX8_fewest_40 0 rfl ?_
              refine dv_iconst (v := (-1)) dX8_fewest_42 (by decide) ?_
              refine dv_icmp_ne (tgt := 49) dX8_fewest_43 (by decide) (fun c43 => ?_) (fun c43 => ?_)
              · skip
                have c43 : ¬ (r31.toInt = (-1)) := fun q => c43 ((z_eq rfl (by decide : ((-1) : Int32).toInt = (-1))).mpr q)
                refine dv_iload_n dX8_fewest_49 rfl 4 rfl ?_
                refine dv_if_ne (tgt := 59) dX8_fewest_50 (by decide) (fun c44 => ?_) (fun c44 => ?_)
                · skip
                  have c44 : ¬ (wh.toInt = 0) := fun q => c44 ((z_eq rfl (by decide : (0 : Int32).toInt = 0)).mpr q)
                  refine dv_iload_n dX8_fewest_59 rfl 4 rfl ?_
                  refine dv_iconst (v := 1) dX8_fewest_60 (by decide) ?_
                  refine dv_icmp_ne (tgt := 69) dX8_fewest_61 (by decide) (fun c45 => ?_) (fun c45 => ?_)
                  · skip
                    have c45 : ¬ (wh.toInt = 1) := fun q => c45 ((z_eq rfl (by decide : (1 : Int32).toInt = 1)).mpr q)
                    have hof2 := hof
                    refine dv_aload_n dX8_fewest_69 rfl 1 rfl ?_
                    refine dv_iload_n dX8_fewest_70 rfl 2 rfl ?_
                    refine dv_iload_n dX8_fewest_71 rfl 3 rfl ?_
                    refine dv_iload dX8_fewest_72 0 rfl ?_
                    refine GW.callV (n := 3) (As := [.int b, .int i, .int r31]) (rest := []) (b := 0) (f_mayLaid l g pe ct30 b i r31 fD36 (by first | omega | decide) (by first | omega | decide) (by first | omega | decide) hI hs41) (fun _ h => h) rfl rfl ⟨by decide, rfl⟩ hs35 (q := (RX8, TX8, 13)) rfl mm_711 mm_713 mm_33 mm_52 mm_714 (by decide +kernel) ⟨Nat.le_of_ble_eq_true rfl, Nat.le_of_ble_eq_true rfl⟩ rfl (Nat.le_of_ble_eq_true rfl) dX8_fewest_74 (Nat.zero_le _) (Nat.zero_le _) rfl (fun ct46 rrr47 hBr47 hoff48 => ?_)
                    obtain ⟨r47, rfl, hr47, hI, hcf52, hk49, hk50, hk51⟩ := hBr47
                    have hof : ∀ k, ¬ dIn pM k → ct46 k = ct k := fun k hk => (hcf52 k hk).trans (hof k hk)
                    refine GW.eq (S2 := [.int r47]) rfl rfl rfl ?_
                    have hs53 : ct46 0 = .inr (8, [.ref 1, .ref 2, .ref 3, .ref 5, .ref 6, .ref 9, .ref 10, .ref 17, .ref 21, .ref 34, .ref (99 + 3 * dr2), .int pe, .int bk3]) := (hcf52 _ (pM_no (by decide))).trans hs35
                    have hs54 : ct46 11 = .inl (g.2 0, 8, .inl fD36) := hk49.trans hs41
                    obtain ⟨h55, h56, h57⟩ := hr47
                    have h55 : r47 = wMay (lnF ct30 b.toInt.toNat) (lvF ct30 b.toInt.toNat) (FTL l g pe ct30 b r31 fD36) i.toInt.toNat := h55
                    have h56 : 0 ≤ r47.toInt := h56
                    have h57 : r47.toInt ≤ 65535 := h57
                    have hmq : r47 = qMay l g pe ct b r31 i.toInt.toNat := by
                      rw [h55]
                      unfold qMay
                      rw [lnF_o hof2, lvF_o hof2]
                      exact wMay_c (fun j hj => (FTL_p hof2 (gix_rg hI0)).trans (FTL_L (hd38 j hj))) (by omega)
                    refine GW.callS (n := 1) (As := [.int r47]) (rest := []) (f_lowest l g pe ct46 r47 (by first | omega | decide) hI) (fun _ h => Bool.noConfusion h) rfl rfl mm_715 mm_716 mm_52 mm_717 (by decide +kernel) ⟨Nat.le_of_ble_eq_true rfl, Nat.le_of_ble_eq_true rfl⟩ rfl (Nat.le_of_ble_eq_true rfl) dX8_fewest_77 (Nat.zero_le _) (Nat.zero_le _) rfl (fun ct58 rrr59 hBr59 hoff60 => ?_)
                    obtain ⟨r59, rfl, hr59, rfl⟩ := hBr59
                    refine GW.eq (S2 := [.int r59]) rfl rfl rfl ?_
                    have h61 := hr59
                    have h61 : r59 = lowG r47 32 := h61
                    exact dv_iret dX8_fewest_80 rfl (by first | exact Nat.zero_le _ | decide) (by first | exact Nat.zero_le _ | decide) (by subst hK; exact ⟨r59, rfl, (⟨by unfold qFst; rw [if_pos ⟨by assumption, by omega, by omega⟩]; rw [if_pos (by assumption), ← hbf]; rw [if_neg (by omega), if_neg (by omega), if_neg (by omega), h61, hmq], trivial⟩), hI, hof⟩)
                  · skip
                    have c45 : wh.toInt = 1 := (z_eq rfl (by decide : (1 : Int32).toInt = 1)).mp c45
                    refine dv_iload dX8_fewest_64 0 rfl ?_
                    refine dv_goto (tgt := 80) dX8_fewest_66 (by decide) ?_
                    exact dv_iret dX8_fewest_80 rfl (by first | exact Nat.zero_le _ | decide) (by first | exact Nat.zero_le _ | decide) (by subst hK; exact ⟨r31, rfl, (⟨by unfold qFst; rw [if_pos ⟨by assumption, by omega, by omega⟩]; rw [if_pos (by assumption), ← hbf]; rw [if_neg (by omega), if_neg (by omega), if_pos (by omega)], trivial⟩), hI, hof⟩)
                · skip
                  have c44 : wh.toInt = 0 := (z_eq rfl (by decide : (0 : Int32).toInt = 0)).mp c44
                  refine dv_iload dX8_fewest_53 0 rfl ?_
                  refine GW.callS (n := 1) (As := [.int r31]) (rest := []) (k_bce l g pe ct30 r31 hI) (fun _ h => Bool.noConfusion h) rfl rfl mm_504 mm_499 mm_62 mm_500 (by decide +kernel) ⟨Nat.le_of_ble_eq_true rfl, Nat.le_of_ble_eq_true rfl⟩ rfl (Nat.le_of_ble_eq_true rfl) dX8_fewest_55 (Nat.zero_le _) (Nat.zero_le _) rfl (fun ct62 rrr63 hBr63 hoff64 => ?_)
                  obtain ⟨r63, rfl, hr63, rfl⟩ := hBr63
                  refine GW.eq (S2 := [.int r63]) rfl rfl rfl ?_
                  have hqr63 := hr63
                  subst r63
                  exact dv_iret dX8_fewest_58 rfl (by first | exact Nat.zero_le _ | decide) (by first | exact Nat.zero_le _ | decide) (by subst hK; exact ⟨(bcf r31), rfl, (⟨by unfold qFst; rw [if_pos ⟨by assumption, by omega, by omega⟩]; rw [if_pos (by assumption), ← hbf]; rw [if_neg (by omega), if_pos (by omega)], trivial⟩), hI, hof⟩)
              · skip
                have c43 : r31.toInt = (-1) := (z_eq rfl (by decide : ((-1) : Int32).toInt = (-1))).mp c43
                refine dv_bipush (v := (-2)) dX8_fewest_46 (by decide) ?_
                have q65 : ((-2) : Int32).toInt = -2 := by decide
                exact dv_iret dX8_fewest_48 rfl (by first | exact Nat.zero_le _ | decide) (by first | exact Nat.zero_le _ | decide) (by subst hK; exact ⟨(-2), rfl, (⟨by unfold qFst; rw [if_pos ⟨by assumption, by omega, by omega⟩]; rw [if_pos (by assumption), ← hbf]; rw [if_pos (by omega)], trivial⟩), hI, hof⟩)
            · skip
              exact absurd c29 (by decide)
          · skip
            obtain ⟨rfl, h66⟩ := hr23
            have h66 : LIV ct b i = false := h66
            refine dv_if_ne (tgt := 32) dX8_fewest_26 (by decide) (fun c67 => ?_) (fun c67 => ?_)
            · skip
              exact absurd c67 (by decide)
            · skip
              refine dv_bipush (v := (-2)) dX8_fewest_29 (by decide) ?_
              have q68 : ((-2) : Int32).toInt = -2 := by decide
              exact dv_iret dX8_fewest_31 rfl (by first | exact Nat.zero_le _ | decide) (by first | exact Nat.zero_le _ | decide) (by subst hK; exact ⟨(-2), rfl, (⟨by unfold qFst; rw [if_pos ⟨by assumption, by omega, by omega⟩]; rw [if_neg (by rw [show LIV ct b i = false by assumption]; decide)], trivial⟩), hI, hof⟩)
        · skip
          exact absurd c21 (by decide)
      · skip
        obtain ⟨rfl, h69⟩ := hr17
        have h69 : ¬ ((0 : Int) ≤ wh.toInt ∧ wh.toInt ≤ (2 : Int)) := h69
        refine dv_if_ne (tgt := 20) dX8_fewest_15 (by decide) (fun c70 => ?_) (fun c70 => ?_)
        · skip
          exact absurd c70 (by decide)
        · skip
          refine dv_iconst (v := (-1)) dX8_fewest_18 (by decide) ?_
          have q71 : ((-1) : Int32).toInt = -1 := by decide
          exact dv_iret dX8_fewest_19 rfl (by first | exact Nat.zero_le _ | decide) (by first | exact Nat.zero_le _ | decide) (by subst hK; exact ⟨(-1), rfl, (⟨by unfold qFst; first | rw [if_neg (fun q => by have q1 := q.1; rw [show LIN ct b i = false by assumption] at q1; exact absurd q1 (by decide))] | rw [if_neg (fun q => by have q1 := q.2.1; have q2 := q.2.2; omega)], trivial⟩), hI, hof⟩)
  · skip
    obtain ⟨rfl, h72⟩ := hr8
    have h72 : LIN ct b i = false := h72
    refine dv_if_eq (tgt := 18) dX8_fewest_6 (by decide) (fun c73 => ?_) (fun c73 => ?_)
    · skip
      refine dv_iconst (v := (-1)) dX8_fewest_18 (by decide) ?_
      have q74 : ((-1) : Int32).toInt = -1 := by decide
      exact dv_iret dX8_fewest_19 rfl (by first | exact Nat.zero_le _ | decide) (by first | exact Nat.zero_le _ | decide) (by subst hK; exact ⟨(-1), rfl, (⟨by unfold qFst; first | rw [if_neg (fun q => by have q1 := q.1; rw [show LIN ct b i = false by assumption] at q1; exact absurd q1 (by decide))] | rw [if_neg (fun q => by have q1 := q.2.1; have q2 := q.2.2; omega)], trivial⟩), hI, hof⟩)
    · skip
      exact absurd c73 (by decide)

set_option maxHeartbeats 4000000 in
set_option maxRecDepth 100000 in
theorem f_firstBared (l : Launch) (g : zG) (pe : Int32) (ct : Nat → va_E) (b : Int32) (k : Int32) (hl_b : 0 ≤ b.toInt ∧ b.toInt ≤ 3) (hI : Inv8 g idn pe ct) : DM l g pAll false yX8_firstBared cX8_firstBared 3 (some .int) ({ frames := 5, cells := 0, slots := 0, locals := 117 }) (fun (ct2 : Nat → va_E) (rr : Option Value) => ∃ (r : Int32), rr = some (.int r) ∧ (((r = qBar l g pe ct b k) ∧ (-1 ≤ r.toInt) ∧ (r.toInt ≤ 7))) ∧ Inv8 g idn pe ct2 ∧ (∀ k, ¬ dIn pM k → ct2 k = ct k) ∧ (¬ (r : Int32).toInt = -1 → ∃ fM2 : Nat → Int32, ct2 13 = .inl (g.2 0, 8, .inl fM2) ∧ ∀ j, j < 8 → fM2 j = qMay l g pe ct b 0 j)) ct [.ref 0, .int b, .int k] := by
  refine DM.K (fun K hK => ?_)
  refine GW.met (own := RX8) (loc := [(0, .ref 0), (1, .int b), (2, .int k)]) (by decide) rfl rfl (Nat.le_of_ble_eq_true rfl) ?_
  have hpe0 := hI.1
  have hof : ∀ k, ¬ dIn pM k → ct k = ct k := fun _ _ => rfl
  have rg_k := z_rng k
  obtain ⟨bk3, dr2, h4, h5, h6, hs1⟩ := a8_0 hI
  have hzb : (bkF ct).toInt = bk3.toInt := by unfold bkF; rw [hs1]; rfl
  obtain ⟨lns8, liv9, shw10, h11, h12, h13, h14, hz15, h16, hs7⟩ := a8_40 (kc := (0 + 55 + 11 * b.toInt.toNat)) (by omega) hI
  have bhz15 := z_b01 hz15
  have hln : (lnF ct b.toInt.toNat) = lns8 := by unfold lnF; rw [hs7]; rfl
  have hlv : (lvF ct b.toInt.toNat) = liv9 := by unfold lvF; rw [hs7]; rfl
  have hI0 := hI
  have hof0 := hof
  refine dv_aload_n dX8_firstBared_0 rfl 0 rfl ?_
  refine dv_iload_n dX8_firstBared_1 rfl 1 rfl ?_
  refine dv_iconst (v := 1) dX8_firstBared_2 (by decide) ?_
  refine dv_iload_n dX8_firstBared_3 rfl 1 rfl ?_
  refine dv_ishl dX8_firstBared_4 ?_
  refine dv_topi (fun x17 ex17 => ?_)
  have tx17 := z_shl1e (y := b) (by omega) (by omega)
  rw [← ex17] at tx17
  have ux17 := z_shl1 (y := b) rfl (by omega) (k := 3) (by decide) (by omega)
  rw [← ex17] at ux17
  refine GW.callV (n := 2) (As := [.int b, .int x17]) (rest := []) (b := 0) (f_layOut l g pe ct b x17 (by first | omega | decide) (by first | omega | decide) hI) (fun _ h => h) rfl rfl ⟨by decide, rfl⟩ hs1 (q := (RX8, TX8, 13)) rfl mm_438 mm_440 mm_9 mm_52 mm_441 (by decide +kernel) ⟨Nat.le_of_ble_eq_true rfl, Nat.le_of_ble_eq_true rfl⟩ rfl (Nat.le_of_ble_eq_true rfl) dX8_firstBared_5 (Nat.zero_le _) (Nat.zero_le _) rfl (fun ct18 rrr19 hBr19 hoff20 => ?_)
  obtain ⟨rfl, hI, hcf28, hk21, hk22, hk23, hk24, hk25, hk26, hk27⟩ := hBr19
  have hof : ∀ k, ¬ dIn pM k → ct18 k = ct k := fun k hk => (hcf28 k hk).trans (hof k hk)
  refine GW.eq (S2 := []) rfl rfl rfl ?_
  have hs29 : ct18 0 = .inr (8, [.ref 1, .ref 2, .ref 3, .ref 5, .ref 6, .ref 9, .ref 10, .ref 17, .ref 21, .ref 34, .ref (99 + 3 * dr2), .int pe, .int bk3]) := (hcf28 _ (pM_no (by decide))).trans hs1
  have hs30 : ct18 (0 + 55 + 11 * b.toInt.toNat) = .inr (2, [.int lns8, .int liv9, .int shw10, .ref ((0 + 55 + 11 * b.toInt.toNat) + 1), .ref ((0 + 55 + 11 * b.toInt.toNat) + 2)]) := (hcf28 _ (pM_no (by omega))).trans hs7
  obtain ⟨fD31, hq32, hd33⟩ := hk21
  obtain ⟨f35, hs34⟩ := a8_11 hI
  have hs36 := hq32
  cases (hq32.symm.trans hs34)
  have hofB := hof
  refine dv_aload_n dX8_firstBared_8 rfl 0 rfl ?_
  refine dv_iload_n dX8_firstBared_9 rfl 1 rfl ?_
  refine dv_iconst (v := 0) dX8_firstBared_10 (by decide) ?_
  refine GW.callV (n := 2) (As := [.int b, .int 0]) (rest := []) (b := 0) (f_fitLaid l g pe ct18 b (0 : Int32) fD31 (by first | omega | decide) (by first | omega | decide) hI hs36) (fun _ h => h) rfl rfl ⟨by decide, rfl⟩ hs29 (q := (RX8, TX8, 13)) rfl mm_449 mm_451 mm_10 mm_52 mm_452 (by decide +kernel) ⟨Nat.le_of_ble_eq_true rfl, Nat.le_of_ble_eq_true rfl⟩ rfl (Nat.le_of_ble_eq_true rfl) dX8_firstBared_11 (Nat.zero_le _) (Nat.zero_le _) rfl (fun ct37 rrr38 hBr38 hoff39 => ?_)
  obtain ⟨rfl, hI, hcf47, hk40, hk41, hk42, hk43, hk44, hk45, hk46⟩ := hBr38
  have hof : ∀ k, ¬ dIn pM k → ct37 k = ct k := fun k hk => (hcf47 k hk).trans (hof k hk)
  refine GW.eq (S2 := []) rfl rfl rfl ?_
  have hs48 : ct37 0 = .inr (8, [.ref 1, .ref 2, .ref 3, .ref 5, .ref 6, .ref 9, .ref 10, .ref 17, .ref 21, .ref 34, .ref (99 + 3 * dr2), .int pe, .int bk3]) := (hcf47 _ (pM_no (by decide))).trans hs29
  have hs49 : ct37 (0 + 55 + 11 * b.toInt.toNat) = .inr (2, [.int lns8, .int liv9, .int shw10, .ref ((0 + 55 + 11 * b.toInt.toNat) + 1), .ref ((0 + 55 + 11 * b.toInt.toNat) + 2)]) := (hcf47 _ (pM_no (by omega))).trans hs30
  obtain ⟨lk50, fd51, hq52⟩ := hk40
  obtain ⟨fF53, hq54, hf55⟩ := hk41
  obtain ⟨lnfF53, e1fF53⟩ : ∃ z : Int32, z = (lnF ct18 b.toInt.toNat) := ⟨_, rfl⟩
  obtain ⟨lvfF53, e2fF53⟩ : ∃ z : Int32, z = (lvF ct18 b.toInt.toNat) := ⟨_, rfl⟩
  rw [← e1fF53, ← e2fF53] at hq52
  obtain ⟨lns57, liv58, lak59, fnd60, h61, h62, h63, h64, hs56⟩ := a8_10 hI
  have hs65 := hq52
  cases (hq52.symm.trans hs56)
  obtain ⟨f67, hp68, hs66⟩ := a8_12 hI
  have hs69 := hq54
  cases (hq54.symm.trans hs66)
  have hs70 : ct37 11 = .inl (g.2 0, 8, .inl fD31) := hk42.trans hs36
  have hofA := hof
  refine dv_aload_n dX8_firstBared_14 rfl 0 rfl ?_
  refine dv_iload_n dX8_firstBared_15 rfl 1 rfl ?_
  refine dv_iload_n dX8_firstBared_16 rfl 2 rfl ?_
  refine GW.callV (n := 2) (As := [.int b, .int k]) (rest := []) (b := 0) (f_safeLines l g pe ct37 b k lnfF53 lvfF53 lk50 fd51 fF53 (by first | omega | decide) hI hs65 hs69) (fun _ h => h) rfl rfl ⟨by decide, rfl⟩ hs48 (q := (RX8, TX8, 13)) rfl mm_533 mm_535 mm_16 mm_52 mm_536 (by decide +kernel) ⟨Nat.le_of_ble_eq_true rfl, Nat.le_of_ble_eq_true rfl⟩ rfl (Nat.le_of_ble_eq_true rfl) dX8_firstBared_17 (Nat.zero_le _) (Nat.zero_le _) rfl (fun ct71 rrr72 hBr72 hoff73 => ?_)
  obtain ⟨r72, rfl, hr72, hI, hcf80, hk74, hk75, hk76, hk77, hk78, hk79⟩ := hBr72
  have hof : ∀ k, ¬ dIn pM k → ct71 k = ct k := fun k hk => (hcf80 k hk).trans (hof k hk)
  refine GW.eq (S2 := [.int r72]) rfl rfl rfl ?_
  have hs81 : ct71 0 = .inr (8, [.ref 1, .ref 2, .ref 3, .ref 5, .ref 6, .ref 9, .ref 10, .ref 17, .ref 21, .ref 34, .ref (99 + 3 * dr2), .int pe, .int bk3]) := (hcf80 _ (pM_no (by decide))).trans hs48
  have hs82 : ct71 (0 + 55 + 11 * b.toInt.toNat) = .inr (2, [.int lns8, .int liv9, .int shw10, .ref ((0 + 55 + 11 * b.toInt.toNat) + 1), .ref ((0 + 55 + 11 * b.toInt.toNat) + 2)]) := (hcf80 _ (pM_no (by omega))).trans hs49
  obtain ⟨lk83, elk83⟩ : ∃ z : Int32, z = (wLak lnfF53 lvfF53 fF53) := ⟨_, rfl⟩
  rw [← elk83] at hk74
  obtain ⟨fM84, hq85, hm86⟩ := hk75
  obtain ⟨lns88, liv89, lak90, fnd91, h92, h93, h94, h95, hs87⟩ := a8_10 hI
  have hs96 := hk74
  cases (hk74.symm.trans hs87)
  obtain ⟨f98, hp99, hs97⟩ := a8_13 hI
  have hs100 := hq85
  cases (hq85.symm.trans hs97)
  have hs101 : ct71 11 = .inl (g.2 0, 8, .inl fD31) := hk76.trans hs70
  have hs102 : ct71 12 = .inl (g.2 0, 8, .inl fF53) := hk77.trans hs69
  obtain ⟨h103, h104, h105⟩ := hr72
  have h103 : r72 = slS l g pe ct37 b k (wMay lnfF53 lvfF53 fF53) 8 := h103
  have h104 : 0 ≤ r72.toInt := h104
  have h105 : r72.toInt ≤ 255 := h105
  have hs1 : r72 = SLF l g pe ct b k (FTL l g pe ct b 0 (LDF l g pe ct b ((1 : Int32) <<< (b &&& 31)))) := by
    rw [h103, slS_o hofA, (e1fF53.trans (lnF_o hofB)), (e2fF53.trans (lvF_o hofB))]
    exact SLF_c (fun j hj => (hf55 j hj).trans ((FTL_p hofB (gix_rg hI0)).trans (FTL_L (by rw [hd33 j hj, ex17]))))
  refine dv_aload_n dX8_firstBared_20 rfl 0 rfl ?_
  refine dv_get (ci := 8) (v := .ref 5) (C := RX8) (T := TX8) (N := 13) ⟨by decide, rfl⟩ hs81 rfl inG8 3 (by decide) mm_306 rfl dX8_firstBared_21 ?_
  refine dv_iload_n dX8_firstBared_24 rfl 1 rfl ?_
  have hs106 := a8_5 hI
  refine dv_aldq 5 ⟨by decide, rfl⟩ hs106 rfl (z_in rfl (by omega) (by omega)) dX8_firstBared_25 (r := (0 + 55 + 11 * b.toInt.toNat)) (zF5_r (x := b) (by omega) (by omega)) ?_
  refine dv_get (ci := 2) (v := .int liv9) (C := RX2) (T := TX2) (N := 5) ⟨by omega, pAll_of (by omega)⟩ hs82 rfl inG2 1 (by decide) mm_287 rfl dX8_firstBared_26 ?_
  refine dv_icmp_eq (tgt := 34) dX8_firstBared_29 (by decide) (fun c107 => ?_) (fun c107 => ?_)
  · skip
    have c107 : r72.toInt = liv9.toInt := (z_eq rfl rfl).mp c107
    have hof0 := hof
    refine dv_aload_n dX8_firstBared_34 rfl 0 rfl ?_
    refine dv_iload_n dX8_firstBared_35 rfl 1 rfl ?_
    refine dv_iconst (v := 0) dX8_firstBared_36 (by decide) ?_
    refine GW.callV (n := 2) (As := [.int b, .int 0]) (rest := []) (b := 0) (f_fit l g pe ct71 b (0 : Int32) (by first | omega | decide) (by first | omega | decide) hI) (fun _ h => h) rfl rfl ⟨by decide, rfl⟩ hs81 (q := (RX8, TX8, 13)) rfl mm_426 mm_428 mm_6 mm_52 mm_429 (by decide +kernel) ⟨Nat.le_of_ble_eq_true rfl, Nat.le_of_ble_eq_true rfl⟩ rfl (Nat.le_of_ble_eq_true rfl) dX8_firstBared_37 (Nat.zero_le _) (Nat.zero_le _) rfl (fun ct108 rrr109 hBr109 hoff110 => ?_)
    obtain ⟨rfl, hI, hcf118, hk111, hk112, hk113, hk114, hk115, hk116, hk117⟩ := hBr109
    have hof : ∀ k, ¬ dIn pM k → ct108 k = ct k := fun k hk => (hcf118 k hk).trans (hof k hk)
    refine GW.eq (S2 := []) rfl rfl rfl ?_
    have hs119 : ct108 0 = .inr (8, [.ref 1, .ref 2, .ref 3, .ref 5, .ref 6, .ref 9, .ref 10, .ref 17, .ref 21, .ref 34, .ref (99 + 3 * dr2), .int pe, .int bk3]) := (hcf118 _ (pM_no (by decide))).trans hs81
    have hs120 : ct108 (0 + 55 + 11 * b.toInt.toNat) = .inr (2, [.int lns8, .int liv9, .int shw10, .ref ((0 + 55 + 11 * b.toInt.toNat) + 1), .ref ((0 + 55 + 11 * b.toInt.toNat) + 2)]) := (hcf118 _ (pM_no (by omega))).trans hs82
    have hs121 : ct108 5 = .inl (g.2 5, 4, .inr (.inr (.inr (.inr (zF5 idn 0))))) := (hcf118 _ (pM_no (by decide))).trans hs106
    obtain ⟨lk122, fd123, hq124⟩ := hk111
    obtain ⟨fF125, hq126, hf127⟩ := hk112
    obtain ⟨fD128, hq129, hd130⟩ := hk113
    obtain ⟨lnfF125, e1fF125⟩ : ∃ z : Int32, z = lnF ct b.toInt.toNat := ⟨_, rfl⟩
    obtain ⟨lvfF125, e2fF125⟩ : ∃ z : Int32, z = lvF ct b.toInt.toNat := ⟨_, rfl⟩
    have hq124n := lnF_o (b := b.toInt.toNat) hof0
    have hq124v := lvF_o (b := b.toInt.toNat) hof0
    rw [hq124n, hq124v] at hq124
    have hf127o : ∀ j, j < 8 → fF125 j = FIT l g pe ct b (0 : Int32) j := fun j hj => (hf127 j hj).trans (FIT_o hof0 (gix_rg hI0))
    rw [← e1fF125, ← e2fF125] at hq124
    obtain ⟨lns132, liv133, lak134, fnd135, h136, h137, h138, h139, hs131⟩ := a8_10 hI
    have hs140 := hq124
    cases (hq124.symm.trans hs131)
    obtain ⟨f142, hp143, hs141⟩ := a8_12 hI
    have hs144 := hq126
    cases (hq126.symm.trans hs141)
    obtain ⟨f146, hs145⟩ := a8_11 hI
    have hs147 := hq129
    cases (hq129.symm.trans hs145)
    have hs148 : ct108 13 = .inl (g.2 0, 8, .inl fM84) := hk114.trans hs100
    have hofC := hof
    refine dv_aload_n dX8_firstBared_40 rfl 0 rfl ?_
    refine dv_get (ci := 8) (v := .ref 5) (C := RX8) (T := TX8) (N := 13) ⟨by decide, rfl⟩ hs119 rfl inG8 3 (by decide) mm_306 rfl dX8_firstBared_41 ?_
    refine dv_iload_n dX8_firstBared_44 rfl 1 rfl ?_
    refine dv_aldq 5 ⟨by decide, rfl⟩ hs121 rfl (z_in rfl (by omega) (by omega)) dX8_firstBared_45 (r := (0 + 55 + 11 * b.toInt.toNat)) (zF5_r (x := b) (by omega) (by omega)) ?_
    refine dv_get (ci := 2) (v := .int liv9) (C := RX2) (T := TX2) (N := 5) ⟨by omega, pAll_of (by omega)⟩ hs120 rfl inG2 1 (by decide) mm_287 rfl dX8_firstBared_46 ?_
    refine dv_aload_n dX8_firstBared_49 rfl 0 rfl ?_
    refine dv_iload_n dX8_firstBared_50 rfl 1 rfl ?_
    refine dv_iload_n dX8_firstBared_51 rfl 2 rfl ?_
    refine GW.callV (n := 2) (As := [.int b, .int k]) (rest := [.int liv9]) (b := 0) (f_safeLines l g pe ct108 b k lnfF125 lvfF125 lk122 fd123 fF125 (by first | omega | decide) hI hs140 hs144) (fun _ h => h) rfl rfl ⟨by decide, rfl⟩ hs119 (q := (RX8, TX8, 13)) rfl mm_533 mm_535 mm_16 mm_52 mm_536 (by decide +kernel) ⟨Nat.le_of_ble_eq_true rfl, Nat.le_of_ble_eq_true rfl⟩ rfl (Nat.le_of_ble_eq_true rfl) dX8_firstBared_52 (Nat.zero_le _) (Nat.zero_le _) rfl (fun ct149 rrr150 hBr150 hoff151 => ?_)
    obtain ⟨r150, rfl, hr150, hI, hcf158, hk152, hk153, hk154, hk155, hk156, hk157⟩ := hBr150
    have hof : ∀ k, ¬ dIn pM k → ct149 k = ct k := fun k hk => (hcf158 k hk).trans (hof k hk)
    refine GW.eq (S2 := [.int r150, .int liv9]) rfl rfl rfl ?_
    have hs159 : ct149 0 = .inr (8, [.ref 1, .ref 2, .ref 3, .ref 5, .ref 6, .ref 9, .ref 10, .ref 17, .ref 21, .ref 34, .ref (99 + 3 * dr2), .int pe, .int bk3]) := (hcf158 _ (pM_no (by decide))).trans hs119
    have hs160 : ct149 (0 + 55 + 11 * b.toInt.toNat) = .inr (2, [.int lns8, .int liv9, .int shw10, .ref ((0 + 55 + 11 * b.toInt.toNat) + 1), .ref ((0 + 55 + 11 * b.toInt.toNat) + 2)]) := (hcf158 _ (pM_no (by omega))).trans hs120
    have hs161 : ct149 5 = .inl (g.2 5, 4, .inr (.inr (.inr (.inr (zF5 idn 0))))) := (hcf158 _ (pM_no (by decide))).trans hs121
    obtain ⟨lk162, elk162⟩ : ∃ z : Int32, z = (wLak lnfF125 lvfF125 fF125) := ⟨_, rfl⟩
    rw [← elk162] at hk152
    obtain ⟨fM163, hq164, hm165⟩ := hk153
    obtain ⟨lns167, liv168, lak169, fnd170, h171, h172, h173, h174, hs166⟩ := a8_10 hI
    have hs175 := hk152
    cases (hk152.symm.trans hs166)
    obtain ⟨f177, hp178, hs176⟩ := a8_13 hI
    have hs179 := hq164
    cases (hq164.symm.trans hs176)
    have hs180 : ct149 11 = .inl (g.2 0, 8, .inl fD128) := hk154.trans hs147
    have hs181 : ct149 12 = .inl (g.2 0, 8, .inl fF125) := hk155.trans hs144
    obtain ⟨h182, h183, h184⟩ := hr150
    have h182 : r150 = slS l g pe ct108 b k (wMay lnfF125 lvfF125 fF125) 8 := h182
    have h183 : 0 ≤ r150.toInt := h183
    have h184 : r150.toInt ≤ 255 := h184
    have hs2 : r150 = SLF l g pe ct b k (FIT l g pe ct b 0) := by
      rw [h182, slS_o hofC, e1fF125, e2fF125]
      exact SLF_c hf127o
    refine dv_iconst (v := (-1)) dX8_firstBared_55 (by decide) ?_
    refine dv_ixor dX8_firstBared_56 ?_
    refine dv_topi (fun x185 ex185 => ?_)
    refine dv_iand dX8_firstBared_57 ?_
    refine dv_topi (fun x186 ex186 => ?_)
    have tx186 := z_andl (x := liv9) (y := x185) rfl (by omega)
    rw [← ex186] at tx186
    refine GW.callS (n := 1) (As := [.int x186]) (rest := []) (f_lowest l g pe ct149 x186 (by first | omega | decide) hI) (fun _ h => Bool.noConfusion h) rfl rfl mm_715 mm_716 mm_52 mm_717 (by decide +kernel) ⟨Nat.le_of_ble_eq_true rfl, Nat.le_of_ble_eq_true rfl⟩ rfl (Nat.le_of_ble_eq_true rfl) dX8_firstBared_58 (Nat.zero_le _) (Nat.zero_le _) rfl (fun ct187 rrr188 hBr188 hoff189 => ?_)
    obtain ⟨r188, rfl, hr188, rfl⟩ := hBr188
    refine GW.eq (S2 := [.int r188]) rfl rfl rfl ?_
    have h190 := hr188
    have h190 : r188 = lowG x186 32 := h190
    exact dv_iret dX8_firstBared_61 rfl (by first | exact Nat.zero_le _ | decide) (by first | exact Nat.zero_le _ | decide) (by subst hK; exact ⟨r188, rfl, (⟨by unfold qBar; rw [← hs1, hlv, if_pos (by omega), ← hs2, h190, ex186, ex185], by rw [h190]; exact (lowG_r7 (by omega) (by omega) 32 (by omega)).1, by rw [h190]; exact (lowG_r7 (by omega) (by omega) 32 (by omega)).2⟩), hI, hof, (fun _ => ⟨_, hs179, fun j hj => (hm165 j hj).trans (by unfold qMay; rw [e1fF125, e2fF125]; exact wMay_c hf127o hj)⟩)⟩)
  · skip
    have c107 : ¬ (r72.toInt = liv9.toInt) := fun q => c107 ((z_eq rfl rfl).mpr q)
    refine dv_iconst (v := (-1)) dX8_firstBared_32 (by decide) ?_
    have q191 : ((-1) : Int32).toInt = -1 := by decide
    exact dv_iret dX8_firstBared_33 rfl (by first | exact Nat.zero_le _ | decide) (by first | exact Nat.zero_le _ | decide) (by subst hK; exact ⟨(-1), rfl, (⟨by unfold qBar; rw [← hs1, hlv, if_neg (by omega)], by decide, by decide⟩), hI, hof, (fun q => absurd (by decide) q)⟩)
