set_option maxHeartbeats 4000000 in
set_option maxRecDepth 100000 in
theorem f_safeIfSwapped (l : Launch) (g : zG) (pe : Int32) (ct : Nat → va_E) (b : Int32) (k : Int32) (i : Int32) (j : Int32) (c0 : Int32) (fD : Nat → Int32) (hl_b : 0 ≤ b.toInt ∧ b.toInt ≤ 3) (hI : Inv8 g idn pe ct) (h11 : ct 11 = .inl (g.2 0, 8, .inl fD)) : DM l g pAll false yX8_safeIfSwapped cX8_safeIfSwapped 7 (some .int) ({ frames := 4, cells := 0, slots := 0, locals := 95 }) (fun (ct2 : Nat → va_E) (rr : Option Value) => ∃ (r : Int32), rr = some (.int r) ∧ (((r = sisR l g pe ct b k i j c0 fD) ∧ (True))) ∧ Inv8 g idn pe ct2 ∧ (∀ q, ¬ dIn pM q → ct2 q = sisW l g pe ct b i j c0 q) ∧ (ct2 11 = ct 11)) ct [.ref 0, .int b, .int k, .int i, .int j, .int c0] := by
  refine DM.K (fun K hK => ?_)
  refine GW.met (own := RX8) (loc := [(0, .ref 0), (1, .int b), (2, .int k), (3, .int i), (4, .int j), (5, .int c0)]) (by decide) rfl rfl (Nat.le_of_ble_eq_true rfl) ?_
  have hpe0 := hI.1
  obtain ⟨f2, hs1⟩ := a8_11 hI
  have hs3 := h11
  cases (h11.symm.trans hs1)
  have hc11 : ct 11 = ct 11 := rfl
  have rg_k := z_rng k
  have rg_i := z_rng i
  have rg_j := z_rng j
  have rg_c0 := z_rng c0
  refine dv_aload_n dX8_safeIfSwapped_0 rfl 0 rfl ?_
  refine dv_iload_n dX8_safeIfSwapped_1 rfl 1 rfl ?_
  refine dv_iload_n dX8_safeIfSwapped_2 rfl 3 rfl ?_
  refine dv_iload dX8_safeIfSwapped_3 4 rfl ?_
  refine dv_iload dX8_safeIfSwapped_5 5 rfl ?_
  obtain ⟨bk7, dr6, h8, h9, h10, hs5⟩ := a8_0 hI
  refine GW.callV (n := 4) (As := [.int b, .int i, .int j, .int c0]) (rest := []) (b := 0) (f_swap l g pe ct b i j c0 hI) sub_pCl_pAll rfl rfl ⟨by decide, rfl⟩ hs5 (q := (RX8, TX8, 13)) rfl mm_780 mm_649 mm_650 mm_52 mm_651 (by decide +kernel) ⟨Nat.le_of_ble_eq_true rfl, Nat.le_of_ble_eq_true rfl⟩ rfl (Nat.le_of_ble_eq_true rfl) dX8_safeIfSwapped_7 (Nat.zero_le _) (Nat.zero_le _) rfl (fun ct4 rrr11 hBr11 hoff12 => ?_)
  obtain ⟨r11, rfl, hr11, hI, hk13⟩ := hBr11
  refine GW.eq (S2 := [.int r11]) rfl rfl rfl ?_
  have hs14 : ct4 11 = .inl (g.2 0, 8, .inl fD) := (hoff12 _ (pCl_no (by decide))).trans hs3
  have hc11 : ct4 11 = ct 11 := (hoff12 11 (pCl_no (by decide))).trans hc11
  have hsw := hk13
  have hIa := hI
  rcases hr11 with hr11 | hr11
  · skip
    obtain ⟨rfl, h15⟩ := hr11
    have h15 : rI (wSwap l g pe ct b i j c0).2 = 1 := h15
    refine dv_if_ne (tgt := 15) dX8_safeIfSwapped_10 (by decide) (fun c16 => ?_) (fun c16 => ?_)
    · skip
      have hA1 : rI (wSwap l g pe ct b i j c0).2 = 1 := by assumption
      refine dv_aload_n dX8_safeIfSwapped_15 rfl 0 rfl ?_
      refine dv_iload_n dX8_safeIfSwapped_16 rfl 1 rfl ?_
      refine dv_iconst (v := 0) dX8_safeIfSwapped_17 (by decide) ?_
      obtain ⟨bk20, dr19, h21, h22, h23, hs18⟩ := a8_0 hI
      refine GW.callV (n := 2) (As := [.int b, .int 0]) (rest := []) (b := 0) (f_fitLaid l g pe ct4 b (0 : Int32) fD (by first | omega | decide) (by first | omega | decide) hI hs14) (fun _ h => h) rfl rfl ⟨by decide, rfl⟩ hs18 (q := (RX8, TX8, 13)) rfl mm_449 mm_451 mm_10 mm_52 mm_452 (by decide +kernel) ⟨Nat.le_of_ble_eq_true rfl, Nat.le_of_ble_eq_true rfl⟩ rfl (Nat.le_of_ble_eq_true rfl) dX8_safeIfSwapped_18 (Nat.zero_le _) (Nat.zero_le _) rfl (fun ct17 rrr24 hBr24 hoff25 => ?_)
      obtain ⟨rfl, hI, hcf33, hk26, hk27, hk28, hk29, hk30, hk31, hk32⟩ := hBr24
      refine GW.eq (S2 := []) rfl rfl rfl ?_
      have hs34 : ct17 0 = .inr (8, [.ref 1, .ref 2, .ref 3, .ref 5, .ref 6, .ref 9, .ref 10, .ref 17, .ref 21, .ref 34, .ref (99 + 3 * dr19), .int pe, .int bk20]) := (hcf33 _ (pM_no (by decide))).trans hs18
      obtain ⟨lk35, fd36, hq37⟩ := hk26
      obtain ⟨fF38, hq39, hf40⟩ := hk27
      obtain ⟨lnfF38, e1fF38⟩ : ∃ z : Int32, z = (lnF ct4 b.toInt.toNat) := ⟨_, rfl⟩
      obtain ⟨lvfF38, e2fF38⟩ : ∃ z : Int32, z = (lvF ct4 b.toInt.toNat) := ⟨_, rfl⟩
      rw [← e1fF38, ← e2fF38] at hq37
      obtain ⟨lns42, liv43, lak44, fnd45, h46, h47, h48, h49, hs41⟩ := a8_10 hI
      have hs50 := hq37
      cases (hq37.symm.trans hs41)
      obtain ⟨f52, hp53, hs51⟩ := a8_12 hI
      have hs54 := hq39
      cases (hq39.symm.trans hs51)
      have hc11 : ct17 11 = ct 11 := hk28.trans hc11
      have hs55 : ct17 11 = .inl (g.2 0, 8, .inl fD) := hk28.trans hs14
      have hfl : ∀ q, ¬ dIn pM q → ct17 q = (wSwap l g pe ct b i j c0).1 q := fun q hq => (hcf33 q hq).trans (hsw q hq)
      refine dv_aload_n dX8_safeIfSwapped_21 rfl 0 rfl ?_
      refine dv_iload_n dX8_safeIfSwapped_22 rfl 1 rfl ?_
      refine dv_iload_n dX8_safeIfSwapped_23 rfl 2 rfl ?_
      refine GW.callV (n := 2) (As := [.int b, .int k]) (rest := []) (b := 0) (f_safeLines l g pe ct17 b k lnfF38 lvfF38 lk35 fd36 fF38 (by first | omega | decide) hI hs50 hs54) (fun _ h => h) rfl rfl ⟨by decide, rfl⟩ hs34 (q := (RX8, TX8, 13)) rfl mm_533 mm_535 mm_16 mm_52 mm_536 (by decide +kernel) ⟨Nat.le_of_ble_eq_true rfl, Nat.le_of_ble_eq_true rfl⟩ rfl (Nat.le_of_ble_eq_true rfl) dX8_safeIfSwapped_24 (Nat.zero_le _) (Nat.zero_le _) rfl (fun ct56 rrr57 hBr57 hoff58 => ?_)
      obtain ⟨r57, rfl, hr57, hI, hcf65, hk59, hk60, hk61, hk62, hk63, hk64⟩ := hBr57
      refine GW.eq (S2 := [.int r57]) rfl rfl rfl ?_
      have hs66 : ct56 0 = .inr (8, [.ref 1, .ref 2, .ref 3, .ref 5, .ref 6, .ref 9, .ref 10, .ref 17, .ref 21, .ref 34, .ref (99 + 3 * dr19), .int pe, .int bk20]) := (hcf65 _ (pM_no (by decide))).trans hs34
      obtain ⟨lk67, elk67⟩ : ∃ z : Int32, z = (wLak lnfF38 lvfF38 fF38) := ⟨_, rfl⟩
      rw [← elk67] at hk59
      obtain ⟨fM68, hq69, hm70⟩ := hk60
      obtain ⟨lns72, liv73, lak74, fnd75, h76, h77, h78, h79, hs71⟩ := a8_10 hI
      have hs80 := hk59
      cases (hk59.symm.trans hs71)
      obtain ⟨f82, hp83, hs81⟩ := a8_13 hI
      have hs84 := hq69
      cases (hq69.symm.trans hs81)
      have hc11 : ct56 11 = ct 11 := hk61.trans hc11
      have hs85 : ct56 11 = .inl (g.2 0, 8, .inl fD) := hk61.trans hs55
      have hs86 : ct56 12 = .inl (g.2 0, 8, .inl fF38) := hk62.trans hs54
      have hsl : ∀ q, ¬ dIn pM q → ct56 q = (wSwap l g pe ct b i j c0).1 q := fun q hq => (hcf65 q hq).trans (hfl q hq)
      obtain ⟨h87, h88, h89⟩ := hr57
      have h87 : r57 = slS l g pe ct17 b k (wMay lnfF38 lvfF38 fF38) 8 := h87
      have h88 : 0 ≤ r57.toInt := h88
      have h89 : r57.toInt ≤ 255 := h89
      have hgs : ∀ n, n < 8 → ¬ (10 ≤ gix (wSwap l g pe ct b i j c0).1 n ∧ gix (wSwap l g pe ct b i j c0).1 n < 17) := fun n hn => by
        rw [← gix_o hsw]
        exact gix_rg hIa n hn
      have hs1 : r57 = SLF l g pe (wSwap l g pe ct b i j c0).1 b k (FTL l g pe (wSwap l g pe ct b i j c0).1 b 0 fD) := by
        rw [h87, slS_o hfl, e1fF38, e2fF38, lnF_o hsw, lvF_o hsw]
        exact SLF_c (fun j hj => (hf40 j hj).trans (FTL_p hsw hgs))
      refine GW.callS (n := 1) (As := [.int r57]) (rest := []) (k_bce l g pe ct56 r57 hI) (fun _ h => Bool.noConfusion h) rfl rfl mm_504 mm_499 mm_62 mm_500 (by decide +kernel) ⟨Nat.le_of_ble_eq_true rfl, Nat.le_of_ble_eq_true rfl⟩ rfl (Nat.le_of_ble_eq_true rfl) dX8_safeIfSwapped_27 (Nat.zero_le _) (Nat.zero_le _) rfl (fun ct90 rrr91 hBr91 hoff92 => ?_)
      obtain ⟨r91, rfl, hr91, rfl⟩ := hBr91
      refine GW.eq (S2 := [.int r91]) rfl rfl rfl ?_
      have hqr91 := hr91
      subst r91
      refine dv_istore (lv' := [(6, .int (bcf r57)), (0, .ref 0), (1, .int b), (2, .int k), (3, .int i), (4, .int j), (5, .int c0)]) dX8_safeIfSwapped_30 (by decide) rfl ?_
      refine dv_aload_n dX8_safeIfSwapped_32 rfl 1 rfl ?_
      refine dv_get (ci := 8) (v := .ref 5) (C := RX8) (T := TX8) (N := 13) ⟨by decide, rfl⟩ hs66 rfl inG8 3 (by decide) mm_306 rfl dX8_safeIfSwapped_33 ?_
      refine dv_iload_n dX8_safeIfSwapped_36 rfl 2 rfl ?_
      have hs93 := a8_5 hI
      refine dv_aldq 5 ⟨by decide, rfl⟩ hs93 rfl (z_in rfl (by omega) (by omega)) dX8_safeIfSwapped_37 (r := (0 + 55 + 11 * b.toInt.toNat)) (zF5_r (x := b) (by omega) (by omega)) ?_
      refine dv_iload_n dX8_safeIfSwapped_38 rfl 4 rfl ?_
      refine dv_iload dX8_safeIfSwapped_39 5 rfl ?_
      refine dv_iload dX8_safeIfSwapped_41 6 rfl ?_
      obtain ⟨lns96, liv97, shw98, h99, h100, h101, h102, hz103, h104, hs95⟩ := a8_40 (kc := (0 + 55 + 11 * b.toInt.toNat)) (by omega) hI
      have bhz103 := z_b01 hz103
      refine GW.callV (n := 3) (As := [.int i, .int j, .int c0]) (rest := []) (b := (0 + 55 + 11 * b.toInt.toNat)) (f_exchange l g pe ct56 (0 + 55 + 11 * b.toInt.toNat) i j c0 (by omega) hI) sub_pB_pAll rfl rfl ⟨by omega, pB_of (by omega)⟩ hs95 (q := (RX2, TX2, 5)) rfl mm_652 mm_653 mm_654 mm_60 mm_655 (by decide +kernel) ⟨Nat.le_of_ble_eq_true rfl, Nat.le_of_ble_eq_true rfl⟩ rfl (Nat.le_of_ble_eq_true rfl) dX8_safeIfSwapped_43 (Nat.zero_le _) (Nat.zero_le _) rfl (fun ct94 rrr105 hBr105 hoff106 => ?_)
      obtain ⟨rfl, hI, hk107⟩ := hBr105
      refine GW.eq (S2 := []) rfl rfl rfl ?_
      have hs108 : ct94 0 = .inr (8, [.ref 1, .ref 2, .ref 3, .ref 5, .ref 6, .ref 9, .ref 10, .ref 17, .ref 21, .ref 34, .ref (99 + 3 * dr19), .int pe, .int bk20]) := (hoff106 _ (pB_no (by decide))).trans hs66
      have hs109 : ct94 10 = .inr (6, [.int lnfF38, .int lvfF38, .int lk67, .int fd36, .ref 11, .ref 12, .ref 13, .ref 14, .ref 15, .ref 16]) := (hoff106 _ (pB_no (by decide))).trans hs80
      have hs110 : ct94 13 = .inl (g.2 0, 8, .inl fM68) := (hoff106 _ (pB_no (by decide))).trans hs84
      have hs111 : ct94 11 = .inl (g.2 0, 8, .inl fD) := (hoff106 _ (pB_no (by decide))).trans hs85
      have hs112 : ct94 12 = .inl (g.2 0, 8, .inl fF38) := (hoff106 _ (pB_no (by decide))).trans hs86
      have hs113 : ct94 5 = .inl (g.2 5, 4, .inr (.inr (.inr (.inr (zF5 idn 0))))) := (hoff106 _ (pB_no (by decide))).trans hs93
      have hc11 : ct94 11 = ct 11 := (hoff106 11 (pB_no (by decide))).trans hc11
      have hex : ∀ q, ¬ dIn pM q → ct94 q = (wExch l g pe (wSwap l g pe ct b i j c0).1 (0 + 55 + 11 * b.toInt.toNat) i j c0).1 q := fun q hq => by
        rw [← wExch_c hsl]
        exact hk107 q hq
      refine dv_iload dX8_safeIfSwapped_46 0 rfl ?_
      exact dv_iret dX8_safeIfSwapped_48 rfl (by first | exact Nat.zero_le _ | decide) (by first | exact Nat.zero_le _ | decide) (by subst hK; exact ⟨(bcf r57), rfl, (⟨by unfold sisR; rw [if_pos hA1, ← hs1], trivial⟩), hI, (fun q hq => by unfold sisW; rw [if_pos hA1]; exact hex q hq), (by assumption)⟩)
    · skip
      exact absurd c16 (by decide)
  · skip
    obtain ⟨rfl, h114⟩ := hr11
    have h114 : rI (wSwap l g pe ct b i j c0).2 = 0 := h114
    refine dv_if_ne (tgt := 15) dX8_safeIfSwapped_10 (by decide) (fun c115 => ?_) (fun c115 => ?_)
    · skip
      exact absurd c115 (by decide)
    · skip
      have hA0 : rI (wSwap l g pe ct b i j c0).2 = 0 := by assumption
      refine dv_iconst (v := (-1)) dX8_safeIfSwapped_13 (by decide) ?_
      have q116 : ((-1) : Int32).toInt = -1 := by decide
      exact dv_iret dX8_safeIfSwapped_14 rfl (by first | exact Nat.zero_le _ | decide) (by first | exact Nat.zero_le _ | decide) (by subst hK; exact ⟨(-1), rfl, (⟨by unfold sisR; rw [if_neg (fun q => by rw [q] at hA0; exact absurd hA0 (by decide))], trivial⟩), hI, (fun q hq => by unfold sisW; rw [if_neg (fun q => by rw [q] at hA0; exact absurd hA0 (by decide))]; exact hsw q hq), (by assumption)⟩)
