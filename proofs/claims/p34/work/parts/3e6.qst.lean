set_option maxHeartbeats 4000000 in
set_option maxRecDepth 100000 in
theorem f_questions (l : Launch) (g : zG) (pe : Int32) (ct : Nat → va_E) (b : Int32) (i : Int32) (kn : Int32) (wh : Int32) (hI : Inv8 g idn pe ct) : DM l g pAll true yX8_questions cX8_questions 7 (some .int) ({ frames := 35, cells := 1, slots := 131072, locals := 885 }) (fun (ct2 : Nat → va_E) (rr : Option Value) => ∃ (r : Int32), rr = some (.int r) ∧ (((r = qQst l g pe ct b i kn wh) ∧ (True))) ∧ Inv8 g idn pe ct2 ∧ (∀ q, ¬ dIn pM q → ct2 q = qQsW l g pe ct b i kn wh q)) ct [.ref 0, .int b, .int i, .int kn, .int wh] := by
  refine DM.K (fun K hK => ?_)
  refine GW.met (own := RX8) (loc := [(0, .ref 0), (1, .int b), (2, .int i), (3, .int kn), (4, .int wh)]) (by decide) rfl rfl (Nat.le_of_ble_eq_true rfl) ?_
  have hpe0 := hI.1
  have rg_b := z_rng b
  have rg_i := z_rng i
  have rg_kn := z_rng kn
  have rg_wh := z_rng wh
  have hI0 := hI
  have hof0 : ∀ q, ¬ dIn pM q → ct q = ct q := fun _ _ => rfl
  refine dv_aload_n dX8_questions_0 rfl 0 rfl ?_
  refine dv_iload_n dX8_questions_1 rfl 1 rfl ?_
  refine dv_iload_n dX8_questions_2 rfl 2 rfl ?_
  obtain ⟨bk4, dr3, h5, h6, h7, hs2⟩ := a8_0 hI
  refine GW.callV (n := 2) (As := [.int b, .int i]) (rest := []) (b := 0) (f_isLine l g pe ct b i hI) sub_pCl_pAll rfl rfl ⟨by decide, rfl⟩ hs2 (q := (RX8, TX8, 13)) rfl mm_411 mm_413 mm_3 mm_52 mm_414 (by decide +kernel) ⟨Nat.le_of_ble_eq_true rfl, Nat.le_of_ble_eq_true rfl⟩ rfl (Nat.le_of_ble_eq_true rfl) dX8_questions_3 (Nat.zero_le _) (Nat.zero_le _) rfl (fun ct1 rrr8 hBr8 hoff9 => ?_)
  obtain ⟨r8, rfl, hr8, rfl⟩ := hBr8
  refine GW.eq (S2 := [.int r8]) rfl rfl rfl ?_
  rcases hr8 with hr8 | hr8
  · skip
    obtain ⟨rfl, h10, h11, h12, h13, h14⟩ := hr8
    have h10 : LIN ct b i = true := h10
    have h11 : 0 ≤ b.toInt ∧ b.toInt ≤ 3 := h11
    have h12 : 0 ≤ i.toInt ∧ i.toInt ≤ 7 := h12
    have h13 : b.toInt < (bkF ct).toInt := h13
    have h14 : i.toInt < (lnF ct b.toInt.toNat).toInt := h14
    refine dv_if_eq (tgt := 26) dX8_questions_6 (by decide) (fun c15 => ?_) (fun c15 => ?_)
    · skip
      exact absurd c15 (by decide)
    · skip
      refine dv_iload_n dX8_questions_9 rfl 3 rfl ?_
      refine GW.callS (n := 1) (As := [.int kn]) (rest := []) (k_X8_areGossips l g pe ct kn hI) (fun _ h => Bool.noConfusion h) rfl rfl mm_419 mm_420 mm_52 mm_421 (by decide +kernel) ⟨Nat.le_of_ble_eq_true rfl, Nat.le_of_ble_eq_true rfl⟩ rfl (Nat.le_of_ble_eq_true rfl) dX8_questions_10 (Nat.zero_le _) (Nat.zero_le _) rfl (fun ct16 rrr17 hBr17 hoff18 => ?_)
      obtain ⟨r17, rfl, hr17, rfl⟩ := hBr17
      refine GW.eq (S2 := [.int r17]) rfl rfl rfl ?_
      rcases hr17 with hr17 | hr17
      · skip
        obtain ⟨rfl, h19, h20⟩ := hr17
        have h19 : 0 ≤ kn.toInt := h19
        have h20 : kn.toInt ≤ 255 := h20
        refine dv_if_eq (tgt := 26) dX8_questions_13 (by decide) (fun c21 => ?_) (fun c21 => ?_)
        · skip
          exact absurd c21 (by decide)
        · skip
          refine dv_iload dX8_questions_16 4 rfl ?_
          refine dv_iconst (v := 0) dX8_questions_18 (by decide) ?_
          refine dv_iconst (v := 2) dX8_questions_19 (by decide) ?_
          refine GW.callS (n := 3) (As := [.int wh, .int 0, .int 2]) (rest := []) (k_X8_within l g pe ct wh (0 : Int32) (2 : Int32) hI) (fun _ h => Bool.noConfusion h) rfl rfl mm_355 mm_356 mm_52 mm_357 (by decide +kernel) ⟨Nat.le_of_ble_eq_true rfl, Nat.le_of_ble_eq_true rfl⟩ rfl (Nat.le_of_ble_eq_true rfl) dX8_questions_20 (Nat.zero_le _) (Nat.zero_le _) rfl (fun ct22 rrr23 hBr23 hoff24 => ?_)
          obtain ⟨r23, rfl, hr23, rfl⟩ := hBr23
          refine GW.eq (S2 := [.int r23]) rfl rfl rfl ?_
          rcases hr23 with hr23 | hr23
          · skip
            obtain ⟨rfl, h25, h26⟩ := hr23
            have h25 : (0 : Int) ≤ wh.toInt := h25
            have h26 : wh.toInt ≤ (2 : Int) := h26
            refine dv_if_ne (tgt := 28) dX8_questions_23 (by decide) (fun c27 => ?_) (fun c27 => ?_)
            · skip
              refine dv_aload_n dX8_questions_28 rfl 0 rfl ?_
              refine dv_iload_n dX8_questions_29 rfl 1 rfl ?_
              refine dv_iload_n dX8_questions_30 rfl 2 rfl ?_
              refine GW.callV (n := 2) (As := [.int b, .int i]) (rest := []) (b := 0) (f_isLive l g pe ct b i hI) sub_pCl_pAll rfl rfl ⟨by decide, rfl⟩ hs2 (q := (RX8, TX8, 13)) rfl mm_422 mm_424 mm_5 mm_52 mm_425 (by decide +kernel) ⟨Nat.le_of_ble_eq_true rfl, Nat.le_of_ble_eq_true rfl⟩ rfl (Nat.le_of_ble_eq_true rfl) dX8_questions_31 (Nat.zero_le _) (Nat.zero_le _) rfl (fun ct28 rrr29 hBr29 hoff30 => ?_)
              obtain ⟨r29, rfl, hr29, rfl⟩ := hBr29
              refine GW.eq (S2 := [.int r29]) rfl rfl rfl ?_
              rcases hr29 with hr29 | hr29
              · skip
                obtain ⟨rfl, h31, h32, h33, h34⟩ := hr29
                have h31 : LIV ct b i = true := h31
                have h32 : 0 ≤ b.toInt ∧ b.toInt ≤ 3 := h32
                have h33 : 0 ≤ i.toInt ∧ i.toInt ≤ 7 := h33
                have h34 : LIN ct b i = true := h34
                refine dv_if_ne (tgt := 40) dX8_questions_34 (by decide) (fun c35 => ?_) (fun c35 => ?_)
                · skip
                  refine dv_aload_n dX8_questions_40 rfl 0 rfl ?_
                  refine dv_iload_n dX8_questions_41 rfl 1 rfl ?_
                  refine dv_iload_n dX8_questions_42 rfl 3 rfl ?_
                  refine GW.callV (n := 2) (As := [.int b, .int kn]) (rest := []) (b := 0) (f_fit l g pe ct b kn (by first | omega | decide) (by first | omega | decide) hI) (fun _ h => h) rfl rfl ⟨by decide, rfl⟩ hs2 (q := (RX8, TX8, 13)) rfl mm_426 mm_428 mm_6 mm_52 mm_429 (by decide +kernel) ⟨Nat.le_of_ble_eq_true rfl, Nat.le_of_ble_eq_true rfl⟩ rfl (Nat.le_of_ble_eq_true rfl) dX8_questions_43 (Nat.zero_le _) (Nat.zero_le _) rfl (fun ct36 rrr37 hBr37 hoff38 => ?_)
                  obtain ⟨rfl, hI, hcf46, hk39, hk40, hk41, hk42, hk43, hk44, hk45⟩ := hBr37
                  refine GW.eq (S2 := []) rfl rfl rfl ?_
                  have hs47 : ct36 0 = .inr (8, [.ref 1, .ref 2, .ref 3, .ref 5, .ref 6, .ref 9, .ref 10, .ref 17, .ref 21, .ref 34, .ref (99 + 3 * dr3), .int pe, .int bk4]) := (hcf46 _ (pM_no (by decide))).trans hs2
                  obtain ⟨lk48, fd49, hq50⟩ := hk39
                  obtain ⟨fF51, hq52, hf53⟩ := hk40
                  obtain ⟨fD54, hq55, hd56⟩ := hk41
                  obtain ⟨lnfF51, e1fF51⟩ : ∃ z : Int32, z = lnF ct b.toInt.toNat := ⟨_, rfl⟩
                  obtain ⟨lvfF51, e2fF51⟩ : ∃ z : Int32, z = lvF ct b.toInt.toNat := ⟨_, rfl⟩
                  rw [← e1fF51, ← e2fF51] at hq50
                  obtain ⟨lns58, liv59, lak60, fnd61, h62, h63, h64, h65, hs57⟩ := a8_10 hI
                  have hs66 := hq50
                  cases (hq50.symm.trans hs57)
                  obtain ⟨f68, hp69, hs67⟩ := a8_12 hI
                  have hs70 := hq52
                  cases (hq52.symm.trans hs67)
                  obtain ⟨f72, hs71⟩ := a8_11 hI
                  have hs73 := hq55
                  cases (hq55.symm.trans hs71)
                  refine dv_aload_n dX8_questions_46 rfl 0 rfl ?_
                  refine dv_get (ci := 8) (v := .ref 10) (C := RX8) (T := TX8) (N := 13) ⟨by decide, rfl⟩ hs47 rfl inG8 6 (by decide) mm_309 rfl dX8_questions_47 ?_
                  refine dv_get (ci := 6) (v := .ref 12) (C := RX6) (T := TX6) (N := 10) ⟨by decide, rfl⟩ hs66 rfl inG6 5 (by decide) mm_126 rfl dX8_questions_50 ?_
                  refine dv_iload_n dX8_questions_53 rfl 2 rfl ?_
                  refine dv_iald 0 ⟨by decide, rfl⟩ hs70 rfl (z_in rfl (by omega) (by omega)) dX8_questions_54 ?_
                  refine dv_topi (fun y74 ey74 => ?_)
                  have hy74 := hp69 _ (z_clt (x := i) rfl (by omega) (by omega))
                  rw [← ey74] at hy74
                  have hy74 : 0 ≤ y74.toInt ∧ y74.toInt ≤ 65535 := hy74
                  have hso : y74 = qSo l g pe ct b i kn := by
                    unfold qSo
                    rw [ey74, hf53 _ (by have := z_clI (x := i) (by omega); omega), show Int32.toNatClampNeg i = i.toInt.toNat from z_cl (by omega)]
                    exact (FIT_o cln_o (gix_rg hI0)).symm
                  have hof1 : ∀ q, ¬ dIn pM q → ct36 q = cln g ct q := fun q hq => (hcf46 q hq).trans (cln_o q hq).symm
                  refine dv_istore (lv' := [(5, .int y74), (0, .ref 0), (1, .int b), (2, .int i), (3, .int kn), (4, .int wh)]) dX8_questions_55 (by decide) rfl ?_
                  refine dv_iload dX8_questions_57 0 rfl ?_
                  refine dv_if_eq (tgt := 71) dX8_questions_59 (by decide) (fun c75 => ?_) (fun c75 => ?_)
                  · skip
                    have c75 : y74.toInt = 0 := (z_eq rfl (by decide : (0 : Int32).toInt = 0)).mp c75
                    refine dv_bipush (v := (-2)) dX8_questions_71 (by decide) ?_
                    have q76 : ((-2) : Int32).toInt = -2 := by decide
                    exact dv_iret dX8_questions_73 rfl (by first | exact Nat.zero_le _ | decide) (by first | exact Nat.zero_le _ | decide) (by subst hK; exact ⟨(-2), rfl, (⟨by unfold qQst; rw [if_pos (qSn_iff.mpr ⟨by assumption, by omega, by omega, by omega, by omega⟩), if_pos (by rw [LIV_o cln_o]; assumption), ← hso, if_pos (by omega)], trivial⟩), hI, (fun q hq => by unfold qQsW; rw [if_pos (qSn_iff.mpr ⟨by assumption, by omega, by omega, by omega, by omega⟩), if_pos (by rw [LIV_o cln_o]; assumption), ← hso, if_pos (by omega)]; exact (hof1 q hq).trans (cln_o q hq))⟩)
                  · skip
                    have c75 : ¬ (y74.toInt = 0) := fun q => c75 ((z_eq rfl (by decide : (0 : Int32).toInt = 0)).mpr q)
                    refine dv_aload_n dX8_questions_62 rfl 1 rfl ?_
                    refine dv_iload dX8_questions_63 0 rfl ?_
                    refine GW.callV (n := 1) (As := [.int y74]) (rest := []) (b := 0) (eAlk_s l g pe ct36 y74 hI) sub_pCl_pAll rfl rfl ⟨by decide, rfl⟩ hs47 (q := (RX8, TX8, 13)) rfl mm_722 mm_724 mm_34 mm_52 mm_725 (by decide +kernel) ⟨Nat.le_of_ble_eq_true rfl, Nat.le_of_ble_eq_true rfl⟩ rfl (Nat.le_of_ble_eq_true rfl) dX8_questions_65 (Nat.zero_le _) (Nat.zero_le _) rfl (fun ct77 rrr78 hBr78 hoff79 => ?_)
                    obtain ⟨r78, rfl, hr78, rfl⟩ := hBr78
                    refine GW.eq (S2 := [.int r78]) rfl rfl rfl ?_
                    rcases hr78 with hr78 | hr78
                    · skip
                      obtain ⟨rfl, h80⟩ := hr78
                      have h80 : eAlk l g pe ct36 y74 = 1 := h80
                      refine dv_if_eq (tgt := 74) dX8_questions_68 (by decide) (fun c81 => ?_) (fun c81 => ?_)
                      · skip
                        exact absurd c81 (by decide)
                      · skip
                        have hak : eAlk l g pe (cln g ct) y74 = 1 := by rw [← eAlk_o hof1]; assumption
                        refine dv_bipush (v := (-2)) dX8_questions_71 (by decide) ?_
                        have q82 : ((-2) : Int32).toInt = -2 := by decide
                        exact dv_iret dX8_questions_73 rfl (by first | exact Nat.zero_le _ | decide) (by first | exact Nat.zero_le _ | decide) (by subst hK; exact ⟨(-2), rfl, (⟨by unfold qQst; rw [if_pos (qSn_iff.mpr ⟨by assumption, by omega, by omega, by omega, by omega⟩), if_pos (by rw [LIV_o cln_o]; assumption), ← hso, if_neg (by omega), if_pos hak], trivial⟩), hI, (fun q hq => by unfold qQsW; rw [if_pos (qSn_iff.mpr ⟨by assumption, by omega, by omega, by omega, by omega⟩), if_pos (by rw [LIV_o cln_o]; assumption), ← hso, if_neg (by omega), if_pos hak]; exact (hof1 q hq).trans (cln_o q hq))⟩)
                    · skip
                      obtain ⟨rfl, h83⟩ := hr78
                      have h83 : eAlk l g pe ct36 y74 = 0 := h83
                      refine dv_if_eq (tgt := 74) dX8_questions_68 (by decide) (fun c84 => ?_) (fun c84 => ?_)
                      · skip
                        have hak : eAlk l g pe (cln g ct) y74 = 0 := by rw [← eAlk_o hof1]; assumption
                        refine dv_aload_n dX8_questions_74 rfl 1 rfl ?_
                        refine dv_get (ci := 8) (v := .ref 17) (C := RX8) (T := TX8) (N := 13) ⟨by decide, rfl⟩ hs47 rfl inG8 7 (by decide) mm_310 rfl dX8_questions_75 ?_
                        refine dv_aload_n dX8_questions_78 rfl 1 rfl ?_
                        refine dv_get (ci := 8) (v := .ref 1) (C := RX8) (T := TX8) (N := 13) ⟨by decide, rfl⟩ hs47 rfl inG8 0 (by decide) mm_303 rfl dX8_questions_79 ?_
                        refine dv_iload dX8_questions_82 0 rfl ?_
                        obtain ⟨spc87, tim88, h89, h90, hs86⟩ := a8_17 hI
                        refine GW.callVA (n := 2) (As := [.ref 1, .int y74]) (rest := []) (b := 17) (fw_prep l g pe ct36 y74 (by first | omega | decide) hI) sub_pA_pAll rfl (fun k hk hk1 => ⟨fun e => hk1 (by rw [e]; exact ⟨by decide, rfl⟩), fun idn ad2 h => no20 hI (by have h1 : k < 126 := of_decide_eq_true hk.2; omega) (fun e => hk1 (by rw [e]; exact ⟨by decide, rfl⟩)) h⟩) rfl rfl (fun _ _ hk => by rw [hK] at hk; obtain ⟨_, rfl, -⟩ := hk; exact fun _ _ => rfl) (fun _ _ hk => by obtain ⟨rfl, -⟩ := hk; exact fun _ _ => rfl) ⟨by decide, rfl⟩ hs86 (q := (RX0, TX0, 5)) rfl mm_726 mm_727 mm_728 mm_56 mm_729 (by decide +kernel) ⟨(Nat.le_of_ble_eq_true rfl), (Nat.le_of_ble_eq_true rfl)⟩ rfl (Nat.le_of_ble_eq_true rfl) dX8_questions_84 (Nat.le_of_ble_eq_true rfl) (Nat.le_of_ble_eq_true rfl) rfl (fun ct85 rrr91 hBr91 hoff92 => ?_)
                        obtain ⟨rfl, hI, hk93⟩ := hBr91
                        refine GW.eq (S2 := []) rfl rfl rfl ?_
                        have hs94 : ct85 0 = .inr (8, [.ref 1, .ref 2, .ref 3, .ref 5, .ref 6, .ref 9, .ref 10, .ref 17, .ref 21, .ref 34, .ref (99 + 3 * dr3), .int pe, .int bk4]) := (hoff92 _ (pA_no (by decide)) (by decide)).trans hs47
                        have hs95 : ct85 10 = .inr (6, [.int lnfF51, .int lvfF51, .int lk48, .int fd49, .ref 11, .ref 12, .ref 13, .ref 14, .ref 15, .ref 16]) := (hoff92 _ (pA_no (by decide)) (by decide)).trans hs66
                        have hs96 : ct85 12 = .inl (g.2 0, 8, .inl fF51) := (hoff92 _ (pA_no (by decide)) (by decide)).trans hs70
                        have hs97 : ct85 11 = .inl (g.2 0, 8, .inl fD54) := (hoff92 _ (pA_no (by decide)) (by decide)).trans hs73
                        have hw1 : ∀ q, ¬ dIn pM q → ct85 q = qWp l g pe ct b i kn q := fun q hq => by
                          unfold qWp
                          rw [hk93 q hq, w_prep_c hof1, ← hso]
                        refine dv_aload_n dX8_questions_87 rfl 1 rfl ?_
                        refine dv_get (ci := 8) (v := .ref 17) (C := RX8) (T := TX8) (N := 13) ⟨by decide, rfl⟩ hs94 rfl inG8 7 (by decide) mm_310 rfl dX8_questions_88 ?_
                        refine dv_iload dX8_questions_91 0 rfl ?_
                        obtain ⟨spc100, tim101, h102, h103, hs99⟩ := a8_17 hI
                        refine GW.callV (n := 1) (As := [.int y74]) (rest := []) (b := 17) (fw_ff l g pe ct85 y74 (by first | omega | decide) hI) sub_pQ_pAll rfl rfl ⟨by decide, rfl⟩ hs99 (q := (RX0, TX0, 5)) rfl mm_741 mm_742 mm_743 mm_56 mm_744 (by decide +kernel) ⟨Nat.le_of_ble_eq_true rfl, Nat.le_of_ble_eq_true rfl⟩ rfl (Nat.le_of_ble_eq_true rfl) dX8_questions_93 (Nat.le_of_ble_eq_true rfl) (Nat.le_of_ble_eq_true rfl) rfl (fun ct98 rrr104 hBr104 hoff105 => ?_)
                        obtain ⟨r104, rfl, hr104, hI, hk106, hk107⟩ := hBr104
                        refine GW.eq (S2 := [.int r104]) rfl rfl rfl ?_
                        have hs108 : ct98 0 = .inr (8, [.ref 1, .ref 2, .ref 3, .ref 5, .ref 6, .ref 9, .ref 10, .ref 17, .ref 21, .ref 34, .ref (99 + 3 * dr3), .int pe, .int bk4]) := (hoff105 _ (pQ_no (by decide))).trans hs94
                        have hs109 : ct98 10 = .inr (6, [.int lnfF51, .int lvfF51, .int lk48, .int fd49, .ref 11, .ref 12, .ref 13, .ref 14, .ref 15, .ref 16]) := (hoff105 _ (pQ_no (by decide))).trans hs95
                        have hs110 : ct98 12 = .inl (g.2 0, 8, .inl fF51) := (hoff105 _ (pQ_no (by decide))).trans hs96
                        have hs111 : ct98 11 = .inl (g.2 0, 8, .inl fD54) := (hoff105 _ (pQ_no (by decide))).trans hs97
                        have hw2 : ∀ q, ¬ dIn pM q → ct98 q = (qWf l g pe ct b i kn).1 q := fun q hq => by
                          unfold qWf
                          rw [hk107 q hq, w_ff_c hw1, ← hso]
                        obtain ⟨hr104_0, hr104_1⟩ := hr104
                        have hr104_0 : 0 ≤ r104.toInt := hr104_0
                        have hr104_1 : r104.toInt ≤ 16 := hr104_1
                        have hn1 : rI (qWf l g pe ct b i kn).2 = r104 := by
                          unfold qWf
                          rw [← hso, ← w_ff_c hw1]
                          exact hk106
                        refine dv_istore (lv' := [(6, .int r104), (5, .int y74), (0, .ref 0), (1, .int b), (2, .int i), (3, .int kn), (4, .int wh)]) dX8_questions_96 (by decide) rfl ?_
                        refine dv_iload dX8_questions_98 6 rfl ?_
                        refine dv_if_ne (tgt := 106) dX8_questions_100 (by decide) (fun c112 => ?_) (fun c112 => ?_)
                        · skip
                          have c112 : ¬ (wh.toInt = 0) := fun q => c112 ((z_eq rfl (by decide : (0 : Int32).toInt = 0)).mpr q)
                          refine dv_iload dX8_questions_106 0 rfl ?_
                          refine dv_if_ne (tgt := 116) dX8_questions_108 (by decide) (fun c113 => ?_) (fun c113 => ?_)
                          · skip
                            have c113 : ¬ (r104.toInt = 0) := fun q => c113 ((z_eq rfl (by decide : (0 : Int32).toInt = 0)).mpr q)
                            refine dv_aload_n dX8_questions_116 rfl 2 rfl ?_
                            refine dv_iload dX8_questions_117 1 rfl ?_
                            refine dv_iload dX8_questions_119 0 rfl ?_
                            refine dv_iload dX8_questions_121 6 rfl ?_
                            refine GW.callV (n := 3) (As := [.int y74, .int r104, .int wh]) (rest := []) (b := 0) (fw_fq l g pe ct98 y74 r104 wh (by first | omega | decide) (by first | omega | decide) hI) sub_pCl_pAll rfl rfl ⟨by decide, rfl⟩ hs108 (q := (RX8, TX8, 13)) rfl mm_764 mm_766 mm_41 mm_52 mm_767 (by decide +kernel) ⟨Nat.le_of_ble_eq_true rfl, Nat.le_of_ble_eq_true rfl⟩ rfl (Nat.le_of_ble_eq_true rfl) dX8_questions_123 (Nat.le_of_ble_eq_true rfl) (Nat.le_of_ble_eq_true rfl) rfl (fun ct114 rrr115 hBr115 hoff116 => ?_)
                            obtain ⟨r115, rfl, hr115, hI, hk117, hk118⟩ := hBr115
                            refine GW.eq (S2 := [.int r115]) rfl rfl rfl ?_
                            have hs119 : ct114 10 = .inr (6, [.int lnfF51, .int lvfF51, .int lk48, .int fd49, .ref 11, .ref 12, .ref 13, .ref 14, .ref 15, .ref 16]) := (hoff116 _ (pCl_no (by decide))).trans hs109
                            have hs120 : ct114 12 = .inl (g.2 0, 8, .inl fF51) := (hoff116 _ (pCl_no (by decide))).trans hs110
                            have hs121 : ct114 11 = .inl (g.2 0, 8, .inl fD54) := (hoff116 _ (pCl_no (by decide))).trans hs111
                            have hq1 : rI (qWq l g pe ct b i kn wh).2 = r115 := by
                              unfold qWq
                              rw [hn1, ← hso, ← w_fq_c hw2]
                              exact hk117
                            have hw3 : ∀ q, ¬ dIn pM q → ct114 q = (qWq l g pe ct b i kn wh).1 q := fun q hq => by
                              unfold qWq
                              rw [hk118 q hq, hn1, ← hso, w_fq_c hw2]
                            exact dv_iret dX8_questions_126 rfl (by first | exact Nat.zero_le _ | decide) (by first | exact Nat.zero_le _ | decide) (by subst hK; exact ⟨r115, rfl, (⟨by unfold qQst; rw [if_pos (qSn_iff.mpr ⟨by assumption, by omega, by omega, by omega, by omega⟩), if_pos (by rw [LIV_o cln_o]; assumption), ← hso, if_neg (by omega), if_neg (by rw [hak]; decide), if_neg (by omega), hn1, if_neg (by omega)]; exact hq1.symm, trivial⟩), hI, (fun q hq => by unfold qQsW; rw [if_pos (qSn_iff.mpr ⟨by assumption, by omega, by omega, by omega, by omega⟩), if_pos (by rw [LIV_o cln_o]; assumption), ← hso, if_neg (by omega), if_neg (by rw [hak]; decide), if_neg (by omega), hn1, if_neg (by omega)]; exact hw3 q hq)⟩)
                          · skip
                            have c113 : r104.toInt = 0 := (z_eq rfl (by decide : (0 : Int32).toInt = 0)).mp c113
                            refine dv_bipush (v := (-3)) dX8_questions_111 (by decide) ?_
                            refine dv_goto (tgt := 126) dX8_questions_113 (by decide) ?_
                            have q122 : ((-3) : Int32).toInt = -3 := by decide
                            exact dv_iret dX8_questions_126 rfl (by first | exact Nat.zero_le _ | decide) (by first | exact Nat.zero_le _ | decide) (by subst hK; exact ⟨(-3), rfl, (⟨by unfold qQst; rw [if_pos (qSn_iff.mpr ⟨by assumption, by omega, by omega, by omega, by omega⟩), if_pos (by rw [LIV_o cln_o]; assumption), ← hso, if_neg (by omega), if_neg (by rw [hak]; decide), if_neg (by omega), hn1, if_pos (by omega)], trivial⟩), hI, (fun q hq => by unfold qQsW; rw [if_pos (qSn_iff.mpr ⟨by assumption, by omega, by omega, by omega, by omega⟩), if_pos (by rw [LIV_o cln_o]; assumption), ← hso, if_neg (by omega), if_neg (by rw [hak]; decide), if_neg (by omega), hn1, if_pos (by omega)]; exact hw2 q hq)⟩)
                        · skip
                          have c112 : wh.toInt = 0 := (z_eq rfl (by decide : (0 : Int32).toInt = 0)).mp c112
                          refine dv_iload dX8_questions_103 0 rfl ?_
                          exact dv_iret dX8_questions_105 rfl (by first | exact Nat.zero_le _ | decide) (by first | exact Nat.zero_le _ | decide) (by subst hK; exact ⟨r104, rfl, (⟨by unfold qQst; rw [if_pos (qSn_iff.mpr ⟨by assumption, by omega, by omega, by omega, by omega⟩), if_pos (by rw [LIV_o cln_o]; assumption), ← hso, if_neg (by omega), if_neg (by rw [hak]; decide), if_pos (by omega)]; exact hn1.symm, trivial⟩), hI, (fun q hq => by unfold qQsW; rw [if_pos (qSn_iff.mpr ⟨by assumption, by omega, by omega, by omega, by omega⟩), if_pos (by rw [LIV_o cln_o]; assumption), ← hso, if_neg (by omega), if_neg (by rw [hak]; decide), if_pos (by omega)]; exact hw2 q hq)⟩)
                      · skip
                        exact absurd c84 (by decide)
                · skip
                  exact absurd c35 (by decide)
              · skip
                obtain ⟨rfl, h123⟩ := hr29
                have h123 : LIV ct b i = false := h123
                refine dv_if_ne (tgt := 40) dX8_questions_34 (by decide) (fun c124 => ?_) (fun c124 => ?_)
                · skip
                  exact absurd c124 (by decide)
                · skip
                  refine dv_bipush (v := (-2)) dX8_questions_37 (by decide) ?_
                  have q125 : ((-2) : Int32).toInt = -2 := by decide
                  exact dv_iret dX8_questions_39 rfl (by first | exact Nat.zero_le _ | decide) (by first | exact Nat.zero_le _ | decide) (by subst hK; exact ⟨(-2), rfl, (⟨by unfold qQst; rw [if_pos (qSn_iff.mpr ⟨by assumption, by omega, by omega, by omega, by omega⟩), if_neg (by rw [LIV_o cln_o, show LIV ct b i = false by assumption]; decide)], trivial⟩), hI, (fun q hq => by unfold qQsW; rw [if_pos (qSn_iff.mpr ⟨by assumption, by omega, by omega, by omega, by omega⟩), if_neg (by rw [LIV_o cln_o, show LIV ct b i = false by assumption]; decide)])⟩)
            · skip
              exact absurd c27 (by decide)
          · skip
            obtain ⟨rfl, h126⟩ := hr23
            have h126 : ¬ ((0 : Int) ≤ wh.toInt ∧ wh.toInt ≤ (2 : Int)) := h126
            refine dv_if_ne (tgt := 28) dX8_questions_23 (by decide) (fun c127 => ?_) (fun c127 => ?_)
            · skip
              exact absurd c127 (by decide)
            · skip
              refine dv_iconst (v := (-1)) dX8_questions_26 (by decide) ?_
              have q128 : ((-1) : Int32).toInt = -1 := by decide
              exact dv_iret dX8_questions_27 rfl (by first | exact Nat.zero_le _ | decide) (by first | exact Nat.zero_le _ | decide) (by subst hK; exact ⟨(-1), rfl, (⟨by unfold qQst; rw [if_neg (fun q => by have q1 := qSn_iff.mp q; first | (rw [show LIN ct b i = false by assumption] at q1; exact absurd q1.1 (by decide)) | (have q2 := q1.2; omega))], trivial⟩), hI, (fun q hq => by unfold qQsW; rw [if_neg (fun q => by have q1 := qSn_iff.mp q; first | (rw [show LIN ct b i = false by assumption] at q1; exact absurd q1.1 (by decide)) | (have q2 := q1.2; omega))])⟩)
      · skip
        obtain ⟨rfl, h129⟩ := hr17
        have h129 : ¬ (0 ≤ kn.toInt ∧ kn.toInt ≤ 255) := h129
        refine dv_if_eq (tgt := 26) dX8_questions_13 (by decide) (fun c130 => ?_) (fun c130 => ?_)
        · skip
          refine dv_iconst (v := (-1)) dX8_questions_26 (by decide) ?_
          have q131 : ((-1) : Int32).toInt = -1 := by decide
          exact dv_iret dX8_questions_27 rfl (by first | exact Nat.zero_le _ | decide) (by first | exact Nat.zero_le _ | decide) (by subst hK; exact ⟨(-1), rfl, (⟨by unfold qQst; rw [if_neg (fun q => by have q1 := qSn_iff.mp q; first | (rw [show LIN ct b i = false by assumption] at q1; exact absurd q1.1 (by decide)) | (have q2 := q1.2; omega))], trivial⟩), hI, (fun q hq => by unfold qQsW; rw [if_neg (fun q => by have q1 := qSn_iff.mp q; first | (rw [show LIN ct b i = false by assumption] at q1; exact absurd q1.1 (by decide)) | (have q2 := q1.2; omega))])⟩)
        · skip
          exact absurd c130 (by decide)
  · skip
    obtain ⟨rfl, h132⟩ := hr8
    have h132 : LIN ct b i = false := h132
    refine dv_if_eq (tgt := 26) dX8_questions_6 (by decide) (fun c133 => ?_) (fun c133 => ?_)
    · skip
      refine dv_iconst (v := (-1)) dX8_questions_26 (by decide) ?_
      have q134 : ((-1) : Int32).toInt = -1 := by decide
      exact dv_iret dX8_questions_27 rfl (by first | exact Nat.zero_le _ | decide) (by first | exact Nat.zero_le _ | decide) (by subst hK; exact ⟨(-1), rfl, (⟨by unfold qQst; rw [if_neg (fun q => by have q1 := qSn_iff.mp q; first | (rw [show LIN ct b i = false by assumption] at q1; exact absurd q1.1 (by decide)) | (have q2 := q1.2; omega))], trivial⟩), hI, (fun q hq => by unfold qQsW; rw [if_neg (fun q => by have q1 := qSn_iff.mp q; first | (rw [show LIN ct b i = false by assumption] at q1; exact absurd q1.1 (by decide)) | (have q2 := q1.2; omega))])⟩)
    · skip
      exact absurd c133 (by decide)
