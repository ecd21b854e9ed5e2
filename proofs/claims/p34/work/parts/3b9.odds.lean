set_option maxHeartbeats 4000000 in
set_option maxRecDepth 100000 in
theorem f_commonDivisor (l : Launch) (g : zG) (pe : Int32) (ct : Nat → va_E) (la : Int64) (lb : Int64) (hI : Inv8 g idn pe ct) : DM l g pNo false yX8_commonDivisor cX8_commonDivisor 11 (some .long) ({ frames := 0, cells := 0, slots := 0, locals := 0 }) (fun (ct2 : Nat → va_E) (rr : Option Value) => ∃ (r : Int64), rr = some (.long r) ∧ (((r = (gcS la lb 1000).1))) ∧ ct = ct2) ct [.long la, .long lb] := by
  refine DM.K (fun K hK => ?_)
  refine GW.met (own := RX8) (loc := [(0, .long la), (2, .long lb)]) (by decide) rfl rfl (Nat.le_of_ble_eq_true rfl) ?_
  have hpe0 := hI.1
  refine dv_lload_n dX8_commonDivisor_0 rfl 0 rfl ?_
  refine dv_lstore (lv' := [(4, .long la), (0, .long la), (2, .long lb)]) dX8_commonDivisor_1 (by decide) rfl ?_
  refine dv_lload_n dX8_commonDivisor_3 rfl 2 rfl ?_
  refine dv_lstore (lv' := [(6, .long lb), (4, .long la), (0, .long la), (2, .long lb)]) dX8_commonDivisor_4 (by decide) rfl ?_
  refine dv_iconst (v := 0) dX8_commonDivisor_6 (by decide) ?_
  refine dv_istore (lv' := [(8, .int 0), (6, .long lb), (4, .long la), (0, .long la), (2, .long lb)]) dX8_commonDivisor_7 (by decide) rfl ?_
  have loop9 : ∀ (n9 : Nat) (v8_9 : Int32) (v6_9 : Int64) (v4_9 : Int64), ((1000 - v8_9.toInt : Int).toNat < n9) → (0 ≤ v8_9.toInt ∧ v8_9.toInt ≤ 1000) → ((v4_9, v6_9) = gcS la lb (v8_9.toInt.toNat)) → GW l g pNo pNo false yX8_commonDivisor cX8_commonDivisor 11 (some .long) RX8 ({ frames := 0, cells := 0, slots := 0, locals := 0 }) K 0 0 ct 9 [(8, .int v8_9), (6, .long v6_9), (4, .long v4_9), (0, .long la), (2, .long lb)] [] := by
    intro n9
    induction n9 with
    | zero =>
      intro v8_9 v6_9 v4_9 hn9 b8_9 j0_9
      exact absurd hn9 (Nat.not_lt_zero _)
    | succ n9 ih9 =>
      intro v8_9 v6_9 v4_9 hn9 b8_9 j0_9
      refine dv_iload dX8_commonDivisor_9 0 rfl ?_
      refine dv_sipush (v := 1000) dX8_commonDivisor_11 (by decide) ?_
      refine dv_icmp_ge (tgt := 45) dX8_commonDivisor_14 (by decide) (fun c1 => ?_) (fun c1 => ?_)
      · skip
        have c1 : 1000 ≤ v8_9.toInt := (z_le (by decide : (1000 : Int32).toInt = 1000) rfl).mp c1
        refine dv_lload dX8_commonDivisor_45 2 rfl ?_
        exact dv_lret dX8_commonDivisor_47 rfl (by first | exact Nat.zero_le _ | decide) (by first | exact Nat.zero_le _ | decide) (by subst hK; exact ⟨v4_9, rfl, (by rw [show (1000 : Nat) = v8_9.toInt.toNat by omega, ← j0_9]), rfl⟩)
      · skip
        have c1 : ¬ (1000 ≤ v8_9.toInt) := fun q => c1 ((z_le (by decide : (1000 : Int32).toInt = 1000) rfl).mpr q)
        refine dv_lload dX8_commonDivisor_17 1 rfl ?_
        refine dv_lconst (v := 0) dX8_commonDivisor_19 (by decide) ?_
        refine dv_lcmp dX8_commonDivisor_20 ?_
        refine dv_if_eq (tgt := 45) dX8_commonDivisor_21 (by decide) (fun c2 => ?_) (fun c2 => ?_)
        · skip
          have c2 := (lg_cmp_eq _ _).mp c2
          refine dv_lload dX8_commonDivisor_45 2 rfl ?_
          exact dv_lret dX8_commonDivisor_47 rfl (by first | exact Nat.zero_le _ | decide) (by first | exact Nat.zero_le _ | decide) (by subst hK; exact ⟨v4_9, rfl, (by rw [show (1000 : Nat) = v8_9.toInt.toNat + (1000 - v8_9.toInt.toNat) by omega, gcS_stop (by rw [← j0_9]; assumption), ← j0_9]), rfl⟩)
        · skip
          have c2 := fun q => c2 ((lg_cmp_eq _ _).mpr q)
          have c2 : ¬ (v6_9 = (0 : Int64)) := c2
          refine dv_lload dX8_commonDivisor_24 2 rfl ?_
          refine dv_lload dX8_commonDivisor_26 1 rfl ?_
          refine dv_lrem dX8_commonDivisor_28 (by assumption) ?_
          refine dv_topl (fun x3 ex3 => ?_)
          refine dv_lstore (lv' := [(9, .long x3), (8, .int v8_9), (6, .long v6_9), (4, .long v4_9), (0, .long la), (2, .long lb)]) dX8_commonDivisor_29 (by decide) rfl ?_
          refine dv_lload dX8_commonDivisor_31 2 rfl ?_
          refine dv_lstore (lv' := [(4, .long v6_9), (9, .long x3), (8, .int v8_9), (6, .long v6_9), (0, .long la), (2, .long lb)]) dX8_commonDivisor_33 (by decide) rfl ?_
          refine dv_lload dX8_commonDivisor_35 1 rfl ?_
          refine dv_lstore (lv' := [(6, .long x3), (4, .long v6_9), (9, .long x3), (8, .int v8_9), (0, .long la), (2, .long lb)]) dX8_commonDivisor_37 (by decide) rfl ?_
          obtain ⟨x4, ex4⟩ : ∃ y : Int32, y = v8_9 + 1 := ⟨_, rfl⟩
          have tx4 : x4.toInt = v8_9.toInt + 1 := by rw [ex4]; exact z_add rfl (by decide : (1 : Int32).toInt = 1) (by omega) (by omega)
          refine dv_iinc (v := x4) (lv' := [(8, .int x4), (6, .long x3), (4, .long v6_9), (9, .long x3), (0, .long la), (2, .long lb)]) dX8_commonDivisor_39 (k := 3) rfl (by rw [ex4]; rfl) (by decide) rfl ?_
          refine dv_goto (tgt := 9) dX8_commonDivisor_42 (by decide) ?_
          refine dv_sub (loc2 := [(8, .int x4), (6, .long x3), (4, .long v6_9), (0, .long la), (2, .long lb)]) [0, 1, 2, 4, 5] rfl ?_
          exact ih9 x4 x3 v6_9 (by omega) (by omega) (by rw [show x4.toInt.toNat = v8_9.toInt.toNat + 1 by omega]; show _ = (if (gcS la lb v8_9.toInt.toNat).2 = 0 then _ else _); rw [← j0_9, if_neg (by assumption)]; exact Prod.ext rfl ex3)
  exact loop9 ((1000 - (0 : Int32).toInt : Int).toNat + 1) (0 : Int32) lb la (by omega) (by first | omega | decide | (have hz0 : (0 : Int32).toInt = 0 := (by decide); have hz1 : (1 : Int32).toInt = 1 := (by decide); omega)) rfl

set_option maxHeartbeats 4000000 in
set_option maxRecDepth 100000 in
theorem f_odds (l : Launch) (g : zG) (pe : Int32) (ct : Nat → va_E) (b : Int32) (i : Int32) (p0 : Int32) (kn : Int32) (wh : Int32) (hI : Inv8 g idn pe ct) : DM l g pAll false yX8_odds cX8_odds 12 (some .long) ({ frames := 5, cells := 0, slots := 0, locals := 117 }) (fun (ct2 : Nat → va_E) (rr : Option Value) => ∃ (r : Int64), rr = some (.long r) ∧ (((r = qOdd l g pe ct b i p0 kn wh) ∧ (True))) ∧ Inv8 g idn pe ct2 ∧ (∀ k, ¬ dIn pM k → ct2 k = ct k)) ct [.ref 0, .int b, .int i, .int p0, .int kn, .int wh] := by
  refine DM.K (fun K hK => ?_)
  refine GW.met (own := RX8) (loc := [(0, .ref 0), (1, .int b), (2, .int i), (3, .int p0), (4, .int kn), (5, .int wh)]) (by decide) rfl rfl (Nat.le_of_ble_eq_true rfl) ?_
  have hpe0 := hI.1
  have hof : ∀ k, ¬ dIn pM k → ct k = ct k := fun _ _ => rfl
  have rg_b := z_rng b
  have rg_i := z_rng i
  have rg_p0 := z_rng p0
  have rg_kn := z_rng kn
  have rg_wh := z_rng wh
  obtain ⟨bk3, dr2, h4, h5, h6, hs1⟩ := a8_0 hI
  have hzb : (bkF ct).toInt = bk3.toInt := by unfold bkF; rw [hs1]; rfl
  have hI0 := hI
  refine dv_aload_n dX8_odds_0 rfl 0 rfl ?_
  refine dv_iload_n dX8_odds_1 rfl 1 rfl ?_
  refine dv_iload_n dX8_odds_2 rfl 2 rfl ?_
  refine GW.callV (n := 2) (As := [.int b, .int i]) (rest := []) (b := 0) (f_isLine l g pe ct b i hI) sub_pCl_pAll rfl rfl ⟨by decide, rfl⟩ hs1 (q := (RX8, TX8, 13)) rfl mm_411 mm_413 mm_3 mm_52 mm_414 (by decide +kernel) ⟨Nat.le_of_ble_eq_true rfl, Nat.le_of_ble_eq_true rfl⟩ rfl (Nat.le_of_ble_eq_true rfl) dX8_odds_3 (Nat.zero_le _) (Nat.zero_le _) rfl (fun ct7 rrr8 hBr8 hoff9 => ?_)
  obtain ⟨r8, rfl, hr8, rfl⟩ := hBr8
  refine GW.eq (S2 := [.int r8]) rfl rfl rfl ?_
  rcases hr8 with hr8 | hr8
  · skip
    obtain ⟨rfl, h10, h11, h12, h13, h14⟩ := hr8
    have h10 : LIN ct b i = true := h10
    have h11 : 0 ≤ b.toInt ∧ b.toInt ≤ 3 := h11
    have h12 : 0 ≤ i.toInt ∧ i.toInt ≤ 7 := h12
    have h13 : b.toInt < (bkF ct).toInt := h13
    have h14 : i.toInt < (lnF ct b.toInt.toNat).toInt := h14
    refine dv_if_eq (tgt := 35) dX8_odds_6 (by decide) (fun c15 => ?_) (fun c15 => ?_)
    · skip
      exact absurd c15 (by decide)
    · skip
      refine dv_aload_n dX8_odds_9 rfl 0 rfl ?_
      refine dv_iload_n dX8_odds_10 rfl 3 rfl ?_
      refine GW.callV (n := 1) (As := [.int p0]) (rest := []) (b := 0) (k_X8_isPerson l g pe ct p0 hI) sub_pCl_pAll rfl rfl ⟨by decide, rfl⟩ hs1 (q := (RX8, TX8, 13)) rfl mm_370 mm_372 mm_1 mm_52 mm_373 (by decide +kernel) ⟨Nat.le_of_ble_eq_true rfl, Nat.le_of_ble_eq_true rfl⟩ rfl (Nat.le_of_ble_eq_true rfl) dX8_odds_11 (Nat.zero_le _) (Nat.zero_le _) rfl (fun ct16 rrr17 hBr17 hoff18 => ?_)
      obtain ⟨r17, rfl, hr17, rfl⟩ := hBr17
      refine GW.eq (S2 := [.int r17]) rfl rfl rfl ?_
      rcases hr17 with hr17 | hr17
      · skip
        obtain ⟨rfl, h19, h20⟩ := hr17
        have h19 : 0 ≤ p0.toInt := h19
        have h20 : p0.toInt < pe.toInt := h20
        refine dv_if_eq (tgt := 35) dX8_odds_14 (by decide) (fun c21 => ?_) (fun c21 => ?_)
        · skip
          exact absurd c21 (by decide)
        · skip
          refine dv_iload dX8_odds_17 4 rfl ?_
          refine GW.callS (n := 1) (As := [.int kn]) (rest := []) (k_X8_areGossips l g pe ct kn hI) (fun _ h => Bool.noConfusion h) rfl rfl mm_419 mm_420 mm_52 mm_421 (by decide +kernel) ⟨Nat.le_of_ble_eq_true rfl, Nat.le_of_ble_eq_true rfl⟩ rfl (Nat.le_of_ble_eq_true rfl) dX8_odds_19 (Nat.zero_le _) (Nat.zero_le _) rfl (fun ct22 rrr23 hBr23 hoff24 => ?_)
          obtain ⟨r23, rfl, hr23, rfl⟩ := hBr23
          refine GW.eq (S2 := [.int r23]) rfl rfl rfl ?_
          rcases hr23 with hr23 | hr23
          · skip
            obtain ⟨rfl, h25, h26⟩ := hr23
            have h25 : 0 ≤ kn.toInt := h25
            have h26 : kn.toInt ≤ 255 := h26
            refine dv_if_eq (tgt := 35) dX8_odds_22 (by decide) (fun c27 => ?_) (fun c27 => ?_)
            · skip
              exact absurd c27 (by decide)
            · skip
              refine dv_iload dX8_odds_25 5 rfl ?_
              refine dv_iconst (v := 0) dX8_odds_27 (by decide) ?_
              refine dv_iconst (v := 1) dX8_odds_28 (by decide) ?_
              refine GW.callS (n := 3) (As := [.int wh, .int 0, .int 1]) (rest := []) (k_X8_within l g pe ct wh (0 : Int32) (1 : Int32) hI) (fun _ h => Bool.noConfusion h) rfl rfl mm_355 mm_356 mm_52 mm_357 (by decide +kernel) ⟨Nat.le_of_ble_eq_true rfl, Nat.le_of_ble_eq_true rfl⟩ rfl (Nat.le_of_ble_eq_true rfl) dX8_odds_29 (Nat.zero_le _) (Nat.zero_le _) rfl (fun ct28 rrr29 hBr29 hoff30 => ?_)
              obtain ⟨r29, rfl, hr29, rfl⟩ := hBr29
              refine GW.eq (S2 := [.int r29]) rfl rfl rfl ?_
              rcases hr29 with hr29 | hr29
              · skip
                obtain ⟨rfl, h31, h32⟩ := hr29
                have h31 : (0 : Int) ≤ wh.toInt := h31
                have h32 : wh.toInt ≤ (1 : Int) := h32
                refine dv_if_ne (tgt := 39) dX8_odds_32 (by decide) (fun c33 => ?_) (fun c33 => ?_)
                · skip
                  refine dv_aload_n dX8_odds_39 rfl 0 rfl ?_
                  refine dv_iload_n dX8_odds_40 rfl 1 rfl ?_
                  refine dv_iload_n dX8_odds_41 rfl 2 rfl ?_
                  refine GW.callV (n := 2) (As := [.int b, .int i]) (rest := []) (b := 0) (f_isLive l g pe ct b i hI) sub_pCl_pAll rfl rfl ⟨by decide, rfl⟩ hs1 (q := (RX8, TX8, 13)) rfl mm_422 mm_424 mm_5 mm_52 mm_425 (by decide +kernel) ⟨Nat.le_of_ble_eq_true rfl, Nat.le_of_ble_eq_true rfl⟩ rfl (Nat.le_of_ble_eq_true rfl) dX8_odds_42 (Nat.zero_le _) (Nat.zero_le _) rfl (fun ct34 rrr35 hBr35 hoff36 => ?_)
                  obtain ⟨r35, rfl, hr35, rfl⟩ := hBr35
                  refine GW.eq (S2 := [.int r35]) rfl rfl rfl ?_
                  rcases hr35 with hr35 | hr35
                  · skip
                    obtain ⟨rfl, h37, h38, h39, h40⟩ := hr35
                    have h37 : LIV ct b i = true := h37
                    have h38 : 0 ≤ b.toInt ∧ b.toInt ≤ 3 := h38
                    have h39 : 0 ≤ i.toInt ∧ i.toInt ≤ 7 := h39
                    have h40 : LIN ct b i = true := h40
                    refine dv_if_ne (tgt := 52) dX8_odds_45 (by decide) (fun c41 => ?_) (fun c41 => ?_)
                    · skip
                      refine dv_aload_n dX8_odds_52 rfl 0 rfl ?_
                      refine dv_iload_n dX8_odds_53 rfl 1 rfl ?_
                      refine dv_iload dX8_odds_54 4 rfl ?_
                      refine GW.callV (n := 2) (As := [.int b, .int kn]) (rest := []) (b := 0) (f_fit l g pe ct b kn (by first | omega | decide) (by first | omega | decide) hI) (fun _ h => h) rfl rfl ⟨by decide, rfl⟩ hs1 (q := (RX8, TX8, 13)) rfl mm_426 mm_428 mm_6 mm_52 mm_429 (by decide +kernel) ⟨Nat.le_of_ble_eq_true rfl, Nat.le_of_ble_eq_true rfl⟩ rfl (Nat.le_of_ble_eq_true rfl) dX8_odds_56 (Nat.zero_le _) (Nat.zero_le _) rfl (fun ct42 rrr43 hBr43 hoff44 => ?_)
                      obtain ⟨rfl, hI, hcf52, hk45, hk46, hk47, hk48, hk49, hk50, hk51⟩ := hBr43
                      have hof : ∀ k, ¬ dIn pM k → ct42 k = ct k := fun k hk => (hcf52 k hk).trans (hof k hk)
                      refine GW.eq (S2 := []) rfl rfl rfl ?_
                      have hs53 : ct42 0 = .inr (8, [.ref 1, .ref 2, .ref 3, .ref 5, .ref 6, .ref 9, .ref 10, .ref 17, .ref 21, .ref 34, .ref (99 + 3 * dr2), .int pe, .int bk3]) := (hcf52 _ (pM_no (by decide))).trans hs1
                      obtain ⟨lk54, fd55, hq56⟩ := hk45
                      obtain ⟨fF57, hq58, hf59⟩ := hk46
                      obtain ⟨fD60, hq61, hd62⟩ := hk47
                      obtain ⟨lnfF57, e1fF57⟩ : ∃ z : Int32, z = lnF ct b.toInt.toNat := ⟨_, rfl⟩
                      obtain ⟨lvfF57, e2fF57⟩ : ∃ z : Int32, z = lvF ct b.toInt.toNat := ⟨_, rfl⟩
                      rw [← e1fF57, ← e2fF57] at hq56
                      obtain ⟨lns64, liv65, lak66, fnd67, h68, h69, h70, h71, hs63⟩ := a8_10 hI
                      have hs72 := hq56
                      cases (hq56.symm.trans hs63)
                      obtain ⟨f74, hp75, hs73⟩ := a8_12 hI
                      have hs76 := hq58
                      cases (hq58.symm.trans hs73)
                      obtain ⟨f78, hs77⟩ := a8_11 hI
                      have hs79 := hq61
                      cases (hq61.symm.trans hs77)
                      have hlvb : lvfF57.toInt < ((2 ^ lnfF57.toInt.toNat : Nat) : Int) := by rw [e1fF57, e2fF57]; exact lvF_lt hI0 (by omega)
                      refine dv_aload_n dX8_odds_59 rfl 0 rfl ?_
                      refine dv_get (ci := 8) (v := .ref 10) (C := RX8) (T := TX8) (N := 13) ⟨by decide, rfl⟩ hs53 rfl inG8 6 (by decide) mm_309 rfl dX8_odds_60 ?_
                      refine GW.callV (n := 0) (As := []) (rest := []) (b := 10) (f_number l g pe ct42 lnfF57 lvfF57 lk54 fd55 fF57 hI hs72 hs76 (hlvb)) sub_pM_pAll rfl rfl ⟨by decide, rfl⟩ hs72 (q := (RX6, TX6, 10)) rfl mm_478 mm_479 mm_480 mm_55 mm_481 (by decide +kernel) ⟨Nat.le_of_ble_eq_true rfl, Nat.le_of_ble_eq_true rfl⟩ rfl (Nat.le_of_ble_eq_true rfl) dX8_odds_63 (Nat.zero_le _) (Nat.zero_le _) rfl (fun ct80 rrr81 hBr81 hoff82 => ?_)
                      obtain ⟨r81, rfl, hr81, hI, hk83, hk84, hk85, hk86, hk87, hk88⟩ := hBr81
                      have hof : ∀ k, ¬ dIn pM k → ct80 k = ct k := fun k hk => (hoff82 k hk).trans (hof k hk)
                      refine GW.eq (S2 := [.long r81]) rfl rfl rfl ?_
                      have hs89 : ct80 0 = .inr (8, [.ref 1, .ref 2, .ref 3, .ref 5, .ref 6, .ref 9, .ref 10, .ref 17, .ref 21, .ref 34, .ref (99 + 3 * dr2), .int pe, .int bk3]) := (hoff82 _ (pM_no (by decide))).trans hs53
                      have hs90 : ct80 10 = .inr (6, [.int lnfF57, .int lvfF57, .int lk54, .int fd55, .ref 11, .ref 12, .ref 13, .ref 14, .ref 15, .ref 16]) := hk83.trans hs72
                      have hs91 : ct80 11 = .inl (g.2 0, 8, .inl fD60) := hk84.trans hs79
                      have hs92 : ct80 12 = .inl (g.2 0, 8, .inl fF57) := hk85.trans hs76
                      have h93 := hr81
                      have h93 : r81 = i64 (gvP (fun z9 q9 => ib (fF57 z9) q9) lnfF57.toInt.toNat 16 lvfF57.toInt.toNat) := h93
                      have hblw : r81 = i64 (qWays l g pe ct b kn) := by
                        unfold qWays
                        rw [h93, ← e1fF57, ← e2fF57, gvP_c (F2 := fun i p => ib (FIT l g pe ct b kn i) p) (fun k hk p => by rw [hf59 k (by omega)])]
                      refine dv_lstore (lv' := [(6, .long r81), (0, .ref 0), (1, .int b), (2, .int i), (3, .int p0), (4, .int kn), (5, .int wh)]) dX8_odds_66 (by decide) rfl ?_
                      refine dv_lload dX8_odds_68 0 rfl ?_
                      refine dv_lconst (v := 0) dX8_odds_70 (by decide) ?_
                      refine dv_lcmp dX8_odds_71 ?_
                      refine dv_if_ne (tgt := 79) dX8_odds_72 (by decide) (fun c94 => ?_) (fun c94 => ?_)
                      · skip
                        have c94 := fun q => c94 ((lg_cmp_eq _ _).mpr q)
                        have c94 : ¬ (r81 = (0 : Int64)) := c94
                        refine dv_aload_n dX8_odds_79 rfl 1 rfl ?_
                        refine dv_get (ci := 8) (v := .ref 10) (C := RX8) (T := TX8) (N := 13) ⟨by decide, rfl⟩ hs89 rfl inG8 6 (by decide) mm_309 rfl dX8_odds_80 ?_
                        refine dv_get (ci := 6) (v := .ref 12) (C := RX6) (T := TX6) (N := 10) ⟨by decide, rfl⟩ hs90 rfl inG6 5 (by decide) mm_126 rfl dX8_odds_83 ?_
                        refine dv_iload_n dX8_odds_86 rfl 3 rfl ?_
                        refine dv_dup2_11 dX8_odds_87 rfl rfl ?_
                        refine dv_iald 0 ⟨by decide, rfl⟩ hs92 rfl (z_in rfl (by omega) (by omega)) dX8_odds_88 ?_
                        refine dv_topi (fun y95 ey95 => ?_)
                        have hy95 := hp75 _ (z_clt (x := i) rfl (by omega) (by omega))
                        rw [← ey95] at hy95
                        have hy95 : 0 ≤ y95.toInt ∧ y95.toInt ≤ 65535 := hy95
                        refine dv_iconst (v := 1) dX8_odds_89 (by decide) ?_
                        refine dv_iload_n dX8_odds_90 rfl 4 rfl ?_
                        refine dv_ishl dX8_odds_91 ?_
                        refine dv_topi (fun x96 ex96 => ?_)
                        refine dv_iand dX8_odds_92 ?_
                        refine dv_topi (fun x97 ex97 => ?_)
                        have tx97 := z_andl (x := y95) (y := x96) rfl (by omega)
                        rw [← ex97] at tx97
                        refine dv_iast 0 ⟨by decide, rfl⟩ hs92 rfl (z_in rfl (by omega) (by omega)) dX8_odds_93 (en := .inl (g.2 0, 8, .inl (upd fF57 (Int32.toNatClampNeg i) x97))) rfl (fun ct98 ec99 => ?_)
                        have hp100 : ∀ j : Nat, j < 8 → (fun x : Int32 => 0 ≤ x.toInt ∧ x.toInt ≤ 65535) ((upd fF57 (Int32.toNatClampNeg i) x97) j) := fun j hj => by
                          unfold upd
                          by_cases q : j = Int32.toNatClampNeg i
                          · rw [if_pos q]; exact (show 0 ≤ (x97 : Int32).toInt ∧ (x97 : Int32).toInt ≤ 65535 from (by first | omega | decide))
                          · rw [if_neg q]; exact hp75 j hj
                        have hI : Inv8 g idn pe ct98 := by rw [ec99]; exact up8 hI (i8_12 ⟨_, hp100, rfl⟩)
                        have hof : ∀ k, ¬ dIn pM k → ct98 k = ct k := fun k hk => by rw [ec99]; exact (va_up_ne _ _ (fun e => hk (by rw [e]; exact ⟨by decide, rfl⟩))).trans (hof k hk)
                        have hs101 : ct98 0 = .inr (8, [.ref 1, .ref 2, .ref 3, .ref 5, .ref 6, .ref 9, .ref 10, .ref 17, .ref 21, .ref 34, .ref (99 + 3 * dr2), .int pe, .int bk3]) := by rw [ec99, va_up_ne _ _ (by omega)]; exact hs89
                        have hs102 : ct98 10 = .inr (6, [.int lnfF57, .int lvfF57, .int lk54, .int fd55, .ref 11, .ref 12, .ref 13, .ref 14, .ref 15, .ref 16]) := by rw [ec99, va_up_ne _ _ (by omega)]; exact hs90
                        have hs103 : ct98 11 = .inl (g.2 0, 8, .inl fD60) := by rw [ec99, va_up_ne _ _ (by omega)]; exact hs91
                        have hs104 : ct98 12 = .inl (g.2 0, 8, .inl (upd fF57 (Int32.toNatClampNeg i) x97)) := by rw [ec99]; exact va_up_self _ _ _
                        refine dv_aload_n dX8_odds_94 rfl 1 rfl ?_
                        refine dv_get (ci := 8) (v := .ref 10) (C := RX8) (T := TX8) (N := 13) ⟨by decide, rfl⟩ hs101 rfl inG8 6 (by decide) mm_309 rfl dX8_odds_95 ?_
                        refine GW.callV (n := 0) (As := []) (rest := []) (b := 10) (f_number l g pe ct98 lnfF57 lvfF57 lk54 fd55 (upd fF57 (Int32.toNatClampNeg i) x97) hI hs102 hs104 (hlvb)) sub_pM_pAll rfl rfl ⟨by decide, rfl⟩ hs102 (q := (RX6, TX6, 10)) rfl mm_478 mm_479 mm_480 mm_55 mm_481 (by decide +kernel) ⟨Nat.le_of_ble_eq_true rfl, Nat.le_of_ble_eq_true rfl⟩ rfl (Nat.le_of_ble_eq_true rfl) dX8_odds_98 (Nat.zero_le _) (Nat.zero_le _) rfl (fun ct105 rrr106 hBr106 hoff107 => ?_)
                        obtain ⟨r106, rfl, hr106, hI, hk108, hk109, hk110, hk111, hk112, hk113⟩ := hBr106
                        have hof : ∀ k, ¬ dIn pM k → ct105 k = ct k := fun k hk => (hoff107 k hk).trans (hof k hk)
                        refine GW.eq (S2 := [.long r106]) rfl rfl rfl ?_
                        have hs114 : ct105 0 = .inr (8, [.ref 1, .ref 2, .ref 3, .ref 5, .ref 6, .ref 9, .ref 10, .ref 17, .ref 21, .ref 34, .ref (99 + 3 * dr2), .int pe, .int bk3]) := (hoff107 _ (pM_no (by decide))).trans hs101
                        have hs115 : ct105 10 = .inr (6, [.int lnfF57, .int lvfF57, .int lk54, .int fd55, .ref 11, .ref 12, .ref 13, .ref 14, .ref 15, .ref 16]) := hk108.trans hs102
                        have hs116 : ct105 11 = .inl (g.2 0, 8, .inl fD60) := hk109.trans hs103
                        have hs117 : ct105 12 = .inl (g.2 0, 8, .inl (upd fF57 (Int32.toNatClampNeg i) x97)) := hk110.trans hs104
                        have h118 := hr106
                        have h118 : r106 = i64 (gvP (fun z9 q9 => ib ((upd fF57 (Int32.toNatClampNeg i) x97) z9) q9) lnfF57.toInt.toNat 16 lvfF57.toInt.toNat) := h118
                        have habv : r106 = i64 (qAbv l g pe ct b i p0 kn) := by
                          unfold qAbv
                          rw [h118, ← e1fF57, ← e2fF57]
                          refine congrArg i64 (congrFun (gvP_c (fun k hk p => ?_) 16) _)
                          show ib (upd fF57 (Int32.toNatClampNeg i) x97 k) p = _
                          rw [show Int32.toNatClampNeg i = i.toInt.toNat from z_cl (by omega)]
                          unfold upd
                          by_cases q : k = i.toInt.toNat
                          · rw [if_pos q, if_pos q, ex97, ey95, ex96, show Int32.toNatClampNeg i = i.toInt.toNat from z_cl (by omega), hf59 _ (by omega)]
                          · rw [if_neg q, if_neg q, hf59 k (by omega)]
                        refine dv_lstore (lv' := [(8, .long r106), (6, .long r81), (0, .ref 0), (1, .int b), (2, .int i), (3, .int p0), (4, .int kn), (5, .int wh)]) dX8_odds_101 (by decide) rfl ?_
                        refine dv_lload dX8_odds_103 0 rfl ?_
                        refine dv_lload dX8_odds_105 1 rfl ?_
                        refine GW.callS (n := 2) (As := [.long r106, .long r81]) (rest := []) (f_commonDivisor l g pe ct105 r106 r81 hI) (fun _ h => Bool.noConfusion h) rfl rfl mm_700 mm_701 mm_52 mm_702 (by decide +kernel) ⟨Nat.le_of_ble_eq_true rfl, Nat.le_of_ble_eq_true rfl⟩ rfl (Nat.le_of_ble_eq_true rfl) dX8_odds_107 (Nat.zero_le _) (Nat.zero_le _) rfl (fun ct119 rrr120 hBr120 hoff121 => ?_)
                        obtain ⟨r120, rfl, hr120, rfl⟩ := hBr120
                        refine GW.eq (S2 := [.long r120]) rfl rfl rfl ?_
                        have h122 := hr120
                        have h122 : r120 = (gcS r106 r81 1000).1 := h122
                        refine dv_lstore (lv' := [(10, .long r120), (8, .long r106), (6, .long r81), (0, .ref 0), (1, .int b), (2, .int i), (3, .int p0), (4, .int kn), (5, .int wh)]) dX8_odds_110 (by decide) rfl ?_
                        refine dv_lload dX8_odds_112 0 rfl ?_
                        refine dv_lconst (v := 0) dX8_odds_114 (by decide) ?_
                        refine dv_lcmp dX8_odds_115 ?_
                        refine dv_if_ne (tgt := 123) dX8_odds_116 (by decide) (fun c123 => ?_) (fun c123 => ?_)
                        · skip
                          have c123 := fun q => c123 ((lg_cmp_eq _ _).mpr q)
                          have c123 : ¬ (r120 = (0 : Int64)) := c123
                          refine dv_iload dX8_odds_123 8 rfl ?_
                          refine dv_if_ne (tgt := 136) dX8_odds_125 (by decide) (fun c124 => ?_) (fun c124 => ?_)
                          · skip
                            have c124 : ¬ (wh.toInt = 0) := fun q => c124 ((z_eq rfl (by decide : (0 : Int32).toInt = 0)).mpr q)
                            refine dv_lload dX8_odds_136 2 rfl ?_
                            refine dv_lload dX8_odds_138 0 rfl ?_
                            refine dv_ldiv dX8_odds_140 (by assumption) ?_
                            refine dv_topl (fun x125 ex125 => ?_)
                            exact dv_lret dX8_odds_141 rfl (by first | exact Nat.zero_le _ | decide) (by first | exact Nat.zero_le _ | decide) (by subst hK; exact ⟨x125, rfl, (⟨by unfold qOdd; rw [if_pos ⟨by assumption, ⟨by omega, by omega⟩, ⟨by omega, by omega⟩, by omega, by omega⟩]; rw [if_pos (by assumption), ← hblw]; rw [if_neg (by assumption), ← habv, ← h122]; rw [if_neg (by assumption)]; rw [if_neg (by omega)]; exact ex125, trivial⟩), hI, hof⟩)
                          · skip
                            have c124 : wh.toInt = 0 := (z_eq rfl (by decide : (0 : Int32).toInt = 0)).mp c124
                            refine dv_lload dX8_odds_128 1 rfl ?_
                            refine dv_lload dX8_odds_130 0 rfl ?_
                            refine dv_ldiv dX8_odds_132 (by assumption) ?_
                            refine dv_topl (fun x126 ex126 => ?_)
                            refine dv_goto (tgt := 141) dX8_odds_133 (by decide) ?_
                            exact dv_lret dX8_odds_141 rfl (by first | exact Nat.zero_le _ | decide) (by first | exact Nat.zero_le _ | decide) (by subst hK; exact ⟨x126, rfl, (⟨by unfold qOdd; rw [if_pos ⟨by assumption, ⟨by omega, by omega⟩, ⟨by omega, by omega⟩, by omega, by omega⟩]; rw [if_pos (by assumption), ← hblw]; rw [if_neg (by assumption), ← habv, ← h122]; rw [if_neg (by assumption)]; rw [if_pos (by omega)]; exact ex126, trivial⟩), hI, hof⟩)
                        · skip
                          have c123 := (lg_cmp_eq _ _).mp c123
                          refine dv_ldc2 mm_699 dX8_odds_119 ?_
                          exact dv_lret dX8_odds_122 rfl (by first | exact Nat.zero_le _ | decide) (by first | exact Nat.zero_le _ | decide) (by subst hK; exact ⟨(-2), rfl, (⟨by unfold qOdd; rw [if_pos ⟨by assumption, ⟨by omega, by omega⟩, ⟨by omega, by omega⟩, by omega, by omega⟩]; rw [if_pos (by assumption), ← hblw]; rw [if_neg (by assumption), ← habv, ← h122]; rw [if_pos (by assumption)], trivial⟩), hI, hof⟩)
                      · skip
                        have c94 := (lg_cmp_eq _ _).mp c94
                        refine dv_ldc2 mm_699 dX8_odds_75 ?_
                        exact dv_lret dX8_odds_78 rfl (by first | exact Nat.zero_le _ | decide) (by first | exact Nat.zero_le _ | decide) (by subst hK; exact ⟨(-2), rfl, (⟨by unfold qOdd; rw [if_pos ⟨by assumption, ⟨by omega, by omega⟩, ⟨by omega, by omega⟩, by omega, by omega⟩]; rw [if_pos (by assumption), ← hblw]; rw [if_pos (by assumption)], trivial⟩), hI, hof⟩)
                    · skip
                      exact absurd c41 (by decide)
                  · skip
                    obtain ⟨rfl, h127⟩ := hr35
                    have h127 : LIV ct b i = false := h127
                    refine dv_if_ne (tgt := 52) dX8_odds_45 (by decide) (fun c128 => ?_) (fun c128 => ?_)
                    · skip
                      exact absurd c128 (by decide)
                    · skip
                      refine dv_ldc2 mm_699 dX8_odds_48 ?_
                      exact dv_lret dX8_odds_51 rfl (by first | exact Nat.zero_le _ | decide) (by first | exact Nat.zero_le _ | decide) (by subst hK; exact ⟨(-2), rfl, (⟨by unfold qOdd; rw [if_pos ⟨by assumption, ⟨by omega, by omega⟩, ⟨by omega, by omega⟩, by omega, by omega⟩]; rw [if_neg (by rw [show LIV ct b i = false by assumption]; decide)], trivial⟩), hI, hof⟩)
                · skip
                  exact absurd c33 (by decide)
              · skip
                obtain ⟨rfl, h129⟩ := hr29
                have h129 : ¬ ((0 : Int) ≤ wh.toInt ∧ wh.toInt ≤ (1 : Int)) := h129
                refine dv_if_ne (tgt := 39) dX8_odds_32 (by decide) (fun c130 => ?_) (fun c130 => ?_)
                · skip
                  exact absurd c130 (by decide)
                · skip
                  refine dv_ldc2 mm_477 dX8_odds_35 ?_
                  exact dv_lret dX8_odds_38 rfl (by first | exact Nat.zero_le _ | decide) (by first | exact Nat.zero_le _ | decide) (by subst hK; exact ⟨(-1), rfl, (⟨by unfold qOdd; first | (rw [if_neg (fun q => by have q1 := q.1; rw [show LIN ct b i = false by assumption] at q1; exact absurd q1 (by decide))]; done) | (rw [if_neg (fun q => by have q1 := q.2.1.1; have q2 := q.2.1.2; have q3 := q.2.2.1.1; have q4 := q.2.2.1.2; have q5 := q.2.2.2.1; have q6 := q.2.2.2.2; omega)]; done), trivial⟩), hI, hof⟩)
          · skip
            obtain ⟨rfl, h131⟩ := hr23
            have h131 : ¬ (0 ≤ kn.toInt ∧ kn.toInt ≤ 255) := h131
            refine dv_if_eq (tgt := 35) dX8_odds_22 (by decide) (fun c132 => ?_) (fun c132 => ?_)
            · skip
              refine dv_ldc2 mm_477 dX8_odds_35 ?_
              exact dv_lret dX8_odds_38 rfl (by first | exact Nat.zero_le _ | decide) (by first | exact Nat.zero_le _ | decide) (by subst hK; exact ⟨(-1), rfl, (⟨by unfold qOdd; first | (rw [if_neg (fun q => by have q1 := q.1; rw [show LIN ct b i = false by assumption] at q1; exact absurd q1 (by decide))]; done) | (rw [if_neg (fun q => by have q1 := q.2.1.1; have q2 := q.2.1.2; have q3 := q.2.2.1.1; have q4 := q.2.2.1.2; have q5 := q.2.2.2.1; have q6 := q.2.2.2.2; omega)]; done), trivial⟩), hI, hof⟩)
            · skip
              exact absurd c132 (by decide)
      · skip
        obtain ⟨rfl, h133⟩ := hr17
        have h133 : ¬ (0 ≤ p0.toInt ∧ p0.toInt < pe.toInt) := h133
        refine dv_if_eq (tgt := 35) dX8_odds_14 (by decide) (fun c134 => ?_) (fun c134 => ?_)
        · skip
          refine dv_ldc2 mm_477 dX8_odds_35 ?_
          exact dv_lret dX8_odds_38 rfl (by first | exact Nat.zero_le _ | decide) (by first | exact Nat.zero_le _ | decide) (by subst hK; exact ⟨(-1), rfl, (⟨by unfold qOdd; first | (rw [if_neg (fun q => by have q1 := q.1; rw [show LIN ct b i = false by assumption] at q1; exact absurd q1 (by decide))]; done) | (rw [if_neg (fun q => by have q1 := q.2.1.1; have q2 := q.2.1.2; have q3 := q.2.2.1.1; have q4 := q.2.2.1.2; have q5 := q.2.2.2.1; have q6 := q.2.2.2.2; omega)]; done), trivial⟩), hI, hof⟩)
        · skip
          exact absurd c134 (by decide)
  · skip
    obtain ⟨rfl, h135⟩ := hr8
    have h135 : LIN ct b i = false := h135
    refine dv_if_eq (tgt := 35) dX8_odds_6 (by decide) (fun c136 => ?_) (fun c136 => ?_)
    · skip
      refine dv_ldc2 mm_477 dX8_odds_35 ?_
      exact dv_lret dX8_odds_38 rfl (by first | exact Nat.zero_le _ | decide) (by first | exact Nat.zero_le _ | decide) (by subst hK; exact ⟨(-1), rfl, (⟨by unfold qOdd; first | (rw [if_neg (fun q => by have q1 := q.1; rw [show LIN ct b i = false by assumption] at q1; exact absurd q1 (by decide))]; done) | (rw [if_neg (fun q => by have q1 := q.2.1.1; have q2 := q.2.1.2; have q3 := q.2.2.1.1; have q4 := q.2.2.1.2; have q5 := q.2.2.2.1; have q6 := q.2.2.2.2; omega)]; done), trivial⟩), hI, hof⟩)
    · skip
      exact absurd c136 (by decide)

set_option maxHeartbeats 4000000 in
set_option maxRecDepth 100000 in
theorem f_together (l : Launch) (g : zG) (pe : Int32) (ct : Nat → va_E) (k : Int32) (wh : Int32) (hI : Inv8 g idn pe ct) : DM l g pAll false yX8_together cX8_together 5 (some .int) ({ frames := 6, cells := 0, slots := 0, locals := 139 }) (fun (ct2 : Nat → va_E) (rr : Option Value) => ∃ (r : Int32), rr = some (.int r) ∧ (((r = qTog l g pe ct k wh) ∧ (True))) ∧ Inv8 g idn pe ct2 ∧ (∀ k, ¬ dIn pM k → ct2 k = ct k)) ct [.ref 0, .int k, .int wh] := by
  refine DM.K (fun K hK => ?_)
  refine GW.met (own := RX8) (loc := [(0, .ref 0), (1, .int k), (2, .int wh)]) (by decide) rfl rfl (Nat.le_of_ble_eq_true rfl) ?_
  have hpe0 := hI.1
  have hof : ∀ k, ¬ dIn pM k → ct k = ct k := fun _ _ => rfl
  have rg_k := z_rng k
  have rg_wh := z_rng wh
  obtain ⟨bk3, dr2, h4, h5, h6, hs1⟩ := a8_0 hI
  have hzb : (bkF ct).toInt = bk3.toInt := by unfold bkF; rw [hs1]; rfl
  have hI0 := hI
  refine dv_iload_n dX8_together_0 rfl 1 rfl ?_
  refine GW.callS (n := 1) (As := [.int k]) (rest := []) (k_X8_isBar l g pe ct k hI) (fun _ h => Bool.noConfusion h) rfl rfl mm_530 mm_531 mm_52 mm_532 (by decide +kernel) ⟨Nat.le_of_ble_eq_true rfl, Nat.le_of_ble_eq_true rfl⟩ rfl (Nat.le_of_ble_eq_true rfl) dX8_together_1 (Nat.zero_le _) (Nat.zero_le _) rfl (fun ct7 rrr8 hBr8 hoff9 => ?_)
  obtain ⟨r8, rfl, hr8, rfl⟩ := hBr8
  refine GW.eq (S2 := [.int r8]) rfl rfl rfl ?_
  rcases hr8 with hr8 | hr8
  · skip
    obtain ⟨rfl, h10, h11⟩ := hr8
    have h10 : 1 ≤ k.toInt := h10
    have h11 : k.toInt ≤ 16 := h11
    refine dv_if_eq (tgt := 16) dX8_together_4 (by decide) (fun c12 => ?_) (fun c12 => ?_)
    · skip
      exact absurd c12 (by decide)
    · skip
      refine dv_iload_n dX8_together_7 rfl 2 rfl ?_
      refine dv_iconst (v := 0) dX8_together_8 (by decide) ?_
      refine dv_iconst (v := 2) dX8_together_9 (by decide) ?_
      refine GW.callS (n := 3) (As := [.int wh, .int 0, .int 2]) (rest := []) (k_X8_within l g pe ct wh (0 : Int32) (2 : Int32) hI) (fun _ h => Bool.noConfusion h) rfl rfl mm_355 mm_356 mm_52 mm_357 (by decide +kernel) ⟨Nat.le_of_ble_eq_true rfl, Nat.le_of_ble_eq_true rfl⟩ rfl (Nat.le_of_ble_eq_true rfl) dX8_together_10 (Nat.zero_le _) (Nat.zero_le _) rfl (fun ct13 rrr14 hBr14 hoff15 => ?_)
      obtain ⟨r14, rfl, hr14, rfl⟩ := hBr14
      refine GW.eq (S2 := [.int r14]) rfl rfl rfl ?_
      rcases hr14 with hr14 | hr14
      · skip
        obtain ⟨rfl, h16, h17⟩ := hr14
        have h16 : (0 : Int) ≤ wh.toInt := h16
        have h17 : wh.toInt ≤ (2 : Int) := h17
        refine dv_if_ne (tgt := 18) dX8_together_13 (by decide) (fun c18 => ?_) (fun c18 => ?_)
        · skip
          refine dv_iconst (v := 0) dX8_together_18 (by decide) ?_
          refine dv_istore_n (lv' := [(3, .int 0), (0, .ref 0), (1, .int k), (2, .int wh)]) dX8_together_19 rfl (by decide) rfl ?_
          have loop20 : ∀ (n20 : Nat) (v3_20 : Int32) (ct19 : Nat → va_E), ((4 - v3_20.toInt : Int).toNat < n20) → (0 ≤ v3_20.toInt ∧ v3_20.toInt ≤ 4) → (v3_20.toInt ≤ (bkF ct).toInt) → (tgS l g pe ct k wh (bkF ct).toInt.toNat = tgS l g pe ct k wh ((bkF ct).toInt.toNat - v3_20.toInt.toNat)) → (∀ k, ¬ dIn pM k → ct19 k = ct k) → (Inv8 g idn pe ct19) → GW l g pAll pAll false yX8_together cX8_together 5 (some .int) RX8 ({ frames := 6, cells := 0, slots := 0, locals := 139 }) K 0 0 ct19 20 [(3, .int v3_20), (0, .ref 0), (1, .int k), (2, .int wh)] [] := by
            intro n20
            induction n20 with
            | zero =>
              intro v3_20 ct19 hn20 b3_20 j0_20 j1_20 hof hI
              exact absurd hn20 (Nat.not_lt_zero _)
            | succ n20 ih20 =>
              intro v3_20 ct19 hn20 b3_20 j0_20 j1_20 hof hI
              obtain ⟨bk22, dr21, h23, h24, h25, hs20⟩ := a8_0 hI
              have hzb : (bkF ct).toInt = bk22.toInt := by rw [← bkF_o hof]; unfold bkF; rw [hs20]; rfl
              refine dv_iload_n dX8_together_20 rfl 0 rfl ?_
              refine dv_aload_n dX8_together_21 rfl 1 rfl ?_
              refine dv_get (ci := 8) (v := .int bk22) (C := RX8) (T := TX8) (N := 13) ⟨by decide, rfl⟩ hs20 rfl inG8 12 (by decide) mm_315 rfl dX8_together_22 ?_
              refine dv_icmp_ge (tgt := 93) dX8_together_25 (by decide) (fun c26 => ?_) (fun c26 => ?_)
              · skip
                have c26 : bk22.toInt ≤ v3_20.toInt := (z_le rfl rfl).mp c26
                refine dv_bipush (v := (-2)) dX8_together_93 (by decide) ?_
                have q27 : ((-2) : Int32).toInt = -2 := by decide
                exact dv_iret dX8_together_95 rfl (by first | exact Nat.zero_le _ | decide) (by first | exact Nat.zero_le _ | decide) (by subst hK; exact ⟨(-2), rfl, (⟨by unfold qTog; rw [if_pos ⟨by omega, by omega, by omega, by omega⟩, j1_20]; rw [show ((bkF ct).toInt.toNat - v3_20.toInt.toNat) = 0 by omega]; rfl, trivial⟩), hI, hof⟩)
              · skip
                have c26 : ¬ (bk22.toInt ≤ v3_20.toInt) := fun q => c26 ((z_le rfl rfl).mpr q)
                refine dv_aload_n dX8_together_28 rfl 1 rfl ?_
                refine dv_get (ci := 8) (v := .ref 5) (C := RX8) (T := TX8) (N := 13) ⟨by decide, rfl⟩ hs20 rfl inG8 3 (by decide) mm_306 rfl dX8_together_29 ?_
                refine dv_iload_n dX8_together_32 rfl 0 rfl ?_
                have hs28 := a8_5 hI
                refine dv_aldq 5 ⟨by decide, rfl⟩ hs28 rfl (z_in rfl (by omega) (by omega)) dX8_together_33 (r := (0 + 55 + 11 * v3_20.toInt.toNat)) (zF5_r (x := v3_20) (by omega) (by omega)) ?_
                obtain ⟨lns30, liv31, shw32, h33, h34, h35, h36, hz37, h38, hs29⟩ := a8_40 (kc := (0 + 55 + 11 * v3_20.toInt.toNat)) (by omega) hI
                have bhz37 := z_b01 hz37
                have hofT := hof
                have hzs : zf 2 (ct19 (0 + 55 + 11 * v3_20.toInt.toNat)) = shw32 := by rw [hs29]; rfl
                refine dv_get (ci := 2) (v := .int shw32) (C := RX2) (T := TX2) (N := 5) ⟨by omega, pAll_of (by omega)⟩ hs29 rfl inG2 2 (by decide) mm_289 rfl dX8_together_34 ?_
                refine dv_if_eq (tgt := 49) dX8_together_37 (by decide) (fun c39 => ?_) (fun c39 => ?_)
                · skip
                  have c39 : shw32.toInt = 0 := (z_eq rfl (by decide : (0 : Int32).toInt = 0)).mp c39
                  refine dv_iconst (v := (-1)) dX8_together_49 (by decide) ?_
                  have hsel : (-1 : Int32) = (if (zf 2 (ct (0 + 55 + 11 * v3_20.toInt.toNat))).toInt = 0 then (-1 : Int32) else qBar l g pe ct (nI v3_20.toInt.toNat) k) := by
                    rw [← zf_o hofT (by omega), hzs]
                    rw [if_pos (by omega)]
                  refine dv_istore (lv' := [(4, .int (-1)), (3, .int v3_20), (0, .ref 0), (1, .int k), (2, .int wh)]) dX8_together_50 (by decide) rfl ?_
                  refine dv_iload dX8_together_52 0 rfl ?_
                  refine dv_iconst (v := (-1)) dX8_together_54 (by decide) ?_
                  refine dv_icmp_eq (tgt := 87) dX8_together_55 (by decide) (fun c40 => ?_) (fun c40 => ?_)
                  · skip
                    obtain ⟨x41, ex41⟩ : ∃ y : Int32, y = v3_20 + 1 := ⟨_, rfl⟩
                    have tx41 : x41.toInt = v3_20.toInt + 1 := by rw [ex41]; exact z_add rfl (by decide : (1 : Int32).toInt = 1) (by omega) (by omega)
                    refine dv_iinc (v := x41) (lv' := [(3, .int x41), (4, .int (-1)), (0, .ref 0), (1, .int k), (2, .int wh)]) dX8_together_87 (k := 1) rfl (by rw [ex41]; rfl) (by decide) rfl ?_
                    refine dv_goto (tgt := 20) dX8_together_90 (by decide) ?_
                    refine dv_sub (loc2 := [(3, .int x41), (0, .ref 0), (1, .int k), (2, .int wh)]) [0, 2, 3, 4] rfl ?_
                    exact ih20 x41 ct19 (by omega) (by omega) (by omega) (by rw [j1_20, show ((bkF ct).toInt.toNat - v3_20.toInt.toNat) = ((bkF ct).toInt.toNat - x41.toInt.toNat) + 1 by omega]; show (if _ then _ else _) = _; rw [show (bkF ct).toInt.toNat - (((bkF ct).toInt.toNat - x41.toInt.toNat) + 1) = v3_20.toInt.toNat by omega, ← hsel, if_pos (by have hm1 : (-1 : Int32).toInt = -1 := (by decide); omega)]) hof hI
                  · skip
                    exact absurd c40 (by decide)
                · skip
                  have c39 : ¬ (shw32.toInt = 0) := fun q => c39 ((z_eq rfl (by decide : (0 : Int32).toInt = 0)).mpr q)
                  refine dv_aload_n dX8_together_40 rfl 1 rfl ?_
                  refine dv_iload_n dX8_together_41 rfl 0 rfl ?_
                  refine dv_iload_n dX8_together_42 rfl 2 rfl ?_
                  refine GW.callV (n := 2) (As := [.int v3_20, .int k]) (rest := []) (b := 0) (f_firstBared l g pe ct19 v3_20 k (by first | omega | decide) hI) (fun _ h => h) rfl rfl ⟨by decide, rfl⟩ hs20 (q := (RX8, TX8, 13)) rfl mm_785 mm_787 mm_43 mm_52 mm_788 (by decide +kernel) ⟨Nat.le_of_ble_eq_true rfl, Nat.le_of_ble_eq_true rfl⟩ rfl (Nat.le_of_ble_eq_true rfl) dX8_together_43 (Nat.zero_le _) (Nat.zero_le _) rfl (fun ct42 rrr43 hBr43 hoff44 => ?_)
                  obtain ⟨r43, rfl, hr43, hI, hcf46, hk45⟩ := hBr43
                  have hof : ∀ k, ¬ dIn pM k → ct42 k = ct k := fun k hk => (hcf46 k hk).trans (hof k hk)
                  refine GW.eq (S2 := [.int r43]) rfl rfl rfl ?_
                  have hs47 : ct42 0 = .inr (8, [.ref 1, .ref 2, .ref 3, .ref 5, .ref 6, .ref 9, .ref 10, .ref 17, .ref 21, .ref 34, .ref (99 + 3 * dr21), .int pe, .int bk22]) := (hcf46 _ (pM_no (by decide))).trans hs20
                  have hs48 : ct42 5 = .inl (g.2 5, 4, .inr (.inr (.inr (.inr (zF5 idn 0))))) := (hcf46 _ (pM_no (by decide))).trans hs28
                  have hs49 : ct42 (0 + 55 + 11 * v3_20.toInt.toNat) = .inr (2, [.int lns30, .int liv31, .int shw32, .ref ((0 + 55 + 11 * v3_20.toInt.toNat) + 1), .ref ((0 + 55 + 11 * v3_20.toInt.toNat) + 2)]) := (hcf46 _ (pM_no (by omega))).trans hs29
                  obtain ⟨h50, h51, h52⟩ := hr43
                  have h50 : r43 = qBar l g pe ct19 v3_20 k := h50
                  have h51 : -1 ≤ r43.toInt := h51
                  have h52 : r43.toInt ≤ 7 := h52
                  refine dv_goto (tgt := 50) dX8_together_46 (by decide) ?_
                  have hqb : r43 = qBar l g pe ct (nI v3_20.toInt.toNat) k := by rw [← z_nI (x := v3_20) (k := v3_20.toInt.toNat) (by omega), h50, qBar_o hofT (gix_rg hI0)]
                  have hsel : r43 = (if (zf 2 (ct (0 + 55 + 11 * v3_20.toInt.toNat))).toInt = 0 then (-1 : Int32) else qBar l g pe ct (nI v3_20.toInt.toNat) k) := by
                    rw [← zf_o hofT (by omega), hzs]
                    rw [if_neg (by omega)]; exact hqb
                  refine dv_istore (lv' := [(4, .int r43), (3, .int v3_20), (0, .ref 0), (1, .int k), (2, .int wh)]) dX8_together_50 (by decide) rfl ?_
                  refine dv_iload dX8_together_52 0 rfl ?_
                  refine dv_iconst (v := (-1)) dX8_together_54 (by decide) ?_
                  refine dv_icmp_eq (tgt := 87) dX8_together_55 (by decide) (fun c53 => ?_) (fun c53 => ?_)
                  · skip
                    have c53 : r43.toInt = (-1) := (z_eq rfl (by decide : ((-1) : Int32).toInt = (-1))).mp c53
                    obtain ⟨x54, ex54⟩ : ∃ y : Int32, y = v3_20 + 1 := ⟨_, rfl⟩
                    have tx54 : x54.toInt = v3_20.toInt + 1 := by rw [ex54]; exact z_add rfl (by decide : (1 : Int32).toInt = 1) (by omega) (by omega)
                    refine dv_iinc (v := x54) (lv' := [(3, .int x54), (4, .int r43), (0, .ref 0), (1, .int k), (2, .int wh)]) dX8_together_87 (k := 1) rfl (by rw [ex54]; rfl) (by decide) rfl ?_
                    refine dv_goto (tgt := 20) dX8_together_90 (by decide) ?_
                    refine dv_sub (loc2 := [(3, .int x54), (0, .ref 0), (1, .int k), (2, .int wh)]) [0, 2, 3, 4] rfl ?_
                    exact ih20 x54 ct42 (by omega) (by omega) (by omega) (by rw [j1_20, show ((bkF ct).toInt.toNat - v3_20.toInt.toNat) = ((bkF ct).toInt.toNat - x54.toInt.toNat) + 1 by omega]; show (if _ then _ else _) = _; rw [show (bkF ct).toInt.toNat - (((bkF ct).toInt.toNat - x54.toInt.toNat) + 1) = v3_20.toInt.toNat by omega, ← hsel, if_pos (by have hm1 : (-1 : Int32).toInt = -1 := (by decide); omega)]) hof hI
                  · skip
                    have c53 : ¬ (r43.toInt = (-1)) := fun q => c53 ((z_eq rfl (by decide : ((-1) : Int32).toInt = (-1))).mpr q)
                    obtain ⟨fM55, hq56, hm57⟩ := hk45 (by omega)
                    obtain ⟨f59, hp60, hs58⟩ := a8_13 hI
                    have hs61 := hq56
                    cases (hq56.symm.trans hs58)
                    refine dv_iload_n dX8_together_58 rfl 4 rfl ?_
                    refine dv_if_ne (tgt := 66) dX8_together_59 (by decide) (fun c62 => ?_) (fun c62 => ?_)
                    · skip
                      have c62 : ¬ (wh.toInt = 0) := fun q => c62 ((z_eq rfl (by decide : (0 : Int32).toInt = 0)).mpr q)
                      refine dv_iload_n dX8_together_66 rfl 4 rfl ?_
                      refine dv_iconst (v := 1) dX8_together_67 (by decide) ?_
                      refine dv_icmp_ne (tgt := 76) dX8_together_68 (by decide) (fun c63 => ?_) (fun c63 => ?_)
                      · skip
                        have c63 : ¬ (wh.toInt = 1) := fun q => c63 ((z_eq rfl (by decide : (1 : Int32).toInt = 1)).mpr q)
                        refine dv_aload_n dX8_together_76 rfl 2 rfl ?_
                        refine dv_get (ci := 8) (v := .ref 10) (C := RX8) (T := TX8) (N := 13) ⟨by decide, rfl⟩ hs47 rfl inG8 6 (by decide) mm_309 rfl dX8_together_77 ?_
                        obtain ⟨lns65, liv66, lak67, fnd68, h69, h70, h71, h72, hs64⟩ := a8_10 hI
                        refine dv_get (ci := 6) (v := .ref 13) (C := RX6) (T := TX6) (N := 10) ⟨by decide, rfl⟩ hs64 rfl inG6 6 (by decide) mm_128 rfl dX8_together_80 ?_
                        refine dv_iload dX8_together_83 0 rfl ?_
                        refine dv_iald 0 ⟨by decide, rfl⟩ hs61 rfl (z_in rfl (by omega) (by omega)) dX8_together_85 ?_
                        refine dv_topi (fun y73 ey73 => ?_)
                        have hy73 := hp60 _ (z_clt (x := r43) rfl (by omega) (by omega))
                        rw [← ey73] at hy73
                        have hy73 : 0 ≤ y73.toInt ∧ y73.toInt ≤ 65535 := hy73
                        exact dv_iret dX8_together_86 rfl (by first | exact Nat.zero_le _ | decide) (by first | exact Nat.zero_le _ | decide) (by subst hK; exact ⟨y73, rfl, (⟨by unfold qTog; rw [if_pos ⟨by omega, by omega, by omega, by omega⟩, j1_20]; rw [show ((bkF ct).toInt.toNat - v3_20.toInt.toNat) = ((bkF ct).toInt.toNat - (v3_20.toInt.toNat + 1)) + 1 by omega]; show _ = (if _ then _ else _); rw [show (bkF ct).toInt.toNat - ((bkF ct).toInt.toNat - (v3_20.toInt.toNat + 1) + 1) = v3_20.toInt.toNat by omega, ← hsel, if_neg (by omega)]; rw [if_neg (by omega), if_neg (by omega), ← hqb, ey73, hm57 _ (by have := z_clI (x := r43) (by omega); omega), show Int32.toNatClampNeg r43 = r43.toInt.toNat from z_cl (by omega), ← z_nI (x := v3_20) (k := v3_20.toInt.toNat) (by omega)]; exact qMay_o hofT (gix_rg hI0) (by omega), trivial⟩), hI, hof⟩)
                      · skip
                        have c63 : wh.toInt = 1 := (z_eq rfl (by decide : (1 : Int32).toInt = 1)).mp c63
                        refine dv_iload dX8_together_71 0 rfl ?_
                        refine dv_goto (tgt := 86) dX8_together_73 (by decide) ?_
                        exact dv_iret dX8_together_86 rfl (by first | exact Nat.zero_le _ | decide) (by first | exact Nat.zero_le _ | decide) (by subst hK; exact ⟨r43, rfl, (⟨by unfold qTog; rw [if_pos ⟨by omega, by omega, by omega, by omega⟩, j1_20]; rw [show ((bkF ct).toInt.toNat - v3_20.toInt.toNat) = ((bkF ct).toInt.toNat - (v3_20.toInt.toNat + 1)) + 1 by omega]; show _ = (if _ then _ else _); rw [show (bkF ct).toInt.toNat - ((bkF ct).toInt.toNat - (v3_20.toInt.toNat + 1) + 1) = v3_20.toInt.toNat by omega, ← hsel, if_neg (by omega)]; rw [if_neg (by omega), if_pos (by omega), hqb], trivial⟩), hI, hof⟩)
                    · skip
                      have c62 : wh.toInt = 0 := (z_eq rfl (by decide : (0 : Int32).toInt = 0)).mp c62
                      refine dv_iload_n dX8_together_62 rfl 1 rfl ?_
                      refine dv_goto (tgt := 86) dX8_together_63 (by decide) ?_
                      exact dv_iret dX8_together_86 rfl (by first | exact Nat.zero_le _ | decide) (by first | exact Nat.zero_le _ | decide) (by subst hK; exact ⟨v3_20, rfl, (⟨by unfold qTog; rw [if_pos ⟨by omega, by omega, by omega, by omega⟩, j1_20]; rw [show ((bkF ct).toInt.toNat - v3_20.toInt.toNat) = ((bkF ct).toInt.toNat - (v3_20.toInt.toNat + 1)) + 1 by omega]; show _ = (if _ then _ else _); rw [show (bkF ct).toInt.toNat - ((bkF ct).toInt.toNat - (v3_20.toInt.toNat + 1) + 1) = v3_20.toInt.toNat by omega, ← hsel, if_neg (by omega)]; rw [if_pos (by omega)]; exact z_nI (by omega), trivial⟩), hI, hof⟩)
          exact loop20 ((4 - (0 : Int32).toInt : Int).toNat + 1) (0 : Int32) ct (by omega) (by first | omega | decide | (have hz0 : (0 : Int32).toInt = 0 := (by decide); have hz1 : (1 : Int32).toInt = 1 := (by decide); omega)) (by first | omega | decide | (have hz0 : (0 : Int32).toInt = 0 := (by decide); have hz1 : (1 : Int32).toInt = 1 := (by decide); omega)) (by rw [show (0 : Int32).toInt.toNat = 0 from rfl, Nat.sub_zero]) hof hI
        · skip
          exact absurd c18 (by decide)
      · skip
        obtain ⟨rfl, h74⟩ := hr14
        have h74 : ¬ ((0 : Int) ≤ wh.toInt ∧ wh.toInt ≤ (2 : Int)) := h74
        refine dv_if_ne (tgt := 18) dX8_together_13 (by decide) (fun c75 => ?_) (fun c75 => ?_)
        · skip
          exact absurd c75 (by decide)
        · skip
          refine dv_iconst (v := (-1)) dX8_together_16 (by decide) ?_
          have q76 : ((-1) : Int32).toInt = -1 := by decide
          exact dv_iret dX8_together_17 rfl (by first | exact Nat.zero_le _ | decide) (by first | exact Nat.zero_le _ | decide) (by subst hK; exact ⟨(-1), rfl, (⟨by unfold qTog; rw [if_neg (fun q => by have q1 := q.1; have q2 := q.2.1; have q3 := q.2.2.1; have q4 := q.2.2.2; omega)], trivial⟩), hI, hof⟩)
  · skip
    obtain ⟨rfl, h77⟩ := hr8
    have h77 : ¬ (1 ≤ k.toInt ∧ k.toInt ≤ 16) := h77
    refine dv_if_eq (tgt := 16) dX8_together_4 (by decide) (fun c78 => ?_) (fun c78 => ?_)
    · skip
      refine dv_iconst (v := (-1)) dX8_together_16 (by decide) ?_
      have q79 : ((-1) : Int32).toInt = -1 := by decide
      exact dv_iret dX8_together_17 rfl (by first | exact Nat.zero_le _ | decide) (by first | exact Nat.zero_le _ | decide) (by subst hK; exact ⟨(-1), rfl, (⟨by unfold qTog; rw [if_neg (fun q => by have q1 := q.1; have q2 := q.2.1; have q3 := q.2.2.1; have q4 := q.2.2.2; omega)], trivial⟩), hI, hof⟩)
    · skip
      exact absurd c78 (by decide)
