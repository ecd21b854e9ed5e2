set_option maxHeartbeats 4000000 in
set_option maxRecDepth 100000 in
theorem f_bestSwap (l : Launch) (g : zG) (pe : Int32) (ct : Nat → va_E) (b : Int32) (k : Int32) (wh : Int32) (hI : Inv8 g idn pe ct) : DM l g pAll false yX8_bestSwap cX8_bestSwap 10 (some .int) ({ frames := 5, cells := 0, slots := 0, locals := 121 }) (fun (ct2 : Nat → va_E) (rr : Option Value) => ∃ (r : Int32), rr = some (.int r) ∧ (((r = qSwp l g pe ct b k wh) ∧ (True))) ∧ Inv8 g idn pe ct2 ∧ (∀ q, ¬ dIn pM q → ct2 q = qSwW l g pe ct b k wh q)) ct [.ref 0, .int b, .int k, .int wh] := by
  refine DM.K (fun K hK => ?_)
  refine GW.met (own := RX8) (loc := [(0, .ref 0), (1, .int b), (2, .int k), (3, .int wh)]) (by decide) rfl rfl (Nat.le_of_ble_eq_true rfl) ?_
  have hpe0 := hI.1
  have rg_b := z_rng b
  have rg_k := z_rng k
  have rg_wh := z_rng wh
  have hbc : (bkF (cln g ct)).toInt = (bkF ct).toInt := congrArg Int32.toInt (bkF_o cln_o)
  obtain ⟨bk3, dr2, h4, h5, h6, hs1⟩ := a8_0 hI
  have hzb : (bkF ct).toInt = bk3.toInt := by unfold bkF; rw [hs1]; rfl
  refine dv_aload_n dX8_bestSwap_0 rfl 0 rfl ?_
  refine dv_iload_n dX8_bestSwap_1 rfl 1 rfl ?_
  refine GW.callV (n := 1) (As := [.int b]) (rest := []) (b := 0) (f_isBook l g pe ct b hI) sub_pCl_pAll rfl rfl ⟨by decide, rfl⟩ hs1 (q := (RX8, TX8, 13)) rfl mm_415 mm_417 mm_4 mm_52 mm_418 (by decide +kernel) ⟨Nat.le_of_ble_eq_true rfl, Nat.le_of_ble_eq_true rfl⟩ rfl (Nat.le_of_ble_eq_true rfl) dX8_bestSwap_2 (Nat.zero_le _) (Nat.zero_le _) rfl (fun ct7 rrr8 hBr8 hoff9 => ?_)
  obtain ⟨r8, rfl, hr8, rfl⟩ := hBr8
  refine GW.eq (S2 := [.int r8]) rfl rfl rfl ?_
  rcases hr8 with hr8 | hr8
  · skip
    obtain ⟨rfl, h10, h11, h12⟩ := hr8
    have h10 : 0 ≤ b.toInt := h10
    have h11 : b.toInt < (bkF ct).toInt := h11
    have h12 : b.toInt ≤ 3 := h12
    refine dv_if_eq (tgt := 24) dX8_bestSwap_5 (by decide) (fun c13 => ?_) (fun c13 => ?_)
    · skip
      exact absurd c13 (by decide)
    · skip
      refine dv_iload_n dX8_bestSwap_8 rfl 2 rfl ?_
      refine GW.callS (n := 1) (As := [.int k]) (rest := []) (k_X8_isBar l g pe ct k hI) (fun _ h => Bool.noConfusion h) rfl rfl mm_530 mm_531 mm_52 mm_532 (by decide +kernel) ⟨Nat.le_of_ble_eq_true rfl, Nat.le_of_ble_eq_true rfl⟩ rfl (Nat.le_of_ble_eq_true rfl) dX8_bestSwap_9 (Nat.zero_le _) (Nat.zero_le _) rfl (fun ct14 rrr15 hBr15 hoff16 => ?_)
      obtain ⟨r15, rfl, hr15, rfl⟩ := hBr15
      refine GW.eq (S2 := [.int r15]) rfl rfl rfl ?_
      rcases hr15 with hr15 | hr15
      · skip
        obtain ⟨rfl, h17, h18⟩ := hr15
        have h17 : 1 ≤ k.toInt := h17
        have h18 : k.toInt ≤ 16 := h18
        refine dv_if_eq (tgt := 24) dX8_bestSwap_12 (by decide) (fun c19 => ?_) (fun c19 => ?_)
        · skip
          exact absurd c19 (by decide)
        · skip
          refine dv_iload_n dX8_bestSwap_15 rfl 3 rfl ?_
          refine dv_iconst (v := 0) dX8_bestSwap_16 (by decide) ?_
          refine dv_iconst (v := 3) dX8_bestSwap_17 (by decide) ?_
          refine GW.callS (n := 3) (As := [.int wh, .int 0, .int 3]) (rest := []) (k_X8_within l g pe ct wh (0 : Int32) (3 : Int32) hI) (fun _ h => Bool.noConfusion h) rfl rfl mm_355 mm_356 mm_52 mm_357 (by decide +kernel) ⟨Nat.le_of_ble_eq_true rfl, Nat.le_of_ble_eq_true rfl⟩ rfl (Nat.le_of_ble_eq_true rfl) dX8_bestSwap_18 (Nat.zero_le _) (Nat.zero_le _) rfl (fun ct20 rrr21 hBr21 hoff22 => ?_)
          obtain ⟨r21, rfl, hr21, rfl⟩ := hBr21
          refine GW.eq (S2 := [.int r21]) rfl rfl rfl ?_
          rcases hr21 with hr21 | hr21
          · skip
            obtain ⟨rfl, h23, h24⟩ := hr21
            have h23 : (0 : Int) ≤ wh.toInt := h23
            have h24 : wh.toInt ≤ (3 : Int) := h24
            refine dv_if_ne (tgt := 26) dX8_bestSwap_21 (by decide) (fun c25 => ?_) (fun c25 => ?_)
            · skip
              refine dv_bipush (v := (-2)) dX8_bestSwap_26 (by decide) ?_
              refine dv_istore (lv' := [(4, .int (-2)), (0, .ref 0), (1, .int b), (2, .int k), (3, .int wh)]) dX8_bestSwap_28 (by decide) rfl ?_
              refine dv_iconst (v := (-1)) dX8_bestSwap_30 (by decide) ?_
              refine dv_istore (lv' := [(5, .int (-1)), (4, .int (-2)), (0, .ref 0), (1, .int b), (2, .int k), (3, .int wh)]) dX8_bestSwap_31 (by decide) rfl ?_
              refine dv_aload_n dX8_bestSwap_33 rfl 2 rfl ?_
              refine dv_iload_n dX8_bestSwap_34 rfl 3 rfl ?_
              refine dv_aload_n dX8_bestSwap_35 rfl 2 rfl ?_
              refine dv_iload_n dX8_bestSwap_36 rfl 3 rfl ?_
              refine GW.callV (n := 1) (As := [.int b]) (rest := [.int b, .ref 0]) (b := 0) (eOpen_s l g pe ct b (by first | omega | decide) hI) sub_pCl_pAll rfl rfl ⟨by decide, rfl⟩ hs1 (q := (RX8, TX8, 13)) rfl mm_430 mm_432 mm_7 mm_52 mm_433 (by decide +kernel) ⟨Nat.le_of_ble_eq_true rfl, Nat.le_of_ble_eq_true rfl⟩ rfl (Nat.le_of_ble_eq_true rfl) dX8_bestSwap_37 (Nat.zero_le _) (Nat.zero_le _) rfl (fun ct26 rrr27 hBr27 hoff28 => ?_)
              obtain ⟨r27, rfl, hr27, rfl⟩ := hBr27
              refine GW.eq (S2 := [.int r27, .int b, .ref 0]) rfl rfl rfl ?_
              obtain ⟨h29, h30, h31⟩ := hr27
              have h29 : r27 = eOpen l g pe ct b := h29
              have h30 : 0 ≤ r27.toInt := h30
              have h31 : r27.toInt ≤ 15 := h31
              refine GW.callV (n := 2) (As := [.int b, .int r27]) (rest := []) (b := 0) (f_layOut l g pe ct b r27 (by first | omega | decide) (by first | omega | decide) hI) (fun _ h => h) rfl rfl ⟨by decide, rfl⟩ hs1 (q := (RX8, TX8, 13)) rfl mm_438 mm_440 mm_9 mm_52 mm_441 (by decide +kernel) ⟨Nat.le_of_ble_eq_true rfl, Nat.le_of_ble_eq_true rfl⟩ rfl (Nat.le_of_ble_eq_true rfl) dX8_bestSwap_40 (Nat.zero_le _) (Nat.zero_le _) rfl (fun ct32 rrr33 hBr33 hoff34 => ?_)
              obtain ⟨rfl, hI, hcf42, hk35, hk36, hk37, hk38, hk39, hk40, hk41⟩ := hBr33
              refine GW.eq (S2 := []) rfl rfl rfl ?_
              have hs43 : ct32 0 = .inr (8, [.ref 1, .ref 2, .ref 3, .ref 5, .ref 6, .ref 9, .ref 10, .ref 17, .ref 21, .ref 34, .ref (99 + 3 * dr2), .int pe, .int bk3]) := (hcf42 _ (pM_no (by decide))).trans hs1
              obtain ⟨fD44, hq45, hd46⟩ := hk35
              obtain ⟨f48, hs47⟩ := a8_11 hI
              have hs49 := hq45
              cases (hq45.symm.trans hs47)
              have hb0 : ∀ q, ¬ dIn pM q → ct32 q = cln g ct q := fun q hq => (hcf42 q hq).trans (cln_o q hq).symm
              have hbd : ∀ j, j < 8 → fD44 j = LDF l g pe ct b (eOpen l g pe ct b) j := fun j hj => by rw [hd46 j hj, h29]
              refine dv_iconst (v := 0) dX8_bestSwap_43 (by decide) ?_
              refine dv_istore (lv' := [(6, .int 0), (5, .int (-1)), (4, .int (-2)), (0, .ref 0), (1, .int b), (2, .int k), (3, .int wh)]) dX8_bestSwap_44 (by decide) rfl ?_
              have loop46 : ∀ (n46 : Nat) (v6_46 : Int32) (v5_46 : Int32) (v4_46 : Int32) (ct50 : Nat → va_E), ((4 - v6_46.toInt : Int).toNat < n46) → (0 ≤ v6_46.toInt ∧ v6_46.toInt ≤ 4) → (v4_46 = (bsc l g pe b k wh fD44 (-2, -1, cln g ct) v6_46.toInt.toNat).1) → (v5_46 = (bsc l g pe b k wh fD44 (-2, -1, cln g ct) v6_46.toInt.toNat).2.1) → (∀ q, ¬ dIn pM q → ct50 q = (bsc l g pe b k wh fD44 (-2, -1, cln g ct) v6_46.toInt.toNat).2.2 q) → (ct50 11 = .inl (g.2 0, 8, .inl fD44)) → (Inv8 g idn pe ct50) → GW l g pAll pAll false yX8_bestSwap cX8_bestSwap 10 (some .int) RX8 ({ frames := 5, cells := 0, slots := 0, locals := 121 }) K 0 0 ct50 46 [(6, .int v6_46), (5, .int v5_46), (4, .int v4_46), (0, .ref 0), (1, .int b), (2, .int k), (3, .int wh)] [] := by
                intro n46
                induction n46 with
                | zero =>
                  intro v6_46 v5_46 v4_46 ct50 hn46 b6_46 j0_46 j1_46 j2_46 kp11_46 hI
                  exact absurd hn46 (Nat.not_lt_zero _)
                | succ n46 ih46 =>
                  intro v6_46 v5_46 v4_46 ct50 hn46 b6_46 j0_46 j1_46 j2_46 kp11_46 hI
                  refine dv_iload dX8_bestSwap_46 0 rfl ?_
                  refine dv_iconst (v := 4) dX8_bestSwap_48 (by decide) ?_
                  refine dv_icmp_ge (tgt := 151) dX8_bestSwap_49 (by decide) (fun c51 => ?_) (fun c51 => ?_)
                  · skip
                    have c51 : 4 ≤ v6_46.toInt := (z_le (by decide : (4 : Int32).toInt = 4) rfl).mp c51
                    have hbs : bsc l g pe b k wh fD44 (-2, -1, cln g ct) v6_46.toInt.toNat = bsF l g pe ct b k wh := by rw [show v6_46.toInt.toNat = 4 by omega]; exact bsF_e hbd
                    refine dv_iload dX8_bestSwap_151 2 rfl ?_
                    exact dv_iret dX8_bestSwap_153 rfl (by first | exact Nat.zero_le _ | decide) (by first | exact Nat.zero_le _ | decide) (by subst hK; exact ⟨v4_46, rfl, (⟨by unfold qSwp; rw [if_pos ⟨by omega, by omega, by omega, by omega, by omega, by omega⟩, ← hbs]; exact j0_46, trivial⟩), hI, (fun q hq => by unfold qSwW; rw [if_pos ⟨by omega, by omega, by omega, by omega, by omega, by omega⟩, ← hbs]; exact j2_46 q hq)⟩)
                  · skip
                    have c51 : ¬ (4 ≤ v6_46.toInt) := fun q => c51 ((z_le (by decide : (4 : Int32).toInt = 4) rfl).mpr q)
                    refine dv_iconst (v := 0) dX8_bestSwap_52 (by decide) ?_
                    refine dv_istore (lv' := [(7, .int 0), (6, .int v6_46), (5, .int v5_46), (4, .int v4_46), (0, .ref 0), (1, .int b), (2, .int k), (3, .int wh)]) dX8_bestSwap_53 (by decide) rfl ?_
                    have loop55 : ∀ (n55 : Nat) (v7_55 : Int32) (v5_55 : Int32) (v4_55 : Int32) (ct52 : Nat → va_E), ((8 - v7_55.toInt : Int).toNat < n55) → (0 ≤ v7_55.toInt ∧ v7_55.toInt ≤ 8) → (v4_55 = (bsi l g pe b k wh fD44 v6_46.toInt.toNat (bsc l g pe b k wh fD44 (-2, -1, cln g ct) v6_46.toInt.toNat) v7_55.toInt.toNat).1) → (v5_55 = (bsi l g pe b k wh fD44 v6_46.toInt.toNat (bsc l g pe b k wh fD44 (-2, -1, cln g ct) v6_46.toInt.toNat) v7_55.toInt.toNat).2.1) → (∀ q, ¬ dIn pM q → ct52 q = (bsi l g pe b k wh fD44 v6_46.toInt.toNat (bsc l g pe b k wh fD44 (-2, -1, cln g ct) v6_46.toInt.toNat) v7_55.toInt.toNat).2.2 q) → (ct52 11 = .inl (g.2 0, 8, .inl fD44)) → (Inv8 g idn pe ct52) → GW l g pAll pAll false yX8_bestSwap cX8_bestSwap 10 (some .int) RX8 ({ frames := 5, cells := 0, slots := 0, locals := 121 }) K 0 0 ct52 55 [(7, .int v7_55), (6, .int v6_46), (5, .int v5_55), (4, .int v4_55), (0, .ref 0), (1, .int b), (2, .int k), (3, .int wh)] [] := by
                      intro n55
                      induction n55 with
                      | zero =>
                        intro v7_55 v5_55 v4_55 ct52 hn55 b7_55 j0_55 j1_55 j2_55 kp11_55 hI
                        exact absurd hn55 (Nat.not_lt_zero _)
                      | succ n55 ih55 =>
                        intro v7_55 v5_55 v4_55 ct52 hn55 b7_55 j0_55 j1_55 j2_55 kp11_55 hI
                        refine dv_iload dX8_bestSwap_55 0 rfl ?_
                        refine dv_bipush (v := 8) dX8_bestSwap_57 (by decide) ?_
                        refine dv_icmp_ge (tgt := 145) dX8_bestSwap_59 (by decide) (fun c53 => ?_) (fun c53 => ?_)
                        · skip
                          have c53 : 8 ≤ v7_55.toInt := (z_le (by decide : (8 : Int32).toInt = 8) rfl).mp c53
                          obtain ⟨x54, ex54⟩ : ∃ y : Int32, y = v6_46 + 1 := ⟨_, rfl⟩
                          have tx54 : x54.toInt = v6_46.toInt + 1 := by rw [ex54]; exact z_add rfl (by decide : (1 : Int32).toInt = 1) (by omega) (by omega)
                          refine dv_iinc (v := x54) (lv' := [(6, .int x54), (7, .int v7_55), (5, .int v5_55), (4, .int v4_55), (0, .ref 0), (1, .int b), (2, .int k), (3, .int wh)]) dX8_bestSwap_145 (k := 1) rfl (by rw [ex54]; rfl) (by decide) rfl ?_
                          refine dv_goto (tgt := 46) dX8_bestSwap_148 (by decide) ?_
                          refine dv_sub (loc2 := [(6, .int x54), (5, .int v5_55), (4, .int v4_55), (0, .ref 0), (1, .int b), (2, .int k), (3, .int wh)]) [0, 2, 3, 4, 5, 6, 7] rfl ?_
                          exact ih46 x54 v5_55 v4_55 ct52 (by omega) (by omega) (j0_55.trans (by rw [show x54.toInt.toNat = v6_46.toInt.toNat + 1 by omega, show v7_55.toInt.toNat = 8 by omega]; rfl)) (j1_55.trans (by rw [show x54.toInt.toNat = v6_46.toInt.toNat + 1 by omega, show v7_55.toInt.toNat = 8 by omega]; rfl)) (fun q hq => ((j2_55 q hq).trans (by rw [show x54.toInt.toNat = v6_46.toInt.toNat + 1 by omega, show v7_55.toInt.toNat = 8 by omega]; rfl))) kp11_55 hI
                        · skip
                          have c53 : ¬ (8 ≤ v7_55.toInt) := fun q => c53 ((z_le (by decide : (8 : Int32).toInt = 8) rfl).mpr q)
                          refine dv_iload dX8_bestSwap_62 0 rfl ?_
                          refine dv_iconst (v := 1) dX8_bestSwap_64 (by decide) ?_
                          refine dv_iadd dX8_bestSwap_65 ?_
                          refine dv_topi (fun x55 ex55 => ?_)
                          have tx55 : x55.toInt = v7_55.toInt + 1 := by rw [ex55]; exact z_add rfl (by decide : (1 : Int32).toInt = 1) (by omega) (by omega)
                          refine dv_istore (lv' := [(8, .int x55), (7, .int v7_55), (6, .int v6_46), (5, .int v5_55), (4, .int v4_55), (0, .ref 0), (1, .int b), (2, .int k), (3, .int wh)]) dX8_bestSwap_66 (by decide) rfl ?_
                          have loop68 : ∀ (n68 : Nat) (v8_68 : Int32) (v5_68 : Int32) (v4_68 : Int32) (ct56 : Nat → va_E), ((8 - v8_68.toInt : Int).toNat < n68) → (0 ≤ v8_68.toInt ∧ v8_68.toInt ≤ 8) → (v7_55.toInt + 1 ≤ v8_68.toInt) → (v4_68 = (bsj l g pe b k wh fD44 v6_46.toInt.toNat v7_55.toInt.toNat (bsi l g pe b k wh fD44 v6_46.toInt.toNat (bsc l g pe b k wh fD44 (-2, -1, cln g ct) v6_46.toInt.toNat) v7_55.toInt.toNat) (v8_68.toInt.toNat - (v7_55.toInt.toNat + 1))).1) → (v5_68 = (bsj l g pe b k wh fD44 v6_46.toInt.toNat v7_55.toInt.toNat (bsi l g pe b k wh fD44 v6_46.toInt.toNat (bsc l g pe b k wh fD44 (-2, -1, cln g ct) v6_46.toInt.toNat) v7_55.toInt.toNat) (v8_68.toInt.toNat - (v7_55.toInt.toNat + 1))).2.1) → (∀ q, ¬ dIn pM q → ct56 q = (bsj l g pe b k wh fD44 v6_46.toInt.toNat v7_55.toInt.toNat (bsi l g pe b k wh fD44 v6_46.toInt.toNat (bsc l g pe b k wh fD44 (-2, -1, cln g ct) v6_46.toInt.toNat) v7_55.toInt.toNat) (v8_68.toInt.toNat - (v7_55.toInt.toNat + 1))).2.2 q) → (ct56 11 = .inl (g.2 0, 8, .inl fD44)) → (Inv8 g idn pe ct56) → GW l g pAll pAll false yX8_bestSwap cX8_bestSwap 10 (some .int) RX8 ({ frames := 5, cells := 0, slots := 0, locals := 121 }) K 0 0 ct56 68 [(8, .int v8_68), (7, .int v7_55), (6, .int v6_46), (5, .int v5_68), (4, .int v4_68), (0, .ref 0), (1, .int b), (2, .int k), (3, .int wh)] [] := by
                            intro n68
                            induction n68 with
                            | zero =>
                              intro v8_68 v5_68 v4_68 ct56 hn68 b8_68 j0_68 j1_68 j2_68 j3_68 kp11_68 hI
                              exact absurd hn68 (Nat.not_lt_zero _)
                            | succ n68 ih68 =>
                              intro v8_68 v5_68 v4_68 ct56 hn68 b8_68 j0_68 j1_68 j2_68 j3_68 kp11_68 hI
                              refine dv_iload dX8_bestSwap_68 0 rfl ?_
                              refine dv_bipush (v := 8) dX8_bestSwap_70 (by decide) ?_
                              refine dv_icmp_ge (tgt := 139) dX8_bestSwap_72 (by decide) (fun c57 => ?_) (fun c57 => ?_)
                              · skip
                                have c57 : 8 ≤ v8_68.toInt := (z_le (by decide : (8 : Int32).toInt = 8) rfl).mp c57
                                obtain ⟨x58, ex58⟩ : ∃ y : Int32, y = v7_55 + 1 := ⟨_, rfl⟩
                                have tx58 : x58.toInt = v7_55.toInt + 1 := by rw [ex58]; exact z_add rfl (by decide : (1 : Int32).toInt = 1) (by omega) (by omega)
                                refine dv_iinc (v := x58) (lv' := [(7, .int x58), (8, .int v8_68), (6, .int v6_46), (5, .int v5_68), (4, .int v4_68), (0, .ref 0), (1, .int b), (2, .int k), (3, .int wh)]) dX8_bestSwap_139 (k := 1) rfl (by rw [ex58]; rfl) (by decide) rfl ?_
                                refine dv_goto (tgt := 55) dX8_bestSwap_142 (by decide) ?_
                                refine dv_sub (loc2 := [(7, .int x58), (6, .int v6_46), (5, .int v5_68), (4, .int v4_68), (0, .ref 0), (1, .int b), (2, .int k), (3, .int wh)]) [0, 2, 3, 4, 5, 6, 7, 8] rfl ?_
                                exact ih55 x58 v5_68 v4_68 ct56 (by omega) (by omega) (j1_68.trans (by rw [show x58.toInt.toNat = v7_55.toInt.toNat + 1 by omega, show v8_68.toInt.toNat - (v7_55.toInt.toNat + 1) = 8 - (v7_55.toInt.toNat + 1) by omega]; rfl)) (j2_68.trans (by rw [show x58.toInt.toNat = v7_55.toInt.toNat + 1 by omega, show v8_68.toInt.toNat - (v7_55.toInt.toNat + 1) = 8 - (v7_55.toInt.toNat + 1) by omega]; rfl)) (fun q hq => ((j3_68 q hq).trans (by rw [show x58.toInt.toNat = v7_55.toInt.toNat + 1 by omega, show v8_68.toInt.toNat - (v7_55.toInt.toNat + 1) = 8 - (v7_55.toInt.toNat + 1) by omega]; rfl))) kp11_68 hI
                              · skip
                                have c57 : ¬ (8 ≤ v8_68.toInt) := fun q => c57 ((z_le (by decide : (8 : Int32).toInt = 8) rfl).mpr q)
                                refine dv_aload_n dX8_bestSwap_75 rfl 5 rfl ?_
                                refine dv_iload_n dX8_bestSwap_76 rfl 6 rfl ?_
                                refine dv_iload_n dX8_bestSwap_77 rfl 7 rfl ?_
                                refine dv_iload dX8_bestSwap_78 1 rfl ?_
                                refine dv_iload dX8_bestSwap_80 0 rfl ?_
                                refine dv_iload dX8_bestSwap_82 2 rfl ?_
                                obtain ⟨bk62, dr61, h63, h64, h65, hs60⟩ := a8_0 hI
                                refine GW.callV (n := 5) (As := [.int b, .int k, .int v7_55, .int v8_68, .int v6_46]) (rest := []) (b := 0) (f_safeIfSwapped l g pe ct56 b k v7_55 v8_68 v6_46 fD44 (by first | omega | decide) hI kp11_68) (fun _ h => h) rfl rfl ⟨by decide, rfl⟩ hs60 (q := (RX8, TX8, 13)) rfl mm_776 mm_778 mm_42 mm_52 mm_779 (by decide +kernel) ⟨Nat.le_of_ble_eq_true rfl, Nat.le_of_ble_eq_true rfl⟩ rfl (Nat.le_of_ble_eq_true rfl) dX8_bestSwap_84 (Nat.zero_le _) (Nat.zero_le _) rfl (fun ct59 rrr66 hBr66 hoff67 => ?_)
                                obtain ⟨r66, rfl, hr66, hI, hk68, hk69⟩ := hBr66
                                refine GW.eq (S2 := [.int r66]) rfl rfl rfl ?_
                                have hs70 : ct59 11 = .inl (g.2 0, 8, .inl fD44) := hk69.trans kp11_68
                                obtain ⟨h71, h72⟩ := hr66
                                have h71 : r66 = sisR l g pe ct56 b k v7_55 v8_68 v6_46 fD44 := h71
                                have h72 : True := h72
                                have hs1 : r66 = sisR l g pe (bsj l g pe b k wh fD44 v6_46.toInt.toNat v7_55.toInt.toNat (bsi l g pe b k wh fD44 v6_46.toInt.toNat (bsc l g pe b k wh fD44 (-2, -1, cln g ct) v6_46.toInt.toNat) v7_55.toInt.toNat) (v8_68.toInt.toNat - (v7_55.toInt.toNat + 1))).2.2 b k (nI v7_55.toInt.toNat) (nI v8_68.toInt.toNat) (nI v6_46.toInt.toNat) fD44 := by
                                  rw [h71, sisR_c j3_68]
                                  rw [← z_nI (x := v7_55) (k := v7_55.toInt.toNat) (by omega), ← z_nI (x := v8_68) (k := v8_68.toInt.toNat) (by omega), ← z_nI (x := v6_46) (k := v6_46.toInt.toNat) (by omega)]
                                have hw1 := bs1_w (wh := wh) (k := k) (L := fD44) (s := (bsj l g pe b k wh fD44 v6_46.toInt.toNat v7_55.toInt.toNat (bsi l g pe b k wh fD44 v6_46.toInt.toNat (bsc l g pe b k wh fD44 (-2, -1, cln g ct) v6_46.toInt.toNat) v7_55.toInt.toNat) (v8_68.toInt.toNat - (v7_55.toInt.toNat + 1)))) j3_68 hk68 (z_nI (x := v7_55) (k := v7_55.toInt.toNat) (by omega)) (z_nI (x := v8_68) (k := v8_68.toInt.toNat) (by omega)) (z_nI (x := v6_46) (k := v6_46.toInt.toNat) (by omega))
                                refine dv_istore (lv' := [(9, .int r66), (8, .int v8_68), (7, .int v7_55), (6, .int v6_46), (5, .int v5_68), (4, .int v4_68), (0, .ref 0), (1, .int b), (2, .int k), (3, .int wh)]) dX8_bestSwap_87 (by decide) rfl ?_
                                refine dv_iload dX8_bestSwap_89 0 rfl ?_
                                refine dv_iload dX8_bestSwap_91 4 rfl ?_
                                refine dv_icmp_le (tgt := 133) dX8_bestSwap_93 (by decide) (fun c73 => ?_) (fun c73 => ?_)
                                · skip
                                  have c73 : r66.toInt ≤ v5_68.toInt := (z_le rfl rfl).mp c73
                                  have hst := bs1_no (wh := wh) (L := fD44) j1_68 j2_68 hs1 (by omega)
                                  obtain ⟨x74, ex74⟩ : ∃ y : Int32, y = v8_68 + 1 := ⟨_, rfl⟩
                                  have tx74 : x74.toInt = v8_68.toInt + 1 := by rw [ex74]; exact z_add rfl (by decide : (1 : Int32).toInt = 1) (by omega) (by omega)
                                  refine dv_iinc (v := x74) (lv' := [(8, .int x74), (9, .int r66), (7, .int v7_55), (6, .int v6_46), (5, .int v5_68), (4, .int v4_68), (0, .ref 0), (1, .int b), (2, .int k), (3, .int wh)]) dX8_bestSwap_133 (k := 1) rfl (by rw [ex74]; rfl) (by decide) rfl ?_
                                  refine dv_goto (tgt := 68) dX8_bestSwap_136 (by decide) ?_
                                  refine dv_sub (loc2 := [(8, .int x74), (7, .int v7_55), (6, .int v6_46), (5, .int v5_68), (4, .int v4_68), (0, .ref 0), (1, .int b), (2, .int k), (3, .int wh)]) [0, 2, 3, 4, 5, 6, 7, 8, 9] rfl ?_
                                  exact ih68 x74 v5_68 v4_68 ct59 (by omega) (by omega) (by omega) (hst.1.trans (by rw [show x74.toInt.toNat - (v7_55.toInt.toNat + 1) = (v8_68.toInt.toNat - (v7_55.toInt.toNat + 1)) + 1 by omega, bsj_st (j := v8_68.toInt.toNat) (by omega)])) (hst.2.trans (by rw [show x74.toInt.toNat - (v7_55.toInt.toNat + 1) = (v8_68.toInt.toNat - (v7_55.toInt.toNat + 1)) + 1 by omega, bsj_st (j := v8_68.toInt.toNat) (by omega)])) (fun q hq => ((hw1 q hq).trans (by rw [show x74.toInt.toNat - (v7_55.toInt.toNat + 1) = (v8_68.toInt.toNat - (v7_55.toInt.toNat + 1)) + 1 by omega, bsj_st (j := v8_68.toInt.toNat) (by omega)]))) hs70 hI
                                · skip
                                  have c73 : ¬ (r66.toInt ≤ v5_68.toInt) := fun q => c73 ((z_le rfl rfl).mpr q)
                                  refine dv_iload dX8_bestSwap_96 0 rfl ?_
                                  refine dv_istore (lv' := [(5, .int r66), (9, .int r66), (8, .int v8_68), (7, .int v7_55), (6, .int v6_46), (4, .int v4_68), (0, .ref 0), (1, .int b), (2, .int k), (3, .int wh)]) dX8_bestSwap_98 (by decide) rfl ?_
                                  refine dv_iload_n dX8_bestSwap_100 rfl 9 rfl ?_
                                  refine dv_if_ne (tgt := 109) dX8_bestSwap_101 (by decide) (fun c75 => ?_) (fun c75 => ?_)
                                  · skip
                                    have c75 : ¬ (wh.toInt = 0) := fun q => c75 ((z_eq rfl (by decide : (0 : Int32).toInt = 0)).mpr q)
                                    refine dv_iload_n dX8_bestSwap_109 rfl 9 rfl ?_
                                    refine dv_iconst (v := 1) dX8_bestSwap_110 (by decide) ?_
                                    refine dv_icmp_ne (tgt := 119) dX8_bestSwap_111 (by decide) (fun c76 => ?_) (fun c76 => ?_)
                                    · skip
                                      have c76 : ¬ (wh.toInt = 1) := fun q => c76 ((z_eq rfl (by decide : (1 : Int32).toInt = 1)).mpr q)
                                      refine dv_iload_n dX8_bestSwap_119 rfl 9 rfl ?_
                                      refine dv_iconst (v := 2) dX8_bestSwap_120 (by decide) ?_
                                      refine dv_icmp_ne (tgt := 129) dX8_bestSwap_121 (by decide) (fun c77 => ?_) (fun c77 => ?_)
                                      · skip
                                        have c77 : ¬ (wh.toInt = 2) := fun q => c77 ((z_eq rfl (by decide : (2 : Int32).toInt = 2)).mpr q)
                                        refine dv_iload dX8_bestSwap_129 1 rfl ?_
                                        refine dv_istore (lv' := [(4, .int r66), (5, .int r66), (9, .int r66), (8, .int v8_68), (7, .int v7_55), (6, .int v6_46), (0, .ref 0), (1, .int b), (2, .int k), (3, .int wh)]) dX8_bestSwap_131 (by decide) rfl ?_
                                        have hst := bs1_yes (wh := wh) (L := fD44) (x := r66) j2_68 hs1 (by omega) (by unfold bsX; rw [if_neg (by omega)]; rw [if_neg (by omega)]; rw [if_neg (by omega)])
                                        obtain ⟨x78, ex78⟩ : ∃ y : Int32, y = v8_68 + 1 := ⟨_, rfl⟩
                                        have tx78 : x78.toInt = v8_68.toInt + 1 := by rw [ex78]; exact z_add rfl (by decide : (1 : Int32).toInt = 1) (by omega) (by omega)
                                        refine dv_iinc (v := x78) (lv' := [(8, .int x78), (4, .int r66), (5, .int r66), (9, .int r66), (7, .int v7_55), (6, .int v6_46), (0, .ref 0), (1, .int b), (2, .int k), (3, .int wh)]) dX8_bestSwap_133 (k := 3) rfl (by rw [ex78]; rfl) (by decide) rfl ?_
                                        refine dv_goto (tgt := 68) dX8_bestSwap_136 (by decide) ?_
                                        refine dv_sub (loc2 := [(8, .int x78), (7, .int v7_55), (6, .int v6_46), (5, .int r66), (4, .int r66), (0, .ref 0), (1, .int b), (2, .int k), (3, .int wh)]) [0, 4, 5, 2, 1, 6, 7, 8, 9] rfl ?_
                                        exact ih68 x78 r66 r66 ct59 (by omega) (by omega) (by omega) (hst.1.trans (by rw [show x78.toInt.toNat - (v7_55.toInt.toNat + 1) = (v8_68.toInt.toNat - (v7_55.toInt.toNat + 1)) + 1 by omega, bsj_st (j := v8_68.toInt.toNat) (by omega)])) (hst.2.trans (by rw [show x78.toInt.toNat - (v7_55.toInt.toNat + 1) = (v8_68.toInt.toNat - (v7_55.toInt.toNat + 1)) + 1 by omega, bsj_st (j := v8_68.toInt.toNat) (by omega)])) (fun q hq => ((hw1 q hq).trans (by rw [show x78.toInt.toNat - (v7_55.toInt.toNat + 1) = (v8_68.toInt.toNat - (v7_55.toInt.toNat + 1)) + 1 by omega, bsj_st (j := v8_68.toInt.toNat) (by omega)]))) hs70 hI
                                      · skip
                                        have c77 : wh.toInt = 2 := (z_eq rfl (by decide : (2 : Int32).toInt = 2)).mp c77
                                        refine dv_iload dX8_bestSwap_124 2 rfl ?_
                                        refine dv_goto (tgt := 131) dX8_bestSwap_126 (by decide) ?_
                                        refine dv_istore (lv' := [(4, .int v8_68), (5, .int r66), (9, .int r66), (8, .int v8_68), (7, .int v7_55), (6, .int v6_46), (0, .ref 0), (1, .int b), (2, .int k), (3, .int wh)]) dX8_bestSwap_131 (by decide) rfl ?_
                                        have hst := bs1_yes (wh := wh) (L := fD44) (x := v8_68) j2_68 hs1 (by omega) (by unfold bsX; rw [if_neg (by omega)]; rw [if_neg (by omega)]; rw [if_pos (by omega)]; exact z_nI (by omega))
                                        obtain ⟨x79, ex79⟩ : ∃ y : Int32, y = v8_68 + 1 := ⟨_, rfl⟩
                                        have tx79 : x79.toInt = v8_68.toInt + 1 := by rw [ex79]; exact z_add rfl (by decide : (1 : Int32).toInt = 1) (by omega) (by omega)
                                        refine dv_iinc (v := x79) (lv' := [(8, .int x79), (4, .int v8_68), (5, .int r66), (9, .int r66), (7, .int v7_55), (6, .int v6_46), (0, .ref 0), (1, .int b), (2, .int k), (3, .int wh)]) dX8_bestSwap_133 (k := 3) rfl (by rw [ex79]; rfl) (by decide) rfl ?_
                                        refine dv_goto (tgt := 68) dX8_bestSwap_136 (by decide) ?_
                                        refine dv_sub (loc2 := [(8, .int x79), (7, .int v7_55), (6, .int v6_46), (5, .int r66), (4, .int v8_68), (0, .ref 0), (1, .int b), (2, .int k), (3, .int wh)]) [0, 4, 5, 2, 1, 6, 7, 8, 9] rfl ?_
                                        exact ih68 x79 r66 v8_68 ct59 (by omega) (by omega) (by omega) (hst.1.trans (by rw [show x79.toInt.toNat - (v7_55.toInt.toNat + 1) = (v8_68.toInt.toNat - (v7_55.toInt.toNat + 1)) + 1 by omega, bsj_st (j := v8_68.toInt.toNat) (by omega)])) (hst.2.trans (by rw [show x79.toInt.toNat - (v7_55.toInt.toNat + 1) = (v8_68.toInt.toNat - (v7_55.toInt.toNat + 1)) + 1 by omega, bsj_st (j := v8_68.toInt.toNat) (by omega)])) (fun q hq => ((hw1 q hq).trans (by rw [show x79.toInt.toNat - (v7_55.toInt.toNat + 1) = (v8_68.toInt.toNat - (v7_55.toInt.toNat + 1)) + 1 by omega, bsj_st (j := v8_68.toInt.toNat) (by omega)]))) hs70 hI
                                    · skip
                                      have c76 : wh.toInt = 1 := (z_eq rfl (by decide : (1 : Int32).toInt = 1)).mp c76
                                      refine dv_iload dX8_bestSwap_114 3 rfl ?_
                                      refine dv_goto (tgt := 131) dX8_bestSwap_116 (by decide) ?_
                                      refine dv_istore (lv' := [(4, .int v7_55), (5, .int r66), (9, .int r66), (8, .int v8_68), (7, .int v7_55), (6, .int v6_46), (0, .ref 0), (1, .int b), (2, .int k), (3, .int wh)]) dX8_bestSwap_131 (by decide) rfl ?_
                                      have hst := bs1_yes (wh := wh) (L := fD44) (x := v7_55) j2_68 hs1 (by omega) (by unfold bsX; rw [if_neg (by omega)]; rw [if_pos (by omega)]; exact z_nI (by omega))
                                      obtain ⟨x80, ex80⟩ : ∃ y : Int32, y = v8_68 + 1 := ⟨_, rfl⟩
                                      have tx80 : x80.toInt = v8_68.toInt + 1 := by rw [ex80]; exact z_add rfl (by decide : (1 : Int32).toInt = 1) (by omega) (by omega)
                                      refine dv_iinc (v := x80) (lv' := [(8, .int x80), (4, .int v7_55), (5, .int r66), (9, .int r66), (7, .int v7_55), (6, .int v6_46), (0, .ref 0), (1, .int b), (2, .int k), (3, .int wh)]) dX8_bestSwap_133 (k := 3) rfl (by rw [ex80]; rfl) (by decide) rfl ?_
                                      refine dv_goto (tgt := 68) dX8_bestSwap_136 (by decide) ?_
                                      refine dv_sub (loc2 := [(8, .int x80), (7, .int v7_55), (6, .int v6_46), (5, .int r66), (4, .int v7_55), (0, .ref 0), (1, .int b), (2, .int k), (3, .int wh)]) [0, 4, 5, 2, 1, 6, 7, 8, 9] rfl ?_
                                      exact ih68 x80 r66 v7_55 ct59 (by omega) (by omega) (by omega) (hst.1.trans (by rw [show x80.toInt.toNat - (v7_55.toInt.toNat + 1) = (v8_68.toInt.toNat - (v7_55.toInt.toNat + 1)) + 1 by omega, bsj_st (j := v8_68.toInt.toNat) (by omega)])) (hst.2.trans (by rw [show x80.toInt.toNat - (v7_55.toInt.toNat + 1) = (v8_68.toInt.toNat - (v7_55.toInt.toNat + 1)) + 1 by omega, bsj_st (j := v8_68.toInt.toNat) (by omega)])) (fun q hq => ((hw1 q hq).trans (by rw [show x80.toInt.toNat - (v7_55.toInt.toNat + 1) = (v8_68.toInt.toNat - (v7_55.toInt.toNat + 1)) + 1 by omega, bsj_st (j := v8_68.toInt.toNat) (by omega)]))) hs70 hI
                                  · skip
                                    have c75 : wh.toInt = 0 := (z_eq rfl (by decide : (0 : Int32).toInt = 0)).mp c75
                                    refine dv_iload dX8_bestSwap_104 4 rfl ?_
                                    refine dv_goto (tgt := 131) dX8_bestSwap_106 (by decide) ?_
                                    refine dv_istore (lv' := [(4, .int v6_46), (5, .int r66), (9, .int r66), (8, .int v8_68), (7, .int v7_55), (6, .int v6_46), (0, .ref 0), (1, .int b), (2, .int k), (3, .int wh)]) dX8_bestSwap_131 (by decide) rfl ?_
                                    have hst := bs1_yes (wh := wh) (L := fD44) (x := v6_46) j2_68 hs1 (by omega) (by unfold bsX; rw [if_pos (by omega)]; exact z_nI (by omega))
                                    obtain ⟨x81, ex81⟩ : ∃ y : Int32, y = v8_68 + 1 := ⟨_, rfl⟩
                                    have tx81 : x81.toInt = v8_68.toInt + 1 := by rw [ex81]; exact z_add rfl (by decide : (1 : Int32).toInt = 1) (by omega) (by omega)
                                    refine dv_iinc (v := x81) (lv' := [(8, .int x81), (4, .int v6_46), (5, .int r66), (9, .int r66), (7, .int v7_55), (6, .int v6_46), (0, .ref 0), (1, .int b), (2, .int k), (3, .int wh)]) dX8_bestSwap_133 (k := 3) rfl (by rw [ex81]; rfl) (by decide) rfl ?_
                                    refine dv_goto (tgt := 68) dX8_bestSwap_136 (by decide) ?_
                                    refine dv_sub (loc2 := [(8, .int x81), (7, .int v7_55), (6, .int v6_46), (5, .int r66), (4, .int v6_46), (0, .ref 0), (1, .int b), (2, .int k), (3, .int wh)]) [0, 4, 5, 2, 1, 6, 7, 8, 9] rfl ?_
                                    exact ih68 x81 r66 v6_46 ct59 (by omega) (by omega) (by omega) (hst.1.trans (by rw [show x81.toInt.toNat - (v7_55.toInt.toNat + 1) = (v8_68.toInt.toNat - (v7_55.toInt.toNat + 1)) + 1 by omega, bsj_st (j := v8_68.toInt.toNat) (by omega)])) (hst.2.trans (by rw [show x81.toInt.toNat - (v7_55.toInt.toNat + 1) = (v8_68.toInt.toNat - (v7_55.toInt.toNat + 1)) + 1 by omega, bsj_st (j := v8_68.toInt.toNat) (by omega)])) (fun q hq => ((hw1 q hq).trans (by rw [show x81.toInt.toNat - (v7_55.toInt.toNat + 1) = (v8_68.toInt.toNat - (v7_55.toInt.toNat + 1)) + 1 by omega, bsj_st (j := v8_68.toInt.toNat) (by omega)]))) hs70 hI
                          exact loop68 ((8 - x55.toInt : Int).toNat + 1) x55 v5_55 v4_55 ct52 (by omega) (by first | omega | decide | (have hz0 : (0 : Int32).toInt = 0 := (by decide); have hz1 : (1 : Int32).toInt = 1 := (by decide); omega)) (by omega) (j0_55.trans (by rw [show x55.toInt.toNat - (v7_55.toInt.toNat + 1) = 0 by omega]; rfl)) (j1_55.trans (by rw [show x55.toInt.toNat - (v7_55.toInt.toNat + 1) = 0 by omega]; rfl)) (fun q hq => ((j2_55 q hq).trans (by rw [show x55.toInt.toNat - (v7_55.toInt.toNat + 1) = 0 by omega]; rfl))) kp11_55 hI
                    exact loop55 ((8 - (0 : Int32).toInt : Int).toNat + 1) (0 : Int32) v5_46 v4_46 ct50 (by omega) (by first | omega | decide | (have hz0 : (0 : Int32).toInt = 0 := (by decide); have hz1 : (1 : Int32).toInt = 1 := (by decide); omega)) j0_46 j1_46 j2_46 kp11_46 hI
              exact loop46 ((4 - (0 : Int32).toInt : Int).toNat + 1) (0 : Int32) (-1 : Int32) (-2 : Int32) ct32 (by omega) (by first | omega | decide | (have hz0 : (0 : Int32).toInt = 0 := (by decide); have hz1 : (1 : Int32).toInt = 1 := (by decide); omega)) rfl rfl hb0 hs49 hI
            · skip
              exact absurd c25 (by decide)
          · skip
            obtain ⟨rfl, h82⟩ := hr21
            have h82 : ¬ ((0 : Int) ≤ wh.toInt ∧ wh.toInt ≤ (3 : Int)) := h82
            refine dv_if_ne (tgt := 26) dX8_bestSwap_21 (by decide) (fun c83 => ?_) (fun c83 => ?_)
            · skip
              exact absurd c83 (by decide)
            · skip
              refine dv_iconst (v := (-1)) dX8_bestSwap_24 (by decide) ?_
              have q84 : ((-1) : Int32).toInt = -1 := by decide
              exact dv_iret dX8_bestSwap_25 rfl (by first | exact Nat.zero_le _ | decide) (by first | exact Nat.zero_le _ | decide) (by subst hK; exact ⟨(-1), rfl, (⟨by unfold qSwp; rw [if_neg (fun q => by have q1 := q.1; have q2 := q.2.1; have q3 := q.2.2.1; have q4 := q.2.2.2.1; have q5 := q.2.2.2.2.1; have q6 := q.2.2.2.2.2; omega)], trivial⟩), hI, (fun q hq => by unfold qSwW; rw [if_neg (fun q => by have q1 := q.1; have q2 := q.2.1; have q3 := q.2.2.1; have q4 := q.2.2.2.1; have q5 := q.2.2.2.2.1; have q6 := q.2.2.2.2.2; omega)]; exact (cln_o q hq).symm)⟩)
      · skip
        obtain ⟨rfl, h85⟩ := hr15
        have h85 : ¬ (1 ≤ k.toInt ∧ k.toInt ≤ 16) := h85
        refine dv_if_eq (tgt := 24) dX8_bestSwap_12 (by decide) (fun c86 => ?_) (fun c86 => ?_)
        · skip
          refine dv_iconst (v := (-1)) dX8_bestSwap_24 (by decide) ?_
          have q87 : ((-1) : Int32).toInt = -1 := by decide
          exact dv_iret dX8_bestSwap_25 rfl (by first | exact Nat.zero_le _ | decide) (by first | exact Nat.zero_le _ | decide) (by subst hK; exact ⟨(-1), rfl, (⟨by unfold qSwp; rw [if_neg (fun q => by have q1 := q.1; have q2 := q.2.1; have q3 := q.2.2.1; have q4 := q.2.2.2.1; have q5 := q.2.2.2.2.1; have q6 := q.2.2.2.2.2; omega)], trivial⟩), hI, (fun q hq => by unfold qSwW; rw [if_neg (fun q => by have q1 := q.1; have q2 := q.2.1; have q3 := q.2.2.1; have q4 := q.2.2.2.1; have q5 := q.2.2.2.2.1; have q6 := q.2.2.2.2.2; omega)]; exact (cln_o q hq).symm)⟩)
        · skip
          exact absurd c86 (by decide)
  · skip
    obtain ⟨rfl, h88⟩ := hr8
    have h88 : ¬ (0 ≤ b.toInt ∧ b.toInt < (bkF ct).toInt) := h88
    refine dv_if_eq (tgt := 24) dX8_bestSwap_5 (by decide) (fun c89 => ?_) (fun c89 => ?_)
    · skip
      refine dv_iconst (v := (-1)) dX8_bestSwap_24 (by decide) ?_
      have q90 : ((-1) : Int32).toInt = -1 := by decide
      exact dv_iret dX8_bestSwap_25 rfl (by first | exact Nat.zero_le _ | decide) (by first | exact Nat.zero_le _ | decide) (by subst hK; exact ⟨(-1), rfl, (⟨by unfold qSwp; rw [if_neg (fun q => by have q1 := q.1; have q2 := q.2.1; have q3 := q.2.2.1; have q4 := q.2.2.2.1; have q5 := q.2.2.2.2.1; have q6 := q.2.2.2.2.2; omega)], trivial⟩), hI, (fun q hq => by unfold qSwW; rw [if_neg (fun q => by have q1 := q.1; have q2 := q.2.1; have q3 := q.2.2.1; have q4 := q.2.2.2.1; have q5 := q.2.2.2.2.1; have q6 := q.2.2.2.2.2; omega)]; exact (cln_o q hq).symm)⟩)
    · skip
      exact absurd c89 (by decide)
