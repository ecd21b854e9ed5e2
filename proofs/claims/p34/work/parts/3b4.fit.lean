set_option maxHeartbeats 4000000 in
set_option maxRecDepth 100000 in
theorem f_layOut (l : Launch) (g : zG) (pe : Int32) (ct : Nat → va_E) (b : Int32) (op : Int32) (hl_b : 0 ≤ b.toInt ∧ b.toInt ≤ 3) (hl_op : 0 ≤ op.toInt ∧ op.toInt ≤ 15) (hI : Inv8 g idn pe ct) : DM l g pAll false yX8_layOut cX8_layOut 5 none ({ frames := 3, cells := 0, slots := 0, locals := 66 }) (fun (ct2 : Nat → va_E) (rr : Option Value) => rr = none ∧ Inv8 g idn pe ct2 ∧ (∀ k, ¬ dIn pM k → ct2 k = ct k) ∧ (∃ fD2 : Nat → Int32, ct2 11 = .inl (g.2 0, 8, .inl fD2) ∧ ∀ j, j < 8 → fD2 j = LDF l g pe ct b op j) ∧ (ct2 10 = ct 10) ∧ (ct2 12 = ct 12) ∧ (ct2 13 = ct 13) ∧ (ct2 14 = ct 14) ∧ (ct2 15 = ct 15) ∧ (ct2 16 = ct 16)) ct [.ref 0, .int b, .int op] := by
  refine DM.K (fun K hK => ?_)
  refine GW.met (own := RX8) (loc := [(0, .ref 0), (1, .int b), (2, .int op)]) (by decide) rfl rfl (Nat.le_of_ble_eq_true rfl) ?_
  have hpe0 := hI.1
  have hof : ∀ k, ¬ dIn pM k → ct k = ct k := fun _ _ => rfl
  have hc10 : ct 10 = ct 10 := rfl
  have hc12 : ct 12 = ct 12 := rfl
  have hc13 : ct 13 = ct 13 := rfl
  have hc14 : ct 14 = ct 14 := rfl
  have hc15 : ct 15 = ct 15 := rfl
  have hc16 : ct 16 = ct 16 := rfl
  obtain ⟨bk3, dr2, h4, h5, h6, hs1⟩ := a8_0 hI
  have hzb : (bkF ct).toInt = bk3.toInt := by unfold bkF; rw [hs1]; rfl
  refine dv_iconst (v := 0) dX8_layOut_0 (by decide) ?_
  refine dv_istore_n (lv' := [(3, .int 0), (0, .ref 0), (1, .int b), (2, .int op)]) dX8_layOut_1 rfl (by decide) rfl ?_
  refine dv_iconst (v := 0) dX8_layOut_2 (by decide) ?_
  refine dv_istore (lv' := [(4, .int 0), (3, .int 0), (0, .ref 0), (1, .int b), (2, .int op)]) dX8_layOut_3 (by decide) rfl ?_
  have loop5 : ∀ (n5 : Nat) (v4_5 : Int32) (v3_5 : Int32) (ct7 : Nat → va_E), ((4 - v4_5.toInt : Int).toNat < n5) → (0 ≤ v4_5.toInt ∧ v4_5.toInt ≤ 4) → (v4_5.toInt ≤ (bkF ct).toInt) → (v3_5 = alS ct op v4_5.toInt.toNat) → (ct7 10 = ct 10) → (ct7 12 = ct 12) → (ct7 13 = ct 13) → (ct7 14 = ct 14) → (ct7 15 = ct 15) → (ct7 16 = ct 16) → (∀ k, ¬ dIn pM k → ct7 k = ct k) → (Inv8 g idn pe ct7) → GW l g pAll pAll false yX8_layOut cX8_layOut 5 none RX8 ({ frames := 3, cells := 0, slots := 0, locals := 66 }) K 0 0 ct7 5 [(4, .int v4_5), (3, .int v3_5), (0, .ref 0), (1, .int b), (2, .int op)] [] := by
    intro n5
    induction n5 with
    | zero =>
      intro v4_5 v3_5 ct7 hn5 b4_5 j0_5 j1_5 hc10 hc12 hc13 hc14 hc15 hc16 hof hI
      exact absurd hn5 (Nat.not_lt_zero _)
    | succ n5 ih5 =>
      intro v4_5 v3_5 ct7 hn5 b4_5 j0_5 j1_5 hc10 hc12 hc13 hc14 hc15 hc16 hof hI
      obtain ⟨bk10, dr9, h11, h12, h13, hs8⟩ := a8_0 hI
      have hzb : (bkF ct).toInt = bk10.toInt := by rw [← bkF_o hof]; unfold bkF; rw [hs8]; rfl
      refine dv_iload dX8_layOut_5 0 rfl ?_
      refine dv_aload_n dX8_layOut_7 rfl 2 rfl ?_
      refine dv_get (ci := 8) (v := .int bk10) (C := RX8) (T := TX8) (N := 13) ⟨by decide, rfl⟩ hs8 rfl inG8 12 (by decide) mm_315 rfl dX8_layOut_8 ?_
      refine dv_icmp_ge (tgt := 50) dX8_layOut_11 (by decide) (fun c14 => ?_) (fun c14 => ?_)
      · skip
        have c14 : bk10.toInt ≤ v4_5.toInt := (z_le rfl rfl).mp c14
        have hal : v3_5 = alS ct op (bkF ct).toInt.toNat := by rw [show (bkF ct).toInt.toNat = v4_5.toInt.toNat by omega]; exact j1_5
        refine dv_iconst (v := 0) dX8_layOut_50 (by decide) ?_
        refine dv_istore (lv' := [(4, .int 0), (3, .int v3_5), (0, .ref 0), (1, .int b), (2, .int op)]) dX8_layOut_51 (by decide) rfl ?_
        obtain ⟨f16, hs15⟩ := a8_11 hI
        have loop53 : ∀ (n53 : Nat) (v4_53 : Int32) (fN17 : Nat → Int32) (ct19 : Nat → va_E), ((8 - v4_53.toInt : Int).toNat < n53) → (0 ≤ v4_53.toInt ∧ v4_53.toInt ≤ 8) → (∀ j : Nat, j < 8 → (j : Int) < v4_53.toInt → fN17 j = LDF l g pe ct b op j) → (ct19 10 = ct 10) → (ct19 12 = ct 12) → (ct19 13 = ct 13) → (ct19 14 = ct 14) → (ct19 15 = ct 15) → (ct19 16 = ct 16) → (ct19 11 = .inl (g.2 0, 8, .inl fN17)) → (∀ k, ¬ dIn pM k → ct19 k = ct k) → (Inv8 g idn pe ct19) → GW l g pAll pAll false yX8_layOut cX8_layOut 5 none RX8 ({ frames := 3, cells := 0, slots := 0, locals := 66 }) K 0 0 ct19 53 [(4, .int v4_53), (3, .int v3_5), (0, .ref 0), (1, .int b), (2, .int op)] [] := by
          intro n53
          induction n53 with
          | zero =>
            intro v4_53 fN17 ct19 hn53 b4_53 j0_53 hc10 hc12 hc13 hc14 hc15 hc16 hq18 hof hI
            exact absurd hn53 (Nat.not_lt_zero _)
          | succ n53 ih53 =>
            intro v4_53 fN17 ct19 hn53 b4_53 j0_53 hc10 hc12 hc13 hc14 hc15 hc16 hq18 hof hI
            obtain ⟨f21, hs20⟩ := a8_11 hI
            have hs22 := hq18
            cases (hq18.symm.trans hs20)
            refine dv_iload dX8_layOut_53 0 rfl ?_
            refine dv_bipush (v := 8) dX8_layOut_55 (by decide) ?_
            refine dv_icmp_ge (tgt := 104) dX8_layOut_57 (by decide) (fun c23 => ?_) (fun c23 => ?_)
            · skip
              have c23 : 8 ≤ v4_53.toInt := (z_le (by decide : (8 : Int32).toInt = 8) rfl).mp c23
              exact dv_vret dX8_layOut_104 rfl (by first | exact Nat.zero_le _ | decide) (by first | exact Nat.zero_le _ | decide) (by subst hK; exact ⟨rfl, hI, hof, (⟨_, hs22, fun j hj => j0_53 j hj (by omega)⟩), (by assumption), (by assumption), (by assumption), (by assumption), (by assumption), (by assumption)⟩)
            · skip
              have c23 : ¬ (8 ≤ v4_53.toInt) := fun q => c23 ((z_le (by decide : (8 : Int32).toInt = 8) rfl).mpr q)
              refine dv_aload_n dX8_layOut_60 rfl 2 rfl ?_
              obtain ⟨bk26, dr25, h27, h28, h29, hs24⟩ := a8_0 hI
              refine dv_get (ci := 8) (v := .ref 10) (C := RX8) (T := TX8) (N := 13) ⟨by decide, rfl⟩ hs24 rfl inG8 6 (by decide) mm_309 rfl dX8_layOut_61 ?_
              obtain ⟨lns31, liv32, lak33, fnd34, h35, h36, h37, h38, hs30⟩ := a8_10 hI
              refine dv_get (ci := 6) (v := .ref 11) (C := RX6) (T := TX6) (N := 10) ⟨by decide, rfl⟩ hs30 rfl inG6 4 (by decide) mm_124 rfl dX8_layOut_64 ?_
              refine dv_iload dX8_layOut_67 0 rfl ?_
              refine dv_aload_n dX8_layOut_69 rfl 2 rfl ?_
              refine dv_iload_n dX8_layOut_70 rfl 3 rfl ?_
              refine dv_iload dX8_layOut_71 0 rfl ?_
              refine GW.callV (n := 2) (As := [.int b, .int v4_53]) (rest := [.int v4_53, .ref 11]) (b := 0) (f_isLive l g pe ct19 b v4_53 hI) sub_pCl_pAll rfl rfl ⟨by decide, rfl⟩ hs24 (q := (RX8, TX8, 13)) rfl mm_422 mm_424 mm_5 mm_52 mm_425 (by decide +kernel) ⟨Nat.le_of_ble_eq_true rfl, Nat.le_of_ble_eq_true rfl⟩ rfl (Nat.le_of_ble_eq_true rfl) dX8_layOut_73 (Nat.zero_le _) (Nat.zero_le _) rfl (fun ct39 rrr40 hBr40 hoff41 => ?_)
              obtain ⟨r40, rfl, hr40, rfl⟩ := hBr40
              refine GW.eq (S2 := [.int r40, .int v4_53, .ref 11]) rfl rfl rfl ?_
              rcases hr40 with hr40 | hr40
              · skip
                obtain ⟨rfl, h42, h43, h44, h45⟩ := hr40
                have h42 : LIV ct19 b v4_53 = true := h42
                have h43 : 0 ≤ b.toInt ∧ b.toInt ≤ 3 := h43
                have h44 : 0 ≤ v4_53.toInt ∧ v4_53.toInt ≤ 7 := h44
                have h45 : LIN ct19 b v4_53 = true := h45
                refine dv_if_eq (tgt := 96) dX8_layOut_76 (by decide) (fun c46 => ?_) (fun c46 => ?_)
                · skip
                  exact absurd c46 (by decide)
                · skip
                  have hli : LIV ct b (nI v4_53.toInt.toNat) = true := by
                    rw [← z_nI (x := v4_53) (k := v4_53.toInt.toNat) (by omega), ← LIV_o hof]
                    assumption
                  have hof0 := hof
                  refine dv_aload_n dX8_layOut_79 rfl 2 rfl ?_
                  refine dv_get (ci := 8) (v := .ref 6) (C := RX8) (T := TX8) (N := 13) ⟨by decide, rfl⟩ hs24 rfl inG8 4 (by decide) mm_307 rfl dX8_layOut_80 ?_
                  refine dv_iload_n dX8_layOut_83 rfl 3 rfl ?_
                  refine dv_iload dX8_layOut_84 0 rfl ?_
                  refine GW.callS (n := 2) (As := [.int b, .int v4_53]) (rest := [.ref 6, .int v4_53, .ref 11]) (f_place l g pe ct19 b v4_53 (by first | omega | decide) (by first | omega | decide) hI) (fun _ h => Bool.noConfusion h) rfl rfl mm_442 mm_443 mm_52 mm_444 (by decide +kernel) ⟨Nat.le_of_ble_eq_true rfl, Nat.le_of_ble_eq_true rfl⟩ rfl (Nat.le_of_ble_eq_true rfl) dX8_layOut_86 (Nat.zero_le _) (Nat.zero_le _) rfl (fun ct47 rrr48 hBr48 hoff49 => ?_)
                  obtain ⟨r48, rfl, hr48, rfl⟩ := hBr48
                  refine GW.eq (S2 := [.int r48, .ref 6, .int v4_53, .ref 11]) rfl rfl rfl ?_
                  have h50 := hr48
                  have h50 : r48.toInt = 8 * b.toInt + v4_53.toInt := h50
                  refine dv_iload_n dX8_layOut_89 rfl 1 rfl ?_
                  obtain ⟨num53, h54, h55, hs52⟩ := a8_6 hI
                  refine GW.callV (n := 2) (As := [.int r48, .int v3_5]) (rest := [.int v4_53, .ref 11]) (b := 6) (eReach_s l g pe ct19 r48 v3_5 hI) sub_pL_pAll rfl rfl ⟨by decide, rfl⟩ hs52 (q := (RX5, TX5, 3)) rfl mm_445 mm_446 mm_447 mm_54 mm_448 (by decide +kernel) ⟨Nat.le_of_ble_eq_true rfl, Nat.le_of_ble_eq_true rfl⟩ rfl (Nat.le_of_ble_eq_true rfl) dX8_layOut_90 (Nat.zero_le _) (Nat.zero_le _) rfl (fun ct51 rrr56 hBr56 hoff57 => ?_)
                  obtain ⟨r56, rfl, hr56, rfl⟩ := hBr56
                  refine GW.eq (S2 := [.int r56, .int v4_53, .ref 11]) rfl rfl rfl ?_
                  obtain ⟨h58, h59⟩ := hr56
                  have h58 : r56 = eReach l g pe ct19 r48 v3_5 := h58
                  have h59 : True := h59
                  refine dv_goto (tgt := 97) dX8_layOut_93 (by decide) ?_
                  refine dv_iast 0 ⟨by decide, rfl⟩ hs22 rfl (z_in rfl (by omega) (by omega)) dX8_layOut_97 (en := .inl (g.2 0, 8, .inl (upd fN17 (Int32.toNatClampNeg v4_53) r56))) rfl (fun ct60 ec61 => ?_)
                  have hI : Inv8 g idn pe ct60 := by rw [ec61]; exact up8 hI (i8_11 ⟨_, rfl⟩)
                  have hc10 : ct60 10 = ct 10 := by rw [ec61]; exact (va_up_ne _ _ (by omega)).trans hc10
                  have hc12 : ct60 12 = ct 12 := by rw [ec61]; exact (va_up_ne _ _ (by omega)).trans hc12
                  have hc13 : ct60 13 = ct 13 := by rw [ec61]; exact (va_up_ne _ _ (by omega)).trans hc13
                  have hc14 : ct60 14 = ct 14 := by rw [ec61]; exact (va_up_ne _ _ (by omega)).trans hc14
                  have hc15 : ct60 15 = ct 15 := by rw [ec61]; exact (va_up_ne _ _ (by omega)).trans hc15
                  have hc16 : ct60 16 = ct 16 := by rw [ec61]; exact (va_up_ne _ _ (by omega)).trans hc16
                  have hof : ∀ k, ¬ dIn pM k → ct60 k = ct k := fun k hk => by rw [ec61]; exact (va_up_ne _ _ (fun e => hk (by rw [e]; exact ⟨by decide, rfl⟩))).trans (hof k hk)
                  have hs62 : ct60 0 = .inr (8, [.ref 1, .ref 2, .ref 3, .ref 5, .ref 6, .ref 9, .ref 10, .ref 17, .ref 21, .ref 34, .ref (99 + 3 * dr25), .int pe, .int bk26]) := by rw [ec61, va_up_ne _ _ (by omega)]; exact hs24
                  have hs63 : ct60 10 = .inr (6, [.int lns31, .int liv32, .int lak33, .int fnd34, .ref 11, .ref 12, .ref 13, .ref 14, .ref 15, .ref 16]) := by rw [ec61, va_up_ne _ _ (by omega)]; exact hs30
                  have hs64 : ct60 6 = .inr (5, [.int num53, .ref 7, .ref 8]) := by rw [ec61, va_up_ne _ _ (by omega)]; exact hs52
                  have hs65 : ct60 11 = .inl (g.2 0, 8, .inl (upd fN17 (Int32.toNatClampNeg v4_53) r56)) := by rw [ec61]; exact va_up_self _ _ _
                  have hld : ∀ j : Nat, j < 8 → (j : Int) < v4_53.toInt + 1 → ((upd fN17 (Int32.toNatClampNeg v4_53) r56)) j = LDF l g pe ct b op j := fun j h8 hj => by
                    unfold upd
                    by_cases q : j = Int32.toNatClampNeg v4_53
                    · rw [if_pos q]
                      have qj : j = v4_53.toInt.toNat := by have := z_clI (x := v4_53) (by omega); omega
                      rw [qj]
                      exact ((if_pos hli).trans (by rw [← hal]; exact (congrArg (fun z => eReach l g pe ct z _) (z_nI (x := r48) (k := 8 * b.toInt.toNat + v4_53.toInt.toNat) (by omega)).symm).trans ((eReach_o hof0).symm.trans (Eq.symm h58)))).symm
                    · rw [if_neg q]
                      exact j0_53 j h8 (by have := z_clI (x := v4_53) (by omega); omega)
                  obtain ⟨x66, ex66⟩ : ∃ y : Int32, y = v4_53 + 1 := ⟨_, rfl⟩
                  have tx66 : x66.toInt = v4_53.toInt + 1 := by rw [ex66]; exact z_add rfl (by decide : (1 : Int32).toInt = 1) (by omega) (by omega)
                  refine dv_iinc (v := x66) (lv' := [(4, .int x66), (3, .int v3_5), (0, .ref 0), (1, .int b), (2, .int op)]) dX8_layOut_98 (k := 0) rfl (by rw [ex66]; rfl) (by decide) rfl ?_
                  refine dv_goto (tgt := 53) dX8_layOut_101 (by decide) ?_
                  exact ih53 x66 (upd fN17 (Int32.toNatClampNeg v4_53) r56) ct60 (by omega) (by omega) (fun j h8 hj => hld j h8 (by omega)) hc10 hc12 hc13 hc14 hc15 hc16 hs65 hof hI
              · skip
                obtain ⟨rfl, h67⟩ := hr40
                have h67 : LIV ct19 b v4_53 = false := h67
                refine dv_if_eq (tgt := 96) dX8_layOut_76 (by decide) (fun c68 => ?_) (fun c68 => ?_)
                · skip
                  have hnl : LIV ct b (nI v4_53.toInt.toNat) = false := by
                    rw [← z_nI (x := v4_53) (k := v4_53.toInt.toNat) (by omega), ← LIV_o hof]
                    assumption
                  refine dv_iconst (v := 0) dX8_layOut_96 (by decide) ?_
                  refine dv_iast 0 ⟨by decide, rfl⟩ hs22 rfl (z_in rfl (by omega) (by omega)) dX8_layOut_97 (en := .inl (g.2 0, 8, .inl (upd fN17 (Int32.toNatClampNeg v4_53) 0))) rfl (fun ct69 ec70 => ?_)
                  have hI : Inv8 g idn pe ct69 := by rw [ec70]; exact up8 hI (i8_11 ⟨_, rfl⟩)
                  have hc10 : ct69 10 = ct 10 := by rw [ec70]; exact (va_up_ne _ _ (by omega)).trans hc10
                  have hc12 : ct69 12 = ct 12 := by rw [ec70]; exact (va_up_ne _ _ (by omega)).trans hc12
                  have hc13 : ct69 13 = ct 13 := by rw [ec70]; exact (va_up_ne _ _ (by omega)).trans hc13
                  have hc14 : ct69 14 = ct 14 := by rw [ec70]; exact (va_up_ne _ _ (by omega)).trans hc14
                  have hc15 : ct69 15 = ct 15 := by rw [ec70]; exact (va_up_ne _ _ (by omega)).trans hc15
                  have hc16 : ct69 16 = ct 16 := by rw [ec70]; exact (va_up_ne _ _ (by omega)).trans hc16
                  have hof : ∀ k, ¬ dIn pM k → ct69 k = ct k := fun k hk => by rw [ec70]; exact (va_up_ne _ _ (fun e => hk (by rw [e]; exact ⟨by decide, rfl⟩))).trans (hof k hk)
                  have hs71 : ct69 0 = .inr (8, [.ref 1, .ref 2, .ref 3, .ref 5, .ref 6, .ref 9, .ref 10, .ref 17, .ref 21, .ref 34, .ref (99 + 3 * dr25), .int pe, .int bk26]) := by rw [ec70, va_up_ne _ _ (by omega)]; exact hs24
                  have hs72 : ct69 10 = .inr (6, [.int lns31, .int liv32, .int lak33, .int fnd34, .ref 11, .ref 12, .ref 13, .ref 14, .ref 15, .ref 16]) := by rw [ec70, va_up_ne _ _ (by omega)]; exact hs30
                  have hs73 : ct69 11 = .inl (g.2 0, 8, .inl (upd fN17 (Int32.toNatClampNeg v4_53) 0)) := by rw [ec70]; exact va_up_self _ _ _
                  have hld : ∀ j : Nat, j < 8 → (j : Int) < v4_53.toInt + 1 → ((upd fN17 (Int32.toNatClampNeg v4_53) 0)) j = LDF l g pe ct b op j := fun j h8 hj => by
                    unfold upd
                    by_cases q : j = Int32.toNatClampNeg v4_53
                    · rw [if_pos q]
                      have qj : j = v4_53.toInt.toNat := by have := z_clI (x := v4_53) (by omega); omega
                      rw [qj]
                      exact (if_neg (by rw [hnl]; decide)).symm
                    · rw [if_neg q]
                      exact j0_53 j h8 (by have := z_clI (x := v4_53) (by omega); omega)
                  obtain ⟨x74, ex74⟩ : ∃ y : Int32, y = v4_53 + 1 := ⟨_, rfl⟩
                  have tx74 : x74.toInt = v4_53.toInt + 1 := by rw [ex74]; exact z_add rfl (by decide : (1 : Int32).toInt = 1) (by omega) (by omega)
                  refine dv_iinc (v := x74) (lv' := [(4, .int x74), (3, .int v3_5), (0, .ref 0), (1, .int b), (2, .int op)]) dX8_layOut_98 (k := 0) rfl (by rw [ex74]; rfl) (by decide) rfl ?_
                  refine dv_goto (tgt := 53) dX8_layOut_101 (by decide) ?_
                  exact ih53 x74 (upd fN17 (Int32.toNatClampNeg v4_53) 0) ct69 (by omega) (by omega) (fun j h8 hj => hld j h8 (by omega)) hc10 hc12 hc13 hc14 hc15 hc16 hs73 hof hI
                · skip
                  exact absurd c68 (by decide)
        exact loop53 ((8 - (0 : Int32).toInt : Int).toNat + 1) (0 : Int32) f16 ct7 (by omega) (by first | omega | decide | (have hz0 : (0 : Int32).toInt = 0 := (by decide); have hz1 : (1 : Int32).toInt = 1 := (by decide); omega)) (fun j _ hj => absurd hj (by have := (by decide : (0 : Int32).toInt = 0); omega)) hc10 hc12 hc13 hc14 hc15 hc16 hs15 hof hI
      · skip
        have c14 : ¬ (bk10.toInt ≤ v4_5.toInt) := fun q => c14 ((z_le rfl rfl).mpr q)
        refine dv_iload_n dX8_layOut_14 rfl 4 rfl ?_
        refine dv_iload dX8_layOut_15 0 rfl ?_
        refine dv_ishr dX8_layOut_17 ?_
        refine dv_topi (fun x75 ex75 => ?_)
        have tx75 := z_shr (x := op) rfl (by omega) v4_5
        rw [← ex75] at tx75
        refine dv_iconst (v := 1) dX8_layOut_18 (by decide) ?_
        refine dv_iand dX8_layOut_19 ?_
        refine dv_topi (fun x76 ex76 => ?_)
        have tx76 := z_andr (x := x75) (y := 1) (by decide : (1 : Int32).toInt = 1) (by omega)
        rw [← ex76] at tx76
        refine dv_iconst (v := 1) dX8_layOut_20 (by decide) ?_
        refine dv_icmp_ne (tgt := 44) dX8_layOut_21 (by decide) (fun c77 => ?_) (fun c77 => ?_)
        · skip
          have c77 : ¬ (x76.toInt = 1) := fun q => c77 ((z_eq rfl (by decide : (1 : Int32).toInt = 1)).mpr q)
          have hob : ib op (v4_5.toInt.toNat) = false := by
            rcases zb_ask (x := op) (y := v4_5) (p := v4_5.toInt.toNat) (by omega) (by omega) (by omega) (ex76.trans (by rw [ex75])) with ⟨q1, q2⟩ | ⟨q1, q2⟩
            · first | exact q2 | (exfalso; omega)
            · first | exact q2 | (exfalso; omega)
          obtain ⟨x78, ex78⟩ : ∃ y : Int32, y = v4_5 + 1 := ⟨_, rfl⟩
          have tx78 : x78.toInt = v4_5.toInt + 1 := by rw [ex78]; exact z_add rfl (by decide : (1 : Int32).toInt = 1) (by omega) (by omega)
          refine dv_iinc (v := x78) (lv' := [(4, .int x78), (3, .int v3_5), (0, .ref 0), (1, .int b), (2, .int op)]) dX8_layOut_44 (k := 0) rfl (by rw [ex78]; rfl) (by decide) rfl ?_
          refine dv_goto (tgt := 5) dX8_layOut_47 (by decide) ?_
          exact ih5 x78 v3_5 ct7 (by omega) (by omega) (by omega) (by rw [show x78.toInt.toNat = v4_5.toInt.toNat + 1 by omega]; show _ = (if ib op (v4_5.toInt.toNat) = true then _ else _); rw [if_neg (by rw [hob]; decide)]; exact j1_5) hc10 hc12 hc13 hc14 hc15 hc16 hof hI
        · skip
          have c77 : x76.toInt = 1 := (z_eq rfl (by decide : (1 : Int32).toInt = 1)).mp c77
          have hob : ib op (v4_5.toInt.toNat) = true := by
            rcases zb_ask (x := op) (y := v4_5) (p := v4_5.toInt.toNat) (by omega) (by omega) (by omega) (ex76.trans (by rw [ex75])) with ⟨q1, q2⟩ | ⟨q1, q2⟩
            · first | exact q2 | (exfalso; omega)
            · first | exact q2 | (exfalso; omega)
          refine dv_iload_n dX8_layOut_24 rfl 1 rfl ?_
          refine dv_aload_n dX8_layOut_25 rfl 2 rfl ?_
          refine dv_get (ci := 8) (v := .ref 5) (C := RX8) (T := TX8) (N := 13) ⟨by decide, rfl⟩ hs8 rfl inG8 3 (by decide) mm_306 rfl dX8_layOut_26 ?_
          refine dv_iload dX8_layOut_29 0 rfl ?_
          have hs79 := a8_5 hI
          refine dv_aldq 5 ⟨by decide, rfl⟩ hs79 rfl (z_in rfl (by omega) (by omega)) dX8_layOut_31 (r := (0 + 55 + 11 * v4_5.toInt.toNat)) (zF5_r (x := v4_5) (by omega) (by omega)) ?_
          obtain ⟨lns81, liv82, shw83, h84, h85, h86, h87, hz88, h89, hs80⟩ := a8_40 (kc := (0 + 55 + 11 * v4_5.toInt.toNat)) (by omega) hI
          have bhz88 := z_b01 hz88
          have hln : (lnF ct v4_5.toInt.toNat) = lns81 := by rw [← lnF_o hof]; unfold lnF; rw [hs80]; rfl
          have hlv : (lvF ct v4_5.toInt.toNat) = liv82 := by rw [← lvF_o hof]; unfold lvF; rw [hs80]; rfl
          refine dv_get (ci := 2) (v := .int liv82) (C := RX2) (T := TX2) (N := 5) ⟨by omega, pAll_of (by omega)⟩ hs80 rfl inG2 1 (by decide) mm_287 rfl dX8_layOut_32 ?_
          refine dv_iload dX8_layOut_35 0 rfl ?_
          refine dv_iconst (v := 0) dX8_layOut_37 (by decide) ?_
          refine GW.callS (n := 2) (As := [.int v4_5, .int 0]) (rest := [.int liv82, .int v3_5]) (f_place l g pe ct7 v4_5 (0 : Int32) (by first | omega | decide) (by first | omega | decide) hI) (fun _ h => Bool.noConfusion h) rfl rfl mm_442 mm_443 mm_52 mm_444 (by decide +kernel) ⟨Nat.le_of_ble_eq_true rfl, Nat.le_of_ble_eq_true rfl⟩ rfl (Nat.le_of_ble_eq_true rfl) dX8_layOut_38 (Nat.zero_le _) (Nat.zero_le _) rfl (fun ct90 rrr91 hBr91 hoff92 => ?_)
          obtain ⟨r91, rfl, hr91, rfl⟩ := hBr91
          refine GW.eq (S2 := [.int r91, .int liv82, .int v3_5]) rfl rfl rfl ?_
          have h93 := hr91
          have h93 : r91.toInt = 8 * v4_5.toInt + (0 : Int) := h93
          refine dv_ishl dX8_layOut_41 ?_
          refine dv_topi (fun x94 ex94 => ?_)
          refine dv_ior dX8_layOut_42 ?_
          refine dv_topi (fun x95 ex95 => ?_)
          refine dv_istore_n (lv' := [(3, .int x95), (4, .int v4_5), (0, .ref 0), (1, .int b), (2, .int op)]) dX8_layOut_43 rfl (by decide) rfl ?_
          obtain ⟨x96, ex96⟩ : ∃ y : Int32, y = v4_5 + 1 := ⟨_, rfl⟩
          have tx96 : x96.toInt = v4_5.toInt + 1 := by rw [ex96]; exact z_add rfl (by decide : (1 : Int32).toInt = 1) (by omega) (by omega)
          refine dv_iinc (v := x96) (lv' := [(4, .int x96), (3, .int x95), (0, .ref 0), (1, .int b), (2, .int op)]) dX8_layOut_44 (k := 1) rfl (by rw [ex96]; rfl) (by decide) rfl ?_
          refine dv_goto (tgt := 5) dX8_layOut_47 (by decide) ?_
          exact ih5 x96 x95 ct7 (by omega) (by omega) (by omega) (by rw [show x96.toInt.toNat = v4_5.toInt.toNat + 1 by omega]; show _ = (if ib op (v4_5.toInt.toNat) = true then _ else _); rw [if_pos hob, ← j1_5, hlv, ex95, ex94, ← z_nI (x := r91) (k := 8 * v4_5.toInt.toNat) (by omega)]) hc10 hc12 hc13 hc14 hc15 hc16 hof hI
  exact loop5 ((4 - (0 : Int32).toInt : Int).toNat + 1) (0 : Int32) (0 : Int32) ct (by omega) (by first | omega | decide | (have hz0 : (0 : Int32).toInt = 0 := (by decide); have hz1 : (1 : Int32).toInt = 1 := (by decide); omega)) (by first | omega | decide | (have hz0 : (0 : Int32).toInt = 0 := (by decide); have hz1 : (1 : Int32).toInt = 1 := (by decide); omega)) rfl hc10 hc12 hc13 hc14 hc15 hc16 hof hI

set_option maxHeartbeats 4000000 in
set_option maxRecDepth 100000 in
theorem f_fitLaid (l : Launch) (g : zG) (pe : Int32) (ct : Nat → va_E) (b : Int32) (kn : Int32) (fD : Nat → Int32) (hl_b : 0 ≤ b.toInt ∧ b.toInt ≤ 3) (hl_kn : 0 ≤ kn.toInt ∧ kn.toInt ≤ 255) (hI : Inv8 g idn pe ct) (h11 : ct 11 = .inl (g.2 0, 8, .inl fD)) : DM l g pAll false yX8_fitLaid cX8_fitLaid 4 none ({ frames := 3, cells := 0, slots := 0, locals := 72 }) (fun (ct2 : Nat → va_E) (rr : Option Value) => rr = none ∧ Inv8 g idn pe ct2 ∧ (∀ k, ¬ dIn pM k → ct2 k = ct k) ∧ (∃ lk fd : Int32, ct2 10 = .inr (6, [.int (lnF ct b.toInt.toNat), .int (lvF ct b.toInt.toNat), .int lk, .int fd, .ref 11, .ref 12, .ref 13, .ref 14, .ref 15, .ref 16])) ∧ (∃ fF2 : Nat → Int32, ct2 12 = .inl (g.2 0, 8, .inl fF2) ∧ ∀ j, j < 8 → fF2 j = FTL l g pe ct b kn fD j) ∧ (ct2 11 = ct 11) ∧ (ct2 13 = ct 13) ∧ (ct2 14 = ct 14) ∧ (ct2 15 = ct 15) ∧ (ct2 16 = ct 16)) ct [.ref 0, .int b, .int kn] := by
  refine DM.K (fun K hK => ?_)
  refine GW.met (own := RX8) (loc := [(0, .ref 0), (1, .int b), (2, .int kn)]) (by decide) rfl rfl (Nat.le_of_ble_eq_true rfl) ?_
  have hpe0 := hI.1
  obtain ⟨f2, hs1⟩ := a8_11 hI
  have hs3 := h11
  cases (h11.symm.trans hs1)
  have hof : ∀ k, ¬ dIn pM k → ct k = ct k := fun _ _ => rfl
  have hc11 : ct 11 = ct 11 := rfl
  have hc13 : ct 13 = ct 13 := rfl
  have hc14 : ct 14 = ct 14 := rfl
  have hc15 : ct 15 = ct 15 := rfl
  have hc16 : ct 16 = ct 16 := rfl
  obtain ⟨bk6, dr5, h7, h8, h9, hs4⟩ := a8_0 hI
  have hzb : (bkF ct).toInt = bk6.toInt := by unfold bkF; rw [hs4]; rfl
  obtain ⟨lns11, liv12, shw13, h14, h15, h16, h17, hz18, h19, hs10⟩ := a8_40 (kc := (0 + 55 + 11 * b.toInt.toNat)) (by omega) hI
  have bhz18 := z_b01 hz18
  have hln : (lnF ct b.toInt.toNat) = lns11 := by unfold lnF; rw [hs10]; rfl
  have hlv : (lvF ct b.toInt.toNat) = liv12 := by unfold lvF; rw [hs10]; rfl
  have hI0 := hI
  refine dv_aload_n dX8_fitLaid_0 rfl 0 rfl ?_
  refine dv_get (ci := 8) (v := .ref 10) (C := RX8) (T := TX8) (N := 13) ⟨by decide, rfl⟩ hs4 rfl inG8 6 (by decide) mm_309 rfl dX8_fitLaid_1 ?_
  refine dv_aload_n dX8_fitLaid_4 rfl 0 rfl ?_
  refine dv_get (ci := 8) (v := .ref 5) (C := RX8) (T := TX8) (N := 13) ⟨by decide, rfl⟩ hs4 rfl inG8 3 (by decide) mm_306 rfl dX8_fitLaid_5 ?_
  refine dv_iload_n dX8_fitLaid_8 rfl 1 rfl ?_
  have hs20 := a8_5 hI
  refine dv_aldq 5 ⟨by decide, rfl⟩ hs20 rfl (z_in rfl (by omega) (by omega)) dX8_fitLaid_9 (r := (0 + 55 + 11 * b.toInt.toNat)) (zF5_r (x := b) (by omega) (by omega)) ?_
  refine dv_get (ci := 2) (v := .int lns11) (C := RX2) (T := TX2) (N := 5) ⟨by omega, pAll_of (by omega)⟩ hs10 rfl inG2 0 (by decide) mm_285 rfl dX8_fitLaid_10 ?_
  obtain ⟨lns22, liv23, lak24, fnd25, h26, h27, h28, h29, hs21⟩ := a8_10 hI
  refine dv_put (ci := 6) (v := .int lns11) (ty := .int) (C := RX6) (T := TX6) (N := 10) ⟨by decide, rfl⟩ hs21 rfl inG6 tyX6 tyX6_ok nmX6 0 (by decide) mm_116 rfl (by decide +kernel) (fun _ => rfl) (fun _ => rfl) (Nat.le_of_ble_eq_true rfl) dX8_fitLaid_13 (en := .inr (6, [.int lns11, .int liv23, .int lak24, .int fnd25, .ref 11, .ref 12, .ref 13, .ref 14, .ref 15, .ref 16])) rfl (fun ct30 ec31 => ?_)
  have hI : Inv8 g idn pe ct30 := by rw [ec31]; exact up8 hI (i8_10 ⟨(lns11 : Int32), (liv23 : Int32), (lak24 : Int32), (fnd25 : Int32), (by first | omega | decide), (by first | omega | decide), (by first | omega | decide), (by first | omega | decide), rfl⟩)
  have hc11 : ct30 11 = ct 11 := by rw [ec31]; exact (va_up_ne _ _ (by omega)).trans hc11
  have hc13 : ct30 13 = ct 13 := by rw [ec31]; exact (va_up_ne _ _ (by omega)).trans hc13
  have hc14 : ct30 14 = ct 14 := by rw [ec31]; exact (va_up_ne _ _ (by omega)).trans hc14
  have hc15 : ct30 15 = ct 15 := by rw [ec31]; exact (va_up_ne _ _ (by omega)).trans hc15
  have hc16 : ct30 16 = ct 16 := by rw [ec31]; exact (va_up_ne _ _ (by omega)).trans hc16
  have hof : ∀ k, ¬ dIn pM k → ct30 k = ct k := fun k hk => by rw [ec31]; exact (va_up_ne _ _ (fun e => hk (by rw [e]; exact ⟨by decide, rfl⟩))).trans (hof k hk)
  have hs32 : ct30 11 = .inl (g.2 0, 8, .inl fD) := by rw [ec31, va_up_ne _ _ (by omega)]; exact hs3
  have hs33 : ct30 0 = .inr (8, [.ref 1, .ref 2, .ref 3, .ref 5, .ref 6, .ref 9, .ref 10, .ref 17, .ref 21, .ref 34, .ref (99 + 3 * dr5), .int pe, .int bk6]) := by rw [ec31, va_up_ne _ _ (by omega)]; exact hs4
  have hs34 : ct30 (0 + 55 + 11 * b.toInt.toNat) = .inr (2, [.int lns11, .int liv12, .int shw13, .ref ((0 + 55 + 11 * b.toInt.toNat) + 1), .ref ((0 + 55 + 11 * b.toInt.toNat) + 2)]) := by rw [ec31, va_up_ne _ _ (by omega)]; exact hs10
  have hs35 : ct30 5 = .inl (g.2 5, 4, .inr (.inr (.inr (.inr (zF5 idn 0))))) := by rw [ec31, va_up_ne _ _ (by omega)]; exact hs20
  have hs36 : ct30 10 = .inr (6, [.int lns11, .int liv23, .int lak24, .int fnd25, .ref 11, .ref 12, .ref 13, .ref 14, .ref 15, .ref 16]) := by rw [ec31]; exact va_up_self _ _ _
  refine dv_aload_n dX8_fitLaid_16 rfl 0 rfl ?_
  refine dv_get (ci := 8) (v := .ref 10) (C := RX8) (T := TX8) (N := 13) ⟨by decide, rfl⟩ hs33 rfl inG8 6 (by decide) mm_309 rfl dX8_fitLaid_17 ?_
  refine dv_aload_n dX8_fitLaid_20 rfl 0 rfl ?_
  refine dv_get (ci := 8) (v := .ref 5) (C := RX8) (T := TX8) (N := 13) ⟨by decide, rfl⟩ hs33 rfl inG8 3 (by decide) mm_306 rfl dX8_fitLaid_21 ?_
  refine dv_iload_n dX8_fitLaid_24 rfl 1 rfl ?_
  refine dv_aldq 5 ⟨by decide, rfl⟩ hs35 rfl (z_in rfl (by omega) (by omega)) dX8_fitLaid_25 (r := (0 + 55 + 11 * b.toInt.toNat)) (zF5_r (x := b) (by omega) (by omega)) ?_
  refine dv_get (ci := 2) (v := .int liv12) (C := RX2) (T := TX2) (N := 5) ⟨by omega, pAll_of (by omega)⟩ hs34 rfl inG2 1 (by decide) mm_287 rfl dX8_fitLaid_26 ?_
  refine dv_put (ci := 6) (v := .int liv12) (ty := .int) (C := RX6) (T := TX6) (N := 10) ⟨by decide, rfl⟩ hs36 rfl inG6 tyX6 tyX6_ok nmX6 1 (by decide) mm_118 rfl (by decide +kernel) (fun _ => rfl) (fun _ => rfl) (Nat.le_of_ble_eq_true rfl) dX8_fitLaid_29 (en := .inr (6, [.int lns11, .int liv12, .int lak24, .int fnd25, .ref 11, .ref 12, .ref 13, .ref 14, .ref 15, .ref 16])) rfl (fun ct37 ec38 => ?_)
  have hI : Inv8 g idn pe ct37 := by rw [ec38]; exact up8 hI (i8_10 ⟨(lns11 : Int32), (liv12 : Int32), (lak24 : Int32), (fnd25 : Int32), (by first | omega | decide), (by first | omega | decide), (by first | omega | decide), (by first | omega | decide), rfl⟩)
  have hc11 : ct37 11 = ct 11 := by rw [ec38]; exact (va_up_ne _ _ (by omega)).trans hc11
  have hc13 : ct37 13 = ct 13 := by rw [ec38]; exact (va_up_ne _ _ (by omega)).trans hc13
  have hc14 : ct37 14 = ct 14 := by rw [ec38]; exact (va_up_ne _ _ (by omega)).trans hc14
  have hc15 : ct37 15 = ct 15 := by rw [ec38]; exact (va_up_ne _ _ (by omega)).trans hc15
  have hc16 : ct37 16 = ct 16 := by rw [ec38]; exact (va_up_ne _ _ (by omega)).trans hc16
  have hof : ∀ k, ¬ dIn pM k → ct37 k = ct k := fun k hk => by rw [ec38]; exact (va_up_ne _ _ (fun e => hk (by rw [e]; exact ⟨by decide, rfl⟩))).trans (hof k hk)
  have hs39 : ct37 11 = .inl (g.2 0, 8, .inl fD) := by rw [ec38, va_up_ne _ _ (by omega)]; exact hs32
  have hs40 : ct37 0 = .inr (8, [.ref 1, .ref 2, .ref 3, .ref 5, .ref 6, .ref 9, .ref 10, .ref 17, .ref 21, .ref 34, .ref (99 + 3 * dr5), .int pe, .int bk6]) := by rw [ec38, va_up_ne _ _ (by omega)]; exact hs33
  have hs41 : ct37 (0 + 55 + 11 * b.toInt.toNat) = .inr (2, [.int lns11, .int liv12, .int shw13, .ref ((0 + 55 + 11 * b.toInt.toNat) + 1), .ref ((0 + 55 + 11 * b.toInt.toNat) + 2)]) := by rw [ec38, va_up_ne _ _ (by omega)]; exact hs34
  have hs42 : ct37 5 = .inl (g.2 5, 4, .inr (.inr (.inr (.inr (zF5 idn 0))))) := by rw [ec38, va_up_ne _ _ (by omega)]; exact hs35
  have hs43 : ct37 10 = .inr (6, [.int lns11, .int liv12, .int lak24, .int fnd25, .ref 11, .ref 12, .ref 13, .ref 14, .ref 15, .ref 16]) := by rw [ec38]; exact va_up_self _ _ _
  refine dv_iconst (v := 0) dX8_fitLaid_32 (by decide) ?_
  refine dv_istore_n (lv' := [(3, .int 0), (0, .ref 0), (1, .int b), (2, .int kn)]) dX8_fitLaid_33 rfl (by decide) rfl ?_
  obtain ⟨f45, hp46, hs44⟩ := a8_12 hI
  have loop34 : ∀ (n34 : Nat) (v3_34 : Int32) (fN47 : Nat → Int32) (ct49 : Nat → va_E), ((8 - v3_34.toInt : Int).toNat < n34) → (0 ≤ v3_34.toInt ∧ v3_34.toInt ≤ 8) → (∀ j : Nat, j < 8 → (j : Int) < v3_34.toInt → fN47 j = FTL l g pe ct b kn fD j) → (ct49 11 = ct 11) → (ct49 13 = ct 13) → (ct49 14 = ct 14) → (ct49 15 = ct 15) → (ct49 16 = ct 16) → (ct49 12 = .inl (g.2 0, 8, .inl fN47)) → (ct49 10 = .inr (6, [.int lns11, .int liv12, .int lak24, .int fnd25, .ref 11, .ref 12, .ref 13, .ref 14, .ref 15, .ref 16])) → (∀ k, ¬ dIn pM k → ct49 k = ct k) → (Inv8 g idn pe ct49) → GW l g pAll pAll false yX8_fitLaid cX8_fitLaid 4 none RX8 ({ frames := 3, cells := 0, slots := 0, locals := 72 }) K 0 0 ct49 34 [(3, .int v3_34), (0, .ref 0), (1, .int b), (2, .int kn)] [] := by
    intro n34
    induction n34 with
    | zero =>
      intro v3_34 fN47 ct49 hn34 b3_34 j0_34 hc11 hc13 hc14 hc15 hc16 hq48 kp10_34 hof hI
      exact absurd hn34 (Nat.not_lt_zero _)
    | succ n34 ih34 =>
      intro v3_34 fN47 ct49 hn34 b3_34 j0_34 hc11 hc13 hc14 hc15 hc16 hq48 kp10_34 hof hI
      have hs50 : ct49 11 = .inl (g.2 0, 8, .inl fD) := hc11.trans hs3
      obtain ⟨f52, hp53, hs51⟩ := a8_12 hI
      have hs54 := hq48
      cases (hq48.symm.trans hs51)
      refine dv_iload_n dX8_fitLaid_34 rfl 0 rfl ?_
      refine dv_bipush (v := 8) dX8_fitLaid_35 (by decide) ?_
      refine dv_icmp_ge (tgt := 82) dX8_fitLaid_37 (by decide) (fun c55 => ?_) (fun c55 => ?_)
      · skip
        have c55 : 8 ≤ v3_34.toInt := (z_le (by decide : (8 : Int32).toInt = 8) rfl).mp c55
        exact dv_vret dX8_fitLaid_82 rfl (by first | exact Nat.zero_le _ | decide) (by first | exact Nat.zero_le _ | decide) (by subst hK; exact ⟨rfl, hI, hof, (by rw [hln, hlv]; exact ⟨_, _, kp10_34⟩), (⟨_, hs54, fun j hj => j0_34 j hj (by omega)⟩), (by assumption), (by assumption), (by assumption), (by assumption), (by assumption)⟩)
      · skip
        have c55 : ¬ (8 ≤ v3_34.toInt) := fun q => c55 ((z_le (by decide : (8 : Int32).toInt = 8) rfl).mpr q)
        refine dv_aload_n dX8_fitLaid_40 rfl 1 rfl ?_
        obtain ⟨bk58, dr57, h59, h60, h61, hs56⟩ := a8_0 hI
        refine dv_get (ci := 8) (v := .ref 10) (C := RX8) (T := TX8) (N := 13) ⟨by decide, rfl⟩ hs56 rfl inG8 6 (by decide) mm_309 rfl dX8_fitLaid_41 ?_
        refine dv_get (ci := 6) (v := .ref 12) (C := RX6) (T := TX6) (N := 10) ⟨by decide, rfl⟩ kp10_34 rfl inG6 5 (by decide) mm_126 rfl dX8_fitLaid_44 ?_
        refine dv_iload_n dX8_fitLaid_47 rfl 0 rfl ?_
        refine dv_aload_n dX8_fitLaid_48 rfl 1 rfl ?_
        refine dv_iload_n dX8_fitLaid_49 rfl 2 rfl ?_
        refine dv_iload_n dX8_fitLaid_50 rfl 0 rfl ?_
        refine GW.callV (n := 2) (As := [.int b, .int v3_34]) (rest := [.int v3_34, .ref 12]) (b := 0) (f_isLive l g pe ct49 b v3_34 hI) sub_pCl_pAll rfl rfl ⟨by decide, rfl⟩ hs56 (q := (RX8, TX8, 13)) rfl mm_422 mm_424 mm_5 mm_52 mm_425 (by decide +kernel) ⟨Nat.le_of_ble_eq_true rfl, Nat.le_of_ble_eq_true rfl⟩ rfl (Nat.le_of_ble_eq_true rfl) dX8_fitLaid_51 (Nat.zero_le _) (Nat.zero_le _) rfl (fun ct62 rrr63 hBr63 hoff64 => ?_)
        obtain ⟨r63, rfl, hr63, rfl⟩ := hBr63
        refine GW.eq (S2 := [.int r63, .int v3_34, .ref 12]) rfl rfl rfl ?_
        rcases hr63 with hr63 | hr63
        · skip
          obtain ⟨rfl, h65, h66, h67, h68⟩ := hr63
          have h65 : LIV ct49 b v3_34 = true := h65
          have h66 : 0 ≤ b.toInt ∧ b.toInt ≤ 3 := h66
          have h67 : 0 ≤ v3_34.toInt ∧ v3_34.toInt ≤ 7 := h67
          have h68 : LIN ct49 b v3_34 = true := h68
          refine dv_if_eq (tgt := 74) dX8_fitLaid_54 (by decide) (fun c69 => ?_) (fun c69 => ?_)
          · skip
            exact absurd c69 (by decide)
          · skip
            have hli : LIV ct b (nI v3_34.toInt.toNat) = true := by
              rw [← z_nI (x := v3_34) (k := v3_34.toInt.toNat) (by omega), ← LIV_o hof]
              assumption
            have hof0 := hof
            refine dv_aload_n dX8_fitLaid_57 rfl 1 rfl ?_
            refine dv_aload_n dX8_fitLaid_58 rfl 1 rfl ?_
            refine dv_get (ci := 8) (v := .ref 10) (C := RX8) (T := TX8) (N := 13) ⟨by decide, rfl⟩ hs56 rfl inG8 6 (by decide) mm_309 rfl dX8_fitLaid_59 ?_
            refine dv_get (ci := 6) (v := .ref 11) (C := RX6) (T := TX6) (N := 10) ⟨by decide, rfl⟩ kp10_34 rfl inG6 4 (by decide) mm_124 rfl dX8_fitLaid_62 ?_
            refine dv_iload_n dX8_fitLaid_65 rfl 0 rfl ?_
            refine dv_iald 0 ⟨by decide, rfl⟩ hs50 rfl (z_in rfl (by omega) (by omega)) dX8_fitLaid_66 ?_
            refine dv_topi (fun y70 ey70 => ?_)
            refine dv_iload_n dX8_fitLaid_67 rfl 3 rfl ?_
            refine GW.callV (n := 2) (As := [.int y70, .int kn]) (rest := [.int v3_34, .ref 12]) (b := 0) (f_fitAll l g pe ct49 y70 kn (by first | omega | decide) hI) sub_pCl_pAll rfl rfl ⟨by decide, rfl⟩ hs56 (q := (RX8, TX8, 13)) rfl mm_453 mm_455 mm_11 mm_52 mm_456 (by decide +kernel) ⟨Nat.le_of_ble_eq_true rfl, Nat.le_of_ble_eq_true rfl⟩ rfl (Nat.le_of_ble_eq_true rfl) dX8_fitLaid_68 (Nat.zero_le _) (Nat.zero_le _) rfl (fun ct71 rrr72 hBr72 hoff73 => ?_)
            obtain ⟨r72, rfl, hr72, rfl⟩ := hBr72
            refine GW.eq (S2 := [.int r72, .int v3_34, .ref 12]) rfl rfl rfl ?_
            obtain ⟨h74, h75, h76⟩ := hr72
            have h74 : r72 = FALL l g pe ct49 y70 kn := h74
            have h75 : 0 ≤ r72.toInt := h75
            have h76 : r72.toInt ≤ 65535 := h76
            refine dv_goto (tgt := 75) dX8_fitLaid_71 (by decide) ?_
            refine dv_iast 0 ⟨by decide, rfl⟩ hs54 rfl (z_in rfl (by omega) (by omega)) dX8_fitLaid_75 (en := .inl (g.2 0, 8, .inl (upd fN47 (Int32.toNatClampNeg v3_34) r72))) rfl (fun ct77 ec78 => ?_)
            have hp79 : ∀ j : Nat, j < 8 → (fun x : Int32 => 0 ≤ x.toInt ∧ x.toInt ≤ 65535) ((upd fN47 (Int32.toNatClampNeg v3_34) r72) j) := fun j hj => by
              unfold upd
              by_cases q : j = Int32.toNatClampNeg v3_34
              · rw [if_pos q]; exact (show 0 ≤ (r72 : Int32).toInt ∧ (r72 : Int32).toInt ≤ 65535 from (by first | omega | decide))
              · rw [if_neg q]; exact hp53 j hj
            have hI : Inv8 g idn pe ct77 := by rw [ec78]; exact up8 hI (i8_12 ⟨_, hp79, rfl⟩)
            have hc11 : ct77 11 = ct 11 := by rw [ec78]; exact (va_up_ne _ _ (by omega)).trans hc11
            have hc13 : ct77 13 = ct 13 := by rw [ec78]; exact (va_up_ne _ _ (by omega)).trans hc13
            have hc14 : ct77 14 = ct 14 := by rw [ec78]; exact (va_up_ne _ _ (by omega)).trans hc14
            have hc15 : ct77 15 = ct 15 := by rw [ec78]; exact (va_up_ne _ _ (by omega)).trans hc15
            have hc16 : ct77 16 = ct 16 := by rw [ec78]; exact (va_up_ne _ _ (by omega)).trans hc16
            have hof : ∀ k, ¬ dIn pM k → ct77 k = ct k := fun k hk => by rw [ec78]; exact (va_up_ne _ _ (fun e => hk (by rw [e]; exact ⟨by decide, rfl⟩))).trans (hof k hk)
            have hs80 : ct77 10 = .inr (6, [.int lns11, .int liv12, .int lak24, .int fnd25, .ref 11, .ref 12, .ref 13, .ref 14, .ref 15, .ref 16]) := by rw [ec78, va_up_ne _ _ (by omega)]; exact kp10_34
            have hs81 : ct77 11 = .inl (g.2 0, 8, .inl fD) := by rw [ec78, va_up_ne _ _ (by omega)]; exact hs50
            have hs82 : ct77 0 = .inr (8, [.ref 1, .ref 2, .ref 3, .ref 5, .ref 6, .ref 9, .ref 10, .ref 17, .ref 21, .ref 34, .ref (99 + 3 * dr57), .int pe, .int bk58]) := by rw [ec78, va_up_ne _ _ (by omega)]; exact hs56
            have hs83 : ct77 12 = .inl (g.2 0, 8, .inl (upd fN47 (Int32.toNatClampNeg v3_34) r72)) := by rw [ec78]; exact va_up_self _ _ _
            have hld : ∀ j : Nat, j < 8 → (j : Int) < v3_34.toInt + 1 → ((upd fN47 (Int32.toNatClampNeg v3_34) r72)) j = FTL l g pe ct b kn fD j := fun j h8 hj => by
              unfold upd
              by_cases q : j = Int32.toNatClampNeg v3_34
              · rw [if_pos q]
                have qj : j = v3_34.toInt.toNat := by have := z_clI (x := v3_34) (by omega); omega
                rw [qj]
                exact ((if_pos hli).trans ((FALL_p hof0 (gix_rg hI0)).symm.trans ((congrArg (fun z => FALL l g pe _ z kn) (by rw [ey70]; exact congrArg fD (by have := z_clI (x := v3_34) (by omega); omega))).trans (Eq.symm h74)))).symm
              · rw [if_neg q]
                exact j0_34 j h8 (by have := z_clI (x := v3_34) (by omega); omega)
            obtain ⟨x84, ex84⟩ : ∃ y : Int32, y = v3_34 + 1 := ⟨_, rfl⟩
            have tx84 : x84.toInt = v3_34.toInt + 1 := by rw [ex84]; exact z_add rfl (by decide : (1 : Int32).toInt = 1) (by omega) (by omega)
            refine dv_iinc (v := x84) (lv' := [(3, .int x84), (0, .ref 0), (1, .int b), (2, .int kn)]) dX8_fitLaid_76 (k := 0) rfl (by rw [ex84]; rfl) (by decide) rfl ?_
            refine dv_goto (tgt := 34) dX8_fitLaid_79 (by decide) ?_
            exact ih34 x84 (upd fN47 (Int32.toNatClampNeg v3_34) r72) ct77 (by omega) (by omega) (fun j h8 hj => hld j h8 (by omega)) hc11 hc13 hc14 hc15 hc16 hs83 hs80 hof hI
        · skip
          obtain ⟨rfl, h85⟩ := hr63
          have h85 : LIV ct49 b v3_34 = false := h85
          refine dv_if_eq (tgt := 74) dX8_fitLaid_54 (by decide) (fun c86 => ?_) (fun c86 => ?_)
          · skip
            have hnl : LIV ct b (nI v3_34.toInt.toNat) = false := by
              rw [← z_nI (x := v3_34) (k := v3_34.toInt.toNat) (by omega), ← LIV_o hof]
              assumption
            refine dv_iconst (v := 0) dX8_fitLaid_74 (by decide) ?_
            refine dv_iast 0 ⟨by decide, rfl⟩ hs54 rfl (z_in rfl (by omega) (by omega)) dX8_fitLaid_75 (en := .inl (g.2 0, 8, .inl (upd fN47 (Int32.toNatClampNeg v3_34) 0))) rfl (fun ct87 ec88 => ?_)
            have hp89 : ∀ j : Nat, j < 8 → (fun x : Int32 => 0 ≤ x.toInt ∧ x.toInt ≤ 65535) ((upd fN47 (Int32.toNatClampNeg v3_34) 0) j) := fun j hj => by
              unfold upd
              by_cases q : j = Int32.toNatClampNeg v3_34
              · rw [if_pos q]; exact (show 0 ≤ (0 : Int32).toInt ∧ (0 : Int32).toInt ≤ 65535 from (by first | omega | decide))
              · rw [if_neg q]; exact hp53 j hj
            have hI : Inv8 g idn pe ct87 := by rw [ec88]; exact up8 hI (i8_12 ⟨_, hp89, rfl⟩)
            have hc11 : ct87 11 = ct 11 := by rw [ec88]; exact (va_up_ne _ _ (by omega)).trans hc11
            have hc13 : ct87 13 = ct 13 := by rw [ec88]; exact (va_up_ne _ _ (by omega)).trans hc13
            have hc14 : ct87 14 = ct 14 := by rw [ec88]; exact (va_up_ne _ _ (by omega)).trans hc14
            have hc15 : ct87 15 = ct 15 := by rw [ec88]; exact (va_up_ne _ _ (by omega)).trans hc15
            have hc16 : ct87 16 = ct 16 := by rw [ec88]; exact (va_up_ne _ _ (by omega)).trans hc16
            have hof : ∀ k, ¬ dIn pM k → ct87 k = ct k := fun k hk => by rw [ec88]; exact (va_up_ne _ _ (fun e => hk (by rw [e]; exact ⟨by decide, rfl⟩))).trans (hof k hk)
            have hs90 : ct87 10 = .inr (6, [.int lns11, .int liv12, .int lak24, .int fnd25, .ref 11, .ref 12, .ref 13, .ref 14, .ref 15, .ref 16]) := by rw [ec88, va_up_ne _ _ (by omega)]; exact kp10_34
            have hs91 : ct87 11 = .inl (g.2 0, 8, .inl fD) := by rw [ec88, va_up_ne _ _ (by omega)]; exact hs50
            have hs92 : ct87 0 = .inr (8, [.ref 1, .ref 2, .ref 3, .ref 5, .ref 6, .ref 9, .ref 10, .ref 17, .ref 21, .ref 34, .ref (99 + 3 * dr57), .int pe, .int bk58]) := by rw [ec88, va_up_ne _ _ (by omega)]; exact hs56
            have hs93 : ct87 12 = .inl (g.2 0, 8, .inl (upd fN47 (Int32.toNatClampNeg v3_34) 0)) := by rw [ec88]; exact va_up_self _ _ _
            have hld : ∀ j : Nat, j < 8 → (j : Int) < v3_34.toInt + 1 → ((upd fN47 (Int32.toNatClampNeg v3_34) 0)) j = FTL l g pe ct b kn fD j := fun j h8 hj => by
              unfold upd
              by_cases q : j = Int32.toNatClampNeg v3_34
              · rw [if_pos q]
                have qj : j = v3_34.toInt.toNat := by have := z_clI (x := v3_34) (by omega); omega
                rw [qj]
                exact (if_neg (by rw [hnl]; decide)).symm
              · rw [if_neg q]
                exact j0_34 j h8 (by have := z_clI (x := v3_34) (by omega); omega)
            obtain ⟨x94, ex94⟩ : ∃ y : Int32, y = v3_34 + 1 := ⟨_, rfl⟩
            have tx94 : x94.toInt = v3_34.toInt + 1 := by rw [ex94]; exact z_add rfl (by decide : (1 : Int32).toInt = 1) (by omega) (by omega)
            refine dv_iinc (v := x94) (lv' := [(3, .int x94), (0, .ref 0), (1, .int b), (2, .int kn)]) dX8_fitLaid_76 (k := 0) rfl (by rw [ex94]; rfl) (by decide) rfl ?_
            refine dv_goto (tgt := 34) dX8_fitLaid_79 (by decide) ?_
            exact ih34 x94 (upd fN47 (Int32.toNatClampNeg v3_34) 0) ct87 (by omega) (by omega) (fun j h8 hj => hld j h8 (by omega)) hc11 hc13 hc14 hc15 hc16 hs93 hs90 hof hI
          · skip
            exact absurd c86 (by decide)
  exact loop34 ((8 - (0 : Int32).toInt : Int).toNat + 1) (0 : Int32) f45 ct37 (by omega) (by first | omega | decide | (have hz0 : (0 : Int32).toInt = 0 := (by decide); have hz1 : (1 : Int32).toInt = 1 := (by decide); omega)) (fun j _ hj => absurd hj (by have := (by decide : (0 : Int32).toInt = 0); omega)) hc11 hc13 hc14 hc15 hc16 hs44 hs43 hof hI

set_option maxHeartbeats 4000000 in
set_option maxRecDepth 100000 in
theorem f_fit (l : Launch) (g : zG) (pe : Int32) (ct : Nat → va_E) (b : Int32) (kn : Int32) (hl_b : 0 ≤ b.toInt ∧ b.toInt ≤ 3) (hl_kn : 0 ≤ kn.toInt ∧ kn.toInt ≤ 255) (hI : Inv8 g idn pe ct) : DM l g pAll false yX8_fit cX8_fit 3 none ({ frames := 4, cells := 0, slots := 0, locals := 95 }) (fun (ct2 : Nat → va_E) (rr : Option Value) => rr = none ∧ Inv8 g idn pe ct2 ∧ (∀ k, ¬ dIn pM k → ct2 k = ct k) ∧ (∃ lk fd : Int32, ct2 10 = .inr (6, [.int (lnF ct b.toInt.toNat), .int (lvF ct b.toInt.toNat), .int lk, .int fd, .ref 11, .ref 12, .ref 13, .ref 14, .ref 15, .ref 16])) ∧ (∃ fF2 : Nat → Int32, ct2 12 = .inl (g.2 0, 8, .inl fF2) ∧ ∀ j, j < 8 → fF2 j = FIT l g pe ct b kn j) ∧ (∃ fD2 : Nat → Int32, ct2 11 = .inl (g.2 0, 8, .inl fD2) ∧ ∀ j, j < 8 → fD2 j = LDF l g pe ct b (eOpen l g pe ct b) j) ∧ (ct2 13 = ct 13) ∧ (ct2 14 = ct 14) ∧ (ct2 15 = ct 15) ∧ (ct2 16 = ct 16)) ct [.ref 0, .int b, .int kn] := by
  refine DM.K (fun K hK => ?_)
  refine GW.met (own := RX8) (loc := [(0, .ref 0), (1, .int b), (2, .int kn)]) (by decide) rfl rfl (Nat.le_of_ble_eq_true rfl) ?_
  have hpe0 := hI.1
  have hof : ∀ k, ¬ dIn pM k → ct k = ct k := fun _ _ => rfl
  have hc13 : ct 13 = ct 13 := rfl
  have hc14 : ct 14 = ct 14 := rfl
  have hc15 : ct 15 = ct 15 := rfl
  have hc16 : ct 16 = ct 16 := rfl
  have hI0 := hI
  refine dv_aload_n dX8_fit_0 rfl 0 rfl ?_
  refine dv_iload_n dX8_fit_1 rfl 1 rfl ?_
  refine dv_aload_n dX8_fit_2 rfl 0 rfl ?_
  refine dv_iload_n dX8_fit_3 rfl 1 rfl ?_
  obtain ⟨bk4, dr3, h5, h6, h7, hs2⟩ := a8_0 hI
  refine GW.callV (n := 1) (As := [.int b]) (rest := [.int b, .ref 0]) (b := 0) (eOpen_s l g pe ct b (by first | omega | decide) hI) sub_pCl_pAll rfl rfl ⟨by decide, rfl⟩ hs2 (q := (RX8, TX8, 13)) rfl mm_430 mm_432 mm_7 mm_52 mm_433 (by decide +kernel) ⟨Nat.le_of_ble_eq_true rfl, Nat.le_of_ble_eq_true rfl⟩ rfl (Nat.le_of_ble_eq_true rfl) dX8_fit_4 (Nat.zero_le _) (Nat.zero_le _) rfl (fun ct1 rrr8 hBr8 hoff9 => ?_)
  obtain ⟨r8, rfl, hr8, rfl⟩ := hBr8
  refine GW.eq (S2 := [.int r8, .int b, .ref 0]) rfl rfl rfl ?_
  obtain ⟨h10, h11, h12⟩ := hr8
  have h10 : r8 = eOpen l g pe ct b := h10
  have h11 : 0 ≤ r8.toInt := h11
  have h12 : r8.toInt ≤ 15 := h12
  refine GW.callV (n := 2) (As := [.int b, .int r8]) (rest := []) (b := 0) (f_layOut l g pe ct b r8 (by first | omega | decide) (by first | omega | decide) hI) (fun _ h => h) rfl rfl ⟨by decide, rfl⟩ hs2 (q := (RX8, TX8, 13)) rfl mm_438 mm_440 mm_9 mm_52 mm_441 (by decide +kernel) ⟨Nat.le_of_ble_eq_true rfl, Nat.le_of_ble_eq_true rfl⟩ rfl (Nat.le_of_ble_eq_true rfl) dX8_fit_7 (Nat.zero_le _) (Nat.zero_le _) rfl (fun ct13 rrr14 hBr14 hoff15 => ?_)
  obtain ⟨rfl, hI, hcf23, hk16, hk17, hk18, hk19, hk20, hk21, hk22⟩ := hBr14
  have hof : ∀ k, ¬ dIn pM k → ct13 k = ct k := fun k hk => (hcf23 k hk).trans (hof k hk)
  refine GW.eq (S2 := []) rfl rfl rfl ?_
  have hs24 : ct13 0 = .inr (8, [.ref 1, .ref 2, .ref 3, .ref 5, .ref 6, .ref 9, .ref 10, .ref 17, .ref 21, .ref 34, .ref (99 + 3 * dr3), .int pe, .int bk4]) := (hcf23 _ (pM_no (by decide))).trans hs2
  obtain ⟨fD25, hq26, hd27⟩ := hk16
  obtain ⟨f29, hs28⟩ := a8_11 hI
  have hs30 := hq26
  cases (hq26.symm.trans hs28)
  have hc13 : ct13 13 = ct 13 := hk19.trans hc13
  have hc14 : ct13 14 = ct 14 := hk20.trans hc14
  have hc15 : ct13 15 = ct 15 := hk21.trans hc15
  have hc16 : ct13 16 = ct 16 := hk22.trans hc16
  have hofl := hof
  refine dv_aload_n dX8_fit_10 rfl 0 rfl ?_
  refine dv_iload_n dX8_fit_11 rfl 1 rfl ?_
  refine dv_iload_n dX8_fit_12 rfl 2 rfl ?_
  refine GW.callV (n := 2) (As := [.int b, .int kn]) (rest := []) (b := 0) (f_fitLaid l g pe ct13 b kn fD25 (by first | omega | decide) (by first | omega | decide) hI hs30) (fun _ h => h) rfl rfl ⟨by decide, rfl⟩ hs24 (q := (RX8, TX8, 13)) rfl mm_449 mm_451 mm_10 mm_52 mm_452 (by decide +kernel) ⟨Nat.le_of_ble_eq_true rfl, Nat.le_of_ble_eq_true rfl⟩ rfl (Nat.le_of_ble_eq_true rfl) dX8_fit_13 (Nat.zero_le _) (Nat.zero_le _) rfl (fun ct31 rrr32 hBr32 hoff33 => ?_)
  obtain ⟨rfl, hI, hcf41, hk34, hk35, hk36, hk37, hk38, hk39, hk40⟩ := hBr32
  have hof : ∀ k, ¬ dIn pM k → ct31 k = ct k := fun k hk => (hcf41 k hk).trans (hof k hk)
  refine GW.eq (S2 := []) rfl rfl rfl ?_
  have hs42 : ct31 0 = .inr (8, [.ref 1, .ref 2, .ref 3, .ref 5, .ref 6, .ref 9, .ref 10, .ref 17, .ref 21, .ref 34, .ref (99 + 3 * dr3), .int pe, .int bk4]) := (hcf41 _ (pM_no (by decide))).trans hs24
  obtain ⟨lk43, fd44, hq45⟩ := hk34
  obtain ⟨fF46, hq47, hf48⟩ := hk35
  obtain ⟨lnfF46, e1fF46⟩ : ∃ z : Int32, z = (lnF ct13 b.toInt.toNat) := ⟨_, rfl⟩
  obtain ⟨lvfF46, e2fF46⟩ : ∃ z : Int32, z = (lvF ct13 b.toInt.toNat) := ⟨_, rfl⟩
  rw [← e1fF46, ← e2fF46] at hq45
  obtain ⟨lns50, liv51, lak52, fnd53, h54, h55, h56, h57, hs49⟩ := a8_10 hI
  have hs58 := hq45
  cases (hq45.symm.trans hs49)
  obtain ⟨f60, hp61, hs59⟩ := a8_12 hI
  have hs62 := hq47
  cases (hq47.symm.trans hs59)
  have hc13 : ct31 13 = ct 13 := hk37.trans hc13
  have hc14 : ct31 14 = ct 14 := hk38.trans hc14
  have hc15 : ct31 15 = ct 15 := hk39.trans hc15
  have hc16 : ct31 16 = ct 16 := hk40.trans hc16
  have hs63 : ct31 11 = .inl (g.2 0, 8, .inl fD25) := hk36.trans hs30
  exact dv_vret dX8_fit_16 rfl (by first | exact Nat.zero_le _ | decide) (by first | exact Nat.zero_le _ | decide) (by subst hK; exact ⟨rfl, hI, hof, (by rw [← lnF_o hofl, ← lvF_o hofl, ← e1fF46, ← e2fF46]; exact ⟨_, _, hs58⟩), (⟨_, hs62, fun j hj => by
      rw [hf48 j hj, FTL_p hofl (gix_rg hI0)]
      exact FTL_L (by rw [hd27 j hj, h10])⟩), (⟨_, hs63, fun j hj => by rw [hd27 j hj, h10]⟩), (by assumption), (by assumption), (by assumption), (by assumption)⟩)
