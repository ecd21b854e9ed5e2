set_option maxHeartbeats 4000000 in
set_option maxRecDepth 100000 in
theorem f_stepByStep (l : Launch) (g : zG) (pe : Int32) (ct : Nat → va_E) (ln0 : Int32) (lv0 : Int32) (lk0 : Int32) (fd0 : Int32) (fF : Nat → Int32) (hI : Inv8 g idn pe ct) (h10 : ct 10 = .inr (6, [.int ln0, .int lv0, .int lk0, .int fd0, .ref 11, .ref 12, .ref 13, .ref 14, .ref 15, .ref 16])) (h12 : ct 12 = .inl (g.2 0, 8, .inl fF)) : DM l g pM false yX6_stepByStep cX6_stepByStep 4 (some .int) ({ frames := 2, cells := 0, slots := 0, locals := 45 }) (fun (ct2 : Nat → va_E) (rr : Option Value) => ∃ (r : Int32), rr = some (.int r) ∧ (((r = nI (stS ln0.toInt.toNat fF 9).2.2.2))) ∧ Inv8 g idn pe ct2 ∧ (ct2 10 = .inr (6, [.int ln0, .int lv0, .int lk0, .int (stS ln0.toInt.toNat fF 9).1, .ref 11, .ref 12, .ref 13, .ref 14, .ref 15, .ref 16])) ∧ (∃ fL2 : Nat → Int32, ct2 16 = .inl (g.2 0, 8, .inl fL2) ∧ ∀ j, j < 8 → fL2 j = (stS ln0.toInt.toNat fF 9).2.1 j) ∧ (ct2 11 = ct 11) ∧ (ct2 12 = ct 12) ∧ (ct2 13 = ct 13) ∧ (ct2 14 = ct 14) ∧ (ct2 15 = ct 15)) ct [.ref 10] := by
  refine DM.K (fun K hK => ?_)
  refine GW.met (own := RX6) (loc := [(0, .ref 10)]) (by decide) rfl rfl (Nat.le_of_ble_eq_true rfl) ?_
  have hpe0 := hI.1
  obtain ⟨lns2, liv3, lak4, fnd5, h6, h7, h8, h9, hs1⟩ := a8_10 hI
  have hs10 := h10
  cases (h10.symm.trans hs1)
  obtain ⟨f12, hp13, hs11⟩ := a8_12 hI
  have hs14 := h12
  cases (h12.symm.trans hs11)
  have hc11 : ct 11 = ct 11 := rfl
  have hc12 : ct 12 = ct 12 := rfl
  have hc13 : ct 13 = ct 13 := rfl
  have hc14 : ct 14 = ct 14 := rfl
  have hc15 : ct 15 = ct 15 := rfl
  refine dv_aload_n dX6_stepByStep_0 rfl 0 rfl ?_
  refine dv_iconst (v := 0) dX6_stepByStep_1 (by decide) ?_
  refine dv_put (ci := 6) (v := .int 0) (ty := .int) (C := RX6) (T := TX6) (N := 10) ⟨by decide, rfl⟩ hs10 rfl inG6 tyX6 tyX6_ok nmX6 3 (by decide) mm_121 rfl (by decide +kernel) (fun _ => rfl) (fun _ => rfl) (Nat.le_of_ble_eq_true rfl) dX6_stepByStep_2 (en := .inr (6, [.int ln0, .int lv0, .int lk0, .int 0, .ref 11, .ref 12, .ref 13, .ref 14, .ref 15, .ref 16])) rfl (fun ct15 ec16 => ?_)
  have hI : Inv8 g idn pe ct15 := by rw [ec16]; exact up8 hI (i8_10 ⟨(ln0 : Int32), (lv0 : Int32), (lk0 : Int32), (0 : Int32), (by first | omega | decide), (by first | omega | decide), (by first | omega | decide), (by first | omega | decide), rfl⟩)
  have hc11 : ct15 11 = ct 11 := by rw [ec16]; exact (va_up_ne _ _ (by omega)).trans hc11
  have hc12 : ct15 12 = ct 12 := by rw [ec16]; exact (va_up_ne _ _ (by omega)).trans hc12
  have hc13 : ct15 13 = ct 13 := by rw [ec16]; exact (va_up_ne _ _ (by omega)).trans hc13
  have hc14 : ct15 14 = ct 14 := by rw [ec16]; exact (va_up_ne _ _ (by omega)).trans hc14
  have hc15 : ct15 15 = ct 15 := by rw [ec16]; exact (va_up_ne _ _ (by omega)).trans hc15
  have hs17 : ct15 12 = .inl (g.2 0, 8, .inl fF) := by rw [ec16, va_up_ne _ _ (by omega)]; exact hs14
  have hs18 : ct15 10 = .inr (6, [.int ln0, .int lv0, .int lk0, .int 0, .ref 11, .ref 12, .ref 13, .ref 14, .ref 15, .ref 16]) := by rw [ec16]; exact va_up_self _ _ _
  refine dv_iconst (v := 0) dX6_stepByStep_5 (by decide) ?_
  refine dv_istore_n (lv' := [(1, .int 0), (0, .ref 10)]) dX6_stepByStep_6 rfl (by decide) rfl ?_
  obtain ⟨f20, hs19⟩ := a8_16 hI
  have loop7 : ∀ (n7 : Nat) (v1_7 : Int32) (fN21 : Nat → Int32) (ct23 : Nat → va_E), ((8 - v1_7.toInt : Int).toNat < n7) → (0 ≤ v1_7.toInt ∧ v1_7.toInt ≤ 8) → (∀ j : Nat, j < 8 → (j : Int) < v1_7.toInt → fN21 j = fF j) → (ct23 11 = ct 11) → (ct23 12 = ct 12) → (ct23 13 = ct 13) → (ct23 14 = ct 14) → (ct23 15 = ct 15) → (ct23 16 = .inl (g.2 0, 8, .inl fN21)) → (ct23 10 = .inr (6, [.int ln0, .int lv0, .int lk0, .int 0, .ref 11, .ref 12, .ref 13, .ref 14, .ref 15, .ref 16])) → (Inv8 g idn pe ct23) → GW l g pM pM false yX6_stepByStep cX6_stepByStep 4 (some .int) RX6 ({ frames := 2, cells := 0, slots := 0, locals := 45 }) K 0 0 ct23 7 [(1, .int v1_7), (0, .ref 10)] [] := by
    intro n7
    induction n7 with
    | zero =>
      intro v1_7 fN21 ct23 hn7 b1_7 j0_7 hc11 hc12 hc13 hc14 hc15 hq22 kp10_7 hI
      exact absurd hn7 (Nat.not_lt_zero _)
    | succ n7 ih7 =>
      intro v1_7 fN21 ct23 hn7 b1_7 j0_7 hc11 hc12 hc13 hc14 hc15 hq22 kp10_7 hI
      have hs24 : ct23 12 = .inl (g.2 0, 8, .inl fF) := hc12.trans hs14
      obtain ⟨f26, hs25⟩ := a8_16 hI
      have hs27 := hq22
      cases (hq22.symm.trans hs25)
      refine dv_iload_n dX6_stepByStep_7 rfl 0 rfl ?_
      refine dv_bipush (v := 8) dX6_stepByStep_8 (by decide) ?_
      refine dv_icmp_ge (tgt := 31) dX6_stepByStep_10 (by decide) (fun c28 => ?_) (fun c28 => ?_)
      · skip
        have c28 : 8 ≤ v1_7.toInt := (z_le (by decide : (8 : Int32).toInt = 8) rfl).mp c28
        refine dv_iconst (v := 0) dX6_stepByStep_31 (by decide) ?_
        refine dv_istore_n (lv' := [(1, .int 0), (0, .ref 10)]) dX6_stepByStep_32 rfl (by decide) rfl ?_
        refine dv_iconst (v := 1) dX6_stepByStep_33 (by decide) ?_
        refine dv_istore_n (lv' := [(2, .int 1), (1, .int 0), (0, .ref 10)]) dX6_stepByStep_34 rfl (by decide) rfl ?_
        refine dv_iconst (v := 0) dX6_stepByStep_35 (by decide) ?_
        refine dv_istore_n (lv' := [(3, .int 0), (2, .int 1), (1, .int 0), (0, .ref 10)]) dX6_stepByStep_36 rfl (by decide) rfl ?_
        have loop37 : ∀ (n37 : Nat) (v3_37 : Int32) (v2_37 : Int32) (v1_37 : Int32) (fdv29 : Int32) (fN31 : Nat → Int32) (ct33 : Nat → va_E), ((9 - v3_37.toInt : Int).toNat < n37) → (0 ≤ v3_37.toInt ∧ v3_37.toInt ≤ 9) → (0 ≤ v1_37.toInt ∧ v1_37.toInt ≤ 9) → (0 ≤ (fdv29 : Int32).toInt ∧ (fdv29 : Int32).toInt ≤ 255) → (fdv29 = (stS ln0.toInt.toNat fF (v3_37.toInt.toNat)).1) → (∀ j, j < 8 → fN31 j = (stS ln0.toInt.toNat fF (v3_37.toInt.toNat)).2.1 j) → (v2_37 = if (stS ln0.toInt.toNat fF (v3_37.toInt.toNat)).2.2.1 = true then 1 else 0) → (v1_37.toInt = (((stS ln0.toInt.toNat fF (v3_37.toInt.toNat)).2.2.2 : Nat) : Int)) → ((stS ln0.toInt.toNat fF (v3_37.toInt.toNat)).2.2.2 ≤ v3_37.toInt.toNat) → (ct33 11 = ct 11) → (ct33 12 = ct 12) → (ct33 13 = ct 13) → (ct33 14 = ct 14) → (ct33 15 = ct 15) → (ct33 10 = .inr (6, [.int ln0, .int lv0, .int lk0, .int fdv29, .ref 11, .ref 12, .ref 13, .ref 14, .ref 15, .ref 16])) → (ct33 16 = .inl (g.2 0, 8, .inl fN31)) → (Inv8 g idn pe ct33) → GW l g pM pM false yX6_stepByStep cX6_stepByStep 4 (some .int) RX6 ({ frames := 2, cells := 0, slots := 0, locals := 45 }) K 0 0 ct33 37 [(3, .int v3_37), (2, .int v2_37), (1, .int v1_37), (0, .ref 10)] [] := by
          intro n37
          induction n37 with
          | zero =>
            intro v3_37 v2_37 v1_37 fdv29 fN31 ct33 hn37 b3_37 b1_37 j0_37 j1_37 j2_37 j3_37 j4_37 j5_37 hc11 hc12 hc13 hc14 hc15 hq30 hq32 hI
            exact absurd hn37 (Nat.not_lt_zero _)
          | succ n37 ih37 =>
            intro v3_37 v2_37 v1_37 fdv29 fN31 ct33 hn37 b3_37 b1_37 j0_37 j1_37 j2_37 j3_37 j4_37 j5_37 hc11 hc12 hc13 hc14 hc15 hq30 hq32 hI
            have hs34 : ct33 12 = .inl (g.2 0, 8, .inl fF) := hc12.trans hs14
            obtain ⟨lns36, liv37, lak38, fnd39, h40, h41, h42, h43, hs35⟩ := a8_10 hI
            have hs44 := hq30
            cases (hq30.symm.trans hs35)
            obtain ⟨f46, hs45⟩ := a8_16 hI
            have hs47 := hq32
            cases (hq32.symm.trans hs45)
            refine dv_iload_n dX6_stepByStep_37 rfl 0 rfl ?_
            refine dv_bipush (v := 8) dX6_stepByStep_38 (by decide) ?_
            refine dv_icmp_gt (tgt := 65) dX6_stepByStep_40 (by decide) (fun c48 => ?_) (fun c48 => ?_)
            · skip
              have c48 : 8 < v3_37.toInt := (z_lt (by decide : (8 : Int32).toInt = 8) rfl).mp c48
              have h9 : (stS ln0.toInt.toNat fF v3_37.toInt.toNat) = (stS ln0.toInt.toNat fF 9) := by
                first | rw [show v3_37.toInt.toNat = 9 by omega] | exact (stS_stop (n := ln0.toInt.toNat) (F := fF) hfl (9 - v3_37.toInt.toNat)).symm.trans (congrArg (stS ln0.toInt.toNat fF) (by omega)) | exact ((congrArg (stS ln0.toInt.toNat fF) (show 9 = v3_37.toInt.toNat + (9 - v3_37.toInt.toNat) by omega)).trans (stS_stop hfl _)).symm
              refine dv_iload_n dX6_stepByStep_65 rfl 2 rfl ?_
              exact dv_iret dX6_stepByStep_66 rfl (by first | exact Nat.zero_le _ | decide) (by first | exact Nat.zero_le _ | decide) (by subst hK; exact ⟨v1_37, rfl, (by rw [← h9]; exact z_nI (by omega)), hI, (by rw [← h9, ← j1_37]; exact hs44), (⟨_, hs47, by rw [← h9]; exact j2_37⟩), (by assumption), (by assumption), (by assumption), (by assumption), (by assumption)⟩)
            · skip
              have c48 : ¬ (8 < v3_37.toInt) := fun q => c48 ((z_lt (by decide : (8 : Int32).toInt = 8) rfl).mpr q)
              refine dv_iload_n dX6_stepByStep_43 rfl 1 rfl ?_
              refine dv_if_eq (tgt := 65) dX6_stepByStep_44 (by decide) (fun c49 => ?_) (fun c49 => ?_)
              · skip
                have c49 : v2_37.toInt = 0 := (z_eq rfl (by decide : (0 : Int32).toInt = 0)).mp c49
                have hfl : (stS ln0.toInt.toNat fF v3_37.toInt.toNat).2.2.1 = false := by
                  cases hq : (stS ln0.toInt.toNat fF v3_37.toInt.toNat).2.2.1 with
                  | false => rfl
                  | true => exact absurd j3_37 (by rw [hq]; intro z; rw [z] at c49; exact absurd c49 (by decide))
                have h9 : (stS ln0.toInt.toNat fF v3_37.toInt.toNat) = (stS ln0.toInt.toNat fF 9) := by
                  first | rw [show v3_37.toInt.toNat = 9 by omega] | exact (stS_stop (n := ln0.toInt.toNat) (F := fF) hfl (9 - v3_37.toInt.toNat)).symm.trans (congrArg (stS ln0.toInt.toNat fF) (by omega)) | exact ((congrArg (stS ln0.toInt.toNat fF) (show 9 = v3_37.toInt.toNat + (9 - v3_37.toInt.toNat) by omega)).trans (stS_stop hfl _)).symm
                refine dv_iload_n dX6_stepByStep_65 rfl 2 rfl ?_
                exact dv_iret dX6_stepByStep_66 rfl (by first | exact Nat.zero_le _ | decide) (by first | exact Nat.zero_le _ | decide) (by subst hK; exact ⟨v1_37, rfl, (by rw [← h9]; exact z_nI (by omega)), hI, (by rw [← h9, ← j1_37]; exact hs44), (⟨_, hs47, by rw [← h9]; exact j2_37⟩), (by assumption), (by assumption), (by assumption), (by assumption), (by assumption)⟩)
              · skip
                have c49 : ¬ (v2_37.toInt = 0) := fun q => c49 ((z_eq rfl (by decide : (0 : Int32).toInt = 0)).mpr q)
                have hfl : (stS ln0.toInt.toNat fF v3_37.toInt.toNat).2.2.1 = true := by
                  cases hq : (stS ln0.toInt.toNat fF v3_37.toInt.toNat).2.2.1 with
                  | true => rfl
                  | false => exact absurd j3_37 (by rw [hq]; intro z; rw [z] at c49; exact absurd c49 (by decide))
                refine dv_aload_n dX6_stepByStep_47 rfl 3 rfl ?_
                refine GW.callV (n := 0) (As := []) (rest := []) (b := 10) (f_findSome l g pe ct33 ln0 lv0 lk0 fdv29 fN31 hI hs44 hs47 (j0_37)) (fun _ h => h) rfl rfl ⟨by decide, rfl⟩ hs44 (q := (RX6, TX6, 10)) rfl mm_517 mm_519 mm_15 mm_55 mm_520 (by decide +kernel) ⟨Nat.le_of_ble_eq_true rfl, Nat.le_of_ble_eq_true rfl⟩ rfl (Nat.le_of_ble_eq_true rfl) dX6_stepByStep_48 (Nat.zero_le _) (Nat.zero_le _) rfl (fun ct50 rrr51 hBr51 hoff52 => ?_)
                obtain ⟨r51, rfl, hr51, hI, hk53, hk54, hk55, hk56, hk57, hk58, hk59, hk60⟩ := hBr51
                refine GW.eq (S2 := [.int r51]) rfl rfl rfl ?_
                obtain ⟨fd61, efd61⟩ : ∃ z : Int32, z = (fdv29 ||| (fsA fdv29 fN31 ln0.toInt.toNat).2.2) := ⟨_, rfl⟩
                rw [← efd61] at hk53 hk55
                obtain ⟨fL62, hq63, hf64⟩ := hk54
                obtain ⟨lns66, liv67, lak68, fnd69, h70, h71, h72, h73, hs65⟩ := a8_10 hI
                have hs74 := hk53
                cases (hk53.symm.trans hs65)
                obtain ⟨f76, hs75⟩ := a8_16 hI
                have hs77 := hq63
                cases (hq63.symm.trans hs75)
                have hc11 : ct50 11 = ct 11 := hk56.trans hc11
                have hc12 : ct50 12 = ct 12 := hk57.trans hc12
                have hc13 : ct50 13 = ct 13 := hk58.trans hc13
                have hc14 : ct50 14 = ct 14 := hk59.trans hc14
                have hc15 : ct50 15 = ct 15 := hk60.trans hc15
                have hs78 : ct50 12 = .inl (g.2 0, 8, .inl fF) := hk57.trans hs34
                have h79 := hr51
                have h79 : r51 = if (fsA fdv29 fN31 ln0.toInt.toNat).2.2.toInt = 0 then 0 else 1 := h79
                have hr48 : r51 = if (fsA fdv29 fN31 ln0.toInt.toNat).2.2.toInt = 0 then 0 else 1 := by assumption
                obtain ⟨g1, g2, g3, g4⟩ := stS_step (F := fF) (k := v3_37.toInt.toNat) (X := fsA fdv29 fN31 ln0.toInt.toNat) (by omega) hfl j1_37 j2_37 rfl
                refine dv_istore_n (lv' := [(2, .int r51), (3, .int v3_37), (1, .int v1_37), (0, .ref 10)]) dX6_stepByStep_51 rfl (by decide) rfl ?_
                refine dv_iload_n dX6_stepByStep_52 rfl 0 rfl ?_
                refine dv_if_eq (tgt := 59) dX6_stepByStep_53 (by decide) (fun c80 => ?_) (fun c80 => ?_)
                · skip
                  have c80 : r51.toInt = 0 := (z_eq rfl (by decide : (0 : Int32).toInt = 0)).mp c80
                  have hnw : (fsA fdv29 fN31 ln0.toInt.toNat).2.2.toInt = 0 := by
                    by_cases q : (fsA fdv29 fN31 ln0.toInt.toNat).2.2.toInt = 0
                    · first | exact q | (exfalso; rw [if_pos q] at hr48; rw [hr48] at c80; exact absurd c80 (by decide))
                    · first | exact q | (exfalso; rw [if_neg q] at hr48; rw [hr48] at c80; exact absurd c80 (by decide))
                  obtain ⟨x81, ex81⟩ : ∃ y : Int32, y = v3_37 + 1 := ⟨_, rfl⟩
                  have tx81 : x81.toInt = v3_37.toInt + 1 := by rw [ex81]; exact z_add rfl (by decide : (1 : Int32).toInt = 1) (by omega) (by omega)
                  refine dv_iinc (v := x81) (lv' := [(3, .int x81), (2, .int r51), (1, .int v1_37), (0, .ref 10)]) dX6_stepByStep_59 (k := 1) rfl (by rw [ex81]; rfl) (by decide) rfl ?_
                  refine dv_goto (tgt := 37) dX6_stepByStep_62 (by decide) ?_
                  exact ih37 x81 r51 v1_37 fd61 fL62 ct50 (by omega) (by omega) (by omega) hk55 (by rw [show x81.toInt.toNat = v3_37.toInt.toNat + 1 by omega, g1]; exact efd61) (fun j hj => by rw [show x81.toInt.toNat = v3_37.toInt.toNat + 1 by omega, g2 j hj]; exact hf64 j hj) (by rw [show x81.toInt.toNat = v3_37.toInt.toNat + 1 by omega, g3, hr48]; simp [hnw]) (by rw [show x81.toInt.toNat = v3_37.toInt.toNat + 1 by omega, g4, if_neg (fun q => q hnw)]; omega) (by rw [show x81.toInt.toNat = v3_37.toInt.toNat + 1 by omega, g4, if_neg (fun q => q hnw)]; omega) hc11 hc12 hc13 hc14 hc15 hs74 hs77 hI
                · skip
                  have c80 : ¬ (r51.toInt = 0) := fun q => c80 ((z_eq rfl (by decide : (0 : Int32).toInt = 0)).mpr q)
                  have hnw : ¬ (fsA fdv29 fN31 ln0.toInt.toNat).2.2.toInt = 0 := by
                    by_cases q : (fsA fdv29 fN31 ln0.toInt.toNat).2.2.toInt = 0
                    · first | exact q | (exfalso; rw [if_pos q] at hr48; rw [hr48] at c80; exact absurd c80 (by decide))
                    · first | exact q | (exfalso; rw [if_neg q] at hr48; rw [hr48] at c80; exact absurd c80 (by decide))
                  obtain ⟨x82, ex82⟩ : ∃ y : Int32, y = v1_37 + 1 := ⟨_, rfl⟩
                  have tx82 : x82.toInt = v1_37.toInt + 1 := by rw [ex82]; exact z_add rfl (by decide : (1 : Int32).toInt = 1) (by omega) (by omega)
                  refine dv_iinc (v := x82) (lv' := [(1, .int x82), (2, .int r51), (3, .int v3_37), (0, .ref 10)]) dX6_stepByStep_56 (k := 2) rfl (by rw [ex82]; rfl) (by decide) rfl ?_
                  obtain ⟨x83, ex83⟩ : ∃ y : Int32, y = v3_37 + 1 := ⟨_, rfl⟩
                  have tx83 : x83.toInt = v3_37.toInt + 1 := by rw [ex83]; exact z_add rfl (by decide : (1 : Int32).toInt = 1) (by omega) (by omega)
                  refine dv_iinc (v := x83) (lv' := [(3, .int x83), (1, .int x82), (2, .int r51), (0, .ref 10)]) dX6_stepByStep_59 (k := 2) rfl (by rw [ex83]; rfl) (by decide) rfl ?_
                  refine dv_goto (tgt := 37) dX6_stepByStep_62 (by decide) ?_
                  refine dv_sub (loc2 := [(3, .int x83), (2, .int r51), (1, .int x82), (0, .ref 10)]) [0, 2, 1, 3] rfl ?_
                  exact ih37 x83 r51 x82 fd61 fL62 ct50 (by omega) (by omega) (by omega) hk55 (by rw [show x83.toInt.toNat = v3_37.toInt.toNat + 1 by omega, g1]; exact efd61) (fun j hj => by rw [show x83.toInt.toNat = v3_37.toInt.toNat + 1 by omega, g2 j hj]; exact hf64 j hj) (by rw [show x83.toInt.toNat = v3_37.toInt.toNat + 1 by omega, g3, hr48]; simp [hnw]) (by rw [show x83.toInt.toNat = v3_37.toInt.toNat + 1 by omega, g4, if_pos hnw]; omega) (by rw [show x83.toInt.toNat = v3_37.toInt.toNat + 1 by omega, g4, if_pos hnw]; omega) hc11 hc12 hc13 hc14 hc15 hs74 hs77 hI
        exact loop37 ((9 - (0 : Int32).toInt : Int).toNat + 1) (0 : Int32) (1 : Int32) (0 : Int32) (0 : Int32) fN21 ct23 (by omega) (by first | omega | decide | (have hz0 : (0 : Int32).toInt = 0 := (by decide); have hz1 : (1 : Int32).toInt = 1 := (by decide); omega)) (by first | omega | decide | (have hz0 : (0 : Int32).toInt = 0 := (by decide); have hz1 : (1 : Int32).toInt = 1 := (by decide); omega)) ⟨by decide, by decide⟩ rfl (fun j hj => j0_7 j hj (by omega)) (by rfl) (by rw [show (0 : Int32).toInt = 0 from rfl]; rfl) (Nat.le_refl 0) hc11 hc12 hc13 hc14 hc15 kp10_7 hs27 hI
      · skip
        have c28 : ¬ (8 ≤ v1_7.toInt) := fun q => c28 ((z_le (by decide : (8 : Int32).toInt = 8) rfl).mpr q)
        refine dv_aload_n dX6_stepByStep_13 rfl 1 rfl ?_
        refine dv_get (ci := 6) (v := .ref 16) (C := RX6) (T := TX6) (N := 10) ⟨by decide, rfl⟩ kp10_7 rfl inG6 9 (by decide) mm_131 rfl dX6_stepByStep_14 ?_
        refine dv_iload_n dX6_stepByStep_17 rfl 0 rfl ?_
        refine dv_aload_n dX6_stepByStep_18 rfl 1 rfl ?_
        refine dv_get (ci := 6) (v := .ref 12) (C := RX6) (T := TX6) (N := 10) ⟨by decide, rfl⟩ kp10_7 rfl inG6 5 (by decide) mm_125 rfl dX6_stepByStep_19 ?_
        refine dv_iload_n dX6_stepByStep_22 rfl 0 rfl ?_
        refine dv_iald 0 ⟨by decide, rfl⟩ hs24 rfl (z_in rfl (by omega) (by omega)) dX6_stepByStep_23 ?_
        refine dv_topi (fun y84 ey84 => ?_)
        have hy84 := hp13 _ (z_clt (x := v1_7) rfl (by omega) (by omega))
        rw [← ey84] at hy84
        have hy84 : 0 ≤ y84.toInt ∧ y84.toInt ≤ 65535 := hy84
        refine dv_iast 0 ⟨by decide, rfl⟩ hs27 rfl (z_in rfl (by omega) (by omega)) dX6_stepByStep_24 (en := .inl (g.2 0, 8, .inl (upd fN21 (Int32.toNatClampNeg v1_7) y84))) rfl (fun ct85 ec86 => ?_)
        have hI : Inv8 g idn pe ct85 := by rw [ec86]; exact up8 hI (i8_16 ⟨_, rfl⟩)
        have hc11 : ct85 11 = ct 11 := by rw [ec86]; exact (va_up_ne _ _ (by omega)).trans hc11
        have hc12 : ct85 12 = ct 12 := by rw [ec86]; exact (va_up_ne _ _ (by omega)).trans hc12
        have hc13 : ct85 13 = ct 13 := by rw [ec86]; exact (va_up_ne _ _ (by omega)).trans hc13
        have hc14 : ct85 14 = ct 14 := by rw [ec86]; exact (va_up_ne _ _ (by omega)).trans hc14
        have hc15 : ct85 15 = ct 15 := by rw [ec86]; exact (va_up_ne _ _ (by omega)).trans hc15
        have hs87 : ct85 10 = .inr (6, [.int ln0, .int lv0, .int lk0, .int 0, .ref 11, .ref 12, .ref 13, .ref 14, .ref 15, .ref 16]) := by rw [ec86, va_up_ne _ _ (by omega)]; exact kp10_7
        have hs88 : ct85 12 = .inl (g.2 0, 8, .inl fF) := by rw [ec86, va_up_ne _ _ (by omega)]; exact hs24
        have hs89 : ct85 16 = .inl (g.2 0, 8, .inl (upd fN21 (Int32.toNatClampNeg v1_7) y84)) := by rw [ec86]; exact va_up_self _ _ _
        obtain ⟨x90, ex90⟩ : ∃ y : Int32, y = v1_7 + 1 := ⟨_, rfl⟩
        have tx90 : x90.toInt = v1_7.toInt + 1 := by rw [ex90]; exact z_add rfl (by decide : (1 : Int32).toInt = 1) (by omega) (by omega)
        refine dv_iinc (v := x90) (lv' := [(1, .int x90), (0, .ref 10)]) dX6_stepByStep_25 (k := 0) rfl (by rw [ex90]; rfl) (by decide) rfl ?_
        refine dv_goto (tgt := 7) dX6_stepByStep_28 (by decide) ?_
        exact ih7 x90 (upd fN21 (Int32.toNatClampNeg v1_7) y84) ct85 (by omega) (by first | omega | decide | (have hz0 : (0 : Int32).toInt = 0 := (by decide); have hz1 : (1 : Int32).toInt = 1 := (by decide); omega)) (fun j h8 hj => by
            unfold upd
            by_cases q : j = Int32.toNatClampNeg v1_7
            · rw [if_pos q, q, ey84]
            · rw [if_neg q]
              exact j0_7 j h8 (by have := z_clI (x := v1_7) (by omega); omega)) hc11 hc12 hc13 hc14 hc15 hs89 hs87 hI
  exact loop7 ((8 - (0 : Int32).toInt : Int).toNat + 1) (0 : Int32) f20 ct15 (by omega) (by first | omega | decide | (have hz0 : (0 : Int32).toInt = 0 := (by decide); have hz1 : (1 : Int32).toInt = 1 := (by decide); omega)) (fun j _ hj => absurd hj (by have := (by decide : (0 : Int32).toInt = 0); omega)) hc11 hc12 hc13 hc14 hc15 hs19 hs18 hI
