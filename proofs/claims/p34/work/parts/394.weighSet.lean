set_option maxHeartbeats 4000000 in
set_option maxRecDepth 100000 in
theorem f_weighSet (l : Launch) (g : zG) (pe : Int32) (ct : Nat → va_E) (st0 : Int32) (ln0 : Int32) (lv0 : Int32) (lk0 : Int32) (fd0 : Int32) (fM : Nat → Int32) (fJ : Nat → Int32) (hl_st0 : 0 ≤ st0.toInt ∧ st0.toInt ≤ 255) (hI : Inv8 g idn pe ct) (h10 : ct 10 = .inr (6, [.int ln0, .int lv0, .int lk0, .int fd0, .ref 11, .ref 12, .ref 13, .ref 14, .ref 15, .ref 16])) (h13 : ct 13 = .inl (g.2 0, 8, .inl fM)) (h14 : ct 14 = .inl (g.2 0, 256, .inl fJ)) : DM l g pM false yX6_weighSet cX6_weighSet 4 none ({ frames := 1, cells := 0, slots := 0, locals := 20 }) (fun (ct2 : Nat → va_E) (rr : Option Value) => rr = none ∧ Inv8 g idn pe ct2 ∧ (ct2 10 = .inr (6, [.int ln0, .int lv0, .int (if (st0 &&& (lv0 ^^^ (-1))).toInt = 0 then wLk lk0 (fJ (Int32.toNatClampNeg st0)) st0 else lk0), .int fd0, .ref 11, .ref 12, .ref 13, .ref 14, .ref 15, .ref 16])) ∧ (∃ fM2 : Nat → Int32, ct2 13 = .inl (g.2 0, 8, .inl fM2) ∧ ∀ j, j < 8 → fM2 j = if (st0 &&& (lv0 ^^^ (-1))).toInt = 0 then wMi (wSp (fJ (Int32.toNatClampNeg st0)) st0) st0 (fJ (Int32.toNatClampNeg st0)) ln0.toInt fM j else fM j) ∧ (ct2 11 = ct 11) ∧ (ct2 12 = ct 12) ∧ (ct2 14 = ct 14) ∧ (ct2 15 = ct 15) ∧ (ct2 16 = ct 16)) ct [.ref 10, .int st0] := by
  refine DM.K (fun K hK => ?_)
  refine GW.met (own := RX6) (loc := [(0, .ref 10), (1, .int st0)]) (by decide) rfl rfl (Nat.le_of_ble_eq_true rfl) ?_
  have hpe0 := hI.1
  obtain ⟨lns2, liv3, lak4, fnd5, h6, h7, h8, h9, hs1⟩ := a8_10 hI
  have hs10 := h10
  cases (h10.symm.trans hs1)
  obtain ⟨f12, hp13, hs11⟩ := a8_13 hI
  have hs14 := h13
  cases (h13.symm.trans hs11)
  obtain ⟨f16, hp17, hs15⟩ := a8_14 hI
  have hs18 := h14
  cases (h14.symm.trans hs15)
  have hc11 : ct 11 = ct 11 := rfl
  have hc12 : ct 12 = ct 12 := rfl
  have hc14 : ct 14 = ct 14 := rfl
  have hc15 : ct 15 = ct 15 := rfl
  have hc16 : ct 16 = ct 16 := rfl
  refine dv_iload_n dX6_weighSet_0 rfl 1 rfl ?_
  refine dv_aload_n dX6_weighSet_1 rfl 0 rfl ?_
  refine dv_get (ci := 6) (v := .int lv0) (C := RX6) (T := TX6) (N := 10) ⟨by decide, rfl⟩ hs10 rfl inG6 1 (by decide) mm_117 rfl dX6_weighSet_2 ?_
  refine dv_iconst (v := (-1)) dX6_weighSet_5 (by decide) ?_
  refine dv_ixor dX6_weighSet_6 ?_
  refine dv_topi (fun x19 ex19 => ?_)
  refine dv_iand dX6_weighSet_7 ?_
  refine dv_topi (fun x20 ex20 => ?_)
  have esub : (st0 &&& (lv0 ^^^ (-1))) = x20 := by rw [ex20, ex19]
  refine dv_if_eq (tgt := 12) dX6_weighSet_8 (by decide) (fun c21 => ?_) (fun c21 => ?_)
  · skip
    have c21 : x20.toInt = 0 := (z_eq rfl (by decide : (0 : Int32).toInt = 0)).mp c21
    have hsub : (st0 &&& (lv0 ^^^ (-1))).toInt = 0 := by rw [esub]; omega
    refine dv_aload_n dX6_weighSet_12 rfl 0 rfl ?_
    refine dv_get (ci := 6) (v := .ref 14) (C := RX6) (T := TX6) (N := 10) ⟨by decide, rfl⟩ hs10 rfl inG6 7 (by decide) mm_129 rfl dX6_weighSet_13 ?_
    refine dv_iload_n dX6_weighSet_16 rfl 1 rfl ?_
    refine dv_iald 0 ⟨by decide, rfl⟩ hs18 rfl (z_in rfl (by omega) (by omega)) dX6_weighSet_17 ?_
    refine dv_topi (fun y22 ey22 => ?_)
    have hy22 := hp17 _ (z_clt (x := st0) rfl (by omega) (by omega))
    rw [← ey22] at hy22
    have hy22 : (Int32.toNatClampNeg st0) = 0 → y22 = 0 := hy22
    refine GW.callS (n := 1) (As := [.int y22]) (rest := []) (k_bce l g pe ct y22 hI) (fun _ h => Bool.noConfusion h) rfl rfl mm_498 mm_499 mm_62 mm_500 (by decide +kernel) ⟨Nat.le_of_ble_eq_true rfl, Nat.le_of_ble_eq_true rfl⟩ rfl (Nat.le_of_ble_eq_true rfl) dX6_weighSet_18 (Nat.zero_le _) (Nat.zero_le _) rfl (fun ct23 rrr24 hBr24 hoff25 => ?_)
    obtain ⟨r24, rfl, hr24, rfl⟩ := hBr24
    refine GW.eq (S2 := [.int r24]) rfl rfl rfl ?_
    have hqr24 := hr24
    subst r24
    refine dv_iload_n dX6_weighSet_21 rfl 1 rfl ?_
    refine GW.callS (n := 1) (As := [.int st0]) (rest := [.int (bcf y22)]) (k_bce l g pe ct st0 hI) (fun _ h => Bool.noConfusion h) rfl rfl mm_498 mm_499 mm_62 mm_500 (by decide +kernel) ⟨Nat.le_of_ble_eq_true rfl, Nat.le_of_ble_eq_true rfl⟩ rfl (Nat.le_of_ble_eq_true rfl) dX6_weighSet_22 (Nat.zero_le _) (Nat.zero_le _) rfl (fun ct26 rrr27 hBr27 hoff28 => ?_)
    obtain ⟨r27, rfl, hr27, rfl⟩ := hBr27
    refine GW.eq (S2 := [.int r27, .int (bcf y22)]) rfl rfl rfl ?_
    have hqr27 := hr27
    subst r27
    have hbr27 := z_bc (x := st0) (by omega) (by omega)
    refine dv_isub dX6_weighSet_25 ?_
    refine dv_topi (fun x29 ex29 => ?_)
    have esp : x29 = wSp (fJ (Int32.toNatClampNeg st0)) st0 := by rw [ex29]; exact congrArg (fun z => bcf z - bcf st0) ey22
    refine dv_istore_n (lv' := [(2, .int x29), (0, .ref 10), (1, .int st0)]) dX6_weighSet_26 rfl (by decide) rfl ?_
    refine dv_iload_n dX6_weighSet_27 rfl 0 rfl ?_
    refine dv_if_ge (tgt := 57) dX6_weighSet_28 (by decide) (fun c30 => ?_) (fun c30 => ?_)
    · skip
      have c30 : 0 ≤ x29.toInt := (z_le (by decide : (0 : Int32).toInt = 0) rfl).mp c30
      have hlk : lk0 = wLk lk0 (fJ (Int32.toNatClampNeg st0)) st0 := by
        unfold wLk
        rw [← esp, if_neg (fun q => by have q1 := q.1; have q2 := q.2; omega)]
      refine dv_iconst (v := 0) dX6_weighSet_57 (by decide) ?_
      refine dv_istore_n (lv' := [(3, .int 0), (2, .int x29), (0, .ref 10), (1, .int st0)]) dX6_weighSet_58 rfl (by decide) rfl ?_
      have loop59 : ∀ (n59 : Nat) (v3_59 : Int32) (fN31 : Nat → Int32) (ct33 : Nat → va_E), ((8 - v3_59.toInt : Int).toNat < n59) → (0 ≤ v3_59.toInt ∧ v3_59.toInt ≤ 8) → (v3_59.toInt ≤ ln0.toInt) → (∀ j, j < 8 → fN31 j = wMi x29 st0 y22 v3_59.toInt fM j) → (ct33 11 = ct 11) → (ct33 12 = ct 12) → (ct33 14 = ct 14) → (ct33 15 = ct 15) → (ct33 16 = ct 16) → (ct33 13 = .inl (g.2 0, 8, .inl fN31)) → (ct33 10 = .inr (6, [.int ln0, .int lv0, .int lk0, .int fd0, .ref 11, .ref 12, .ref 13, .ref 14, .ref 15, .ref 16])) → (Inv8 g idn pe ct33) → GW l g pM pM false yX6_weighSet cX6_weighSet 4 none RX6 ({ frames := 1, cells := 0, slots := 0, locals := 20 }) K 0 0 ct33 59 [(3, .int v3_59), (2, .int x29), (0, .ref 10), (1, .int st0)] [] := by
        intro n59
        induction n59 with
        | zero =>
          intro v3_59 fN31 ct33 hn59 b3_59 j0_59 j1_59 hc11 hc12 hc14 hc15 hc16 hq32 kp10_59 hI
          exact absurd hn59 (Nat.not_lt_zero _)
        | succ n59 ih59 =>
          intro v3_59 fN31 ct33 hn59 b3_59 j0_59 j1_59 hc11 hc12 hc14 hc15 hc16 hq32 kp10_59 hI
          have hs34 : ct33 14 = .inl (g.2 0, 256, .inl fJ) := hc14.trans hs18
          obtain ⟨f36, hp37, hs35⟩ := a8_13 hI
          have hs38 := hq32
          cases (hq32.symm.trans hs35)
          refine dv_iload_n dX6_weighSet_59 rfl 0 rfl ?_
          refine dv_aload_n dX6_weighSet_60 rfl 2 rfl ?_
          refine dv_get (ci := 6) (v := .int ln0) (C := RX6) (T := TX6) (N := 10) ⟨by decide, rfl⟩ kp10_59 rfl inG6 0 (by decide) mm_115 rfl dX6_weighSet_61 ?_
          refine dv_icmp_ge (tgt := 102) dX6_weighSet_64 (by decide) (fun c39 => ?_) (fun c39 => ?_)
          · skip
            have c39 : ln0.toInt ≤ v3_59.toInt := (z_le rfl rfl).mp c39
            have hmy : ∀ j, j < 8 → fN31 j = wMi (wSp (fJ (Int32.toNatClampNeg st0)) st0) st0 (fJ (Int32.toNatClampNeg st0)) ln0.toInt fM j := fun j hj => by
              rw [← esp, ← ey22]
              rw [j1_59 j hj]
              first | rw [show ln0.toInt = v3_59.toInt by omega] | rw [wMi_sp (sp := x29) (by omega), wMi_sp (sp := x29) (by omega)]
            exact dv_vret dX6_weighSet_102 rfl (by first | exact Nat.zero_le _ | decide) (by first | exact Nat.zero_le _ | decide) (by subst hK; exact ⟨rfl, hI, (by rw [if_pos hsub, ← hlk]; exact kp10_59), (⟨_, hs38, fun j hj => by rw [if_pos hsub]; exact hmy j hj⟩), (by assumption), (by assumption), (by assumption), (by assumption), (by assumption)⟩)
          · skip
            have c39 : ¬ (ln0.toInt ≤ v3_59.toInt) := fun q => c39 ((z_le rfl rfl).mpr q)
            refine dv_iload_n dX6_weighSet_67 rfl 1 rfl ?_
            refine dv_if_ne (tgt := 102) dX6_weighSet_68 (by decide) (fun c40 => ?_) (fun c40 => ?_)
            · skip
              have c40 : ¬ (x29.toInt = 0) := fun q => c40 ((z_eq rfl (by decide : (0 : Int32).toInt = 0)).mpr q)
              have hmy : ∀ j, j < 8 → fN31 j = wMi (wSp (fJ (Int32.toNatClampNeg st0)) st0) st0 (fJ (Int32.toNatClampNeg st0)) ln0.toInt fM j := fun j hj => by
                rw [← esp, ← ey22]
                rw [j1_59 j hj]
                first | rw [show ln0.toInt = v3_59.toInt by omega] | rw [wMi_sp (sp := x29) (by omega), wMi_sp (sp := x29) (by omega)]
              exact dv_vret dX6_weighSet_102 rfl (by first | exact Nat.zero_le _ | decide) (by first | exact Nat.zero_le _ | decide) (by subst hK; exact ⟨rfl, hI, (by rw [if_pos hsub, ← hlk]; exact kp10_59), (⟨_, hs38, fun j hj => by rw [if_pos hsub]; exact hmy j hj⟩), (by assumption), (by assumption), (by assumption), (by assumption), (by assumption)⟩)
            · skip
              have c40 : x29.toInt = 0 := (z_eq rfl (by decide : (0 : Int32).toInt = 0)).mp c40
              refine dv_iload_n dX6_weighSet_71 rfl 3 rfl ?_
              refine dv_iload_n dX6_weighSet_72 rfl 0 rfl ?_
              refine dv_ishr dX6_weighSet_73 ?_
              refine dv_topi (fun x41 ex41 => ?_)
              have tx41 := z_shr (x := st0) rfl (by omega) v3_59
              rw [← ex41] at tx41
              refine dv_iconst (v := 1) dX6_weighSet_74 (by decide) ?_
              refine dv_iand dX6_weighSet_75 ?_
              refine dv_topi (fun x42 ex42 => ?_)
              have tx42 := z_andr (x := x41) (y := 1) (by decide : (1 : Int32).toInt = 1) (by omega)
              rw [← ex42] at tx42
              refine dv_if_ne (tgt := 96) dX6_weighSet_76 (by decide) (fun c43 => ?_) (fun c43 => ?_)
              · skip
                have c43 : ¬ (x42.toInt = 0) := fun q => c43 ((z_eq rfl (by decide : (0 : Int32).toInt = 0)).mpr q)
                have hbit : ib st0 (Int32.toNatClampNeg v3_59) = true := by
                  rcases zb_ask (x := st0) (y := v3_59) (p := Int32.toNatClampNeg v3_59) (by omega) (by have := z_clI (x := v3_59) (by omega); omega) (by have := z_clI (x := v3_59) (by omega); omega) (ex42.trans (by rw [ex41])) with ⟨q1, q2⟩ | ⟨q1, q2⟩
                  · first | exact q2 | (exfalso; omega)
                  · first | exact q2 | (exfalso; omega)
                obtain ⟨x44, ex44⟩ : ∃ y : Int32, y = v3_59 + 1 := ⟨_, rfl⟩
                have tx44 : x44.toInt = v3_59.toInt + 1 := by rw [ex44]; exact z_add rfl (by decide : (1 : Int32).toInt = 1) (by omega) (by omega)
                refine dv_iinc (v := x44) (lv' := [(3, .int x44), (2, .int x29), (0, .ref 10), (1, .int st0)]) dX6_weighSet_96 (k := 0) rfl (by rw [ex44]; rfl) (by decide) rfl ?_
                refine dv_goto (tgt := 59) dX6_weighSet_99 (by decide) ?_
                exact ih59 x44 fN31 ct33 (by omega) (by first | omega | decide | (have hz0 : (0 : Int32).toInt = 0 := (by decide); have hz1 : (1 : Int32).toInt = 1 := (by decide); omega)) (by first | omega | decide | (have hz0 : (0 : Int32).toInt = 0 := (by decide); have hz1 : (1 : Int32).toInt = 1 := (by decide); omega)) (fun j hj => (j1_59 j hj).trans (wMi_skip tx44 (fun k hk => by rw [show k = Int32.toNatClampNeg v3_59 by have := z_clI (x := v3_59) (by omega); omega]; exact hbit) j).symm) hc11 hc12 hc14 hc15 hc16 hs38 kp10_59 hI
              · skip
                have c43 : x42.toInt = 0 := (z_eq rfl (by decide : (0 : Int32).toInt = 0)).mp c43
                have hbit : ib st0 (Int32.toNatClampNeg v3_59) = false := by
                  rcases zb_ask (x := st0) (y := v3_59) (p := Int32.toNatClampNeg v3_59) (by omega) (by have := z_clI (x := v3_59) (by omega); omega) (by have := z_clI (x := v3_59) (by omega); omega) (ex42.trans (by rw [ex41])) with ⟨q1, q2⟩ | ⟨q1, q2⟩
                  · first | exact q2 | (exfalso; omega)
                  · first | exact q2 | (exfalso; omega)
                refine dv_aload_n dX6_weighSet_79 rfl 2 rfl ?_
                refine dv_get (ci := 6) (v := .ref 13) (C := RX6) (T := TX6) (N := 10) ⟨by decide, rfl⟩ kp10_59 rfl inG6 6 (by decide) mm_127 rfl dX6_weighSet_80 ?_
                refine dv_iload_n dX6_weighSet_83 rfl 0 rfl ?_
                refine dv_dup2_11 dX6_weighSet_84 rfl rfl ?_
                refine dv_iald 0 ⟨by decide, rfl⟩ hs38 rfl (z_in rfl (by omega) (by omega)) dX6_weighSet_85 ?_
                refine dv_topi (fun y45 ey45 => ?_)
                have hy45 := hp37 _ (z_clt (x := v3_59) rfl (by omega) (by omega))
                rw [← ey45] at hy45
                have hy45 : 0 ≤ y45.toInt ∧ y45.toInt ≤ 65535 := hy45
                refine dv_aload_n dX6_weighSet_86 rfl 2 rfl ?_
                refine dv_get (ci := 6) (v := .ref 14) (C := RX6) (T := TX6) (N := 10) ⟨by decide, rfl⟩ kp10_59 rfl inG6 7 (by decide) mm_129 rfl dX6_weighSet_87 ?_
                refine dv_iload_n dX6_weighSet_90 rfl 3 rfl ?_
                refine dv_iald 0 ⟨by decide, rfl⟩ hs34 rfl (z_in rfl (by omega) (by omega)) dX6_weighSet_91 ?_
                refine dv_topi (fun y46 ey46 => ?_)
                have hy46 := hp17 _ (z_clt (x := st0) rfl (by omega) (by omega))
                rw [← ey46] at hy46
                have hy46 : (Int32.toNatClampNeg st0) = 0 → y46 = 0 := hy46
                refine dv_iconst (v := (-1)) dX6_weighSet_92 (by decide) ?_
                refine dv_ixor dX6_weighSet_93 ?_
                refine dv_topi (fun x47 ex47 => ?_)
                refine dv_iand dX6_weighSet_94 ?_
                refine dv_topi (fun x48 ex48 => ?_)
                have tx48 := z_andl (x := y45) (y := x47) rfl (by omega)
                rw [← ex48] at tx48
                refine dv_iast 0 ⟨by decide, rfl⟩ hs38 rfl (z_in rfl (by omega) (by omega)) dX6_weighSet_95 (en := .inl (g.2 0, 8, .inl (upd fN31 (Int32.toNatClampNeg v3_59) x48))) rfl (fun ct49 ec50 => ?_)
                have hp51 : ∀ j : Nat, j < 8 → (fun x : Int32 => 0 ≤ x.toInt ∧ x.toInt ≤ 65535) ((upd fN31 (Int32.toNatClampNeg v3_59) x48) j) := fun j hj => by
                  unfold upd
                  by_cases q : j = Int32.toNatClampNeg v3_59
                  · rw [if_pos q]; exact (show 0 ≤ (x48 : Int32).toInt ∧ (x48 : Int32).toInt ≤ 65535 from (by first | omega | decide))
                  · rw [if_neg q]; exact hp37 j hj
                have hI : Inv8 g idn pe ct49 := by rw [ec50]; exact up8 hI (i8_13 ⟨_, hp51, rfl⟩)
                have hc11 : ct49 11 = ct 11 := by rw [ec50]; exact (va_up_ne _ _ (by omega)).trans hc11
                have hc12 : ct49 12 = ct 12 := by rw [ec50]; exact (va_up_ne _ _ (by omega)).trans hc12
                have hc14 : ct49 14 = ct 14 := by rw [ec50]; exact (va_up_ne _ _ (by omega)).trans hc14
                have hc15 : ct49 15 = ct 15 := by rw [ec50]; exact (va_up_ne _ _ (by omega)).trans hc15
                have hc16 : ct49 16 = ct 16 := by rw [ec50]; exact (va_up_ne _ _ (by omega)).trans hc16
                have hs52 : ct49 10 = .inr (6, [.int ln0, .int lv0, .int lk0, .int fd0, .ref 11, .ref 12, .ref 13, .ref 14, .ref 15, .ref 16]) := by rw [ec50, va_up_ne _ _ (by omega)]; exact kp10_59
                have hs53 : ct49 14 = .inl (g.2 0, 256, .inl fJ) := by rw [ec50, va_up_ne _ _ (by omega)]; exact hs34
                have hs54 : ct49 13 = .inl (g.2 0, 8, .inl (upd fN31 (Int32.toNatClampNeg v3_59) x48)) := by rw [ec50]; exact va_up_self _ _ _
                obtain ⟨x55, ex55⟩ : ∃ y : Int32, y = v3_59 + 1 := ⟨_, rfl⟩
                have tx55 : x55.toInt = v3_59.toInt + 1 := by rw [ex55]; exact z_add rfl (by decide : (1 : Int32).toInt = 1) (by omega) (by omega)
                refine dv_iinc (v := x55) (lv' := [(3, .int x55), (2, .int x29), (0, .ref 10), (1, .int st0)]) dX6_weighSet_96 (k := 0) rfl (by rw [ex55]; rfl) (by decide) rfl ?_
                refine dv_goto (tgt := 59) dX6_weighSet_99 (by decide) ?_
                exact ih59 x55 (upd fN31 (Int32.toNatClampNeg v3_59) x48) ct49 (by omega) (by first | omega | decide | (have hz0 : (0 : Int32).toInt = 0 := (by decide); have hz1 : (1 : Int32).toInt = 1 := (by decide); omega)) (by first | omega | decide | (have hz0 : (0 : Int32).toInt = 0 := (by decide); have hz1 : (1 : Int32).toInt = 1 := (by decide); omega)) (wMi_set j1_59 tx55 (z_clI (x := v3_59) (by omega)) (by have := z_clI (x := v3_59) (by omega); omega) (by omega) hbit (by rw [ex48, ex47, ey45, ey46, ey22])) hc11 hc12 hc14 hc15 hc16 hs54 hs52 hI
      exact loop59 ((8 - (0 : Int32).toInt : Int).toNat + 1) (0 : Int32) fM ct (by omega) (by first | omega | decide | (have hz0 : (0 : Int32).toInt = 0 := (by decide); have hz1 : (1 : Int32).toInt = 1 := (by decide); omega)) (by first | omega | decide | (have hz0 : (0 : Int32).toInt = 0 := (by decide); have hz1 : (1 : Int32).toInt = 1 := (by decide); omega)) (fun j _ => (wMi_0 (i := (0 : Int32).toInt) (by decide) j).symm) hc11 hc12 hc14 hc15 hc16 hs14 hs10 hI
    · skip
      have c30 : ¬ (0 ≤ x29.toInt) := fun q => c30 ((z_le (by decide : (0 : Int32).toInt = 0) rfl).mpr q)
      refine dv_aload_n dX6_weighSet_31 rfl 1 rfl ?_
      refine dv_get (ci := 6) (v := .int lk0) (C := RX6) (T := TX6) (N := 10) ⟨by decide, rfl⟩ hs10 rfl inG6 2 (by decide) mm_119 rfl dX6_weighSet_32 ?_
      refine dv_if_eq (tgt := 52) dX6_weighSet_35 (by decide) (fun c56 => ?_) (fun c56 => ?_)
      · skip
        have c56 : lk0.toInt = 0 := (z_eq rfl (by decide : (0 : Int32).toInt = 0)).mp c56
        refine dv_aload_n dX6_weighSet_52 rfl 1 rfl ?_
        refine dv_iload_n dX6_weighSet_53 rfl 2 rfl ?_
        refine dv_put (ci := 6) (v := .int st0) (ty := .int) (C := RX6) (T := TX6) (N := 10) ⟨by decide, rfl⟩ hs10 rfl inG6 tyX6 tyX6_ok nmX6 2 (by decide) mm_119 rfl (by decide +kernel) (fun _ => rfl) (fun _ => rfl) (Nat.le_of_ble_eq_true rfl) dX6_weighSet_54 (en := .inr (6, [.int ln0, .int lv0, .int st0, .int fd0, .ref 11, .ref 12, .ref 13, .ref 14, .ref 15, .ref 16])) rfl (fun ct57 ec58 => ?_)
        have hI : Inv8 g idn pe ct57 := by rw [ec58]; exact up8 hI (i8_10 ⟨(ln0 : Int32), (lv0 : Int32), (st0 : Int32), (fd0 : Int32), (by first | omega | decide), (by first | omega | decide), (by first | omega | decide), (by first | omega | decide), rfl⟩)
        have hc11 : ct57 11 = ct 11 := by rw [ec58]; exact (va_up_ne _ _ (by omega)).trans hc11
        have hc12 : ct57 12 = ct 12 := by rw [ec58]; exact (va_up_ne _ _ (by omega)).trans hc12
        have hc14 : ct57 14 = ct 14 := by rw [ec58]; exact (va_up_ne _ _ (by omega)).trans hc14
        have hc15 : ct57 15 = ct 15 := by rw [ec58]; exact (va_up_ne _ _ (by omega)).trans hc15
        have hc16 : ct57 16 = ct 16 := by rw [ec58]; exact (va_up_ne _ _ (by omega)).trans hc16
        have hs59 : ct57 13 = .inl (g.2 0, 8, .inl fM) := by rw [ec58, va_up_ne _ _ (by omega)]; exact hs14
        have hs60 : ct57 14 = .inl (g.2 0, 256, .inl fJ) := by rw [ec58, va_up_ne _ _ (by omega)]; exact hs18
        have hs61 : ct57 10 = .inr (6, [.int ln0, .int lv0, .int st0, .int fd0, .ref 11, .ref 12, .ref 13, .ref 14, .ref 15, .ref 16]) := by rw [ec58]; exact va_up_self _ _ _
        have hlk : st0 = wLk lk0 (fJ (Int32.toNatClampNeg st0)) st0 := by
          unfold wLk
          rw [← esp, if_pos ⟨by omega, by first | exact Or.inl (by omega) | exact Or.inr (by omega)⟩]
        refine dv_iconst (v := 0) dX6_weighSet_57 (by decide) ?_
        refine dv_istore_n (lv' := [(3, .int 0), (2, .int x29), (0, .ref 10), (1, .int st0)]) dX6_weighSet_58 rfl (by decide) rfl ?_
        have loop59 : ∀ (n59 : Nat) (v3_59 : Int32) (fN62 : Nat → Int32) (ct64 : Nat → va_E), ((8 - v3_59.toInt : Int).toNat < n59) → (0 ≤ v3_59.toInt ∧ v3_59.toInt ≤ 8) → (v3_59.toInt ≤ ln0.toInt) → (∀ j, j < 8 → fN62 j = wMi x29 st0 y22 v3_59.toInt fM j) → (ct64 11 = ct 11) → (ct64 12 = ct 12) → (ct64 14 = ct 14) → (ct64 15 = ct 15) → (ct64 16 = ct 16) → (ct64 13 = .inl (g.2 0, 8, .inl fN62)) → (ct64 10 = .inr (6, [.int ln0, .int lv0, .int st0, .int fd0, .ref 11, .ref 12, .ref 13, .ref 14, .ref 15, .ref 16])) → (Inv8 g idn pe ct64) → GW l g pM pM false yX6_weighSet cX6_weighSet 4 none RX6 ({ frames := 1, cells := 0, slots := 0, locals := 20 }) K 0 0 ct64 59 [(3, .int v3_59), (2, .int x29), (0, .ref 10), (1, .int st0)] [] := by
          intro n59
          induction n59 with
          | zero =>
            intro v3_59 fN62 ct64 hn59 b3_59 j0_59 j1_59 hc11 hc12 hc14 hc15 hc16 hq63 kp10_59 hI
            exact absurd hn59 (Nat.not_lt_zero _)
          | succ n59 ih59 =>
            intro v3_59 fN62 ct64 hn59 b3_59 j0_59 j1_59 hc11 hc12 hc14 hc15 hc16 hq63 kp10_59 hI
            have hs65 : ct64 14 = .inl (g.2 0, 256, .inl fJ) := hc14.trans hs18
            obtain ⟨f67, hp68, hs66⟩ := a8_13 hI
            have hs69 := hq63
            cases (hq63.symm.trans hs66)
            refine dv_iload_n dX6_weighSet_59 rfl 0 rfl ?_
            refine dv_aload_n dX6_weighSet_60 rfl 2 rfl ?_
            refine dv_get (ci := 6) (v := .int ln0) (C := RX6) (T := TX6) (N := 10) ⟨by decide, rfl⟩ kp10_59 rfl inG6 0 (by decide) mm_115 rfl dX6_weighSet_61 ?_
            refine dv_icmp_ge (tgt := 102) dX6_weighSet_64 (by decide) (fun c70 => ?_) (fun c70 => ?_)
            · skip
              have c70 : ln0.toInt ≤ v3_59.toInt := (z_le rfl rfl).mp c70
              have hmy : ∀ j, j < 8 → fN62 j = wMi (wSp (fJ (Int32.toNatClampNeg st0)) st0) st0 (fJ (Int32.toNatClampNeg st0)) ln0.toInt fM j := fun j hj => by
                rw [← esp, ← ey22]
                rw [j1_59 j hj]
                first | rw [show ln0.toInt = v3_59.toInt by omega] | rw [wMi_sp (sp := x29) (by omega), wMi_sp (sp := x29) (by omega)]
              exact dv_vret dX6_weighSet_102 rfl (by first | exact Nat.zero_le _ | decide) (by first | exact Nat.zero_le _ | decide) (by subst hK; exact ⟨rfl, hI, (by rw [if_pos hsub, ← hlk]; exact kp10_59), (⟨_, hs69, fun j hj => by rw [if_pos hsub]; exact hmy j hj⟩), (by assumption), (by assumption), (by assumption), (by assumption), (by assumption)⟩)
            · skip
              have c70 : ¬ (ln0.toInt ≤ v3_59.toInt) := fun q => c70 ((z_le rfl rfl).mpr q)
              refine dv_iload_n dX6_weighSet_67 rfl 1 rfl ?_
              refine dv_if_ne (tgt := 102) dX6_weighSet_68 (by decide) (fun c71 => ?_) (fun c71 => ?_)
              · skip
                have c71 : ¬ (x29.toInt = 0) := fun q => c71 ((z_eq rfl (by decide : (0 : Int32).toInt = 0)).mpr q)
                have hmy : ∀ j, j < 8 → fN62 j = wMi (wSp (fJ (Int32.toNatClampNeg st0)) st0) st0 (fJ (Int32.toNatClampNeg st0)) ln0.toInt fM j := fun j hj => by
                  rw [← esp, ← ey22]
                  rw [j1_59 j hj]
                  first | rw [show ln0.toInt = v3_59.toInt by omega] | rw [wMi_sp (sp := x29) (by omega), wMi_sp (sp := x29) (by omega)]
                exact dv_vret dX6_weighSet_102 rfl (by first | exact Nat.zero_le _ | decide) (by first | exact Nat.zero_le _ | decide) (by subst hK; exact ⟨rfl, hI, (by rw [if_pos hsub, ← hlk]; exact kp10_59), (⟨_, hs69, fun j hj => by rw [if_pos hsub]; exact hmy j hj⟩), (by assumption), (by assumption), (by assumption), (by assumption), (by assumption)⟩)
              · skip
                have c71 : x29.toInt = 0 := (z_eq rfl (by decide : (0 : Int32).toInt = 0)).mp c71
                exfalso
                omega
        exact loop59 ((8 - (0 : Int32).toInt : Int).toNat + 1) (0 : Int32) fM ct57 (by omega) (by first | omega | decide | (have hz0 : (0 : Int32).toInt = 0 := (by decide); have hz1 : (1 : Int32).toInt = 1 := (by decide); omega)) (by first | omega | decide | (have hz0 : (0 : Int32).toInt = 0 := (by decide); have hz1 : (1 : Int32).toInt = 1 := (by decide); omega)) (fun j _ => (wMi_0 (i := (0 : Int32).toInt) (by decide) j).symm) hc11 hc12 hc14 hc15 hc16 hs59 hs61 hI
      · skip
        have c56 : ¬ (lk0.toInt = 0) := fun q => c56 ((z_eq rfl (by decide : (0 : Int32).toInt = 0)).mpr q)
        refine dv_iload_n dX6_weighSet_38 rfl 2 rfl ?_
        refine GW.callS (n := 1) (As := [.int st0]) (rest := []) (k_bce l g pe ct st0 hI) (fun _ h => Bool.noConfusion h) rfl rfl mm_498 mm_499 mm_62 mm_500 (by decide +kernel) ⟨Nat.le_of_ble_eq_true rfl, Nat.le_of_ble_eq_true rfl⟩ rfl (Nat.le_of_ble_eq_true rfl) dX6_weighSet_39 (Nat.zero_le _) (Nat.zero_le _) rfl (fun ct72 rrr73 hBr73 hoff74 => ?_)
        obtain ⟨r73, rfl, hr73, rfl⟩ := hBr73
        refine GW.eq (S2 := [.int r73]) rfl rfl rfl ?_
        have hqr73 := hr73
        subst r73
        have hbr73 := z_bc (x := st0) (by omega) (by omega)
        refine dv_aload_n dX6_weighSet_42 rfl 1 rfl ?_
        refine dv_get (ci := 6) (v := .int lk0) (C := RX6) (T := TX6) (N := 10) ⟨by decide, rfl⟩ hs10 rfl inG6 2 (by decide) mm_119 rfl dX6_weighSet_43 ?_
        refine GW.callS (n := 1) (As := [.int lk0]) (rest := [.int (bcf st0)]) (k_bce l g pe ct lk0 hI) (fun _ h => Bool.noConfusion h) rfl rfl mm_498 mm_499 mm_62 mm_500 (by decide +kernel) ⟨Nat.le_of_ble_eq_true rfl, Nat.le_of_ble_eq_true rfl⟩ rfl (Nat.le_of_ble_eq_true rfl) dX6_weighSet_46 (Nat.zero_le _) (Nat.zero_le _) rfl (fun ct75 rrr76 hBr76 hoff77 => ?_)
        obtain ⟨r76, rfl, hr76, rfl⟩ := hBr76
        refine GW.eq (S2 := [.int r76, .int (bcf st0)]) rfl rfl rfl ?_
        have hqr76 := hr76
        subst r76
        refine dv_icmp_ge (tgt := 57) dX6_weighSet_49 (by decide) (fun c78 => ?_) (fun c78 => ?_)
        · skip
          have c78 : (bcf lk0).toInt ≤ (bcf st0).toInt := (z_le rfl rfl).mp c78
          have hlk : lk0 = wLk lk0 (fJ (Int32.toNatClampNeg st0)) st0 := by
            unfold wLk
            rw [← esp, if_neg (fun q => by have q1 := q.1; have q2 := q.2; omega)]
          refine dv_iconst (v := 0) dX6_weighSet_57 (by decide) ?_
          refine dv_istore_n (lv' := [(3, .int 0), (2, .int x29), (0, .ref 10), (1, .int st0)]) dX6_weighSet_58 rfl (by decide) rfl ?_
          have loop59 : ∀ (n59 : Nat) (v3_59 : Int32) (fN79 : Nat → Int32) (ct81 : Nat → va_E), ((8 - v3_59.toInt : Int).toNat < n59) → (0 ≤ v3_59.toInt ∧ v3_59.toInt ≤ 8) → (v3_59.toInt ≤ ln0.toInt) → (∀ j, j < 8 → fN79 j = wMi x29 st0 y22 v3_59.toInt fM j) → (ct81 11 = ct 11) → (ct81 12 = ct 12) → (ct81 14 = ct 14) → (ct81 15 = ct 15) → (ct81 16 = ct 16) → (ct81 13 = .inl (g.2 0, 8, .inl fN79)) → (ct81 10 = .inr (6, [.int ln0, .int lv0, .int lk0, .int fd0, .ref 11, .ref 12, .ref 13, .ref 14, .ref 15, .ref 16])) → (Inv8 g idn pe ct81) → GW l g pM pM false yX6_weighSet cX6_weighSet 4 none RX6 ({ frames := 1, cells := 0, slots := 0, locals := 20 }) K 0 0 ct81 59 [(3, .int v3_59), (2, .int x29), (0, .ref 10), (1, .int st0)] [] := by
            intro n59
            induction n59 with
            | zero =>
              intro v3_59 fN79 ct81 hn59 b3_59 j0_59 j1_59 hc11 hc12 hc14 hc15 hc16 hq80 kp10_59 hI
              exact absurd hn59 (Nat.not_lt_zero _)
            | succ n59 ih59 =>
              intro v3_59 fN79 ct81 hn59 b3_59 j0_59 j1_59 hc11 hc12 hc14 hc15 hc16 hq80 kp10_59 hI
              have hs82 : ct81 14 = .inl (g.2 0, 256, .inl fJ) := hc14.trans hs18
              obtain ⟨f84, hp85, hs83⟩ := a8_13 hI
              have hs86 := hq80
              cases (hq80.symm.trans hs83)
              refine dv_iload_n dX6_weighSet_59 rfl 0 rfl ?_
              refine dv_aload_n dX6_weighSet_60 rfl 2 rfl ?_
              refine dv_get (ci := 6) (v := .int ln0) (C := RX6) (T := TX6) (N := 10) ⟨by decide, rfl⟩ kp10_59 rfl inG6 0 (by decide) mm_115 rfl dX6_weighSet_61 ?_
              refine dv_icmp_ge (tgt := 102) dX6_weighSet_64 (by decide) (fun c87 => ?_) (fun c87 => ?_)
              · skip
                have c87 : ln0.toInt ≤ v3_59.toInt := (z_le rfl rfl).mp c87
                have hmy : ∀ j, j < 8 → fN79 j = wMi (wSp (fJ (Int32.toNatClampNeg st0)) st0) st0 (fJ (Int32.toNatClampNeg st0)) ln0.toInt fM j := fun j hj => by
                  rw [← esp, ← ey22]
                  rw [j1_59 j hj]
                  first | rw [show ln0.toInt = v3_59.toInt by omega] | rw [wMi_sp (sp := x29) (by omega), wMi_sp (sp := x29) (by omega)]
                exact dv_vret dX6_weighSet_102 rfl (by first | exact Nat.zero_le _ | decide) (by first | exact Nat.zero_le _ | decide) (by subst hK; exact ⟨rfl, hI, (by rw [if_pos hsub, ← hlk]; exact kp10_59), (⟨_, hs86, fun j hj => by rw [if_pos hsub]; exact hmy j hj⟩), (by assumption), (by assumption), (by assumption), (by assumption), (by assumption)⟩)
              · skip
                have c87 : ¬ (ln0.toInt ≤ v3_59.toInt) := fun q => c87 ((z_le rfl rfl).mpr q)
                refine dv_iload_n dX6_weighSet_67 rfl 1 rfl ?_
                refine dv_if_ne (tgt := 102) dX6_weighSet_68 (by decide) (fun c88 => ?_) (fun c88 => ?_)
                · skip
                  have c88 : ¬ (x29.toInt = 0) := fun q => c88 ((z_eq rfl (by decide : (0 : Int32).toInt = 0)).mpr q)
                  have hmy : ∀ j, j < 8 → fN79 j = wMi (wSp (fJ (Int32.toNatClampNeg st0)) st0) st0 (fJ (Int32.toNatClampNeg st0)) ln0.toInt fM j := fun j hj => by
                    rw [← esp, ← ey22]
                    rw [j1_59 j hj]
                    first | rw [show ln0.toInt = v3_59.toInt by omega] | rw [wMi_sp (sp := x29) (by omega), wMi_sp (sp := x29) (by omega)]
                  exact dv_vret dX6_weighSet_102 rfl (by first | exact Nat.zero_le _ | decide) (by first | exact Nat.zero_le _ | decide) (by subst hK; exact ⟨rfl, hI, (by rw [if_pos hsub, ← hlk]; exact kp10_59), (⟨_, hs86, fun j hj => by rw [if_pos hsub]; exact hmy j hj⟩), (by assumption), (by assumption), (by assumption), (by assumption), (by assumption)⟩)
                · skip
                  have c88 : x29.toInt = 0 := (z_eq rfl (by decide : (0 : Int32).toInt = 0)).mp c88
                  exfalso
                  omega
          exact loop59 ((8 - (0 : Int32).toInt : Int).toNat + 1) (0 : Int32) fM ct (by omega) (by first | omega | decide | (have hz0 : (0 : Int32).toInt = 0 := (by decide); have hz1 : (1 : Int32).toInt = 1 := (by decide); omega)) (by first | omega | decide | (have hz0 : (0 : Int32).toInt = 0 := (by decide); have hz1 : (1 : Int32).toInt = 1 := (by decide); omega)) (fun j _ => (wMi_0 (i := (0 : Int32).toInt) (by decide) j).symm) hc11 hc12 hc14 hc15 hc16 hs14 hs10 hI
        · skip
          have c78 : ¬ ((bcf lk0).toInt ≤ (bcf st0).toInt) := fun q => c78 ((z_le rfl rfl).mpr q)
          refine dv_aload_n dX6_weighSet_52 rfl 1 rfl ?_
          refine dv_iload_n dX6_weighSet_53 rfl 2 rfl ?_
          refine dv_put (ci := 6) (v := .int st0) (ty := .int) (C := RX6) (T := TX6) (N := 10) ⟨by decide, rfl⟩ hs10 rfl inG6 tyX6 tyX6_ok nmX6 2 (by decide) mm_119 rfl (by decide +kernel) (fun _ => rfl) (fun _ => rfl) (Nat.le_of_ble_eq_true rfl) dX6_weighSet_54 (en := .inr (6, [.int ln0, .int lv0, .int st0, .int fd0, .ref 11, .ref 12, .ref 13, .ref 14, .ref 15, .ref 16])) rfl (fun ct89 ec90 => ?_)
          have hI : Inv8 g idn pe ct89 := by rw [ec90]; exact up8 hI (i8_10 ⟨(ln0 : Int32), (lv0 : Int32), (st0 : Int32), (fd0 : Int32), (by first | omega | decide), (by first | omega | decide), (by first | omega | decide), (by first | omega | decide), rfl⟩)
          have hc11 : ct89 11 = ct 11 := by rw [ec90]; exact (va_up_ne _ _ (by omega)).trans hc11
          have hc12 : ct89 12 = ct 12 := by rw [ec90]; exact (va_up_ne _ _ (by omega)).trans hc12
          have hc14 : ct89 14 = ct 14 := by rw [ec90]; exact (va_up_ne _ _ (by omega)).trans hc14
          have hc15 : ct89 15 = ct 15 := by rw [ec90]; exact (va_up_ne _ _ (by omega)).trans hc15
          have hc16 : ct89 16 = ct 16 := by rw [ec90]; exact (va_up_ne _ _ (by omega)).trans hc16
          have hs91 : ct89 13 = .inl (g.2 0, 8, .inl fM) := by rw [ec90, va_up_ne _ _ (by omega)]; exact hs14
          have hs92 : ct89 14 = .inl (g.2 0, 256, .inl fJ) := by rw [ec90, va_up_ne _ _ (by omega)]; exact hs18
          have hs93 : ct89 10 = .inr (6, [.int ln0, .int lv0, .int st0, .int fd0, .ref 11, .ref 12, .ref 13, .ref 14, .ref 15, .ref 16]) := by rw [ec90]; exact va_up_self _ _ _
          have hlk : st0 = wLk lk0 (fJ (Int32.toNatClampNeg st0)) st0 := by
            unfold wLk
            rw [← esp, if_pos ⟨by omega, by first | exact Or.inl (by omega) | exact Or.inr (by omega)⟩]
          refine dv_iconst (v := 0) dX6_weighSet_57 (by decide) ?_
          refine dv_istore_n (lv' := [(3, .int 0), (2, .int x29), (0, .ref 10), (1, .int st0)]) dX6_weighSet_58 rfl (by decide) rfl ?_
          have loop59 : ∀ (n59 : Nat) (v3_59 : Int32) (fN94 : Nat → Int32) (ct96 : Nat → va_E), ((8 - v3_59.toInt : Int).toNat < n59) → (0 ≤ v3_59.toInt ∧ v3_59.toInt ≤ 8) → (v3_59.toInt ≤ ln0.toInt) → (∀ j, j < 8 → fN94 j = wMi x29 st0 y22 v3_59.toInt fM j) → (ct96 11 = ct 11) → (ct96 12 = ct 12) → (ct96 14 = ct 14) → (ct96 15 = ct 15) → (ct96 16 = ct 16) → (ct96 13 = .inl (g.2 0, 8, .inl fN94)) → (ct96 10 = .inr (6, [.int ln0, .int lv0, .int st0, .int fd0, .ref 11, .ref 12, .ref 13, .ref 14, .ref 15, .ref 16])) → (Inv8 g idn pe ct96) → GW l g pM pM false yX6_weighSet cX6_weighSet 4 none RX6 ({ frames := 1, cells := 0, slots := 0, locals := 20 }) K 0 0 ct96 59 [(3, .int v3_59), (2, .int x29), (0, .ref 10), (1, .int st0)] [] := by
            intro n59
            induction n59 with
            | zero =>
              intro v3_59 fN94 ct96 hn59 b3_59 j0_59 j1_59 hc11 hc12 hc14 hc15 hc16 hq95 kp10_59 hI
              exact absurd hn59 (Nat.not_lt_zero _)
            | succ n59 ih59 =>
              intro v3_59 fN94 ct96 hn59 b3_59 j0_59 j1_59 hc11 hc12 hc14 hc15 hc16 hq95 kp10_59 hI
              have hs97 : ct96 14 = .inl (g.2 0, 256, .inl fJ) := hc14.trans hs18
              obtain ⟨f99, hp100, hs98⟩ := a8_13 hI
              have hs101 := hq95
              cases (hq95.symm.trans hs98)
              refine dv_iload_n dX6_weighSet_59 rfl 0 rfl ?_
              refine dv_aload_n dX6_weighSet_60 rfl 2 rfl ?_
              refine dv_get (ci := 6) (v := .int ln0) (C := RX6) (T := TX6) (N := 10) ⟨by decide, rfl⟩ kp10_59 rfl inG6 0 (by decide) mm_115 rfl dX6_weighSet_61 ?_
              refine dv_icmp_ge (tgt := 102) dX6_weighSet_64 (by decide) (fun c102 => ?_) (fun c102 => ?_)
              · skip
                have c102 : ln0.toInt ≤ v3_59.toInt := (z_le rfl rfl).mp c102
                have hmy : ∀ j, j < 8 → fN94 j = wMi (wSp (fJ (Int32.toNatClampNeg st0)) st0) st0 (fJ (Int32.toNatClampNeg st0)) ln0.toInt fM j := fun j hj => by
                  rw [← esp, ← ey22]
                  rw [j1_59 j hj]
                  first | rw [show ln0.toInt = v3_59.toInt by omega] | rw [wMi_sp (sp := x29) (by omega), wMi_sp (sp := x29) (by omega)]
                exact dv_vret dX6_weighSet_102 rfl (by first | exact Nat.zero_le _ | decide) (by first | exact Nat.zero_le _ | decide) (by subst hK; exact ⟨rfl, hI, (by rw [if_pos hsub, ← hlk]; exact kp10_59), (⟨_, hs101, fun j hj => by rw [if_pos hsub]; exact hmy j hj⟩), (by assumption), (by assumption), (by assumption), (by assumption), (by assumption)⟩)
              · skip
                have c102 : ¬ (ln0.toInt ≤ v3_59.toInt) := fun q => c102 ((z_le rfl rfl).mpr q)
                refine dv_iload_n dX6_weighSet_67 rfl 1 rfl ?_
                refine dv_if_ne (tgt := 102) dX6_weighSet_68 (by decide) (fun c103 => ?_) (fun c103 => ?_)
                · skip
                  have c103 : ¬ (x29.toInt = 0) := fun q => c103 ((z_eq rfl (by decide : (0 : Int32).toInt = 0)).mpr q)
                  have hmy : ∀ j, j < 8 → fN94 j = wMi (wSp (fJ (Int32.toNatClampNeg st0)) st0) st0 (fJ (Int32.toNatClampNeg st0)) ln0.toInt fM j := fun j hj => by
                    rw [← esp, ← ey22]
                    rw [j1_59 j hj]
                    first | rw [show ln0.toInt = v3_59.toInt by omega] | rw [wMi_sp (sp := x29) (by omega), wMi_sp (sp := x29) (by omega)]
                  exact dv_vret dX6_weighSet_102 rfl (by first | exact Nat.zero_le _ | decide) (by first | exact Nat.zero_le _ | decide) (by subst hK; exact ⟨rfl, hI, (by rw [if_pos hsub, ← hlk]; exact kp10_59), (⟨_, hs101, fun j hj => by rw [if_pos hsub]; exact hmy j hj⟩), (by assumption), (by assumption), (by assumption), (by assumption), (by assumption)⟩)
                · skip
                  have c103 : x29.toInt = 0 := (z_eq rfl (by decide : (0 : Int32).toInt = 0)).mp c103
                  exfalso
                  omega
          exact loop59 ((8 - (0 : Int32).toInt : Int).toNat + 1) (0 : Int32) fM ct89 (by omega) (by first | omega | decide | (have hz0 : (0 : Int32).toInt = 0 := (by decide); have hz1 : (1 : Int32).toInt = 1 := (by decide); omega)) (by first | omega | decide | (have hz0 : (0 : Int32).toInt = 0 := (by decide); have hz1 : (1 : Int32).toInt = 1 := (by decide); omega)) (fun j _ => (wMi_0 (i := (0 : Int32).toInt) (by decide) j).symm) hc11 hc12 hc14 hc15 hc16 hs91 hs93 hI
  · skip
    have c21 : ¬ (x20.toInt = 0) := fun q => c21 ((z_eq rfl (by decide : (0 : Int32).toInt = 0)).mpr q)
    have hnsub : ¬ (st0 &&& (lv0 ^^^ (-1))).toInt = 0 := by rw [esub]; omega
    exact dv_vret dX6_weighSet_11 rfl (by first | exact Nat.zero_le _ | decide) (by first | exact Nat.zero_le _ | decide) (by subst hK; exact ⟨rfl, hI, (by rw [if_neg (fun q => hnsub q)]; exact hs10), (⟨_, hs14, fun j hj => by rw [if_neg (fun q => hnsub q)]⟩), (by assumption), (by assumption), (by assumption), (by assumption), (by assumption)⟩)
