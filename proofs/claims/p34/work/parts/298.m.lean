set_option maxHeartbeats 4000000 in
set_option maxRecDepth 100000 in
theorem k_X0_fewestFor (l : Launch) (g : zG) (pe : Int32) (ct : Nat → va_E) (who : Int32) (hl_who : 0 ≤ who.toInt ∧ who.toInt ≤ 65535) (hI : Inv8 g idn pe ct) : DM l g pQ false yX0_fewestFor cX0_fewestFor 4 (some .int) ({ frames := 34, cells := 0, slots := 0, locals := 862 }) (fun (ct2 : Nat → va_E) (rr : Option Value) => ∃ (r : Int32), rr = some (.int r) ∧ (((0 ≤ r.toInt) ∧ (r.toInt ≤ 16))) ∧ Inv8 g idn pe ct2 ∧ zlen (ct2 20) = zlen (ct 20)) ct [.ref 17, .int who] := by
  refine DM.K (fun K hK => ?_)
  refine GW.met (own := RX0) (loc := [(0, .ref 17), (1, .int who)]) (by decide) rfl rfl (Nat.le_of_ble_eq_true rfl) ?_
  have hpe0 := hI.1
  have hz : zlen (ct 20) = zlen (ct 20) := rfl
  refine dv_iconst (v := 0) dX0_fewestFor_0 (by decide) ?_
  refine dv_istore_n (lv' := [(2, .int 0), (0, .ref 17), (1, .int who)]) dX0_fewestFor_1 rfl (by decide) rfl ?_
  refine dv_iconst (v := 0) dX0_fewestFor_2 (by decide) ?_
  refine dv_istore_n (lv' := [(3, .int 0), (2, .int 0), (0, .ref 17), (1, .int who)]) dX0_fewestFor_3 rfl (by decide) rfl ?_
  have loop4 : ∀ (n4 : Nat) (v3_4 : Int32) (v2_4 : Int32) (ct1 : Nat → va_E), ((16 - v3_4.toInt : Int).toNat < n4) → (0 ≤ v3_4.toInt ∧ v3_4.toInt ≤ 16) → (0 ≤ v2_4.toInt ∧ v2_4.toInt ≤ 16) → (v2_4.toInt = v3_4.toInt) → (zlen (ct1 20) = zlen (ct 20)) → (Inv8 g idn pe ct1) → GW l g pQ pQ false yX0_fewestFor cX0_fewestFor 4 (some .int) RX0 ({ frames := 34, cells := 0, slots := 0, locals := 862 }) K 0 0 ct1 4 [(3, .int v3_4), (2, .int v2_4), (0, .ref 17), (1, .int who)] [] := by
    intro n4
    induction n4 with
    | zero =>
      intro v3_4 v2_4 ct1 hn4 b3_4 b2_4 j0_4 hz hI
      exact absurd hn4 (Nat.not_lt_zero _)
    | succ n4 ih4 =>
      intro v3_4 v2_4 ct1 hn4 b3_4 b2_4 j0_4 hz hI
      refine dv_iload_n dX0_fewestFor_4 rfl 0 rfl ?_
      refine dv_bipush (v := 16) dX0_fewestFor_5 (by decide) ?_
      refine dv_icmp_ge (tgt := 28) dX0_fewestFor_7 (by decide) (fun c2 => ?_) (fun c2 => ?_)
      · skip
        have c2 : 16 ≤ v3_4.toInt := (z_le (by decide : (16 : Int32).toInt = 16) rfl).mp c2
        refine dv_iload_n dX0_fewestFor_28 rfl 1 rfl ?_
        exact dv_iret dX0_fewestFor_29 rfl (by first | exact Nat.zero_le _ | decide) (by first | exact Nat.zero_le _ | decide) (by subst hK; exact ⟨v2_4, rfl, (⟨by first | omega | decide, by first | omega | decide⟩), hI, hz⟩)
      · skip
        have c2 : ¬ (16 ≤ v3_4.toInt) := fun q => c2 ((z_le (by decide : (16 : Int32).toInt = 16) rfl).mpr q)
        refine dv_aload_n dX0_fewestFor_10 rfl 2 rfl ?_
        refine dv_iload_n dX0_fewestFor_11 rfl 3 rfl ?_
        refine dv_iload_n dX0_fewestFor_12 rfl 1 rfl ?_
        obtain ⟨spc5, tim6, h7, h8, hs4⟩ := a8_17 hI
        refine GW.callV (n := 2) (As := [.int who, .int v2_4]) (rest := []) (b := 17) (k_X0_areEnough_16 l g pe ct1 who v2_4 (by first | omega | decide) (by first | omega | decide) hI) (fun _ h => h) rfl rfl ⟨by decide, rfl⟩ hs4 (q := (RX0, TX0, 5)) rfl mm_745 mm_747 mm_37 mm_56 mm_748 (by decide +kernel) ⟨Nat.le_of_ble_eq_true rfl, Nat.le_of_ble_eq_true rfl⟩ rfl (Nat.le_of_ble_eq_true rfl) dX0_fewestFor_13 (Nat.zero_le _) (Nat.zero_le _) rfl (fun ct3 rrr9 hBr9 hoff10 => ?_)
        obtain ⟨r9, rfl, hr9, hI, hzs⟩ := hBr9
        refine GW.eq (S2 := [.int r9]) rfl rfl rfl ?_
        have hz : zlen (ct3 20) = zlen (ct 20) := hzs.trans hz
        rcases hr9 with hr9 | hr9
        · skip
          obtain rfl := hr9
          refine dv_if_ne (tgt := 28) dX0_fewestFor_16 (by decide) (fun c11 => ?_) (fun c11 => ?_)
          · skip
            refine dv_iload_n dX0_fewestFor_28 rfl 1 rfl ?_
            exact dv_iret dX0_fewestFor_29 rfl (by first | exact Nat.zero_le _ | decide) (by first | exact Nat.zero_le _ | decide) (by subst hK; exact ⟨v2_4, rfl, (⟨by first | omega | decide, by first | omega | decide⟩), hI, hz⟩)
          · skip
            exact absurd c11 (by decide)
        · skip
          obtain rfl := hr9
          refine dv_if_ne (tgt := 28) dX0_fewestFor_16 (by decide) (fun c12 => ?_) (fun c12 => ?_)
          · skip
            exact absurd c12 (by decide)
          · skip
            obtain ⟨x13, ex13⟩ : ∃ y : Int32, y = v2_4 + 1 := ⟨_, rfl⟩
            have tx13 : x13.toInt = v2_4.toInt + 1 := by rw [ex13]; exact z_add rfl (by decide : (1 : Int32).toInt = 1) (by omega) (by omega)
            refine dv_iinc (v := x13) (lv' := [(2, .int x13), (3, .int v3_4), (0, .ref 17), (1, .int who)]) dX0_fewestFor_19 (k := 1) rfl (by rw [ex13]; rfl) (by decide) rfl ?_
            obtain ⟨x14, ex14⟩ : ∃ y : Int32, y = v3_4 + 1 := ⟨_, rfl⟩
            have tx14 : x14.toInt = v3_4.toInt + 1 := by rw [ex14]; exact z_add rfl (by decide : (1 : Int32).toInt = 1) (by omega) (by omega)
            refine dv_iinc (v := x14) (lv' := [(3, .int x14), (2, .int x13), (0, .ref 17), (1, .int who)]) dX0_fewestFor_22 (k := 1) rfl (by rw [ex14]; rfl) (by decide) rfl ?_
            refine dv_goto (tgt := 4) dX0_fewestFor_25 (by decide) ?_
            exact ih4 x14 x13 ct3 (by omega) (by first | omega | decide | assumption) (by first | omega | decide | assumption) (by first | omega | decide | assumption) hz hI
  exact loop4 ((16 - (0 : Int32).toInt : Int).toNat + 1) (0 : Int32) (0 : Int32) ct (by omega) (by first | omega | decide | assumption) (by first | omega | decide | assumption) (by first | omega | decide | assumption) hz hI

set_option maxHeartbeats 4000000 in
set_option maxRecDepth 100000 in
theorem k_X0_isFirst (l : Launch) (g : zG) (pe : Int32) (ct : Nat → va_E) (who : Int32) (told : Int32) (n : Int32) (hl_who : 0 ≤ who.toInt ∧ who.toInt ≤ 65535) (hl_n : -2147483648 ≤ n.toInt ∧ n.toInt ≤ 16) (hI : Inv8 g idn pe ct) : DM l g pQ false yX0_isFirst cX0_isFirst 4 (some .boolean) ({ frames := 33, cells := 0, slots := 0, locals := 836 }) (fun (ct2 : Nat → va_E) (rr : Option Value) => ∃ (r : Int32), rr = some (.int r) ∧ ((r = 1) ∨ (r = 0)) ∧ Inv8 g idn pe ct2 ∧ zlen (ct2 20) = zlen (ct 20)) ct [.ref 17, .int who, .int told, .int n] := by
  refine DM.K (fun K hK => ?_)
  refine GW.met (own := RX0) (loc := [(0, .ref 17), (1, .int who), (2, .int told), (3, .int n)]) (by decide) rfl rfl (Nat.le_of_ble_eq_true rfl) ?_
  have hpe0 := hI.1
  have hz : zlen (ct 20) = zlen (ct 20) := rfl
  have rg_told := z_rng told
  refine dv_aload_n dX0_isFirst_0 rfl 0 rfl ?_
  refine dv_iload_n dX0_isFirst_1 rfl 1 rfl ?_
  refine dv_iload_n dX0_isFirst_2 rfl 2 rfl ?_
  refine dv_iload_n dX0_isFirst_3 rfl 3 rfl ?_
  obtain ⟨spc3, tim4, h5, h6, hs2⟩ := a8_17 hI
  refine GW.callV (n := 3) (As := [.int who, .int told, .int n]) (rest := []) (b := 17) (k_X0_areEnoughBy_16 l g pe ct who told n (by first | omega | decide) (by first | omega | decide) hI) (fun _ h => h) rfl rfl ⟨by decide, rfl⟩ hs2 (q := (RX0, TX0, 5)) rfl mm_760 mm_762 mm_40 mm_56 mm_763 (by decide +kernel) ⟨Nat.le_of_ble_eq_true rfl, Nat.le_of_ble_eq_true rfl⟩ rfl (Nat.le_of_ble_eq_true rfl) dX0_isFirst_4 (Nat.zero_le _) (Nat.zero_le _) rfl (fun ct1 rrr7 hBr7 hoff8 => ?_)
  obtain ⟨r7, rfl, hr7, hI, hzs⟩ := hBr7
  refine GW.eq (S2 := [.int r7]) rfl rfl rfl ?_
  have hz : zlen (ct1 20) = zlen (ct 20) := hzs.trans hz
  rcases hr7 with hr7 | hr7
  · skip
    obtain rfl := hr7
    have q9 : (1 : Int32).toInt = 1 := by decide
    exact dv_zret dX0_isFirst_7 rfl rfl (by first | exact Nat.zero_le _ | decide) (by first | exact Nat.zero_le _ | decide) (by subst hK; exact ⟨1, rfl, (by first | exact Or.inl ⟨rfl, by omega⟩ | exact Or.inr ⟨rfl, by omega⟩ | exact Or.inl rfl | exact Or.inr rfl | exact Or.inl ⟨rfl, by omega, by omega⟩ | exact (z_01 (by omega) (by omega)).symm), hI, hz⟩)
  · skip
    obtain rfl := hr7
    have q10 : (0 : Int32).toInt = 0 := by decide
    exact dv_zret dX0_isFirst_7 rfl rfl (by first | exact Nat.zero_le _ | decide) (by first | exact Nat.zero_le _ | decide) (by subst hK; exact ⟨0, rfl, (by first | exact Or.inl ⟨rfl, by omega⟩ | exact Or.inr ⟨rfl, by omega⟩ | exact Or.inl rfl | exact Or.inr rfl | exact Or.inl ⟨rfl, by omega, by omega⟩ | exact (z_01 (by omega) (by omega)).symm), hI, hz⟩)

set_option maxHeartbeats 4000000 in
set_option maxRecDepth 100000 in
theorem k_X0_addSplit (l : Launch) (g : zG) (pe : Int32) (ct : Nat → va_E) (sp : Int32) (so : Int32) (hI : Inv8 g idn pe ct) : DM l g pQ false yX0_addSplit cX0_addSplit 5 none ({ frames := 0, cells := 0, slots := 0, locals := 0 }) (fun (ct2 : Nat → va_E) (rr : Option Value) => rr = none ∧ Inv8 g idn pe ct2 ∧ zlen (ct2 20) = zlen (ct 20)) ct [.ref 17, .int sp, .int so] := by
  refine DM.K (fun K hK => ?_)
  refine GW.met (own := RX0) (loc := [(0, .ref 17), (1, .int sp), (2, .int so)]) (by decide) rfl rfl (Nat.le_of_ble_eq_true rfl) ?_
  have hpe0 := hI.1
  have hz : zlen (ct 20) = zlen (ct 20) := rfl
  have rg_sp := z_rng sp
  have rg_so := z_rng so
  refine dv_iload_n dX0_addSplit_0 rfl 1 rfl ?_
  refine dv_iload_n dX0_addSplit_1 rfl 2 rfl ?_
  refine dv_icmp_ne (tgt := 9) dX0_addSplit_2 (by decide) (fun c1 => ?_) (fun c1 => ?_)
  · skip
    have c1 : ¬ (sp.toInt = so.toInt) := fun q => c1 ((z_eq rfl rfl).mpr q)
    refine dv_iconst (v := 0) dX0_addSplit_9 (by decide) ?_
    refine dv_istore_n (lv' := [(3, .int 0), (0, .ref 17), (1, .int sp), (2, .int so)]) dX0_addSplit_10 rfl (by decide) rfl ?_
    refine dv_iconst (v := 0) dX0_addSplit_11 (by decide) ?_
    refine dv_istore (lv' := [(4, .int 0), (3, .int 0), (0, .ref 17), (1, .int sp), (2, .int so)]) dX0_addSplit_12 (by decide) rfl ?_
    have loop14 : ∀ (n14 : Nat) (v4_14 : Int32) (v3_14 : Int32) (ct2 : Nat → va_E), ((128 - v4_14.toInt : Int).toNat < n14) → (0 ≤ v4_14.toInt ∧ v4_14.toInt ≤ 128) → (0 ≤ v3_14.toInt ∧ v3_14.toInt ≤ 1) → (zlen (ct2 20) = zlen (ct 20)) → (Inv8 g idn pe ct2) → GW l g pQ pQ false yX0_addSplit cX0_addSplit 5 none RX0 ({ frames := 0, cells := 0, slots := 0, locals := 0 }) K 0 0 ct2 14 [(4, .int v4_14), (3, .int v3_14), (0, .ref 17), (1, .int sp), (2, .int so)] [] := by
      intro n14
      induction n14 with
      | zero =>
        intro v4_14 v3_14 ct2 hn14 b4_14 b3_14 hz hI
        exact absurd hn14 (Nat.not_lt_zero _)
      | succ n14 ih14 =>
        intro v4_14 v3_14 ct2 hn14 b4_14 b3_14 hz hI
        refine dv_iload dX0_addSplit_14 0 rfl ?_
        refine dv_aload_n dX0_addSplit_16 rfl 2 rfl ?_
        obtain ⟨spc4, tim5, h6, h7, hs3⟩ := a8_17 hI
        refine dv_get (ci := 0) (v := .int spc4) (C := RX0) (T := TX0) (N := 5) ⟨by decide, rfl⟩ hs3 rfl inG0 1 (by decide) mm_161 rfl dX0_addSplit_17 ?_
        refine dv_icmp_ge (tgt := 50) dX0_addSplit_20 (by decide) (fun c8 => ?_) (fun c8 => ?_)
        · skip
          have c8 : spc4.toInt ≤ v4_14.toInt := (z_le rfl rfl).mp c8
          refine dv_iload_n dX0_addSplit_50 rfl 1 rfl ?_
          refine dv_if_ne (tgt := 84) dX0_addSplit_51 (by decide) (fun c9 => ?_) (fun c9 => ?_)
          · skip
            have c9 : ¬ (v3_14.toInt = 0) := fun q => c9 ((z_eq rfl (by decide : (0 : Int32).toInt = 0)).mpr q)
            exact dv_vret dX0_addSplit_84 rfl (by first | exact Nat.zero_le _ | decide) (by first | exact Nat.zero_le _ | decide) (by subst hK; exact ⟨rfl, hI, hz⟩)
          · skip
            have c9 : v3_14.toInt = 0 := (z_eq rfl (by decide : (0 : Int32).toInt = 0)).mp c9
            refine dv_aload_n dX0_addSplit_54 rfl 2 rfl ?_
            refine dv_get (ci := 0) (v := .int spc4) (C := RX0) (T := TX0) (N := 5) ⟨by decide, rfl⟩ hs3 rfl inG0 1 (by decide) mm_161 rfl dX0_addSplit_55 ?_
            refine dv_sipush (v := 128) dX0_addSplit_58 (by decide) ?_
            refine dv_icmp_ge (tgt := 84) dX0_addSplit_61 (by decide) (fun c10 => ?_) (fun c10 => ?_)
            · skip
              have c10 : 128 ≤ spc4.toInt := (z_le (by decide : (128 : Int32).toInt = 128) rfl).mp c10
              exact dv_vret dX0_addSplit_84 rfl (by first | exact Nat.zero_le _ | decide) (by first | exact Nat.zero_le _ | decide) (by subst hK; exact ⟨rfl, hI, hz⟩)
            · skip
              have c10 : ¬ (128 ≤ spc4.toInt) := fun q => c10 ((z_le (by decide : (128 : Int32).toInt = 128) rfl).mpr q)
              refine dv_aload_n dX0_addSplit_64 rfl 2 rfl ?_
              refine dv_get (ci := 0) (v := .ref 18) (C := RX0) (T := TX0) (N := 5) ⟨by decide, rfl⟩ hs3 rfl inG0 0 (by decide) mm_160 rfl dX0_addSplit_65 ?_
              refine dv_aload_n dX0_addSplit_68 rfl 2 rfl ?_
              refine dv_get (ci := 0) (v := .int spc4) (C := RX0) (T := TX0) (N := 5) ⟨by decide, rfl⟩ hs3 rfl inG0 1 (by decide) mm_161 rfl dX0_addSplit_69 ?_
              refine dv_iload_n dX0_addSplit_72 rfl 3 rfl ?_
              obtain ⟨f12, hs11⟩ := a8_18 hI
              refine dv_iast 0 ⟨by decide, rfl⟩ hs11 rfl (z_in rfl (by omega) (by omega)) dX0_addSplit_73 (en := .inl (g.2 0, 128, .inl (upd f12 (Int32.toNatClampNeg spc4) sp))) rfl (fun ct13 ec14 => ?_)
              have hI : Inv8 g idn pe ct13 := by rw [ec14]; exact up8 hI (i8_18 ⟨_, rfl⟩)
              have hz : zlen (ct13 20) = zlen (ct 20) := by rw [ec14]; exact (congrArg zlen (va_up_ne _ _ (by omega))).trans hz
              have hs15 : ct13 17 = .inr (0, [.ref 18, .int spc4, .ref 19, .ref 20, .int tim5]) := by rw [ec14, va_up_ne _ _ (by omega)]; exact hs3
              have hs16 : ct13 18 = .inl (g.2 0, 128, .inl (upd f12 (Int32.toNatClampNeg spc4) sp)) := by rw [ec14]; exact va_up_self _ _ _
              refine dv_aload_n dX0_addSplit_74 rfl 2 rfl ?_
              refine dv_dup dX0_addSplit_75 rfl ?_
              refine dv_get (ci := 0) (v := .int spc4) (C := RX0) (T := TX0) (N := 5) ⟨by decide, rfl⟩ hs15 rfl inG0 1 (by decide) mm_161 rfl dX0_addSplit_76 ?_
              refine dv_iconst (v := 1) dX0_addSplit_79 (by decide) ?_
              refine dv_iadd dX0_addSplit_80 ?_
              refine dv_topi (fun x17 ex17 => ?_)
              have tx17 : x17.toInt = spc4.toInt + 1 := by rw [ex17]; exact z_add rfl (by decide : (1 : Int32).toInt = 1) (by omega) (by omega)
              refine dv_put (ci := 0) (v := .int x17) (ty := .int) (C := RX0) (T := TX0) (N := 5) ⟨by decide, rfl⟩ hs15 rfl inG0 tyX0 tyX0_ok nmX0 1 (by decide) mm_161 rfl (by decide +kernel) (fun _ => rfl) (fun _ => rfl) (Nat.le_of_ble_eq_true rfl) dX0_addSplit_81 (en := .inr (0, [.ref 18, .int x17, .ref 19, .ref 20, .int tim5])) rfl (fun ct18 ec19 => ?_)
              have hI : Inv8 g idn pe ct18 := by rw [ec19]; exact up8 hI (i8_17 ⟨(x17 : Int32), (tim5 : Int32), (by first | omega | decide), (by first | omega | decide), rfl⟩)
              have hz : zlen (ct18 20) = zlen (ct 20) := by rw [ec19]; exact (congrArg zlen (va_up_ne _ _ (by omega))).trans hz
              have hs20 : ct18 18 = .inl (g.2 0, 128, .inl (upd f12 (Int32.toNatClampNeg spc4) sp)) := by rw [ec19, va_up_ne _ _ (by omega)]; exact hs16
              have hs21 : ct18 17 = .inr (0, [.ref 18, .int x17, .ref 19, .ref 20, .int tim5]) := by rw [ec19]; exact va_up_self _ _ _
              exact dv_vret dX0_addSplit_84 rfl (by first | exact Nat.zero_le _ | decide) (by first | exact Nat.zero_le _ | decide) (by subst hK; exact ⟨rfl, hI, hz⟩)
        · skip
          have c8 : ¬ (spc4.toInt ≤ v4_14.toInt) := fun q => c8 ((z_le rfl rfl).mpr q)
          refine dv_iload_n dX0_addSplit_23 rfl 1 rfl ?_
          refine dv_if_ne (tgt := 50) dX0_addSplit_24 (by decide) (fun c22 => ?_) (fun c22 => ?_)
          · skip
            have c22 : ¬ (v3_14.toInt = 0) := fun q => c22 ((z_eq rfl (by decide : (0 : Int32).toInt = 0)).mpr q)
            refine dv_iload_n dX0_addSplit_50 rfl 1 rfl ?_
            refine dv_if_ne (tgt := 84) dX0_addSplit_51 (by decide) (fun c23 => ?_) (fun c23 => ?_)
            · skip
              have c23 : ¬ (v3_14.toInt = 0) := fun q => c23 ((z_eq rfl (by decide : (0 : Int32).toInt = 0)).mpr q)
              exact dv_vret dX0_addSplit_84 rfl (by first | exact Nat.zero_le _ | decide) (by first | exact Nat.zero_le _ | decide) (by subst hK; exact ⟨rfl, hI, hz⟩)
            · skip
              have c23 : v3_14.toInt = 0 := (z_eq rfl (by decide : (0 : Int32).toInt = 0)).mp c23
              exfalso
              omega
          · skip
            have c22 : v3_14.toInt = 0 := (z_eq rfl (by decide : (0 : Int32).toInt = 0)).mp c22
            refine dv_aload_n dX0_addSplit_27 rfl 2 rfl ?_
            refine dv_get (ci := 0) (v := .ref 18) (C := RX0) (T := TX0) (N := 5) ⟨by decide, rfl⟩ hs3 rfl inG0 0 (by decide) mm_160 rfl dX0_addSplit_28 ?_
            refine dv_iload dX0_addSplit_31 0 rfl ?_
            obtain ⟨f25, hs24⟩ := a8_18 hI
            refine dv_iald 0 ⟨by decide, rfl⟩ hs24 rfl (z_in rfl (by omega) (by omega)) dX0_addSplit_33 ?_
            refine dv_topi (fun y26 ey26 => ?_)
            refine dv_iload_n dX0_addSplit_34 rfl 3 rfl ?_
            refine dv_icmp_ne (tgt := 42) dX0_addSplit_35 (by decide) (fun c27 => ?_) (fun c27 => ?_)
            · skip
              have c27 : ¬ (y26.toInt = sp.toInt) := fun q => c27 ((z_eq rfl rfl).mpr q)
              refine dv_iconst (v := 0) dX0_addSplit_42 (by decide) ?_
              refine dv_istore_n (lv' := [(3, .int 0), (4, .int v4_14), (0, .ref 17), (1, .int sp), (2, .int so)]) dX0_addSplit_43 rfl (by decide) rfl ?_
              obtain ⟨x28, ex28⟩ : ∃ y : Int32, y = v4_14 + 1 := ⟨_, rfl⟩
              have tx28 : x28.toInt = v4_14.toInt + 1 := by rw [ex28]; exact z_add rfl (by decide : (1 : Int32).toInt = 1) (by omega) (by omega)
              refine dv_iinc (v := x28) (lv' := [(4, .int x28), (3, .int 0), (0, .ref 17), (1, .int sp), (2, .int so)]) dX0_addSplit_44 (k := 1) rfl (by rw [ex28]; rfl) (by decide) rfl ?_
              refine dv_goto (tgt := 14) dX0_addSplit_47 (by decide) ?_
              exact ih14 x28 (0 : Int32) ct2 (by omega) (by first | omega | decide | assumption) (by first | omega | decide | assumption) hz hI
            · skip
              have c27 : y26.toInt = sp.toInt := (z_eq rfl rfl).mp c27
              refine dv_iconst (v := 1) dX0_addSplit_38 (by decide) ?_
              refine dv_goto (tgt := 43) dX0_addSplit_39 (by decide) ?_
              refine dv_istore_n (lv' := [(3, .int 1), (4, .int v4_14), (0, .ref 17), (1, .int sp), (2, .int so)]) dX0_addSplit_43 rfl (by decide) rfl ?_
              obtain ⟨x29, ex29⟩ : ∃ y : Int32, y = v4_14 + 1 := ⟨_, rfl⟩
              have tx29 : x29.toInt = v4_14.toInt + 1 := by rw [ex29]; exact z_add rfl (by decide : (1 : Int32).toInt = 1) (by omega) (by omega)
              refine dv_iinc (v := x29) (lv' := [(4, .int x29), (3, .int 1), (0, .ref 17), (1, .int sp), (2, .int so)]) dX0_addSplit_44 (k := 1) rfl (by rw [ex29]; rfl) (by decide) rfl ?_
              refine dv_goto (tgt := 14) dX0_addSplit_47 (by decide) ?_
              exact ih14 x29 (1 : Int32) ct2 (by omega) (by first | omega | decide | assumption) (by first | omega | decide | assumption) hz hI
    exact loop14 ((128 - (0 : Int32).toInt : Int).toNat + 1) (0 : Int32) (0 : Int32) ct (by omega) (by first | omega | decide | assumption) (by first | omega | decide | assumption) hz hI
  · skip
    have c1 : sp.toInt = so.toInt := (z_eq rfl rfl).mp c1
    refine dv_iconst (v := 1) dX0_addSplit_5 (by decide) ?_
    refine dv_goto (tgt := 10) dX0_addSplit_6 (by decide) ?_
    refine dv_istore_n (lv' := [(3, .int 1), (0, .ref 17), (1, .int sp), (2, .int so)]) dX0_addSplit_10 rfl (by decide) rfl ?_
    refine dv_iconst (v := 0) dX0_addSplit_11 (by decide) ?_
    refine dv_istore (lv' := [(4, .int 0), (3, .int 1), (0, .ref 17), (1, .int sp), (2, .int so)]) dX0_addSplit_12 (by decide) rfl ?_
    have loop14 : ∀ (n14 : Nat) (v4_14 : Int32) (v3_14 : Int32) (ct30 : Nat → va_E), ((128 - v4_14.toInt : Int).toNat < n14) → (0 ≤ v4_14.toInt ∧ v4_14.toInt ≤ 128) → (0 ≤ v3_14.toInt ∧ v3_14.toInt ≤ 1) → (zlen (ct30 20) = zlen (ct 20)) → (Inv8 g idn pe ct30) → GW l g pQ pQ false yX0_addSplit cX0_addSplit 5 none RX0 ({ frames := 0, cells := 0, slots := 0, locals := 0 }) K 0 0 ct30 14 [(4, .int v4_14), (3, .int v3_14), (0, .ref 17), (1, .int sp), (2, .int so)] [] := by
      intro n14
      induction n14 with
      | zero =>
        intro v4_14 v3_14 ct30 hn14 b4_14 b3_14 hz hI
        exact absurd hn14 (Nat.not_lt_zero _)
      | succ n14 ih14 =>
        intro v4_14 v3_14 ct30 hn14 b4_14 b3_14 hz hI
        refine dv_iload dX0_addSplit_14 0 rfl ?_
        refine dv_aload_n dX0_addSplit_16 rfl 2 rfl ?_
        obtain ⟨spc32, tim33, h34, h35, hs31⟩ := a8_17 hI
        refine dv_get (ci := 0) (v := .int spc32) (C := RX0) (T := TX0) (N := 5) ⟨by decide, rfl⟩ hs31 rfl inG0 1 (by decide) mm_161 rfl dX0_addSplit_17 ?_
        refine dv_icmp_ge (tgt := 50) dX0_addSplit_20 (by decide) (fun c36 => ?_) (fun c36 => ?_)
        · skip
          have c36 : spc32.toInt ≤ v4_14.toInt := (z_le rfl rfl).mp c36
          refine dv_iload_n dX0_addSplit_50 rfl 1 rfl ?_
          refine dv_if_ne (tgt := 84) dX0_addSplit_51 (by decide) (fun c37 => ?_) (fun c37 => ?_)
          · skip
            have c37 : ¬ (v3_14.toInt = 0) := fun q => c37 ((z_eq rfl (by decide : (0 : Int32).toInt = 0)).mpr q)
            exact dv_vret dX0_addSplit_84 rfl (by first | exact Nat.zero_le _ | decide) (by first | exact Nat.zero_le _ | decide) (by subst hK; exact ⟨rfl, hI, hz⟩)
          · skip
            have c37 : v3_14.toInt = 0 := (z_eq rfl (by decide : (0 : Int32).toInt = 0)).mp c37
            refine dv_aload_n dX0_addSplit_54 rfl 2 rfl ?_
            refine dv_get (ci := 0) (v := .int spc32) (C := RX0) (T := TX0) (N := 5) ⟨by decide, rfl⟩ hs31 rfl inG0 1 (by decide) mm_161 rfl dX0_addSplit_55 ?_
            refine dv_sipush (v := 128) dX0_addSplit_58 (by decide) ?_
            refine dv_icmp_ge (tgt := 84) dX0_addSplit_61 (by decide) (fun c38 => ?_) (fun c38 => ?_)
            · skip
              have c38 : 128 ≤ spc32.toInt := (z_le (by decide : (128 : Int32).toInt = 128) rfl).mp c38
              exact dv_vret dX0_addSplit_84 rfl (by first | exact Nat.zero_le _ | decide) (by first | exact Nat.zero_le _ | decide) (by subst hK; exact ⟨rfl, hI, hz⟩)
            · skip
              have c38 : ¬ (128 ≤ spc32.toInt) := fun q => c38 ((z_le (by decide : (128 : Int32).toInt = 128) rfl).mpr q)
              refine dv_aload_n dX0_addSplit_64 rfl 2 rfl ?_
              refine dv_get (ci := 0) (v := .ref 18) (C := RX0) (T := TX0) (N := 5) ⟨by decide, rfl⟩ hs31 rfl inG0 0 (by decide) mm_160 rfl dX0_addSplit_65 ?_
              refine dv_aload_n dX0_addSplit_68 rfl 2 rfl ?_
              refine dv_get (ci := 0) (v := .int spc32) (C := RX0) (T := TX0) (N := 5) ⟨by decide, rfl⟩ hs31 rfl inG0 1 (by decide) mm_161 rfl dX0_addSplit_69 ?_
              refine dv_iload_n dX0_addSplit_72 rfl 3 rfl ?_
              obtain ⟨f40, hs39⟩ := a8_18 hI
              refine dv_iast 0 ⟨by decide, rfl⟩ hs39 rfl (z_in rfl (by omega) (by omega)) dX0_addSplit_73 (en := .inl (g.2 0, 128, .inl (upd f40 (Int32.toNatClampNeg spc32) sp))) rfl (fun ct41 ec42 => ?_)
              have hI : Inv8 g idn pe ct41 := by rw [ec42]; exact up8 hI (i8_18 ⟨_, rfl⟩)
              have hz : zlen (ct41 20) = zlen (ct 20) := by rw [ec42]; exact (congrArg zlen (va_up_ne _ _ (by omega))).trans hz
              have hs43 : ct41 17 = .inr (0, [.ref 18, .int spc32, .ref 19, .ref 20, .int tim33]) := by rw [ec42, va_up_ne _ _ (by omega)]; exact hs31
              have hs44 : ct41 18 = .inl (g.2 0, 128, .inl (upd f40 (Int32.toNatClampNeg spc32) sp)) := by rw [ec42]; exact va_up_self _ _ _
              refine dv_aload_n dX0_addSplit_74 rfl 2 rfl ?_
              refine dv_dup dX0_addSplit_75 rfl ?_
              refine dv_get (ci := 0) (v := .int spc32) (C := RX0) (T := TX0) (N := 5) ⟨by decide, rfl⟩ hs43 rfl inG0 1 (by decide) mm_161 rfl dX0_addSplit_76 ?_
              refine dv_iconst (v := 1) dX0_addSplit_79 (by decide) ?_
              refine dv_iadd dX0_addSplit_80 ?_
              refine dv_topi (fun x45 ex45 => ?_)
              have tx45 : x45.toInt = spc32.toInt + 1 := by rw [ex45]; exact z_add rfl (by decide : (1 : Int32).toInt = 1) (by omega) (by omega)
              refine dv_put (ci := 0) (v := .int x45) (ty := .int) (C := RX0) (T := TX0) (N := 5) ⟨by decide, rfl⟩ hs43 rfl inG0 tyX0 tyX0_ok nmX0 1 (by decide) mm_161 rfl (by decide +kernel) (fun _ => rfl) (fun _ => rfl) (Nat.le_of_ble_eq_true rfl) dX0_addSplit_81 (en := .inr (0, [.ref 18, .int x45, .ref 19, .ref 20, .int tim33])) rfl (fun ct46 ec47 => ?_)
              have hI : Inv8 g idn pe ct46 := by rw [ec47]; exact up8 hI (i8_17 ⟨(x45 : Int32), (tim33 : Int32), (by first | omega | decide), (by first | omega | decide), rfl⟩)
              have hz : zlen (ct46 20) = zlen (ct 20) := by rw [ec47]; exact (congrArg zlen (va_up_ne _ _ (by omega))).trans hz
              have hs48 : ct46 18 = .inl (g.2 0, 128, .inl (upd f40 (Int32.toNatClampNeg spc32) sp)) := by rw [ec47, va_up_ne _ _ (by omega)]; exact hs44
              have hs49 : ct46 17 = .inr (0, [.ref 18, .int x45, .ref 19, .ref 20, .int tim33]) := by rw [ec47]; exact va_up_self _ _ _
              exact dv_vret dX0_addSplit_84 rfl (by first | exact Nat.zero_le _ | decide) (by first | exact Nat.zero_le _ | decide) (by subst hK; exact ⟨rfl, hI, hz⟩)
        · skip
          have c36 : ¬ (spc32.toInt ≤ v4_14.toInt) := fun q => c36 ((z_le rfl rfl).mpr q)
          refine dv_iload_n dX0_addSplit_23 rfl 1 rfl ?_
          refine dv_if_ne (tgt := 50) dX0_addSplit_24 (by decide) (fun c50 => ?_) (fun c50 => ?_)
          · skip
            have c50 : ¬ (v3_14.toInt = 0) := fun q => c50 ((z_eq rfl (by decide : (0 : Int32).toInt = 0)).mpr q)
            refine dv_iload_n dX0_addSplit_50 rfl 1 rfl ?_
            refine dv_if_ne (tgt := 84) dX0_addSplit_51 (by decide) (fun c51 => ?_) (fun c51 => ?_)
            · skip
              have c51 : ¬ (v3_14.toInt = 0) := fun q => c51 ((z_eq rfl (by decide : (0 : Int32).toInt = 0)).mpr q)
              exact dv_vret dX0_addSplit_84 rfl (by first | exact Nat.zero_le _ | decide) (by first | exact Nat.zero_le _ | decide) (by subst hK; exact ⟨rfl, hI, hz⟩)
            · skip
              have c51 : v3_14.toInt = 0 := (z_eq rfl (by decide : (0 : Int32).toInt = 0)).mp c51
              exfalso
              omega
          · skip
            have c50 : v3_14.toInt = 0 := (z_eq rfl (by decide : (0 : Int32).toInt = 0)).mp c50
            refine dv_aload_n dX0_addSplit_27 rfl 2 rfl ?_
            refine dv_get (ci := 0) (v := .ref 18) (C := RX0) (T := TX0) (N := 5) ⟨by decide, rfl⟩ hs31 rfl inG0 0 (by decide) mm_160 rfl dX0_addSplit_28 ?_
            refine dv_iload dX0_addSplit_31 0 rfl ?_
            obtain ⟨f53, hs52⟩ := a8_18 hI
            refine dv_iald 0 ⟨by decide, rfl⟩ hs52 rfl (z_in rfl (by omega) (by omega)) dX0_addSplit_33 ?_
            refine dv_topi (fun y54 ey54 => ?_)
            refine dv_iload_n dX0_addSplit_34 rfl 3 rfl ?_
            refine dv_icmp_ne (tgt := 42) dX0_addSplit_35 (by decide) (fun c55 => ?_) (fun c55 => ?_)
            · skip
              have c55 : ¬ (y54.toInt = sp.toInt) := fun q => c55 ((z_eq rfl rfl).mpr q)
              refine dv_iconst (v := 0) dX0_addSplit_42 (by decide) ?_
              refine dv_istore_n (lv' := [(3, .int 0), (4, .int v4_14), (0, .ref 17), (1, .int sp), (2, .int so)]) dX0_addSplit_43 rfl (by decide) rfl ?_
              obtain ⟨x56, ex56⟩ : ∃ y : Int32, y = v4_14 + 1 := ⟨_, rfl⟩
              have tx56 : x56.toInt = v4_14.toInt + 1 := by rw [ex56]; exact z_add rfl (by decide : (1 : Int32).toInt = 1) (by omega) (by omega)
              refine dv_iinc (v := x56) (lv' := [(4, .int x56), (3, .int 0), (0, .ref 17), (1, .int sp), (2, .int so)]) dX0_addSplit_44 (k := 1) rfl (by rw [ex56]; rfl) (by decide) rfl ?_
              refine dv_goto (tgt := 14) dX0_addSplit_47 (by decide) ?_
              exact ih14 x56 (0 : Int32) ct30 (by omega) (by first | omega | decide | assumption) (by first | omega | decide | assumption) hz hI
            · skip
              have c55 : y54.toInt = sp.toInt := (z_eq rfl rfl).mp c55
              refine dv_iconst (v := 1) dX0_addSplit_38 (by decide) ?_
              refine dv_goto (tgt := 43) dX0_addSplit_39 (by decide) ?_
              refine dv_istore_n (lv' := [(3, .int 1), (4, .int v4_14), (0, .ref 17), (1, .int sp), (2, .int so)]) dX0_addSplit_43 rfl (by decide) rfl ?_
              obtain ⟨x57, ex57⟩ : ∃ y : Int32, y = v4_14 + 1 := ⟨_, rfl⟩
              have tx57 : x57.toInt = v4_14.toInt + 1 := by rw [ex57]; exact z_add rfl (by decide : (1 : Int32).toInt = 1) (by omega) (by omega)
              refine dv_iinc (v := x57) (lv' := [(4, .int x57), (3, .int 1), (0, .ref 17), (1, .int sp), (2, .int so)]) dX0_addSplit_44 (k := 1) rfl (by rw [ex57]; rfl) (by decide) rfl ?_
              refine dv_goto (tgt := 14) dX0_addSplit_47 (by decide) ?_
              exact ih14 x57 (1 : Int32) ct30 (by omega) (by first | omega | decide | assumption) (by first | omega | decide | assumption) hz hI
    exact loop14 ((128 - (0 : Int32).toInt : Int).toNat + 1) (0 : Int32) (1 : Int32) ct (by omega) (by first | omega | decide | assumption) (by first | omega | decide | assumption) hz hI

set_option maxHeartbeats 4000000 in
set_option maxRecDepth 100000 in
theorem k_X8_firstQuestion (l : Launch) (g : zG) (pe : Int32) (ct : Nat → va_E) (so : Int32) (n : Int32) (wh : Int32) (hl_so : 0 ≤ so.toInt ∧ so.toInt ≤ 65535) (hl_n : -2147483648 ≤ n.toInt ∧ n.toInt ≤ 16) (hI : Inv8 g idn pe ct) : DM l g pCl false yX8_firstQuestion cX8_firstQuestion 6 (some .int) ({ frames := 34, cells := 0, slots := 0, locals := 859 }) (fun (ct2 : Nat → va_E) (rr : Option Value) => ∃ (r : Int32), rr = some (.int r) ∧ ((True)) ∧ Inv8 g idn pe ct2 ∧ zlen (ct2 20) = zlen (ct 20)) ct [.ref 0, .int so, .int n, .int wh] := by
  refine DM.K (fun K hK => ?_)
  refine GW.met (own := RX8) (loc := [(0, .ref 0), (1, .int so), (2, .int n), (3, .int wh)]) (by decide) rfl rfl (Nat.le_of_ble_eq_true rfl) ?_
  have hpe0 := hI.1
  have hz : zlen (ct 20) = zlen (ct 20) := rfl
  have rg_wh := z_rng wh
  refine dv_iconst (v := 0) dX8_firstQuestion_0 (by decide) ?_
  refine dv_istore (lv' := [(4, .int 0), (0, .ref 0), (1, .int so), (2, .int n), (3, .int wh)]) dX8_firstQuestion_1 (by decide) rfl ?_
  have loop3 : ∀ (n3 : Nat) (v4_3 : Int32) (ct1 : Nat → va_E), ((4 - v4_3.toInt : Int).toNat < n3) → (0 ≤ v4_3.toInt ∧ v4_3.toInt ≤ 4) → (zlen (ct1 20) = zlen (ct 20)) → (Inv8 g idn pe ct1) → GW l g pCl pCl false yX8_firstQuestion cX8_firstQuestion 6 (some .int) RX8 ({ frames := 34, cells := 0, slots := 0, locals := 859 }) K 0 0 ct1 3 [(4, .int v4_3), (0, .ref 0), (1, .int so), (2, .int n), (3, .int wh)] [] := by
    intro n3
    induction n3 with
    | zero =>
      intro v4_3 ct1 hn3 b4_3 hz hI
      exact absurd hn3 (Nat.not_lt_zero _)
    | succ n3 ih3 =>
      intro v4_3 ct1 hn3 b4_3 hz hI
      refine dv_iload dX8_firstQuestion_3 0 rfl ?_
      refine dv_iconst (v := 4) dX8_firstQuestion_5 (by decide) ?_
      refine dv_icmp_ge (tgt := 68) dX8_firstQuestion_6 (by decide) (fun c2 => ?_) (fun c2 => ?_)
      · skip
        have c2 : 4 ≤ v4_3.toInt := (z_le (by decide : (4 : Int32).toInt = 4) rfl).mp c2
        refine dv_bipush (v := (-2)) dX8_firstQuestion_68 (by decide) ?_
        have q3 : ((-2) : Int32).toInt = -2 := by decide
        exact dv_iret dX8_firstQuestion_70 rfl (by first | exact Nat.zero_le _ | decide) (by first | exact Nat.zero_le _ | decide) (by subst hK; exact ⟨(-2), rfl, (trivial), hI, hz⟩)
      · skip
        have c2 : ¬ (4 ≤ v4_3.toInt) := fun q => c2 ((z_le (by decide : (4 : Int32).toInt = 4) rfl).mpr q)
        refine dv_iconst (v := 0) dX8_firstQuestion_9 (by decide) ?_
        refine dv_istore (lv' := [(5, .int 0), (4, .int v4_3), (0, .ref 0), (1, .int so), (2, .int n), (3, .int wh)]) dX8_firstQuestion_10 (by decide) rfl ?_
        have loop12 : ∀ (n12 : Nat) (v5_12 : Int32) (ct4 : Nat → va_E), ((32 - v5_12.toInt : Int).toNat < n12) → (0 ≤ v5_12.toInt ∧ v5_12.toInt ≤ 32) → (zlen (ct4 20) = zlen (ct 20)) → (Inv8 g idn pe ct4) → GW l g pCl pCl false yX8_firstQuestion cX8_firstQuestion 6 (some .int) RX8 ({ frames := 34, cells := 0, slots := 0, locals := 859 }) K 0 0 ct4 12 [(5, .int v5_12), (4, .int v4_3), (0, .ref 0), (1, .int so), (2, .int n), (3, .int wh)] [] := by
          intro n12
          induction n12 with
          | zero =>
            intro v5_12 ct4 hn12 b5_12 hz hI
            exact absurd hn12 (Nat.not_lt_zero _)
          | succ n12 ih12 =>
            intro v5_12 ct4 hn12 b5_12 hz hI
            refine dv_iload dX8_firstQuestion_12 0 rfl ?_
            refine dv_bipush (v := 32) dX8_firstQuestion_14 (by decide) ?_
            refine dv_icmp_ge (tgt := 62) dX8_firstQuestion_16 (by decide) (fun c5 => ?_) (fun c5 => ?_)
            · skip
              have c5 : 32 ≤ v5_12.toInt := (z_le (by decide : (32 : Int32).toInt = 32) rfl).mp c5
              obtain ⟨x6, ex6⟩ : ∃ y : Int32, y = v4_3 + 1 := ⟨_, rfl⟩
              have tx6 : x6.toInt = v4_3.toInt + 1 := by rw [ex6]; exact z_add rfl (by decide : (1 : Int32).toInt = 1) (by omega) (by omega)
              refine dv_iinc (v := x6) (lv' := [(4, .int x6), (5, .int v5_12), (0, .ref 0), (1, .int so), (2, .int n), (3, .int wh)]) dX8_firstQuestion_62 (k := 1) rfl (by rw [ex6]; rfl) (by decide) rfl ?_
              refine dv_goto (tgt := 3) dX8_firstQuestion_65 (by decide) ?_
              refine dv_sub (loc2 := [(4, .int x6), (0, .ref 0), (1, .int so), (2, .int n), (3, .int wh)]) [0, 2, 3, 4, 5] rfl ?_
              exact ih3 x6 ct4 (by omega) (by first | omega | decide | assumption) hz hI
            · skip
              have c5 : ¬ (32 ≤ v5_12.toInt) := fun q => c5 ((z_le (by decide : (32 : Int32).toInt = 32) rfl).mpr q)
              refine dv_aload_n dX8_firstQuestion_19 rfl 2 rfl ?_
              obtain ⟨bk9, dr8, h10, h11, h12, hs7⟩ := a8_0 hI
              refine dv_get (ci := 8) (v := .ref 17) (C := RX8) (T := TX8) (N := 13) ⟨by decide, rfl⟩ hs7 rfl inG8 7 (by decide) mm_310 rfl dX8_firstQuestion_20 ?_
              refine dv_iload_n dX8_firstQuestion_23 rfl 3 rfl ?_
              refine dv_aload_n dX8_firstQuestion_24 rfl 2 rfl ?_
              refine dv_get (ci := 8) (v := .ref 1) (C := RX8) (T := TX8) (N := 13) ⟨by decide, rfl⟩ hs7 rfl inG8 0 (by decide) mm_303 rfl dX8_firstQuestion_25 ?_
              refine dv_iload dX8_firstQuestion_28 1 rfl ?_
              have hs13 := a8_1 hI
              refine dv_aldq 4 ⟨by decide, rfl⟩ hs13 rfl (z_in rfl (by omega) (by omega)) dX8_firstQuestion_30 (r := (0 + 35 + 5 * v4_3.toInt.toNat)) (zF1_r (x := v4_3) (by omega) (by omega)) ?_
              refine dv_iload dX8_firstQuestion_31 0 rfl ?_
              obtain ⟨we16, se17, h18, h19, hs15⟩ := a8_35 (kc := (0 + 35 + 5 * v4_3.toInt.toNat)) (by omega) hI
              refine GW.callV (n := 1) (As := [.int v5_12]) (rest := [.int so, .ref 17]) (b := (0 + 35 + 5 * v4_3.toInt.toNat)) (k_X3_whoBelow l g pe ct4 (0 + 35 + 5 * v4_3.toInt.toNat) v5_12 (by omega) hI) sub_pK_pCl rfl rfl ⟨by omega, pK_of (by omega)⟩ hs15 (q := (RX3, TX3, 6)) rfl mm_465 mm_466 mm_467 mm_59 mm_468 (by decide +kernel) ⟨Nat.le_of_ble_eq_true rfl, Nat.le_of_ble_eq_true rfl⟩ rfl (Nat.le_of_ble_eq_true rfl) dX8_firstQuestion_33 (Nat.zero_le _) (Nat.zero_le _) rfl (fun ct14 rrr20 hBr20 hoff21 => ?_)
              obtain ⟨r20, rfl, hr20, rfl⟩ := hBr20
              refine GW.eq (S2 := [.int r20, .int so, .ref 17]) rfl rfl rfl ?_
              refine dv_iload_n dX8_firstQuestion_36 rfl 4 rfl ?_
              obtain ⟨spc24, tim25, h26, h27, hs23⟩ := a8_17 hI
              refine GW.callV (n := 3) (As := [.int so, .int r20, .int n]) (rest := []) (b := 17) (k_X0_isFirst l g pe ct4 so r20 n (by first | omega | decide) (by first | omega | decide) hI) sub_pQ_pCl rfl rfl ⟨by decide, rfl⟩ hs23 (q := (RX0, TX0, 5)) rfl mm_768 mm_769 mm_770 mm_56 mm_771 (by decide +kernel) ⟨Nat.le_of_ble_eq_true rfl, Nat.le_of_ble_eq_true rfl⟩ rfl (Nat.le_of_ble_eq_true rfl) dX8_firstQuestion_37 (Nat.zero_le _) (Nat.zero_le _) rfl (fun ct22 rrr28 hBr28 hoff29 => ?_)
              obtain ⟨r28, rfl, hr28, hI, hzs⟩ := hBr28
              refine GW.eq (S2 := [.int r28]) rfl rfl rfl ?_
              have hz : zlen (ct22 20) = zlen (ct 20) := hzs.trans hz
              have hs30 : ct22 0 = .inr (8, [.ref 1, .ref 2, .ref 3, .ref 5, .ref 6, .ref 9, .ref 10, .ref 17, .ref 21, .ref 34, .ref (99 + 3 * dr8), .int pe, .int bk9]) := (hoff29 _ (pQ_no (by decide))).trans hs7
              have hs31 : ct22 1 = .inl (g.2 4, 4, .inr (.inr (.inr (.inr (zF1 idn 0))))) := (hoff29 _ (pQ_no (by decide))).trans hs13
              have hs32 : ct22 (0 + 35 + 5 * v4_3.toInt.toNat) = .inr (3, [.int we16, .ref ((0 + 35 + 5 * v4_3.toInt.toNat) + 1), .ref ((0 + 35 + 5 * v4_3.toInt.toNat) + 2), .ref ((0 + 35 + 5 * v4_3.toInt.toNat) + 3), .ref ((0 + 35 + 5 * v4_3.toInt.toNat) + 4), .int se17]) := (hoff29 _ (pQ_no (by omega))).trans hs15
              rcases hr28 with hr28 | hr28
              · skip
                obtain rfl := hr28
                refine dv_if_eq (tgt := 56) dX8_firstQuestion_40 (by decide) (fun c33 => ?_) (fun c33 => ?_)
                · skip
                  exact absurd c33 (by decide)
                · skip
                  refine dv_iload_n dX8_firstQuestion_43 rfl 5 rfl ?_
                  refine dv_iconst (v := 1) dX8_firstQuestion_44 (by decide) ?_
                  refine dv_icmp_ne (tgt := 53) dX8_firstQuestion_45 (by decide) (fun c34 => ?_) (fun c34 => ?_)
                  · skip
                    have c34 : ¬ (wh.toInt = 1) := fun q => c34 ((z_eq rfl (by decide : (1 : Int32).toInt = 1)).mpr q)
                    refine dv_iload dX8_firstQuestion_53 0 rfl ?_
                    exact dv_iret dX8_firstQuestion_55 rfl (by first | exact Nat.zero_le _ | decide) (by first | exact Nat.zero_le _ | decide) (by subst hK; exact ⟨v5_12, rfl, (trivial), hI, hz⟩)
                  · skip
                    have c34 : wh.toInt = 1 := (z_eq rfl (by decide : (1 : Int32).toInt = 1)).mp c34
                    refine dv_iload dX8_firstQuestion_48 1 rfl ?_
                    refine dv_goto (tgt := 55) dX8_firstQuestion_50 (by decide) ?_
                    exact dv_iret dX8_firstQuestion_55 rfl (by first | exact Nat.zero_le _ | decide) (by first | exact Nat.zero_le _ | decide) (by subst hK; exact ⟨v4_3, rfl, (trivial), hI, hz⟩)
              · skip
                obtain rfl := hr28
                refine dv_if_eq (tgt := 56) dX8_firstQuestion_40 (by decide) (fun c35 => ?_) (fun c35 => ?_)
                · skip
                  obtain ⟨x36, ex36⟩ : ∃ y : Int32, y = v5_12 + 1 := ⟨_, rfl⟩
                  have tx36 : x36.toInt = v5_12.toInt + 1 := by rw [ex36]; exact z_add rfl (by decide : (1 : Int32).toInt = 1) (by omega) (by omega)
                  refine dv_iinc (v := x36) (lv' := [(5, .int x36), (4, .int v4_3), (0, .ref 0), (1, .int so), (2, .int n), (3, .int wh)]) dX8_firstQuestion_56 (k := 0) rfl (by rw [ex36]; rfl) (by decide) rfl ?_
                  refine dv_goto (tgt := 12) dX8_firstQuestion_59 (by decide) ?_
                  exact ih12 x36 ct22 (by omega) (by first | omega | decide | assumption) hz hI
                · skip
                  exact absurd c35 (by decide)
        exact loop12 ((32 - (0 : Int32).toInt : Int).toNat + 1) (0 : Int32) ct1 (by omega) (by first | omega | decide | assumption) hz hI
  exact loop3 ((4 - (0 : Int32).toInt : Int).toNat + 1) (0 : Int32) ct (by omega) (by first | omega | decide | assumption) hz hI
