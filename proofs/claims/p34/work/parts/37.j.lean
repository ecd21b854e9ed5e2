set_option maxHeartbeats 4000000 in
set_option maxRecDepth 100000 in
theorem k_X4_write (l : Launch) (g : zG) (pe : Int32) (ct : Nat → va_E) (kg : Nat) (n : Int32) (hf_kg : 99 ≤ kg ∧ kg < 126 ∧ (kg - 99) % 3 = 0) (hl_n : 1 ≤ n.toInt ∧ n.toInt ≤ 100) (hI : Inv8 g idn pe ct) : DM l g pGT false yX4_write cX4_write 4 none ({ frames := 2, cells := 0, slots := 0, locals := 43 }) (fun (ct2 : Nat → va_E) (rr : Option Value) => rr = none ∧ Inv8 g idn pe ct2) ct [.ref kg, .ref 3, .int n] := by
  refine DM.K (fun K hK => ?_)
  refine GW.met (own := RX4) (loc := [(0, .ref kg), (1, .ref 3), (2, .int n)]) (by decide) rfl rfl (Nat.le_of_ble_eq_true rfl) ?_
  have hpe0 := hI.1
  refine dv_aload_n dX4_write_0 rfl 0 rfl ?_
  refine dv_iconst (v := 0) dX4_write_1 (by decide) ?_
  obtain ⟨tld2, ofb3, hol4, flt5, fla6, ofl7, len8, atx9, ref10, hz11, h12, h13, h14, h15, hz16, hs1⟩ := a8_44 (kc := kg) (by omega) hI
  have bhz11 := z_b01 hz11
  have bhz16 := z_b01 hz16
  refine dv_put (ci := 4) (v := .int 0) (ty := .boolean) (C := RX4) (T := TX4) (N := 11) ⟨by omega, pGT_of (by omega)⟩ hs1 rfl inG4 tyX4 tyX4_ok nmX4 0 (by decide) mm_214 rfl (by decide +kernel) (fun _ => rfl) (fun _ => rfl) (Nat.le_of_ble_eq_true rfl) dX4_write_2 (en := .inr (4, [.int 0, .int ofb3, .int hol4, .int flt5, .int fla6, .int ofl7, .ref (kg + 1), .ref (kg + 2), .int len8, .int atx9, .int ref10])) rfl (fun ct17 ec18 => ?_)
  have hI : Inv8 g idn pe ct17 := by rw [ec18]; exact up8 hI (i8_44 (kc := kg) (by omega) ⟨(0 : Int32), (ofb3 : Int32), (hol4 : Int32), (flt5 : Int32), (fla6 : Int32), (ofl7 : Int32), (len8 : Int32), (atx9 : Int32), (ref10 : Int32), (Or.inl rfl), (by first | omega | decide), (by first | omega | decide), (by first | omega | decide), (by first | omega | decide), hz16, rfl⟩)
  have hs19 : ct17 kg = .inr (4, [.int 0, .int ofb3, .int hol4, .int flt5, .int fla6, .int ofl7, .ref (kg + 1), .ref (kg + 2), .int len8, .int atx9, .int ref10]) := by rw [ec18]; exact va_up_self _ _ _
  refine dv_aload_n dX4_write_5 rfl 0 rfl ?_
  refine dv_iload_n dX4_write_6 rfl 2 rfl ?_
  refine dv_bipush (v := 100) dX4_write_7 (by decide) ?_
  refine dv_mmin mm_679 mm_680 mm_61 mm_681 (Nat.le_of_ble_eq_true rfl) (Nat.le_of_ble_eq_true rfl) (Nat.zero_le _) (Nat.zero_le _) dX4_write_9 ?_
  refine dv_topi (fun x20 ex20 => ?_)
  have tx20 := z_min (x := n) (y := 100) rfl (by decide : (100 : Int32).toInt = 100)
  rw [← ex20] at tx20
  refine dv_put (ci := 4) (v := .int x20) (ty := .int) (C := RX4) (T := TX4) (N := 11) ⟨by omega, pGT_of (by omega)⟩ hs19 rfl inG4 tyX4 tyX4_ok nmX4 8 (by decide) mm_227 rfl (by decide +kernel) (fun _ => rfl) (fun _ => rfl) (Nat.le_of_ble_eq_true rfl) dX4_write_12 (en := .inr (4, [.int 0, .int ofb3, .int hol4, .int flt5, .int fla6, .int ofl7, .ref (kg + 1), .ref (kg + 2), .int x20, .int atx9, .int ref10])) rfl (fun ct21 ec22 => ?_)
  have hI : Inv8 g idn pe ct21 := by rw [ec22]; exact up8 hI (i8_44 (kc := kg) (by omega) ⟨(0 : Int32), (ofb3 : Int32), (hol4 : Int32), (flt5 : Int32), (fla6 : Int32), (ofl7 : Int32), (x20 : Int32), (atx9 : Int32), (ref10 : Int32), (Or.inl rfl), (by first | omega | decide), (by first | omega | decide), (by first | omega | decide), (by first | omega | decide), hz16, rfl⟩)
  have hs23 : ct21 kg = .inr (4, [.int 0, .int ofb3, .int hol4, .int flt5, .int fla6, .int ofl7, .ref (kg + 1), .ref (kg + 2), .int x20, .int atx9, .int ref10]) := by rw [ec22]; exact va_up_self _ _ _
  refine dv_iconst (v := 0) dX4_write_15 (by decide) ?_
  refine dv_istore_n (lv' := [(3, .int 0), (0, .ref kg), (1, .ref 3), (2, .int n)]) dX4_write_16 rfl (by decide) rfl ?_
  have loop17 : ∀ (n17 : Nat) (v3_17 : Int32) (ct24 : Nat → va_E), ((100 - v3_17.toInt : Int).toNat < n17) → (0 ≤ v3_17.toInt ∧ v3_17.toInt ≤ 100) → (Inv8 g idn pe ct24) → GW l g pGT pGT false yX4_write cX4_write 4 none RX4 ({ frames := 2, cells := 0, slots := 0, locals := 43 }) K 0 0 ct24 17 [(3, .int v3_17), (0, .ref kg), (1, .ref 3), (2, .int n)] [] := by
    intro n17
    induction n17 with
    | zero =>
      intro v3_17 ct24 hn17 b3_17 hI
      exact absurd hn17 (Nat.not_lt_zero _)
    | succ n17 ih17 =>
      intro v3_17 ct24 hn17 b3_17 hI
      refine dv_iload_n dX4_write_17 rfl 0 rfl ?_
      refine dv_aload_n dX4_write_18 rfl 1 rfl ?_
      obtain ⟨tld26, ofb27, hol28, flt29, fla30, ofl31, len32, atx33, ref34, hz35, h36, h37, h38, h39, hz40, hs25⟩ := a8_44 (kc := kg) (by omega) hI
      have bhz35 := z_b01 hz35
      have bhz40 := z_b01 hz40
      refine dv_get (ci := 4) (v := .int len32) (C := RX4) (T := TX4) (N := 11) ⟨by omega, pGT_of (by omega)⟩ hs25 rfl inG4 8 (by decide) mm_227 rfl dX4_write_19 ?_
      refine dv_icmp_ge (tgt := 42) dX4_write_22 (by decide) (fun c41 => ?_) (fun c41 => ?_)
      · skip
        have c41 : len32.toInt ≤ v3_17.toInt := (z_le rfl rfl).mp c41
        exact dv_vret dX4_write_42 rfl (by first | exact Nat.zero_le _ | decide) (by first | exact Nat.zero_le _ | decide) (by subst hK; exact ⟨rfl, hI⟩)
      · skip
        have c41 : ¬ (len32.toInt ≤ v3_17.toInt) := fun q => c41 ((z_le rfl rfl).mpr q)
        refine dv_aload_n dX4_write_25 rfl 1 rfl ?_
        refine dv_get (ci := 4) (v := .ref (kg + 2)) (C := RX4) (T := TX4) (N := 11) ⟨by omega, pGT_of (by omega)⟩ hs25 rfl inG4 7 (by decide) mm_226 rfl dX4_write_26 ?_
        refine dv_iload_n dX4_write_29 rfl 0 rfl ?_
        refine dv_aload_n dX4_write_30 rfl 2 rfl ?_
        refine dv_iload_n dX4_write_31 rfl 0 rfl ?_
        obtain ⟨len44, h45, h46, hs43⟩ := a8_3 hI
        refine GW.callV (n := 1) (As := [.int v3_17]) (rest := [.int v3_17, .ref (kg + 2)]) (b := 3) (k_X7_byteAt l g pe ct24 v3_17 hI) sub_pT_pGT rfl rfl ⟨by decide, rfl⟩ hs43 (q := (RX7, TX7, 2)) rfl mm_682 mm_366 mm_367 mm_53 mm_368 (by decide +kernel) ⟨Nat.le_of_ble_eq_true rfl, Nat.le_of_ble_eq_true rfl⟩ rfl (Nat.le_of_ble_eq_true rfl) dX4_write_32 (Nat.zero_le _) (Nat.zero_le _) rfl (fun ct42 rrr47 hBr47 hoff48 => ?_)
        obtain ⟨r47, rfl, hr47, rfl⟩ := hBr47
        refine GW.eq (S2 := [.int r47, .int v3_17, .ref (kg + 2)]) rfl rfl rfl ?_
        obtain ⟨f50, hs49⟩ := a8_46 (kc := kg) (by omega) hI
        refine dv_iast 0 ⟨by omega, pGT_of (by omega)⟩ hs49 rfl (z_in rfl (by omega) (by omega)) dX4_write_35 (en := .inl (g.2 0, 100, .inl (upd f50 (Int32.toNatClampNeg v3_17) r47))) rfl (fun ct51 ec52 => ?_)
        have hI : Inv8 g idn pe ct51 := by rw [ec52]; exact up8 hI (i8_46 (kc := kg) (by omega) ⟨_, rfl⟩)
        have hs53 : ct51 kg = .inr (4, [.int tld26, .int ofb27, .int hol28, .int flt29, .int fla30, .int ofl31, .ref (kg + 1), .ref (kg + 2), .int len32, .int atx33, .int ref34]) := by rw [ec52, va_up_ne _ _ (by omega)]; exact hs25
        have hs54 : ct51 3 = .inr (7, [.int len44, .ref 4]) := by rw [ec52, va_up_ne _ _ (by omega)]; exact hs43
        have hs55 : ct51 (kg + 2) = .inl (g.2 0, 100, .inl (upd f50 (Int32.toNatClampNeg v3_17) r47)) := by rw [ec52]; exact va_up_self _ _ _
        obtain ⟨x56, ex56⟩ : ∃ y : Int32, y = v3_17 + 1 := ⟨_, rfl⟩
        have tx56 : x56.toInt = v3_17.toInt + 1 := by rw [ex56]; exact z_add rfl (by decide : (1 : Int32).toInt = 1) (by omega) (by omega)
        refine dv_iinc (v := x56) (lv' := [(3, .int x56), (0, .ref kg), (1, .ref 3), (2, .int n)]) dX4_write_36 (k := 0) rfl (by rw [ex56]; rfl) (by decide) rfl ?_
        refine dv_goto (tgt := 17) dX4_write_39 (by decide) ?_
        exact ih17 x56 ct51 (by omega) (by first | omega | decide | assumption) hI
  exact loop17 ((100 - (0 : Int32).toInt : Int).toNat + 1) (0 : Int32) ct21 (by omega) (by first | omega | decide | assumption) hI

set_option maxHeartbeats 4000000 in
set_option maxRecDepth 100000 in
theorem k_X4_read (l : Launch) (g : zG) (pe : Int32) (ct : Nat → va_E) (kg : Nat) (hf_kg : 99 ≤ kg ∧ kg < 126 ∧ (kg - 99) % 3 = 0) (hI : Inv8 g idn pe ct) : DM l g pG false yX4_read cX4_read 1 none ({ frames := 26, cells := 0, slots := 0, locals := 650 }) (fun (ct2 : Nat → va_E) (rr : Option Value) => rr = none ∧ Inv8 g idn pe ct2) ct [.ref kg] := by
  refine DM.K (fun K hK => ?_)
  refine GW.met (own := RX4) (loc := [(0, .ref kg)]) (by decide) rfl rfl (Nat.le_of_ble_eq_true rfl) ?_
  have hpe0 := hI.1
  refine dv_aload_n dX4_read_0 rfl 0 rfl ?_
  obtain ⟨tld3, ofb4, hol5, flt6, fla7, ofl8, len9, atx10, ref11, hz12, h13, h14, h15, h16, hz17, hs2⟩ := a8_44 (kc := kg) (by omega) hI
  have bhz12 := z_b01 hz12
  have bhz17 := z_b01 hz17
  refine GW.callV (n := 0) (As := []) (rest := []) (b := kg) (k_X4_start l g pe ct kg (by omega) hI) (fun _ h => h) rfl rfl ⟨by omega, pG_of (by omega)⟩ hs2 (q := (RX4, TX4, 11)) rfl mm_584 mm_586 mm_20 mm_58 mm_587 (by decide +kernel) ⟨Nat.le_of_ble_eq_true rfl, Nat.le_of_ble_eq_true rfl⟩ rfl (Nat.le_of_ble_eq_true rfl) dX4_read_1 (Nat.zero_le _) (Nat.zero_le _) rfl (fun ct1 rrr18 hBr18 hoff19 => ?_)
  obtain ⟨rfl, hI⟩ := hBr18
  refine GW.eq (S2 := []) rfl rfl rfl ?_
  refine dv_aload_n dX4_read_4 rfl 0 rfl ?_
  refine dv_iconst (v := 0) dX4_read_5 (by decide) ?_
  refine dv_iconst (v := 0) dX4_read_6 (by decide) ?_
  obtain ⟨tld22, ofb23, hol24, flt25, fla26, ofl27, len28, atx29, ref30, hz31, h32, h33, h34, h35, hz36, hs21⟩ := a8_44 (kc := kg) (by omega) hI
  have bhz31 := z_b01 hz31
  have bhz36 := z_b01 hz36
  refine GW.callV (n := 2) (As := [.int 0, .int 0]) (rest := []) (b := kg) (k_X4_anyOf_0 l g pe ct1 kg (0 : Int32) (by omega) hI) (fun _ h => h) rfl rfl ⟨by omega, pG_of (by omega)⟩ hs21 (q := (RX4, TX4, 11)) rfl mm_588 mm_590 mm_21 mm_58 mm_591 (by decide +kernel) ⟨Nat.le_of_ble_eq_true rfl, Nat.le_of_ble_eq_true rfl⟩ rfl (Nat.le_of_ble_eq_true rfl) dX4_read_7 (Nat.zero_le _) (Nat.zero_le _) rfl (fun ct20 rrr37 hBr37 hoff38 => ?_)
  obtain ⟨r37, rfl, hr37, hI⟩ := hBr37
  refine GW.eq (S2 := [.int r37]) rfl rfl rfl ?_
  rcases hr37 with hr37 | hr37
  · skip
    obtain rfl := hr37
    refine dv_pop dX4_read_10 rfl ?_
    refine dv_aload_n dX4_read_11 rfl 0 rfl ?_
    obtain ⟨tld40, ofb41, hol42, flt43, fla44, ofl45, len46, atx47, ref48, hz49, h50, h51, h52, h53, hz54, hs39⟩ := a8_44 (kc := kg) (by omega) hI
    have bhz49 := z_b01 hz49
    have bhz54 := z_b01 hz54
    refine dv_get (ci := 4) (v := .int atx47) (C := RX4) (T := TX4) (N := 11) ⟨by omega, pG_of (by omega)⟩ hs39 rfl inG4 9 (by decide) mm_228 rfl dX4_read_12 ?_
    refine dv_aload_n dX4_read_15 rfl 0 rfl ?_
    refine dv_get (ci := 4) (v := .int len46) (C := RX4) (T := TX4) (N := 11) ⟨by omega, pG_of (by omega)⟩ hs39 rfl inG4 8 (by decide) mm_227 rfl dX4_read_16 ?_
    refine dv_icmp_ge (tgt := 27) dX4_read_19 (by decide) (fun c55 => ?_) (fun c55 => ?_)
    · skip
      have c55 : len46.toInt ≤ atx47.toInt := (z_le rfl rfl).mp c55
      exact dv_vret dX4_read_27 rfl (by first | exact Nat.zero_le _ | decide) (by first | exact Nat.zero_le _ | decide) (by subst hK; exact ⟨rfl, hI⟩)
    · skip
      have c55 : ¬ (len46.toInt ≤ atx47.toInt) := fun q => c55 ((z_le rfl rfl).mpr q)
      refine dv_aload_n dX4_read_22 rfl 0 rfl ?_
      refine dv_iconst (v := 1) dX4_read_23 (by decide) ?_
      refine GW.callV (n := 1) (As := [.int 1]) (rest := []) (b := kg) (k_X4_fail l g pe ct20 kg (1 : Int32) (by omega) hI) (fun _ h => h) rfl rfl ⟨by omega, pG_of (by omega)⟩ hs39 (q := (RX4, TX4, 11)) rfl mm_608 mm_610 mm_26 mm_58 mm_611 (by decide +kernel) ⟨Nat.le_of_ble_eq_true rfl, Nat.le_of_ble_eq_true rfl⟩ rfl (Nat.le_of_ble_eq_true rfl) dX4_read_24 (Nat.zero_le _) (Nat.zero_le _) rfl (fun ct56 rrr57 hBr57 hoff58 => ?_)
      obtain ⟨rfl, hI⟩ := hBr57
      refine GW.eq (S2 := []) rfl rfl rfl ?_
      exact dv_vret dX4_read_27 rfl (by first | exact Nat.zero_le _ | decide) (by first | exact Nat.zero_le _ | decide) (by subst hK; exact ⟨rfl, hI⟩)
  · skip
    obtain rfl := hr37
    refine dv_pop dX4_read_10 rfl ?_
    refine dv_aload_n dX4_read_11 rfl 0 rfl ?_
    obtain ⟨tld60, ofb61, hol62, flt63, fla64, ofl65, len66, atx67, ref68, hz69, h70, h71, h72, h73, hz74, hs59⟩ := a8_44 (kc := kg) (by omega) hI
    have bhz69 := z_b01 hz69
    have bhz74 := z_b01 hz74
    refine dv_get (ci := 4) (v := .int atx67) (C := RX4) (T := TX4) (N := 11) ⟨by omega, pG_of (by omega)⟩ hs59 rfl inG4 9 (by decide) mm_228 rfl dX4_read_12 ?_
    refine dv_aload_n dX4_read_15 rfl 0 rfl ?_
    refine dv_get (ci := 4) (v := .int len66) (C := RX4) (T := TX4) (N := 11) ⟨by omega, pG_of (by omega)⟩ hs59 rfl inG4 8 (by decide) mm_227 rfl dX4_read_16 ?_
    refine dv_icmp_ge (tgt := 27) dX4_read_19 (by decide) (fun c75 => ?_) (fun c75 => ?_)
    · skip
      have c75 : len66.toInt ≤ atx67.toInt := (z_le rfl rfl).mp c75
      exact dv_vret dX4_read_27 rfl (by first | exact Nat.zero_le _ | decide) (by first | exact Nat.zero_le _ | decide) (by subst hK; exact ⟨rfl, hI⟩)
    · skip
      have c75 : ¬ (len66.toInt ≤ atx67.toInt) := fun q => c75 ((z_le rfl rfl).mpr q)
      refine dv_aload_n dX4_read_22 rfl 0 rfl ?_
      refine dv_iconst (v := 1) dX4_read_23 (by decide) ?_
      refine GW.callV (n := 1) (As := [.int 1]) (rest := []) (b := kg) (k_X4_fail l g pe ct20 kg (1 : Int32) (by omega) hI) (fun _ h => h) rfl rfl ⟨by omega, pG_of (by omega)⟩ hs59 (q := (RX4, TX4, 11)) rfl mm_608 mm_610 mm_26 mm_58 mm_611 (by decide +kernel) ⟨Nat.le_of_ble_eq_true rfl, Nat.le_of_ble_eq_true rfl⟩ rfl (Nat.le_of_ble_eq_true rfl) dX4_read_24 (Nat.zero_le _) (Nat.zero_le _) rfl (fun ct76 rrr77 hBr77 hoff78 => ?_)
      obtain ⟨rfl, hI⟩ := hBr77
      refine GW.eq (S2 := []) rfl rfl rfl ?_
      exact dv_vret dX4_read_27 rfl (by first | exact Nat.zero_le _ | decide) (by first | exact Nat.zero_le _ | decide) (by subst hK; exact ⟨rfl, hI⟩)

set_option maxHeartbeats 4000000 in
set_option maxRecDepth 100000 in
theorem k_X4_judge (l : Launch) (g : zG) (pe : Int32) (ct : Nat → va_E) (kg : Nat) (hf_kg : 99 ≤ kg ∧ kg < 126 ∧ (kg - 99) % 3 = 0) (hI : Inv8 g idn pe ct) : DM l g pG false yX4_judge cX4_judge 3 none ({ frames := 26, cells := 0, slots := 0, locals := 650 }) (fun (ct2 : Nat → va_E) (rr : Option Value) => rr = none ∧ Inv8 g idn pe ct2) ct [.ref kg, .ref 34] := by
  refine DM.K (fun K hK => ?_)
  refine GW.met (own := RX4) (loc := [(0, .ref kg), (1, .ref 34)]) (by decide) rfl rfl (Nat.le_of_ble_eq_true rfl) ?_
  have hpe0 := hI.1
  refine dv_iconst (v := 0) dX4_judge_0 (by decide) ?_
  refine dv_istore_n (lv' := [(2, .int 0), (0, .ref kg), (1, .ref 34)]) dX4_judge_1 rfl (by decide) rfl ?_
  have loop2 : ∀ (n2 : Nat) (v2_2 : Int32) (ct1 : Nat → va_E), ((7 - v2_2.toInt : Int).toNat < n2) → (0 ≤ v2_2.toInt ∧ v2_2.toInt ≤ 7) → (Inv8 g idn pe ct1) → GW l g pG pG false yX4_judge cX4_judge 3 none RX4 ({ frames := 26, cells := 0, slots := 0, locals := 650 }) K 0 0 ct1 2 [(2, .int v2_2), (0, .ref kg), (1, .ref 34)] [] := by
    intro n2
    induction n2 with
    | zero =>
      intro v2_2 ct1 hn2 b2_2 hI
      exact absurd hn2 (Nat.not_lt_zero _)
    | succ n2 ih2 =>
      intro v2_2 ct1 hn2 b2_2 hI
      refine dv_iload_n dX4_judge_2 rfl 0 rfl ?_
      refine dv_aload_n dX4_judge_3 rfl 1 rfl ?_
      obtain ⟨tld3, ofb4, hol5, flt6, fla7, ofl8, len9, atx10, ref11, hz12, h13, h14, h15, h16, hz17, hs2⟩ := a8_44 (kc := kg) (by omega) hI
      have bhz12 := z_b01 hz12
      have bhz17 := z_b01 hz17
      refine dv_get (ci := 4) (v := .ref (kg + 1)) (C := RX4) (T := TX4) (N := 11) ⟨by omega, pG_of (by omega)⟩ hs2 rfl inG4 6 (by decide) mm_225 rfl dX4_judge_4 ?_
      obtain ⟨f19, hs18⟩ := a8_45 (kc := kg) (by omega) hI
      refine dv_alen 0 ⟨by omega, pG_of (by omega)⟩ hs18 (ty := .int) rfl (v := 7) (show Int32.ofNat 7 = (7 : Int32) from by decide) dX4_judge_7 ?_
      refine dv_icmp_ge (tgt := 32) dX4_judge_8 (by decide) (fun c20 => ?_) (fun c20 => ?_)
      · skip
        have c20 : 7 ≤ v2_2.toInt := (z_le (by decide : (7 : Int32).toInt = 7) rfl).mp c20
        refine dv_aload_n dX4_judge_32 rfl 1 rfl ?_
        refine dv_get (ci := 4) (v := .ref (kg + 1)) (C := RX4) (T := TX4) (N := 11) ⟨by omega, pG_of (by omega)⟩ hs2 rfl inG4 6 (by decide) mm_225 rfl dX4_judge_33 ?_
        refine dv_bipush (v := 6) dX4_judge_36 (by decide) ?_
        refine dv_aload_n dX4_judge_38 rfl 1 rfl ?_
        refine dv_get (ci := 4) (v := .int ofl8) (C := RX4) (T := TX4) (N := 11) ⟨by omega, pG_of (by omega)⟩ hs2 rfl inG4 5 (by decide) mm_224 rfl dX4_judge_39 ?_
        refine dv_iast 0 ⟨by omega, pG_of (by omega)⟩ hs18 rfl (z_in (by decide : (6 : Int32).toInt = 6) (by omega) (by omega)) dX4_judge_42 (en := .inl (g.2 0, 7, .inl (upd f19 (Int32.toNatClampNeg 6) ofl8))) rfl (fun ct21 ec22 => ?_)
        have hI : Inv8 g idn pe ct21 := by rw [ec22]; exact up8 hI (i8_45 (kc := kg) (by omega) ⟨_, rfl⟩)
        have hs23 : ct21 kg = .inr (4, [.int tld3, .int ofb4, .int hol5, .int flt6, .int fla7, .int ofl8, .ref (kg + 1), .ref (kg + 2), .int len9, .int atx10, .int ref11]) := by rw [ec22, va_up_ne _ _ (by omega)]; exact hs2
        have hs24 : ct21 (kg + 1) = .inl (g.2 0, 7, .inl (upd f19 (Int32.toNatClampNeg 6) ofl8)) := by rw [ec22]; exact va_up_self _ _ _
        refine dv_aload_n dX4_judge_43 rfl 1 rfl ?_
        refine GW.callV (n := 0) (As := []) (rest := []) (b := kg) (k_X4_start l g pe ct21 kg (by omega) hI) (fun _ h => h) rfl rfl ⟨by omega, pG_of (by omega)⟩ hs23 (q := (RX4, TX4, 11)) rfl mm_584 mm_586 mm_20 mm_58 mm_587 (by decide +kernel) ⟨Nat.le_of_ble_eq_true rfl, Nat.le_of_ble_eq_true rfl⟩ rfl (Nat.le_of_ble_eq_true rfl) dX4_judge_44 (Nat.zero_le _) (Nat.zero_le _) rfl (fun ct25 rrr26 hBr26 hoff27 => ?_)
        obtain ⟨rfl, hI⟩ := hBr26
        refine GW.eq (S2 := []) rfl rfl rfl ?_
        refine dv_aload_n dX4_judge_47 rfl 1 rfl ?_
        refine dv_iconst (v := 0) dX4_judge_48 (by decide) ?_
        refine dv_iconst (v := 1) dX4_judge_49 (by decide) ?_
        obtain ⟨tld30, ofb31, hol32, flt33, fla34, ofl35, len36, atx37, ref38, hz39, h40, h41, h42, h43, hz44, hs29⟩ := a8_44 (kc := kg) (by omega) hI
        have bhz39 := z_b01 hz39
        have bhz44 := z_b01 hz44
        refine GW.callV (n := 2) (As := [.int 0, .int 1]) (rest := []) (b := kg) (k_X4_anyOf_0 l g pe ct25 kg (1 : Int32) (by omega) hI) (fun _ h => h) rfl rfl ⟨by omega, pG_of (by omega)⟩ hs29 (q := (RX4, TX4, 11)) rfl mm_588 mm_590 mm_21 mm_58 mm_591 (by decide +kernel) ⟨Nat.le_of_ble_eq_true rfl, Nat.le_of_ble_eq_true rfl⟩ rfl (Nat.le_of_ble_eq_true rfl) dX4_judge_50 (Nat.zero_le _) (Nat.zero_le _) rfl (fun ct28 rrr45 hBr45 hoff46 => ?_)
        obtain ⟨r45, rfl, hr45, hI⟩ := hBr45
        refine GW.eq (S2 := [.int r45]) rfl rfl rfl ?_
        rcases hr45 with hr45 | hr45
        · skip
          obtain rfl := hr45
          refine dv_if_eq (tgt := 67) dX4_judge_53 (by decide) (fun c47 => ?_) (fun c47 => ?_)
          · skip
            exact absurd c47 (by decide)
          · skip
            refine dv_aload_n dX4_judge_56 rfl 1 rfl ?_
            obtain ⟨tld49, ofb50, hol51, flt52, fla53, ofl54, len55, atx56, ref57, hz58, h59, h60, h61, h62, hz63, hs48⟩ := a8_44 (kc := kg) (by omega) hI
            have bhz58 := z_b01 hz58
            have bhz63 := z_b01 hz63
            refine dv_get (ci := 4) (v := .int ref57) (C := RX4) (T := TX4) (N := 11) ⟨by omega, pG_of (by omega)⟩ hs48 rfl inG4 10 (by decide) mm_229 rfl dX4_judge_57 ?_
            refine dv_if_ne (tgt := 67) dX4_judge_60 (by decide) (fun c64 => ?_) (fun c64 => ?_)
            · skip
              have c64 : ¬ (ref57.toInt = 0) := fun q => c64 ((z_eq rfl (by decide : (0 : Int32).toInt = 0)).mpr q)
              refine dv_iconst (v := 0) dX4_judge_67 (by decide) ?_
              refine dv_istore_n (lv' := [(2, .int 0), (0, .ref kg), (1, .ref 34)]) dX4_judge_68 rfl (by decide) rfl ?_
              refine dv_aload_n dX4_judge_69 rfl 1 rfl ?_
              refine dv_iload_n dX4_judge_70 rfl 0 rfl ?_
              refine dv_if_eq (tgt := 90) dX4_judge_71 (by decide) (fun c65 => ?_) (fun c65 => ?_)
              · skip
                refine dv_aload_n dX4_judge_90 rfl 1 rfl ?_
                refine dv_get (ci := 4) (v := .int hol51) (C := RX4) (T := TX4) (N := 11) ⟨by omega, pG_of (by omega)⟩ hs48 rfl inG4 2 (by decide) mm_218 rfl dX4_judge_91 ?_
                refine dv_iconst (v := 1) dX4_judge_94 (by decide) ?_
                refine dv_aload_n dX4_judge_95 rfl 1 rfl ?_
                refine dv_get (ci := 4) (v := .ref (kg + 1)) (C := RX4) (T := TX4) (N := 11) ⟨by omega, pG_of (by omega)⟩ hs48 rfl inG4 6 (by decide) mm_225 rfl dX4_judge_96 ?_
                refine dv_iconst (v := 4) dX4_judge_99 (by decide) ?_
                obtain ⟨f67, hs66⟩ := a8_45 (kc := kg) (by omega) hI
                refine dv_iald 0 ⟨by omega, pG_of (by omega)⟩ hs66 rfl (z_in (by decide : (4 : Int32).toInt = 4) (by omega) (by omega)) dX4_judge_100 ?_
                refine dv_topi (fun y68 ey68 => ?_)
                refine dv_ishl dX4_judge_101 ?_
                refine dv_topi (fun x69 ex69 => ?_)
                refine dv_iconst (v := (-1)) dX4_judge_102 (by decide) ?_
                refine dv_ixor dX4_judge_103 ?_
                refine dv_topi (fun x70 ex70 => ?_)
                refine dv_iand dX4_judge_104 ?_
                refine dv_topi (fun x71 ex71 => ?_)
                refine dv_put (ci := 4) (v := .int x71) (ty := .int) (C := RX4) (T := TX4) (N := 11) ⟨by omega, pG_of (by omega)⟩ hs48 rfl inG4 tyX4 tyX4_ok nmX4 2 (by decide) mm_218 rfl (by decide +kernel) (fun _ => rfl) (fun _ => rfl) (Nat.le_of_ble_eq_true rfl) dX4_judge_105 (en := .inr (4, [.int tld49, .int ofb50, .int x71, .int flt52, .int fla53, .int ofl54, .ref (kg + 1), .ref (kg + 2), .int len55, .int atx56, .int ref57])) rfl (fun ct72 ec73 => ?_)
                have hI : Inv8 g idn pe ct72 := by rw [ec73]; exact up8 hI (i8_44 (kc := kg) (by omega) ⟨(tld49 : Int32), (ofb50 : Int32), (x71 : Int32), (flt52 : Int32), (fla53 : Int32), (ofl54 : Int32), (len55 : Int32), (atx56 : Int32), (ref57 : Int32), hz58, (by first | omega | decide), (by first | omega | decide), (by first | omega | decide), (by first | omega | decide), hz63, rfl⟩)
                have hs74 : ct72 (kg + 1) = .inl (g.2 0, 7, .inl f67) := by rw [ec73, va_up_ne _ _ (by omega)]; exact hs66
                have hs75 : ct72 kg = .inr (4, [.int tld49, .int ofb50, .int x71, .int flt52, .int fla53, .int ofl54, .ref (kg + 1), .ref (kg + 2), .int len55, .int atx56, .int ref57]) := by rw [ec73]; exact va_up_self _ _ _
                exact dv_vret dX4_judge_108 rfl (by first | exact Nat.zero_le _ | decide) (by first | exact Nat.zero_le _ | decide) (by subst hK; exact ⟨rfl, hI⟩)
              · skip
                exact absurd c65 (by decide)
            · skip
              have c64 : ref57.toInt = 0 := (z_eq rfl (by decide : (0 : Int32).toInt = 0)).mp c64
              refine dv_iconst (v := 1) dX4_judge_63 (by decide) ?_
              refine dv_goto (tgt := 68) dX4_judge_64 (by decide) ?_
              refine dv_istore_n (lv' := [(2, .int 1), (0, .ref kg), (1, .ref 34)]) dX4_judge_68 rfl (by decide) rfl ?_
              refine dv_aload_n dX4_judge_69 rfl 1 rfl ?_
              refine dv_iload_n dX4_judge_70 rfl 0 rfl ?_
              refine dv_if_eq (tgt := 90) dX4_judge_71 (by decide) (fun c76 => ?_) (fun c76 => ?_)
              · skip
                exact absurd c76 (by decide)
              · skip
                refine dv_aload_n dX4_judge_74 rfl 1 rfl ?_
                refine dv_get (ci := 4) (v := .int hol51) (C := RX4) (T := TX4) (N := 11) ⟨by omega, pG_of (by omega)⟩ hs48 rfl inG4 2 (by decide) mm_218 rfl dX4_judge_75 ?_
                refine dv_iconst (v := 1) dX4_judge_78 (by decide) ?_
                refine dv_aload_n dX4_judge_79 rfl 1 rfl ?_
                refine dv_get (ci := 4) (v := .ref (kg + 1)) (C := RX4) (T := TX4) (N := 11) ⟨by omega, pG_of (by omega)⟩ hs48 rfl inG4 6 (by decide) mm_225 rfl dX4_judge_80 ?_
                refine dv_iconst (v := 4) dX4_judge_83 (by decide) ?_
                obtain ⟨f78, hs77⟩ := a8_45 (kc := kg) (by omega) hI
                refine dv_iald 0 ⟨by omega, pG_of (by omega)⟩ hs77 rfl (z_in (by decide : (4 : Int32).toInt = 4) (by omega) (by omega)) dX4_judge_84 ?_
                refine dv_topi (fun y79 ey79 => ?_)
                refine dv_ishl dX4_judge_85 ?_
                refine dv_topi (fun x80 ex80 => ?_)
                refine dv_ior dX4_judge_86 ?_
                refine dv_topi (fun x81 ex81 => ?_)
                refine dv_goto (tgt := 105) dX4_judge_87 (by decide) ?_
                refine dv_put (ci := 4) (v := .int x81) (ty := .int) (C := RX4) (T := TX4) (N := 11) ⟨by omega, pG_of (by omega)⟩ hs48 rfl inG4 tyX4 tyX4_ok nmX4 2 (by decide) mm_218 rfl (by decide +kernel) (fun _ => rfl) (fun _ => rfl) (Nat.le_of_ble_eq_true rfl) dX4_judge_105 (en := .inr (4, [.int tld49, .int ofb50, .int x81, .int flt52, .int fla53, .int ofl54, .ref (kg + 1), .ref (kg + 2), .int len55, .int atx56, .int ref57])) rfl (fun ct82 ec83 => ?_)
                have hI : Inv8 g idn pe ct82 := by rw [ec83]; exact up8 hI (i8_44 (kc := kg) (by omega) ⟨(tld49 : Int32), (ofb50 : Int32), (x81 : Int32), (flt52 : Int32), (fla53 : Int32), (ofl54 : Int32), (len55 : Int32), (atx56 : Int32), (ref57 : Int32), hz58, (by first | omega | decide), (by first | omega | decide), (by first | omega | decide), (by first | omega | decide), hz63, rfl⟩)
                have hs84 : ct82 (kg + 1) = .inl (g.2 0, 7, .inl f78) := by rw [ec83, va_up_ne _ _ (by omega)]; exact hs77
                have hs85 : ct82 kg = .inr (4, [.int tld49, .int ofb50, .int x81, .int flt52, .int fla53, .int ofl54, .ref (kg + 1), .ref (kg + 2), .int len55, .int atx56, .int ref57]) := by rw [ec83]; exact va_up_self _ _ _
                exact dv_vret dX4_judge_108 rfl (by first | exact Nat.zero_le _ | decide) (by first | exact Nat.zero_le _ | decide) (by subst hK; exact ⟨rfl, hI⟩)
        · skip
          obtain rfl := hr45
          refine dv_if_eq (tgt := 67) dX4_judge_53 (by decide) (fun c86 => ?_) (fun c86 => ?_)
          · skip
            refine dv_iconst (v := 0) dX4_judge_67 (by decide) ?_
            refine dv_istore_n (lv' := [(2, .int 0), (0, .ref kg), (1, .ref 34)]) dX4_judge_68 rfl (by decide) rfl ?_
            refine dv_aload_n dX4_judge_69 rfl 1 rfl ?_
            refine dv_iload_n dX4_judge_70 rfl 0 rfl ?_
            refine dv_if_eq (tgt := 90) dX4_judge_71 (by decide) (fun c87 => ?_) (fun c87 => ?_)
            · skip
              refine dv_aload_n dX4_judge_90 rfl 1 rfl ?_
              obtain ⟨tld89, ofb90, hol91, flt92, fla93, ofl94, len95, atx96, ref97, hz98, h99, h100, h101, h102, hz103, hs88⟩ := a8_44 (kc := kg) (by omega) hI
              have bhz98 := z_b01 hz98
              have bhz103 := z_b01 hz103
              refine dv_get (ci := 4) (v := .int hol91) (C := RX4) (T := TX4) (N := 11) ⟨by omega, pG_of (by omega)⟩ hs88 rfl inG4 2 (by decide) mm_218 rfl dX4_judge_91 ?_
              refine dv_iconst (v := 1) dX4_judge_94 (by decide) ?_
              refine dv_aload_n dX4_judge_95 rfl 1 rfl ?_
              refine dv_get (ci := 4) (v := .ref (kg + 1)) (C := RX4) (T := TX4) (N := 11) ⟨by omega, pG_of (by omega)⟩ hs88 rfl inG4 6 (by decide) mm_225 rfl dX4_judge_96 ?_
              refine dv_iconst (v := 4) dX4_judge_99 (by decide) ?_
              obtain ⟨f105, hs104⟩ := a8_45 (kc := kg) (by omega) hI
              refine dv_iald 0 ⟨by omega, pG_of (by omega)⟩ hs104 rfl (z_in (by decide : (4 : Int32).toInt = 4) (by omega) (by omega)) dX4_judge_100 ?_
              refine dv_topi (fun y106 ey106 => ?_)
              refine dv_ishl dX4_judge_101 ?_
              refine dv_topi (fun x107 ex107 => ?_)
              refine dv_iconst (v := (-1)) dX4_judge_102 (by decide) ?_
              refine dv_ixor dX4_judge_103 ?_
              refine dv_topi (fun x108 ex108 => ?_)
              refine dv_iand dX4_judge_104 ?_
              refine dv_topi (fun x109 ex109 => ?_)
              refine dv_put (ci := 4) (v := .int x109) (ty := .int) (C := RX4) (T := TX4) (N := 11) ⟨by omega, pG_of (by omega)⟩ hs88 rfl inG4 tyX4 tyX4_ok nmX4 2 (by decide) mm_218 rfl (by decide +kernel) (fun _ => rfl) (fun _ => rfl) (Nat.le_of_ble_eq_true rfl) dX4_judge_105 (en := .inr (4, [.int tld89, .int ofb90, .int x109, .int flt92, .int fla93, .int ofl94, .ref (kg + 1), .ref (kg + 2), .int len95, .int atx96, .int ref97])) rfl (fun ct110 ec111 => ?_)
              have hI : Inv8 g idn pe ct110 := by rw [ec111]; exact up8 hI (i8_44 (kc := kg) (by omega) ⟨(tld89 : Int32), (ofb90 : Int32), (x109 : Int32), (flt92 : Int32), (fla93 : Int32), (ofl94 : Int32), (len95 : Int32), (atx96 : Int32), (ref97 : Int32), hz98, (by first | omega | decide), (by first | omega | decide), (by first | omega | decide), (by first | omega | decide), hz103, rfl⟩)
              have hs112 : ct110 (kg + 1) = .inl (g.2 0, 7, .inl f105) := by rw [ec111, va_up_ne _ _ (by omega)]; exact hs104
              have hs113 : ct110 kg = .inr (4, [.int tld89, .int ofb90, .int x109, .int flt92, .int fla93, .int ofl94, .ref (kg + 1), .ref (kg + 2), .int len95, .int atx96, .int ref97]) := by rw [ec111]; exact va_up_self _ _ _
              exact dv_vret dX4_judge_108 rfl (by first | exact Nat.zero_le _ | decide) (by first | exact Nat.zero_le _ | decide) (by subst hK; exact ⟨rfl, hI⟩)
            · skip
              exact absurd c87 (by decide)
          · skip
            exact absurd c86 (by decide)
      · skip
        have c20 : ¬ (7 ≤ v2_2.toInt) := fun q => c20 ((z_le (by decide : (7 : Int32).toInt = 7) rfl).mpr q)
        refine dv_iload_n dX4_judge_11 rfl 0 rfl ?_
        refine dv_aload_n dX4_judge_12 rfl 2 rfl ?_
        obtain ⟨f115, hs114⟩ := a8_34 hI
        refine dv_alen 0 ⟨by decide, rfl⟩ hs114 (ty := .int) rfl (v := 7) (show Int32.ofNat 7 = (7 : Int32) from by decide) dX4_judge_13 ?_
        refine dv_icmp_ge (tgt := 32) dX4_judge_14 (by decide) (fun c116 => ?_) (fun c116 => ?_)
        · skip
          have c116 : 7 ≤ v2_2.toInt := (z_le (by decide : (7 : Int32).toInt = 7) rfl).mp c116
          exfalso
          omega
        · skip
          have c116 : ¬ (7 ≤ v2_2.toInt) := fun q => c116 ((z_le (by decide : (7 : Int32).toInt = 7) rfl).mpr q)
          refine dv_aload_n dX4_judge_17 rfl 1 rfl ?_
          refine dv_get (ci := 4) (v := .ref (kg + 1)) (C := RX4) (T := TX4) (N := 11) ⟨by omega, pG_of (by omega)⟩ hs2 rfl inG4 6 (by decide) mm_225 rfl dX4_judge_18 ?_
          refine dv_iload_n dX4_judge_21 rfl 0 rfl ?_
          refine dv_aload_n dX4_judge_22 rfl 2 rfl ?_
          refine dv_iload_n dX4_judge_23 rfl 0 rfl ?_
          refine dv_iald 0 ⟨by decide, rfl⟩ hs114 rfl (z_in rfl (by omega) (by omega)) dX4_judge_24 ?_
          refine dv_topi (fun y117 ey117 => ?_)
          refine dv_iast 0 ⟨by omega, pG_of (by omega)⟩ hs18 rfl (z_in rfl (by omega) (by omega)) dX4_judge_25 (en := .inl (g.2 0, 7, .inl (upd f19 (Int32.toNatClampNeg v2_2) y117))) rfl (fun ct118 ec119 => ?_)
          have hI : Inv8 g idn pe ct118 := by rw [ec119]; exact up8 hI (i8_45 (kc := kg) (by omega) ⟨_, rfl⟩)
          have hs120 : ct118 kg = .inr (4, [.int tld3, .int ofb4, .int hol5, .int flt6, .int fla7, .int ofl8, .ref (kg + 1), .ref (kg + 2), .int len9, .int atx10, .int ref11]) := by rw [ec119, va_up_ne _ _ (by omega)]; exact hs2
          have hs121 : ct118 34 = .inl (g.2 0, 7, .inl f115) := by rw [ec119, va_up_ne _ _ (by omega)]; exact hs114
          have hs122 : ct118 (kg + 1) = .inl (g.2 0, 7, .inl (upd f19 (Int32.toNatClampNeg v2_2) y117)) := by rw [ec119]; exact va_up_self _ _ _
          obtain ⟨x123, ex123⟩ : ∃ y : Int32, y = v2_2 + 1 := ⟨_, rfl⟩
          have tx123 : x123.toInt = v2_2.toInt + 1 := by rw [ex123]; exact z_add rfl (by decide : (1 : Int32).toInt = 1) (by omega) (by omega)
          refine dv_iinc (v := x123) (lv' := [(2, .int x123), (0, .ref kg), (1, .ref 34)]) dX4_judge_26 (k := 0) rfl (by rw [ex123]; rfl) (by decide) rfl ?_
          refine dv_goto (tgt := 2) dX4_judge_29 (by decide) ?_
          exact ih2 x123 ct118 (by omega) (by first | omega | decide | assumption) hI
  exact loop2 ((7 - (0 : Int32).toInt : Int).toNat + 1) (0 : Int32) ct (by omega) (by first | omega | decide | assumption) hI

set_option maxHeartbeats 4000000 in
set_option maxRecDepth 100000 in
theorem k_X8_toldGossips (l : Launch) (g : zG) (pe : Int32) (ct : Nat → va_E) (hI : Inv8 g idn pe ct) : DM l g pCl false yX8_toldGossips cX8_toldGossips 3 (some .int) ({ frames := 0, cells := 0, slots := 0, locals := 0 }) (fun (ct2 : Nat → va_E) (rr : Option Value) => ∃ (r : Int32), rr = some (.int r) ∧ ((True)) ∧ ct = ct2) ct [.ref 0] := by
  refine DM.K (fun K hK => ?_)
  refine GW.met (own := RX8) (loc := [(0, .ref 0)]) (by decide) rfl rfl (Nat.le_of_ble_eq_true rfl) ?_
  have hpe0 := hI.1
  refine dv_iconst (v := 0) dX8_toldGossips_0 (by decide) ?_
  refine dv_istore_n (lv' := [(1, .int 0), (0, .ref 0)]) dX8_toldGossips_1 rfl (by decide) rfl ?_
  refine dv_iconst (v := 0) dX8_toldGossips_2 (by decide) ?_
  refine dv_istore_n (lv' := [(2, .int 0), (1, .int 0), (0, .ref 0)]) dX8_toldGossips_3 rfl (by decide) rfl ?_
  have loop4 : ∀ (n4 : Nat) (v2_4 : Int32) (v1_4 : Int32), ((8 - v2_4.toInt : Int).toNat < n4) → (0 ≤ v2_4.toInt ∧ v2_4.toInt ≤ 8) → GW l g pCl pCl false yX8_toldGossips cX8_toldGossips 3 (some .int) RX8 ({ frames := 0, cells := 0, slots := 0, locals := 0 }) K 0 0 ct 4 [(2, .int v2_4), (1, .int v1_4), (0, .ref 0)] [] := by
    intro n4
    induction n4 with
    | zero =>
      intro v2_4 v1_4 hn4 b2_4
      exact absurd hn4 (Nat.not_lt_zero _)
    | succ n4 ih4 =>
      intro v2_4 v1_4 hn4 b2_4
      refine dv_iload_n dX8_toldGossips_4 rfl 0 rfl ?_
      refine dv_bipush (v := 8) dX8_toldGossips_5 (by decide) ?_
      refine dv_icmp_ge (tgt := 34) dX8_toldGossips_7 (by decide) (fun c1 => ?_) (fun c1 => ?_)
      · skip
        have c1 : 8 ≤ v2_4.toInt := (z_le (by decide : (8 : Int32).toInt = 8) rfl).mp c1
        refine dv_iload_n dX8_toldGossips_34 rfl 1 rfl ?_
        exact dv_iret dX8_toldGossips_35 rfl (by first | exact Nat.zero_le _ | decide) (by first | exact Nat.zero_le _ | decide) (by subst hK; exact ⟨v1_4, rfl, (trivial), rfl⟩)
      · skip
        have c1 : ¬ (8 ≤ v2_4.toInt) := fun q => c1 ((z_le (by decide : (8 : Int32).toInt = 8) rfl).mpr q)
        refine dv_aload_n dX8_toldGossips_10 rfl 2 rfl ?_
        obtain ⟨bk4, dr3, h5, h6, h7, hs2⟩ := a8_0 hI
        refine dv_get (ci := 8) (v := .ref 9) (C := RX8) (T := TX8) (N := 13) ⟨by decide, rfl⟩ hs2 rfl inG8 5 (by decide) mm_308 rfl dX8_toldGossips_11 ?_
        refine dv_iload_n dX8_toldGossips_14 rfl 0 rfl ?_
        obtain ⟨f9, hgf10, hs8⟩ := a8_9 hI
        obtain ⟨j11, hj11, ej11⟩ := hgf10 _ (z_clt (x := v2_4) rfl (by omega) (by omega))
        refine dv_aldq 6 ⟨by decide, rfl⟩ hs8 rfl (z_in rfl (by omega) (by omega)) dX8_toldGossips_15 (r := (99 + 3 * j11)) ej11 ?_
        obtain ⟨tld13, ofb14, hol15, flt16, fla17, ofl18, len19, atx20, ref21, hz22, h23, h24, h25, h26, hz27, hs12⟩ := a8_44 (kc := (99 + 3 * j11)) (by omega) hI
        have bhz22 := z_b01 hz22
        have bhz27 := z_b01 hz27
        refine dv_get (ci := 4) (v := .int tld13) (C := RX4) (T := TX4) (N := 11) ⟨by omega, pCl_of (by omega)⟩ hs12 rfl inG4 0 (by decide) mm_215 rfl dX8_toldGossips_16 ?_
        refine dv_if_eq (tgt := 28) dX8_toldGossips_19 (by decide) (fun c28 => ?_) (fun c28 => ?_)
        · skip
          have c28 : tld13.toInt = 0 := (z_eq rfl (by decide : (0 : Int32).toInt = 0)).mp c28
          obtain ⟨x29, ex29⟩ : ∃ y : Int32, y = v2_4 + 1 := ⟨_, rfl⟩
          have tx29 : x29.toInt = v2_4.toInt + 1 := by rw [ex29]; exact z_add rfl (by decide : (1 : Int32).toInt = 1) (by omega) (by omega)
          refine dv_iinc (v := x29) (lv' := [(2, .int x29), (1, .int v1_4), (0, .ref 0)]) dX8_toldGossips_28 (k := 0) rfl (by rw [ex29]; rfl) (by decide) rfl ?_
          refine dv_goto (tgt := 4) dX8_toldGossips_31 (by decide) ?_
          exact ih4 x29 v1_4 (by omega) (by first | omega | decide | assumption)
        · skip
          have c28 : ¬ (tld13.toInt = 0) := fun q => c28 ((z_eq rfl (by decide : (0 : Int32).toInt = 0)).mpr q)
          refine dv_iload_n dX8_toldGossips_22 rfl 1 rfl ?_
          refine dv_iconst (v := 1) dX8_toldGossips_23 (by decide) ?_
          refine dv_iload_n dX8_toldGossips_24 rfl 0 rfl ?_
          refine dv_ishl dX8_toldGossips_25 ?_
          refine dv_topi (fun x30 ex30 => ?_)
          have tx30 := z_shl1 (y := v2_4) rfl (by omega) (k := 7) (by decide) (by omega)
          rw [← ex30] at tx30
          refine dv_ior dX8_toldGossips_26 ?_
          refine dv_topi (fun x31 ex31 => ?_)
          refine dv_istore_n (lv' := [(1, .int x31), (2, .int v2_4), (0, .ref 0)]) dX8_toldGossips_27 rfl (by decide) rfl ?_
          obtain ⟨x32, ex32⟩ : ∃ y : Int32, y = v2_4 + 1 := ⟨_, rfl⟩
          have tx32 : x32.toInt = v2_4.toInt + 1 := by rw [ex32]; exact z_add rfl (by decide : (1 : Int32).toInt = 1) (by omega) (by omega)
          refine dv_iinc (v := x32) (lv' := [(2, .int x32), (1, .int x31), (0, .ref 0)]) dX8_toldGossips_28 (k := 1) rfl (by rw [ex32]; rfl) (by decide) rfl ?_
          refine dv_goto (tgt := 4) dX8_toldGossips_31 (by decide) ?_
          exact ih4 x32 x31 (by omega) (by first | omega | decide | assumption)
  exact loop4 ((8 - (0 : Int32).toInt : Int).toNat + 1) (0 : Int32) (0 : Int32) (by omega) (by first | omega | decide | assumption)

set_option maxHeartbeats 4000000 in
set_option maxRecDepth 100000 in
theorem k_X8_spell (l : Launch) (g : zG) (pe : Int32) (ct : Nat → va_E) (p0 : Int32) (hI : Inv8 g idn pe ct) : DM l g pCl false yX8_spell cX8_spell 3 none ({ frames := 1, cells := 0, slots := 0, locals := 21 }) (fun (ct2 : Nat → va_E) (rr : Option Value) => rr = none ∧ Inv8 g idn pe ct2) ct [.ref 0, .int p0] := by
  refine DM.K (fun K hK => ?_)
  refine GW.met (own := RX8) (loc := [(0, .ref 0), (1, .int p0)]) (by decide) rfl rfl (Nat.le_of_ble_eq_true rfl) ?_
  have hpe0 := hI.1
  have rg_p0 := z_rng p0
  refine dv_iconst (v := 0) dX8_spell_0 (by decide) ?_
  refine dv_istore_n (lv' := [(2, .int 0), (0, .ref 0), (1, .int p0)]) dX8_spell_1 rfl (by decide) rfl ?_
  have loop2 : ∀ (n2 : Nat) (v2_2 : Int32) (ct1 : Nat → va_E), ((4 - v2_2.toInt : Int).toNat < n2) → (0 ≤ v2_2.toInt ∧ v2_2.toInt ≤ 4) → (Inv8 g idn pe ct1) → GW l g pCl pCl false yX8_spell cX8_spell 3 none RX8 ({ frames := 1, cells := 0, slots := 0, locals := 21 }) K 0 0 ct1 2 [(2, .int v2_2), (0, .ref 0), (1, .int p0)] [] := by
    intro n2
    induction n2 with
    | zero =>
      intro v2_2 ct1 hn2 b2_2 hI
      exact absurd hn2 (Nat.not_lt_zero _)
    | succ n2 ih2 =>
      intro v2_2 ct1 hn2 b2_2 hI
      refine dv_iload_n dX8_spell_2 rfl 0 rfl ?_
      refine dv_iconst (v := 4) dX8_spell_3 (by decide) ?_
      refine dv_icmp_ge (tgt := 29) dX8_spell_4 (by decide) (fun c2 => ?_) (fun c2 => ?_)
      · skip
        have c2 : 4 ≤ v2_2.toInt := (z_le (by decide : (4 : Int32).toInt = 4) rfl).mp c2
        refine dv_aload_n dX8_spell_29 rfl 1 rfl ?_
        obtain ⟨bk5, dr4, h6, h7, h8, hs3⟩ := a8_0 hI
        refine dv_get (ci := 8) (v := .ref 34) (C := RX8) (T := TX8) (N := 13) ⟨by decide, rfl⟩ hs3 rfl inG8 9 (by decide) mm_312 rfl dX8_spell_30 ?_
        refine dv_iconst (v := 4) dX8_spell_33 (by decide) ?_
        refine dv_iload_n dX8_spell_34 rfl 2 rfl ?_
        obtain ⟨f10, hs9⟩ := a8_34 hI
        refine dv_iast 0 ⟨by decide, rfl⟩ hs9 rfl (z_in (by decide : (4 : Int32).toInt = 4) (by omega) (by omega)) dX8_spell_35 (en := .inl (g.2 0, 7, .inl (upd f10 (Int32.toNatClampNeg 4) p0))) rfl (fun ct11 ec12 => ?_)
        have hI : Inv8 g idn pe ct11 := by rw [ec12]; exact up8 hI (i8_34 ⟨_, rfl⟩)
        have hs13 : ct11 0 = .inr (8, [.ref 1, .ref 2, .ref 3, .ref 5, .ref 6, .ref 9, .ref 10, .ref 17, .ref 21, .ref 34, .ref (99 + 3 * dr4), .int pe, .int bk5]) := by rw [ec12, va_up_ne _ _ (by omega)]; exact hs3
        have hs14 : ct11 34 = .inl (g.2 0, 7, .inl (upd f10 (Int32.toNatClampNeg 4) p0)) := by rw [ec12]; exact va_up_self _ _ _
        refine dv_aload_n dX8_spell_36 rfl 1 rfl ?_
        refine dv_get (ci := 8) (v := .ref 34) (C := RX8) (T := TX8) (N := 13) ⟨by decide, rfl⟩ hs13 rfl inG8 9 (by decide) mm_312 rfl dX8_spell_37 ?_
        refine dv_iconst (v := 5) dX8_spell_40 (by decide) ?_
        refine dv_aload_n dX8_spell_41 rfl 1 rfl ?_
        refine dv_iload_n dX8_spell_42 rfl 2 rfl ?_
        refine GW.callV (n := 1) (As := [.int p0]) (rest := [.int 5, .ref 34]) (b := 0) (k_X8_isPerson l g pe ct11 p0 hI) (fun _ h => h) rfl rfl ⟨by decide, rfl⟩ hs13 (q := (RX8, TX8, 13)) rfl mm_370 mm_372 mm_1 mm_52 mm_373 (by decide +kernel) ⟨Nat.le_of_ble_eq_true rfl, Nat.le_of_ble_eq_true rfl⟩ rfl (Nat.le_of_ble_eq_true rfl) dX8_spell_43 (Nat.zero_le _) (Nat.zero_le _) rfl (fun ct15 rrr16 hBr16 hoff17 => ?_)
        obtain ⟨r16, rfl, hr16, rfl⟩ := hBr16
        refine GW.eq (S2 := [.int r16, .int 5, .ref 34]) rfl rfl rfl ?_
        rcases hr16 with hr16 | hr16
        · skip
          obtain ⟨rfl, h18, h19⟩ := hr16
          have h18 : 0 ≤ p0.toInt := h18
          have h19 : p0.toInt < pe.toInt := h19
          refine dv_if_eq (tgt := 58) dX8_spell_46 (by decide) (fun c20 => ?_) (fun c20 => ?_)
          · skip
            exact absurd c20 (by decide)
          · skip
            refine dv_aload_n dX8_spell_49 rfl 1 rfl ?_
            refine dv_get (ci := 8) (v := .ref 2) (C := RX8) (T := TX8) (N := 13) ⟨by decide, rfl⟩ hs13 rfl inG8 1 (by decide) mm_304 rfl dX8_spell_50 ?_
            refine dv_iload_n dX8_spell_53 rfl 2 rfl ?_
            obtain ⟨f22, hs21⟩ := a8_2 hI
            refine dv_iald 0 ⟨by decide, rfl⟩ hs21 rfl (z_in rfl (by omega) (by omega)) dX8_spell_54 ?_
            refine dv_topi (fun y23 ey23 => ?_)
            refine dv_goto (tgt := 59) dX8_spell_55 (by decide) ?_
            refine dv_iast 0 ⟨by decide, rfl⟩ hs14 rfl (z_in (by decide : (5 : Int32).toInt = 5) (by omega) (by omega)) dX8_spell_59 (en := .inl (g.2 0, 7, .inl (upd (upd f10 (Int32.toNatClampNeg 4) p0) (Int32.toNatClampNeg 5) y23))) rfl (fun ct24 ec25 => ?_)
            have hI : Inv8 g idn pe ct24 := by rw [ec25]; exact up8 hI (i8_34 ⟨_, rfl⟩)
            have hs26 : ct24 0 = .inr (8, [.ref 1, .ref 2, .ref 3, .ref 5, .ref 6, .ref 9, .ref 10, .ref 17, .ref 21, .ref 34, .ref (99 + 3 * dr4), .int pe, .int bk5]) := by rw [ec25, va_up_ne _ _ (by omega)]; exact hs13
            have hs27 : ct24 2 = .inl (g.2 0, 16, .inl f22) := by rw [ec25, va_up_ne _ _ (by omega)]; exact hs21
            have hs28 : ct24 34 = .inl (g.2 0, 7, .inl (upd (upd f10 (Int32.toNatClampNeg 4) p0) (Int32.toNatClampNeg 5) y23)) := by rw [ec25]; exact va_up_self _ _ _
            exact dv_vret dX8_spell_60 rfl (by first | exact Nat.zero_le _ | decide) (by first | exact Nat.zero_le _ | decide) (by subst hK; exact ⟨rfl, hI⟩)
        · skip
          obtain ⟨rfl, h29⟩ := hr16
          have h29 : ¬ (0 ≤ p0.toInt ∧ p0.toInt < pe.toInt) := h29
          refine dv_if_eq (tgt := 58) dX8_spell_46 (by decide) (fun c30 => ?_) (fun c30 => ?_)
          · skip
            refine dv_iconst (v := 0) dX8_spell_58 (by decide) ?_
            refine dv_iast 0 ⟨by decide, rfl⟩ hs14 rfl (z_in (by decide : (5 : Int32).toInt = 5) (by omega) (by omega)) dX8_spell_59 (en := .inl (g.2 0, 7, .inl (upd (upd f10 (Int32.toNatClampNeg 4) p0) (Int32.toNatClampNeg 5) 0))) rfl (fun ct31 ec32 => ?_)
            have hI : Inv8 g idn pe ct31 := by rw [ec32]; exact up8 hI (i8_34 ⟨_, rfl⟩)
            have hs33 : ct31 0 = .inr (8, [.ref 1, .ref 2, .ref 3, .ref 5, .ref 6, .ref 9, .ref 10, .ref 17, .ref 21, .ref 34, .ref (99 + 3 * dr4), .int pe, .int bk5]) := by rw [ec32, va_up_ne _ _ (by omega)]; exact hs13
            have hs34 : ct31 34 = .inl (g.2 0, 7, .inl (upd (upd f10 (Int32.toNatClampNeg 4) p0) (Int32.toNatClampNeg 5) 0)) := by rw [ec32]; exact va_up_self _ _ _
            exact dv_vret dX8_spell_60 rfl (by first | exact Nat.zero_le _ | decide) (by first | exact Nat.zero_le _ | decide) (by subst hK; exact ⟨rfl, hI⟩)
          · skip
            exact absurd c30 (by decide)
      · skip
        have c2 : ¬ (4 ≤ v2_2.toInt) := fun q => c2 ((z_le (by decide : (4 : Int32).toInt = 4) rfl).mpr q)
        refine dv_aload_n dX8_spell_7 rfl 1 rfl ?_
        obtain ⟨bk37, dr36, h38, h39, h40, hs35⟩ := a8_0 hI
        refine dv_get (ci := 8) (v := .ref 34) (C := RX8) (T := TX8) (N := 13) ⟨by decide, rfl⟩ hs35 rfl inG8 9 (by decide) mm_312 rfl dX8_spell_8 ?_
        refine dv_iload_n dX8_spell_11 rfl 0 rfl ?_
        refine dv_aload_n dX8_spell_12 rfl 1 rfl ?_
        refine dv_get (ci := 8) (v := .ref 1) (C := RX8) (T := TX8) (N := 13) ⟨by decide, rfl⟩ hs35 rfl inG8 0 (by decide) mm_303 rfl dX8_spell_13 ?_
        refine dv_iload_n dX8_spell_16 rfl 0 rfl ?_
        have hs41 := a8_1 hI
        refine dv_aldq 4 ⟨by decide, rfl⟩ hs41 rfl (z_in rfl (by omega) (by omega)) dX8_spell_17 (r := (0 + 35 + 5 * v2_2.toInt.toNat)) (zF1_r (x := v2_2) (by omega) (by omega)) ?_
        refine dv_iload_n dX8_spell_18 rfl 2 rfl ?_
        obtain ⟨we44, se45, h46, h47, hs43⟩ := a8_35 (kc := (0 + 35 + 5 * v2_2.toInt.toNat)) (by omega) hI
        refine GW.callV (n := 1) (As := [.int p0]) (rest := [.int v2_2, .ref 34]) (b := (0 + 35 + 5 * v2_2.toInt.toNat)) (k_X3_valueOf l g pe ct1 (0 + 35 + 5 * v2_2.toInt.toNat) p0 (by omega) hI) sub_pK_pCl rfl rfl ⟨by omega, pK_of (by omega)⟩ hs43 (q := (RX3, TX3, 6)) rfl mm_387 mm_388 mm_389 mm_59 mm_390 (by decide +kernel) ⟨Nat.le_of_ble_eq_true rfl, Nat.le_of_ble_eq_true rfl⟩ rfl (Nat.le_of_ble_eq_true rfl) dX8_spell_19 (Nat.zero_le _) (Nat.zero_le _) rfl (fun ct42 rrr48 hBr48 hoff49 => ?_)
        obtain ⟨r48, rfl, hr48, rfl⟩ := hBr48
        refine GW.eq (S2 := [.int r48, .int v2_2, .ref 34]) rfl rfl rfl ?_
        obtain ⟨f51, hs50⟩ := a8_34 hI
        refine dv_iast 0 ⟨by decide, rfl⟩ hs50 rfl (z_in rfl (by omega) (by omega)) dX8_spell_22 (en := .inl (g.2 0, 7, .inl (upd f51 (Int32.toNatClampNeg v2_2) r48))) rfl (fun ct52 ec53 => ?_)
        have hI : Inv8 g idn pe ct52 := by rw [ec53]; exact up8 hI (i8_34 ⟨_, rfl⟩)
        have hs54 : ct52 0 = .inr (8, [.ref 1, .ref 2, .ref 3, .ref 5, .ref 6, .ref 9, .ref 10, .ref 17, .ref 21, .ref 34, .ref (99 + 3 * dr36), .int pe, .int bk37]) := by rw [ec53, va_up_ne _ _ (by omega)]; exact hs35
        have hs55 : ct52 1 = .inl (g.2 4, 4, .inr (.inr (.inr (.inr (zF1 idn 0))))) := by rw [ec53, va_up_ne _ _ (by omega)]; exact hs41
        have hs56 : ct52 (0 + 35 + 5 * v2_2.toInt.toNat) = .inr (3, [.int we44, .ref ((0 + 35 + 5 * v2_2.toInt.toNat) + 1), .ref ((0 + 35 + 5 * v2_2.toInt.toNat) + 2), .ref ((0 + 35 + 5 * v2_2.toInt.toNat) + 3), .ref ((0 + 35 + 5 * v2_2.toInt.toNat) + 4), .int se45]) := by rw [ec53, va_up_ne _ _ (by omega)]; exact hs43
        have hs57 : ct52 34 = .inl (g.2 0, 7, .inl (upd f51 (Int32.toNatClampNeg v2_2) r48)) := by rw [ec53]; exact va_up_self _ _ _
        obtain ⟨x58, ex58⟩ : ∃ y : Int32, y = v2_2 + 1 := ⟨_, rfl⟩
        have tx58 : x58.toInt = v2_2.toInt + 1 := by rw [ex58]; exact z_add rfl (by decide : (1 : Int32).toInt = 1) (by omega) (by omega)
        refine dv_iinc (v := x58) (lv' := [(2, .int x58), (0, .ref 0), (1, .int p0)]) dX8_spell_23 (k := 0) rfl (by rw [ex58]; rfl) (by decide) rfl ?_
        refine dv_goto (tgt := 2) dX8_spell_26 (by decide) ?_
        exact ih2 x58 ct52 (by omega) (by first | omega | decide | assumption) hI
  exact loop2 ((4 - (0 : Int32).toInt : Int).toNat + 1) (0 : Int32) ct (by omega) (by first | omega | decide | assumption) hI

set_option maxHeartbeats 4000000 in
set_option maxRecDepth 100000 in
theorem k_X8_judgeAll (l : Launch) (g : zG) (pe : Int32) (ct : Nat → va_E) (p0 : Int32) (hI : Inv8 g idn pe ct) : DM l g pCl false yX8_judgeAll cX8_judgeAll 3 none ({ frames := 27, cells := 0, slots := 0, locals := 672 }) (fun (ct2 : Nat → va_E) (rr : Option Value) => rr = none ∧ Inv8 g idn pe ct2) ct [.ref 0, .int p0] := by
  refine DM.K (fun K hK => ?_)
  refine GW.met (own := RX8) (loc := [(0, .ref 0), (1, .int p0)]) (by decide) rfl rfl (Nat.le_of_ble_eq_true rfl) ?_
  have hpe0 := hI.1
  have rg_p0 := z_rng p0
  refine dv_aload_n dX8_judgeAll_0 rfl 0 rfl ?_
  refine dv_iload_n dX8_judgeAll_1 rfl 1 rfl ?_
  obtain ⟨bk4, dr3, h5, h6, h7, hs2⟩ := a8_0 hI
  refine GW.callV (n := 1) (As := [.int p0]) (rest := []) (b := 0) (k_X8_spell l g pe ct p0 hI) (fun _ h => h) rfl rfl ⟨by decide, rfl⟩ hs2 (q := (RX8, TX8, 13)) rfl mm_576 mm_578 mm_19 mm_52 mm_579 (by decide +kernel) ⟨Nat.le_of_ble_eq_true rfl, Nat.le_of_ble_eq_true rfl⟩ rfl (Nat.le_of_ble_eq_true rfl) dX8_judgeAll_2 (Nat.zero_le _) (Nat.zero_le _) rfl (fun ct1 rrr8 hBr8 hoff9 => ?_)
  obtain ⟨rfl, hI⟩ := hBr8
  refine GW.eq (S2 := []) rfl rfl rfl ?_
  refine dv_iconst (v := 0) dX8_judgeAll_5 (by decide) ?_
  refine dv_istore_n (lv' := [(2, .int 0), (0, .ref 0), (1, .int p0)]) dX8_judgeAll_6 rfl (by decide) rfl ?_
  have loop7 : ∀ (n7 : Nat) (v2_7 : Int32) (ct10 : Nat → va_E), ((8 - v2_7.toInt : Int).toNat < n7) → (0 ≤ v2_7.toInt ∧ v2_7.toInt ≤ 8) → (Inv8 g idn pe ct10) → GW l g pCl pCl false yX8_judgeAll cX8_judgeAll 3 none RX8 ({ frames := 27, cells := 0, slots := 0, locals := 672 }) K 0 0 ct10 7 [(2, .int v2_7), (0, .ref 0), (1, .int p0)] [] := by
    intro n7
    induction n7 with
    | zero =>
      intro v2_7 ct10 hn7 b2_7 hI
      exact absurd hn7 (Nat.not_lt_zero _)
    | succ n7 ih7 =>
      intro v2_7 ct10 hn7 b2_7 hI
      refine dv_iload_n dX8_judgeAll_7 rfl 0 rfl ?_
      refine dv_bipush (v := 8) dX8_judgeAll_8 (by decide) ?_
      refine dv_icmp_ge (tgt := 44) dX8_judgeAll_10 (by decide) (fun c11 => ?_) (fun c11 => ?_)
      · skip
        have c11 : 8 ≤ v2_7.toInt := (z_le (by decide : (8 : Int32).toInt = 8) rfl).mp c11
        exact dv_vret dX8_judgeAll_44 rfl (by first | exact Nat.zero_le _ | decide) (by first | exact Nat.zero_le _ | decide) (by subst hK; exact ⟨rfl, hI⟩)
      · skip
        have c11 : ¬ (8 ≤ v2_7.toInt) := fun q => c11 ((z_le (by decide : (8 : Int32).toInt = 8) rfl).mpr q)
        refine dv_aload_n dX8_judgeAll_13 rfl 1 rfl ?_
        obtain ⟨bk14, dr13, h15, h16, h17, hs12⟩ := a8_0 hI
        refine dv_get (ci := 8) (v := .ref 9) (C := RX8) (T := TX8) (N := 13) ⟨by decide, rfl⟩ hs12 rfl inG8 5 (by decide) mm_308 rfl dX8_judgeAll_14 ?_
        refine dv_iload_n dX8_judgeAll_17 rfl 0 rfl ?_
        obtain ⟨f19, hgf20, hs18⟩ := a8_9 hI
        obtain ⟨j21, hj21, ej21⟩ := hgf20 _ (z_clt (x := v2_7) rfl (by omega) (by omega))
        refine dv_aldq 6 ⟨by decide, rfl⟩ hs18 rfl (z_in rfl (by omega) (by omega)) dX8_judgeAll_18 (r := (99 + 3 * j21)) ej21 ?_
        obtain ⟨tld23, ofb24, hol25, flt26, fla27, ofl28, len29, atx30, ref31, hz32, h33, h34, h35, h36, hz37, hs22⟩ := a8_44 (kc := (99 + 3 * j21)) (by omega) hI
        have bhz32 := z_b01 hz32
        have bhz37 := z_b01 hz37
        refine dv_get (ci := 4) (v := .int tld23) (C := RX4) (T := TX4) (N := 11) ⟨by omega, pCl_of (by omega)⟩ hs22 rfl inG4 0 (by decide) mm_215 rfl dX8_judgeAll_19 ?_
        refine dv_if_eq (tgt := 38) dX8_judgeAll_22 (by decide) (fun c38 => ?_) (fun c38 => ?_)
        · skip
          have c38 : tld23.toInt = 0 := (z_eq rfl (by decide : (0 : Int32).toInt = 0)).mp c38
          obtain ⟨x39, ex39⟩ : ∃ y : Int32, y = v2_7 + 1 := ⟨_, rfl⟩
          have tx39 : x39.toInt = v2_7.toInt + 1 := by rw [ex39]; exact z_add rfl (by decide : (1 : Int32).toInt = 1) (by omega) (by omega)
          refine dv_iinc (v := x39) (lv' := [(2, .int x39), (0, .ref 0), (1, .int p0)]) dX8_judgeAll_38 (k := 0) rfl (by rw [ex39]; rfl) (by decide) rfl ?_
          refine dv_goto (tgt := 7) dX8_judgeAll_41 (by decide) ?_
          exact ih7 x39 ct10 (by omega) (by first | omega | decide | assumption) hI
        · skip
          have c38 : ¬ (tld23.toInt = 0) := fun q => c38 ((z_eq rfl (by decide : (0 : Int32).toInt = 0)).mpr q)
          refine dv_aload_n dX8_judgeAll_25 rfl 1 rfl ?_
          refine dv_get (ci := 8) (v := .ref 9) (C := RX8) (T := TX8) (N := 13) ⟨by decide, rfl⟩ hs12 rfl inG8 5 (by decide) mm_308 rfl dX8_judgeAll_26 ?_
          refine dv_iload_n dX8_judgeAll_29 rfl 0 rfl ?_
          obtain ⟨j40, hj40, ej40⟩ := hgf20 _ (z_clt (x := v2_7) rfl (by omega) (by omega))
          refine dv_aldq 6 ⟨by decide, rfl⟩ hs18 rfl (z_in rfl (by omega) (by omega)) dX8_judgeAll_30 (r := (99 + 3 * j40)) ej40 ?_
          refine dv_aload_n dX8_judgeAll_31 rfl 1 rfl ?_
          refine dv_get (ci := 8) (v := .ref 34) (C := RX8) (T := TX8) (N := 13) ⟨by decide, rfl⟩ hs12 rfl inG8 9 (by decide) mm_312 rfl dX8_judgeAll_32 ?_
          obtain ⟨tld43, ofb44, hol45, flt46, fla47, ofl48, len49, atx50, ref51, hz52, h53, h54, h55, h56, hz57, hs42⟩ := a8_44 (kc := (99 + 3 * j40)) (by omega) hI
          have bhz52 := z_b01 hz52
          have bhz57 := z_b01 hz57
          refine GW.callV (n := 1) (As := [.ref 34]) (rest := []) (b := (99 + 3 * j40)) (k_X4_judge l g pe ct10 (99 + 3 * j40) (by omega) hI) sub_pG_pCl rfl rfl ⟨by omega, pG_of (by omega)⟩ hs42 (q := (RX4, TX4, 11)) rfl mm_580 mm_581 mm_582 mm_58 mm_583 (by decide +kernel) ⟨Nat.le_of_ble_eq_true rfl, Nat.le_of_ble_eq_true rfl⟩ rfl (Nat.le_of_ble_eq_true rfl) dX8_judgeAll_35 (Nat.zero_le _) (Nat.zero_le _) rfl (fun ct41 rrr58 hBr58 hoff59 => ?_)
          obtain ⟨rfl, hI⟩ := hBr58
          refine GW.eq (S2 := []) rfl rfl rfl ?_
          have hs60 : ct41 0 = .inr (8, [.ref 1, .ref 2, .ref 3, .ref 5, .ref 6, .ref 9, .ref 10, .ref 17, .ref 21, .ref 34, .ref (99 + 3 * dr13), .int pe, .int bk14]) := (hoff59 _ (pG_no (by decide))).trans hs12
          have hs61 : ct41 9 = .inl (g.2 6, 8, .inr (.inr (.inr (.inr f19)))) := (hoff59 _ (pG_no (by decide))).trans hs18
          obtain ⟨x62, ex62⟩ : ∃ y : Int32, y = v2_7 + 1 := ⟨_, rfl⟩
          have tx62 : x62.toInt = v2_7.toInt + 1 := by rw [ex62]; exact z_add rfl (by decide : (1 : Int32).toInt = 1) (by omega) (by omega)
          refine dv_iinc (v := x62) (lv' := [(2, .int x62), (0, .ref 0), (1, .int p0)]) dX8_judgeAll_38 (k := 0) rfl (by rw [ex62]; rfl) (by decide) rfl ?_
          refine dv_goto (tgt := 7) dX8_judgeAll_41 (by decide) ?_
          exact ih7 x62 ct41 (by omega) (by first | omega | decide | assumption) hI
  exact loop7 ((8 - (0 : Int32).toInt : Int).toNat + 1) (0 : Int32) ct1 (by omega) (by first | omega | decide | assumption) hI
