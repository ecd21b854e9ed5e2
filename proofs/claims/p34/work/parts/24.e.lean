set_option maxHeartbeats 4000000 in
set_option maxRecDepth 100000 in
theorem k_X1_level (l : Launch) (g : zG) (pe : Int32) (ct : Nat → va_E) (row : Int32) (c0 : Int32) (hl_row : 0 ≤ row.toInt ∧ row.toInt ≤ 624) (hI : Inv8 g idn pe ct) : DM l g pNo false yX1_level cX1_level 4 (some .int) ({ frames := 0, cells := 0, slots := 0, locals := 0 }) (fun (ct2 : Nat → va_E) (rr : Option Value) => ∃ (r : Int32), rr = some (.int r) ∧ (((0 ≤ r.toInt) ∧ (r.toInt ≤ 4))) ∧ ct = ct2) ct [.int row, .int c0] := by
  refine DM.K (fun K hK => ?_)
  refine GW.met (own := RX1) (loc := [(0, .int row), (1, .int c0)]) (by decide) rfl rfl (Nat.le_of_ble_eq_true rfl) ?_
  have hpe0 := hI.1
  have rg_c0 := z_rng c0
  refine dv_iload_n dX1_level_0 rfl 0 rfl ?_
  refine dv_istore_n (lv' := [(2, .int row), (0, .int row), (1, .int c0)]) dX1_level_1 rfl (by decide) rfl ?_
  refine dv_iconst (v := 3) dX1_level_2 (by decide) ?_
  refine dv_istore_n (lv' := [(3, .int 3), (2, .int row), (0, .int row), (1, .int c0)]) dX1_level_3 rfl (by decide) rfl ?_
  have loop4 : ∀ (n4 : Nat) (v3_4 : Int32) (v2_4 : Int32), ((v3_4.toInt - c0.toInt : Int).toNat < n4) → (0 ≤ v2_4.toInt ∧ v2_4.toInt ≤ 624) → (-2147483648 ≤ v3_4.toInt ∧ v3_4.toInt ≤ 3) → GW l g pNo pNo false yX1_level cX1_level 4 (some .int) RX1 ({ frames := 0, cells := 0, slots := 0, locals := 0 }) K 0 0 ct 4 [(3, .int v3_4), (2, .int v2_4), (0, .int row), (1, .int c0)] [] := by
    intro n4
    induction n4 with
    | zero =>
      intro v3_4 v2_4 hn4 b2_4 b3_4
      exact absurd hn4 (Nat.not_lt_zero _)
    | succ n4 ih4 =>
      intro v3_4 v2_4 hn4 b2_4 b3_4
      refine dv_iload_n dX1_level_4 rfl 0 rfl ?_
      refine dv_iload_n dX1_level_5 rfl 3 rfl ?_
      refine dv_icmp_le (tgt := 19) dX1_level_6 (by decide) (fun c1 => ?_) (fun c1 => ?_)
      · skip
        have c1 : v3_4.toInt ≤ c0.toInt := (z_le rfl rfl).mp c1
        refine dv_iload_n dX1_level_19 rfl 1 rfl ?_
        refine dv_iconst (v := 5) dX1_level_20 (by decide) ?_
        refine dv_irem dX1_level_21 (by decide) ?_
        refine dv_topi (fun x2 ex2 => ?_)
        have tx2 := z_rem (x := v2_4) (y := 5) rfl (by decide : (5 : Int32).toInt = 5) (by omega) (by omega)
        rw [← ex2] at tx2
        exact dv_iret dX1_level_22 rfl (by first | exact Nat.zero_le _ | decide) (by first | exact Nat.zero_le _ | decide) (by subst hK; exact ⟨x2, rfl, (⟨by first | omega | decide, by first | omega | decide⟩), rfl⟩)
      · skip
        have c1 : ¬ (v3_4.toInt ≤ c0.toInt) := fun q => c1 ((z_le rfl rfl).mpr q)
        refine dv_iload_n dX1_level_9 rfl 1 rfl ?_
        refine dv_iconst (v := 5) dX1_level_10 (by decide) ?_
        refine dv_idiv dX1_level_11 (by decide) ?_
        refine dv_topi (fun x3 ex3 => ?_)
        have tx3 := z_div (x := v2_4) (y := 5) rfl (by decide : (5 : Int32).toInt = 5) (by omega) (by omega)
        rw [← ex3] at tx3
        refine dv_istore_n (lv' := [(2, .int x3), (3, .int v3_4), (0, .int row), (1, .int c0)]) dX1_level_12 rfl (by decide) rfl ?_
        obtain ⟨x4, ex4⟩ : ∃ y : Int32, y = v3_4 + (-1) := ⟨_, rfl⟩
        have tx4 : x4.toInt = v3_4.toInt + (-1) := by rw [ex4]; exact z_add rfl (by decide : ((-1) : Int32).toInt = (-1)) (by omega) (by omega)
        refine dv_iinc (v := x4) (lv' := [(3, .int x4), (2, .int x3), (0, .int row), (1, .int c0)]) dX1_level_13 (k := 1) rfl (by rw [ex4]; rfl) (by decide) rfl ?_
        refine dv_goto (tgt := 4) dX1_level_16 (by decide) ?_
        exact ih4 x4 x3 (by omega) (by first | omega | decide | assumption) (by first | omega | decide | assumption)
  exact loop4 (((3 : Int32).toInt - c0.toInt : Int).toNat + 1) (3 : Int32) row (by omega) (by first | omega | decide | assumption) (by first | omega | decide | assumption)

set_option maxHeartbeats 4000000 in
set_option maxRecDepth 100000 in
theorem k_X1_clear (l : Launch) (g : zG) (pe : Int32) (ct : Nat → va_E) (hI : Inv8 g idn pe ct) : DM l g pBl false yX1_clear cX1_clear 2 none ({ frames := 0, cells := 0, slots := 0, locals := 0 }) (fun (ct2 : Nat → va_E) (rr : Option Value) => rr = none ∧ Inv8 g idn pe ct2) ct [.ref 21] := by
  refine DM.K (fun K hK => ?_)
  refine GW.met (own := RX1) (loc := [(0, .ref 21)]) (by decide) rfl rfl (Nat.le_of_ble_eq_true rfl) ?_
  have hpe0 := hI.1
  refine dv_iconst (v := 0) dX1_clear_0 (by decide) ?_
  refine dv_istore_n (lv' := [(1, .int 0), (0, .ref 21)]) dX1_clear_1 rfl (by decide) rfl ?_
  have loop2 : ∀ (n2 : Nat) (v1_2 : Int32) (ct1 : Nat → va_E), ((4 - v1_2.toInt : Int).toNat < n2) → (0 ≤ v1_2.toInt ∧ v1_2.toInt ≤ 4) → (Inv8 g idn pe ct1) → GW l g pBl pBl false yX1_clear cX1_clear 2 none RX1 ({ frames := 0, cells := 0, slots := 0, locals := 0 }) K 0 0 ct1 2 [(1, .int v1_2), (0, .ref 21)] [] := by
    intro n2
    induction n2 with
    | zero =>
      intro v1_2 ct1 hn2 b1_2 hI
      exact absurd hn2 (Nat.not_lt_zero _)
    | succ n2 ih2 =>
      intro v1_2 ct1 hn2 b1_2 hI
      refine dv_iload_n dX1_clear_2 rfl 0 rfl ?_
      refine dv_iconst (v := 4) dX1_clear_3 (by decide) ?_
      refine dv_icmp_ge (tgt := 20) dX1_clear_4 (by decide) (fun c2 => ?_) (fun c2 => ?_)
      · skip
        have c2 : 4 ≤ v1_2.toInt := (z_le (by decide : (4 : Int32).toInt = 4) rfl).mp c2
        exact dv_vret dX1_clear_20 rfl (by first | exact Nat.zero_le _ | decide) (by first | exact Nat.zero_le _ | decide) (by subst hK; exact ⟨rfl, hI⟩)
      · skip
        have c2 : ¬ (4 ≤ v1_2.toInt) := fun q => c2 ((z_le (by decide : (4 : Int32).toInt = 4) rfl).mpr q)
        refine dv_aload_n dX1_clear_7 rfl 1 rfl ?_
        obtain ⟨lst4, lrw5, lct6, h7, h8, hs3⟩ := a8_21 hI
        refine dv_get (ci := 1) (v := .ref 24) (C := RX1) (T := TX1) (N := 7) ⟨by decide, rfl⟩ hs3 rfl inG1 5 (by decide) mm_192 rfl dX1_clear_8 ?_
        refine dv_iload_n dX1_clear_11 rfl 0 rfl ?_
        refine dv_iconst (v := 0) dX1_clear_12 (by decide) ?_
        obtain ⟨f10, hs9⟩ := a8_24 hI
        refine dv_iast 0 ⟨by decide, rfl⟩ hs9 rfl (z_in rfl (by omega) (by omega)) dX1_clear_13 (en := .inl (g.2 0, 4, .inl (upd f10 (Int32.toNatClampNeg v1_2) 0))) rfl (fun ct11 ec12 => ?_)
        have hI : Inv8 g idn pe ct11 := by rw [ec12]; exact up8 hI (i8_24 ⟨_, rfl⟩)
        have hs13 : ct11 21 = .inr (1, [.int lst4, .int lrw5, .int lct6, .ref 22, .ref 23, .ref 24, .ref 25]) := by rw [ec12, va_up_ne _ _ (by omega)]; exact hs3
        have hs14 : ct11 24 = .inl (g.2 0, 4, .inl (upd f10 (Int32.toNatClampNeg v1_2) 0)) := by rw [ec12]; exact va_up_self _ _ _
        obtain ⟨x15, ex15⟩ : ∃ y : Int32, y = v1_2 + 1 := ⟨_, rfl⟩
        have tx15 : x15.toInt = v1_2.toInt + 1 := by rw [ex15]; exact z_add rfl (by decide : (1 : Int32).toInt = 1) (by omega) (by omega)
        refine dv_iinc (v := x15) (lv' := [(1, .int x15), (0, .ref 21)]) dX1_clear_14 (k := 0) rfl (by rw [ex15]; rfl) (by decide) rfl ?_
        refine dv_goto (tgt := 2) dX1_clear_17 (by decide) ?_
        exact ih2 x15 ct11 (by omega) (by first | omega | decide | assumption) hI
  exact loop2 ((4 - (0 : Int32).toInt : Int).toNat + 1) (0 : Int32) ct (by omega) (by first | omega | decide | assumption) hI

set_option maxHeartbeats 4000000 in
set_option maxRecDepth 100000 in
theorem k_X1_put (l : Launch) (g : zG) (pe : Int32) (ct : Nat → va_E) (c0 : Int32) (lv : Int32) (i : Int32) (ft : Int32) (ls0 : Int32) (hI : Inv8 g idn pe ct) : DM l g pBl false yX1_put cX1_put 6 none ({ frames := 2, cells := 0, slots := 0, locals := 42 }) (fun (ct2 : Nat → va_E) (rr : Option Value) => rr = none ∧ Inv8 g idn pe ct2) ct [.ref 21, .int c0, .int lv, .int i, .int ft, .int ls0] := by
  refine DM.K (fun K hK => ?_)
  refine GW.met (own := RX1) (loc := [(0, .ref 21), (1, .int c0), (2, .int lv), (3, .int i), (4, .int ft), (5, .int ls0)]) (by decide) rfl rfl (Nat.le_of_ble_eq_true rfl) ?_
  have hpe0 := hI.1
  have rg_c0 := z_rng c0
  have rg_lv := z_rng lv
  have rg_i := z_rng i
  have rg_ft := z_rng ft
  have rg_ls0 := z_rng ls0
  refine dv_iload_n dX1_put_0 rfl 1 rfl ?_
  refine GW.callSN (n := 1) (As := [.int c0]) (rest := []) (k_X8_isColumn l g pe ct c0 hI) (fun _ h => Bool.noConfusion h) rfl rfl 16 rfl mm_401 mm_52 mm_402 (by decide +kernel) ⟨Nat.le_of_ble_eq_true rfl, Nat.le_of_ble_eq_true rfl⟩ rfl (Nat.le_of_ble_eq_true rfl) dX1_put_1 (Nat.zero_le _) (Nat.zero_le _) rfl (fun ct1 rrr2 hBr2 hoff3 => ?_)
  obtain ⟨r2, rfl, hr2, rfl⟩ := hBr2
  refine GW.eq (S2 := [.int r2]) rfl rfl rfl ?_
  rcases hr2 with hr2 | hr2
  · skip
    obtain ⟨rfl, h4, h5⟩ := hr2
    have h4 : 0 ≤ c0.toInt := h4
    have h5 : c0.toInt ≤ 3 := h5
    refine dv_if_eq (tgt := 54) dX1_put_4 (by decide) (fun c6 => ?_) (fun c6 => ?_)
    · skip
      exact absurd c6 (by decide)
    · skip
      refine dv_iload_n dX1_put_7 rfl 2 rfl ?_
      refine GW.callSN (n := 1) (As := [.int lv]) (rest := []) (k_X8_isLevel l g pe ct lv hI) (fun _ h => Bool.noConfusion h) rfl rfl 17 rfl mm_359 mm_52 mm_360 (by decide +kernel) ⟨Nat.le_of_ble_eq_true rfl, Nat.le_of_ble_eq_true rfl⟩ rfl (Nat.le_of_ble_eq_true rfl) dX1_put_8 (Nat.zero_le _) (Nat.zero_le _) rfl (fun ct7 rrr8 hBr8 hoff9 => ?_)
      obtain ⟨r8, rfl, hr8, rfl⟩ := hBr8
      refine GW.eq (S2 := [.int r8]) rfl rfl rfl ?_
      rcases hr8 with hr8 | hr8
      · skip
        obtain ⟨rfl, h10, h11⟩ := hr8
        have h10 : 0 ≤ lv.toInt := h10
        have h11 : lv.toInt ≤ 4 := h11
        refine dv_if_eq (tgt := 54) dX1_put_11 (by decide) (fun c12 => ?_) (fun c12 => ?_)
        · skip
          exact absurd c12 (by decide)
        · skip
          refine dv_iload_n dX1_put_14 rfl 3 rfl ?_
          refine dv_iconst (v := 0) dX1_put_15 (by decide) ?_
          refine dv_bipush (v := 7) dX1_put_16 (by decide) ?_
          refine GW.callSN (n := 3) (As := [.int i, .int 0, .int 7]) (rest := []) (k_X8_within l g pe ct i (0 : Int32) (7 : Int32) hI) (fun _ h => Bool.noConfusion h) rfl rfl 18 rfl mm_356 mm_52 mm_357 (by decide +kernel) ⟨Nat.le_of_ble_eq_true rfl, Nat.le_of_ble_eq_true rfl⟩ rfl (Nat.le_of_ble_eq_true rfl) dX1_put_18 (Nat.zero_le _) (Nat.zero_le _) rfl (fun ct13 rrr14 hBr14 hoff15 => ?_)
          obtain ⟨r14, rfl, hr14, rfl⟩ := hBr14
          refine GW.eq (S2 := [.int r14]) rfl rfl rfl ?_
          rcases hr14 with hr14 | hr14
          · skip
            obtain ⟨rfl, h16, h17⟩ := hr14
            have h16 : (0 : Int) ≤ i.toInt := h16
            have h17 : i.toInt ≤ (7 : Int) := h17
            refine dv_if_eq (tgt := 54) dX1_put_21 (by decide) (fun c18 => ?_) (fun c18 => ?_)
            · skip
              exact absurd c18 (by decide)
            · skip
              refine dv_aload_n dX1_put_24 rfl 0 rfl ?_
              obtain ⟨lst20, lrw21, lct22, h23, h24, hs19⟩ := a8_21 hI
              refine dv_get (ci := 1) (v := .ref 22) (C := RX1) (T := TX1) (N := 7) ⟨by decide, rfl⟩ hs19 rfl inG1 3 (by decide) mm_190 rfl dX1_put_25 ?_
              refine dv_iload_n dX1_put_28 rfl 1 rfl ?_
              have hs25 := a8_22 hI
              refine dv_aldII 7 ⟨by decide, rfl⟩ hs25 rfl (z_in rfl (by omega) (by omega)) dX1_put_29 (r := (0 + 26 + 1 * c0.toInt.toNat)) (zF22_r (x := c0) (by omega) (by omega)) ?_
              refine dv_bipush (v := 8) dX1_put_30 (by decide) ?_
              refine dv_iload_n dX1_put_32 rfl 2 rfl ?_
              refine dv_imul dX1_put_33 ?_
              refine dv_topi (fun x26 ex26 => ?_)
              have tx26 : x26.toInt = 8 * lv.toInt := by rw [ex26]; exact z_mul (by decide : (8 : Int32).toInt = 8) rfl (by omega) (by omega)
              refine dv_iload_n dX1_put_34 rfl 3 rfl ?_
              refine dv_iadd dX1_put_35 ?_
              refine dv_topi (fun x27 ex27 => ?_)
              have tx27 : x27.toInt = x26.toInt + i.toInt := by rw [ex27]; exact z_add rfl rfl (by omega) (by omega)
              refine dv_iload dX1_put_36 4 rfl ?_
              obtain ⟨f29, hs28⟩ := a8_26 (kc := (0 + 26 + 1 * c0.toInt.toNat)) (by omega) hI
              refine dv_iast 0 ⟨by omega, pBl_of (by omega)⟩ hs28 rfl (z_in rfl (by omega) (by omega)) dX1_put_38 (en := .inl (g.2 0, 40, .inl (upd f29 (Int32.toNatClampNeg x27) ft))) rfl (fun ct30 ec31 => ?_)
              have hI : Inv8 g idn pe ct30 := by rw [ec31]; exact up8 hI (i8_26 (kc := (0 + 26 + 1 * c0.toInt.toNat)) (by omega) ⟨_, rfl⟩)
              have hs32 : ct30 21 = .inr (1, [.int lst20, .int lrw21, .int lct22, .ref 22, .ref 23, .ref 24, .ref 25]) := by rw [ec31, va_up_ne _ _ (by omega)]; exact hs19
              have hs33 : ct30 22 = .inl (g.2 7, 4, .inr (.inr (.inr (.inr (zF22 idn 0))))) := by rw [ec31, va_up_ne _ _ (by omega)]; exact hs25
              have hs34 : ct30 (0 + 26 + 1 * c0.toInt.toNat) = .inl (g.2 0, 40, .inl (upd f29 (Int32.toNatClampNeg x27) ft)) := by rw [ec31]; exact va_up_self _ _ _
              refine dv_aload_n dX1_put_39 rfl 0 rfl ?_
              refine dv_get (ci := 1) (v := .ref 23) (C := RX1) (T := TX1) (N := 7) ⟨by decide, rfl⟩ hs32 rfl inG1 4 (by decide) mm_191 rfl dX1_put_40 ?_
              refine dv_iload_n dX1_put_43 rfl 1 rfl ?_
              have hs35 := a8_23 hI
              refine dv_aldII 7 ⟨by decide, rfl⟩ hs35 rfl (z_in rfl (by omega) (by omega)) dX1_put_44 (r := (0 + 30 + 1 * c0.toInt.toNat)) (zF23_r (x := c0) (by omega) (by omega)) ?_
              refine dv_bipush (v := 8) dX1_put_45 (by decide) ?_
              refine dv_iload_n dX1_put_47 rfl 2 rfl ?_
              refine dv_imul dX1_put_48 ?_
              refine dv_topi (fun x36 ex36 => ?_)
              obtain rfl : x26 = x36 := ex26.trans ex36.symm
              refine dv_iload_n dX1_put_49 rfl 3 rfl ?_
              refine dv_iadd dX1_put_50 ?_
              refine dv_topi (fun x37 ex37 => ?_)
              obtain rfl : x27 = x37 := ex27.trans ex37.symm
              refine dv_iload dX1_put_51 5 rfl ?_
              obtain ⟨f39, hs38⟩ := a8_26 (kc := (0 + 30 + 1 * c0.toInt.toNat)) (by omega) hI
              refine dv_iast 0 ⟨by omega, pBl_of (by omega)⟩ hs38 rfl (z_in rfl (by omega) (by omega)) dX1_put_53 (en := .inl (g.2 0, 40, .inl (upd f39 (Int32.toNatClampNeg x27) ls0))) rfl (fun ct40 ec41 => ?_)
              have hI : Inv8 g idn pe ct40 := by rw [ec41]; exact up8 hI (i8_26 (kc := (0 + 30 + 1 * c0.toInt.toNat)) (by omega) ⟨_, rfl⟩)
              have hs42 : ct40 21 = .inr (1, [.int lst20, .int lrw21, .int lct22, .ref 22, .ref 23, .ref 24, .ref 25]) := by rw [ec41, va_up_ne _ _ (by omega)]; exact hs32
              have hs43 : ct40 22 = .inl (g.2 7, 4, .inr (.inr (.inr (.inr (zF22 idn 0))))) := by rw [ec41, va_up_ne _ _ (by omega)]; exact hs33
              have hs44 : ct40 23 = .inl (g.2 7, 4, .inr (.inr (.inr (.inr (zF23 idn 0))))) := by rw [ec41, va_up_ne _ _ (by omega)]; exact hs35
              have hs45 : ct40 (0 + 30 + 1 * c0.toInt.toNat) = .inl (g.2 0, 40, .inl (upd f39 (Int32.toNatClampNeg x27) ls0)) := by rw [ec41]; exact va_up_self _ _ _
              exact dv_vret dX1_put_54 rfl (by first | exact Nat.zero_le _ | decide) (by first | exact Nat.zero_le _ | decide) (by subst hK; exact ⟨rfl, hI⟩)
          · skip
            obtain ⟨rfl, h46⟩ := hr14
            have h46 : ¬ ((0 : Int) ≤ i.toInt ∧ i.toInt ≤ (7 : Int)) := h46
            refine dv_if_eq (tgt := 54) dX1_put_21 (by decide) (fun c47 => ?_) (fun c47 => ?_)
            · skip
              exact dv_vret dX1_put_54 rfl (by first | exact Nat.zero_le _ | decide) (by first | exact Nat.zero_le _ | decide) (by subst hK; exact ⟨rfl, hI⟩)
            · skip
              exact absurd c47 (by decide)
      · skip
        obtain ⟨rfl, h48⟩ := hr8
        have h48 : ¬ (0 ≤ lv.toInt ∧ lv.toInt ≤ 4) := h48
        refine dv_if_eq (tgt := 54) dX1_put_11 (by decide) (fun c49 => ?_) (fun c49 => ?_)
        · skip
          exact dv_vret dX1_put_54 rfl (by first | exact Nat.zero_le _ | decide) (by first | exact Nat.zero_le _ | decide) (by subst hK; exact ⟨rfl, hI⟩)
        · skip
          exact absurd c49 (by decide)
  · skip
    obtain ⟨rfl, h50⟩ := hr2
    have h50 : ¬ (0 ≤ c0.toInt ∧ c0.toInt ≤ 3) := h50
    refine dv_if_eq (tgt := 54) dX1_put_4 (by decide) (fun c51 => ?_) (fun c51 => ?_)
    · skip
      exact dv_vret dX1_put_54 rfl (by first | exact Nat.zero_le _ | decide) (by first | exact Nat.zero_le _ | decide) (by subst hK; exact ⟨rfl, hI⟩)
    · skip
      exact absurd c51 (by decide)

set_option maxHeartbeats 4000000 in
set_option maxRecDepth 100000 in
theorem k_X1_raiseTop (l : Launch) (g : zG) (pe : Int32) (ct : Nat → va_E) (c0 : Int32) (lv : Int32) (hI : Inv8 g idn pe ct) : DM l g pBl false yX1_raiseTop cX1_raiseTop 3 none ({ frames := 1, cells := 0, slots := 0, locals := 20 }) (fun (ct2 : Nat → va_E) (rr : Option Value) => rr = none ∧ Inv8 g idn pe ct2) ct [.ref 21, .int c0, .int lv] := by
  refine DM.K (fun K hK => ?_)
  refine GW.met (own := RX1) (loc := [(0, .ref 21), (1, .int c0), (2, .int lv)]) (by decide) rfl rfl (Nat.le_of_ble_eq_true rfl) ?_
  have hpe0 := hI.1
  have rg_c0 := z_rng c0
  have rg_lv := z_rng lv
  refine dv_iload_n dX1_raiseTop_0 rfl 1 rfl ?_
  refine GW.callSN (n := 1) (As := [.int c0]) (rest := []) (k_X8_isColumn l g pe ct c0 hI) (fun _ h => Bool.noConfusion h) rfl rfl 16 rfl mm_401 mm_52 mm_402 (by decide +kernel) ⟨Nat.le_of_ble_eq_true rfl, Nat.le_of_ble_eq_true rfl⟩ rfl (Nat.le_of_ble_eq_true rfl) dX1_raiseTop_1 (Nat.zero_le _) (Nat.zero_le _) rfl (fun ct1 rrr2 hBr2 hoff3 => ?_)
  obtain ⟨r2, rfl, hr2, rfl⟩ := hBr2
  refine GW.eq (S2 := [.int r2]) rfl rfl rfl ?_
  rcases hr2 with hr2 | hr2
  · skip
    obtain ⟨rfl, h4, h5⟩ := hr2
    have h4 : 0 ≤ c0.toInt := h4
    have h5 : c0.toInt ≤ 3 := h5
    refine dv_if_eq (tgt := 23) dX1_raiseTop_4 (by decide) (fun c6 => ?_) (fun c6 => ?_)
    · skip
      exact absurd c6 (by decide)
    · skip
      refine dv_aload_n dX1_raiseTop_7 rfl 0 rfl ?_
      obtain ⟨lst8, lrw9, lct10, h11, h12, hs7⟩ := a8_21 hI
      refine dv_get (ci := 1) (v := .ref 24) (C := RX1) (T := TX1) (N := 7) ⟨by decide, rfl⟩ hs7 rfl inG1 5 (by decide) mm_192 rfl dX1_raiseTop_8 ?_
      refine dv_iload_n dX1_raiseTop_11 rfl 1 rfl ?_
      refine dv_aload_n dX1_raiseTop_12 rfl 0 rfl ?_
      refine dv_get (ci := 1) (v := .ref 24) (C := RX1) (T := TX1) (N := 7) ⟨by decide, rfl⟩ hs7 rfl inG1 5 (by decide) mm_192 rfl dX1_raiseTop_13 ?_
      refine dv_iload_n dX1_raiseTop_16 rfl 1 rfl ?_
      obtain ⟨f14, hs13⟩ := a8_24 hI
      refine dv_iald 0 ⟨by decide, rfl⟩ hs13 rfl (z_in rfl (by omega) (by omega)) dX1_raiseTop_17 ?_
      refine dv_topi (fun y15 ey15 => ?_)
      refine dv_iload_n dX1_raiseTop_18 rfl 2 rfl ?_
      refine dv_mmax mm_825 mm_538 mm_61 mm_539 (Nat.le_of_ble_eq_true rfl) (Nat.le_of_ble_eq_true rfl) (Nat.zero_le _) (Nat.zero_le _) dX1_raiseTop_19 ?_
      refine dv_topi (fun x16 ex16 => ?_)
      have tx16 := z_max (x := y15) (y := lv) rfl rfl
      rw [← ex16] at tx16
      refine dv_iast 0 ⟨by decide, rfl⟩ hs13 rfl (z_in rfl (by omega) (by omega)) dX1_raiseTop_22 (en := .inl (g.2 0, 4, .inl (upd f14 (Int32.toNatClampNeg c0) x16))) rfl (fun ct17 ec18 => ?_)
      have hI : Inv8 g idn pe ct17 := by rw [ec18]; exact up8 hI (i8_24 ⟨_, rfl⟩)
      have hs19 : ct17 21 = .inr (1, [.int lst8, .int lrw9, .int lct10, .ref 22, .ref 23, .ref 24, .ref 25]) := by rw [ec18, va_up_ne _ _ (by omega)]; exact hs7
      have hs20 : ct17 24 = .inl (g.2 0, 4, .inl (upd f14 (Int32.toNatClampNeg c0) x16)) := by rw [ec18]; exact va_up_self _ _ _
      exact dv_vret dX1_raiseTop_23 rfl (by first | exact Nat.zero_le _ | decide) (by first | exact Nat.zero_le _ | decide) (by subst hK; exact ⟨rfl, hI⟩)
  · skip
    obtain ⟨rfl, h21⟩ := hr2
    have h21 : ¬ (0 ≤ c0.toInt ∧ c0.toInt ≤ 3) := h21
    refine dv_if_eq (tgt := 23) dX1_raiseTop_4 (by decide) (fun c22 => ?_) (fun c22 => ?_)
    · skip
      exact dv_vret dX1_raiseTop_23 rfl (by first | exact Nat.zero_le _ | decide) (by first | exact Nat.zero_le _ | decide) (by subst hK; exact ⟨rfl, hI⟩)
    · skip
      exact absurd c22 (by decide)

set_option maxHeartbeats 4000000 in
set_option maxRecDepth 100000 in
theorem k_X1_whoFits (l : Launch) (g : zG) (pe : Int32) (ct : Nat → va_E) (i : Int32) (hl_i : 0 ≤ i.toInt ∧ i.toInt ≤ 7) (hI : Inv8 g idn pe ct) : DM l g pBl false yX1_whoFits cX1_whoFits 4 (some .int) ({ frames := 0, cells := 0, slots := 0, locals := 0 }) (fun (ct2 : Nat → va_E) (rr : Option Value) => ∃ (r : Int32), rr = some (.int r) ∧ ((True)) ∧ ct = ct2) ct [.ref 21, .int i] := by
  refine DM.K (fun K hK => ?_)
  refine GW.met (own := RX1) (loc := [(0, .ref 21), (1, .int i)]) (by decide) rfl rfl (Nat.le_of_ble_eq_true rfl) ?_
  have hpe0 := hI.1
  refine dv_iconst (v := (-1)) dX1_whoFits_0 (by decide) ?_
  refine dv_istore_n (lv' := [(2, .int (-1)), (0, .ref 21), (1, .int i)]) dX1_whoFits_1 rfl (by decide) rfl ?_
  refine dv_iconst (v := 0) dX1_whoFits_2 (by decide) ?_
  refine dv_istore_n (lv' := [(3, .int 0), (2, .int (-1)), (0, .ref 21), (1, .int i)]) dX1_whoFits_3 rfl (by decide) rfl ?_
  have loop4 : ∀ (n4 : Nat) (v3_4 : Int32) (v2_4 : Int32), ((4 - v3_4.toInt : Int).toNat < n4) → (0 ≤ v3_4.toInt ∧ v3_4.toInt ≤ 4) → GW l g pBl pBl false yX1_whoFits cX1_whoFits 4 (some .int) RX1 ({ frames := 0, cells := 0, slots := 0, locals := 0 }) K 0 0 ct 4 [(3, .int v3_4), (2, .int v2_4), (0, .ref 21), (1, .int i)] [] := by
    intro n4
    induction n4 with
    | zero =>
      intro v3_4 v2_4 hn4 b3_4
      exact absurd hn4 (Nat.not_lt_zero _)
    | succ n4 ih4 =>
      intro v3_4 v2_4 hn4 b3_4
      refine dv_iload_n dX1_whoFits_4 rfl 0 rfl ?_
      refine dv_iconst (v := 4) dX1_whoFits_5 (by decide) ?_
      refine dv_icmp_ge (tgt := 36) dX1_whoFits_6 (by decide) (fun c1 => ?_) (fun c1 => ?_)
      · skip
        have c1 : 4 ≤ v3_4.toInt := (z_le (by decide : (4 : Int32).toInt = 4) rfl).mp c1
        refine dv_iload_n dX1_whoFits_36 rfl 1 rfl ?_
        exact dv_iret dX1_whoFits_37 rfl (by first | exact Nat.zero_le _ | decide) (by first | exact Nat.zero_le _ | decide) (by subst hK; exact ⟨v2_4, rfl, (trivial), rfl⟩)
      · skip
        have c1 : ¬ (4 ≤ v3_4.toInt) := fun q => c1 ((z_le (by decide : (4 : Int32).toInt = 4) rfl).mpr q)
        refine dv_iload_n dX1_whoFits_9 rfl 1 rfl ?_
        refine dv_aload_n dX1_whoFits_10 rfl 2 rfl ?_
        obtain ⟨lst3, lrw4, lct5, h6, h7, hs2⟩ := a8_21 hI
        refine dv_get (ci := 1) (v := .ref 22) (C := RX1) (T := TX1) (N := 7) ⟨by decide, rfl⟩ hs2 rfl inG1 3 (by decide) mm_190 rfl dX1_whoFits_11 ?_
        refine dv_iload_n dX1_whoFits_14 rfl 0 rfl ?_
        have hs8 := a8_22 hI
        refine dv_aldII 7 ⟨by decide, rfl⟩ hs8 rfl (z_in rfl (by omega) (by omega)) dX1_whoFits_15 (r := (0 + 26 + 1 * v3_4.toInt.toNat)) (zF22_r (x := v3_4) (by omega) (by omega)) ?_
        refine dv_bipush (v := 8) dX1_whoFits_16 (by decide) ?_
        refine dv_aload_n dX1_whoFits_18 rfl 2 rfl ?_
        refine dv_get (ci := 1) (v := .ref 25) (C := RX1) (T := TX1) (N := 7) ⟨by decide, rfl⟩ hs2 rfl inG1 6 (by decide) mm_193 rfl dX1_whoFits_19 ?_
        refine dv_iload_n dX1_whoFits_22 rfl 0 rfl ?_
        obtain ⟨f10, hp11, hs9⟩ := a8_25 hI
        refine dv_iald 0 ⟨by decide, rfl⟩ hs9 rfl (z_in rfl (by omega) (by omega)) dX1_whoFits_23 ?_
        refine dv_topi (fun y12 ey12 => ?_)
        have hy12 := hp11 _ (z_clt (x := v3_4) rfl (by omega) (by omega))
        rw [← ey12] at hy12
        have hy12 : 0 ≤ y12.toInt ∧ y12.toInt ≤ 4 := hy12
        refine dv_imul dX1_whoFits_24 ?_
        refine dv_topi (fun x13 ex13 => ?_)
        have tx13 : x13.toInt = 8 * y12.toInt := by rw [ex13]; exact z_mul (by decide : (8 : Int32).toInt = 8) rfl (by omega) (by omega)
        refine dv_iload_n dX1_whoFits_25 rfl 3 rfl ?_
        refine dv_iadd dX1_whoFits_26 ?_
        refine dv_topi (fun x14 ex14 => ?_)
        have tx14 : x14.toInt = x13.toInt + i.toInt := by rw [ex14]; exact z_add rfl rfl (by omega) (by omega)
        obtain ⟨f16, hs15⟩ := a8_26 (kc := (0 + 26 + 1 * v3_4.toInt.toNat)) (by omega) hI
        refine dv_iald 0 ⟨by omega, pBl_of (by omega)⟩ hs15 rfl (z_in rfl (by omega) (by omega)) dX1_whoFits_27 ?_
        refine dv_topi (fun y17 ey17 => ?_)
        refine dv_iand dX1_whoFits_28 ?_
        refine dv_topi (fun x18 ex18 => ?_)
        refine dv_istore_n (lv' := [(2, .int x18), (3, .int v3_4), (0, .ref 21), (1, .int i)]) dX1_whoFits_29 rfl (by decide) rfl ?_
        obtain ⟨x19, ex19⟩ : ∃ y : Int32, y = v3_4 + 1 := ⟨_, rfl⟩
        have tx19 : x19.toInt = v3_4.toInt + 1 := by rw [ex19]; exact z_add rfl (by decide : (1 : Int32).toInt = 1) (by omega) (by omega)
        refine dv_iinc (v := x19) (lv' := [(3, .int x19), (2, .int x18), (0, .ref 21), (1, .int i)]) dX1_whoFits_30 (k := 1) rfl (by rw [ex19]; rfl) (by decide) rfl ?_
        refine dv_goto (tgt := 4) dX1_whoFits_33 (by decide) ?_
        exact ih4 x19 x18 (by omega) (by first | omega | decide | assumption)
  exact loop4 ((4 - (0 : Int32).toInt : Int).toNat + 1) (0 : Int32) (-1 : Int32) (by omega) (by first | omega | decide | assumption)

set_option maxHeartbeats 4000000 in
set_option maxRecDepth 100000 in
theorem k_X1_lossOf (l : Launch) (g : zG) (pe : Int32) (ct : Nat → va_E) (i : Int32) (hl_i : 0 ≤ i.toInt ∧ i.toInt ≤ 7) (hI : Inv8 g idn pe ct) : DM l g pBl false yX1_lossOf cX1_lossOf 4 (some .int) ({ frames := 0, cells := 0, slots := 0, locals := 0 }) (fun (ct2 : Nat → va_E) (rr : Option Value) => ∃ (r : Int32), rr = some (.int r) ∧ ((True)) ∧ ct = ct2) ct [.ref 21, .int i] := by
  refine DM.K (fun K hK => ?_)
  refine GW.met (own := RX1) (loc := [(0, .ref 21), (1, .int i)]) (by decide) rfl rfl (Nat.le_of_ble_eq_true rfl) ?_
  have hpe0 := hI.1
  refine dv_iconst (v := 0) dX1_lossOf_0 (by decide) ?_
  refine dv_istore_n (lv' := [(2, .int 0), (0, .ref 21), (1, .int i)]) dX1_lossOf_1 rfl (by decide) rfl ?_
  refine dv_iconst (v := 0) dX1_lossOf_2 (by decide) ?_
  refine dv_istore_n (lv' := [(3, .int 0), (2, .int 0), (0, .ref 21), (1, .int i)]) dX1_lossOf_3 rfl (by decide) rfl ?_
  have loop4 : ∀ (n4 : Nat) (v3_4 : Int32) (v2_4 : Int32), ((4 - v3_4.toInt : Int).toNat < n4) → (0 ≤ v3_4.toInt ∧ v3_4.toInt ≤ 4) → GW l g pBl pBl false yX1_lossOf cX1_lossOf 4 (some .int) RX1 ({ frames := 0, cells := 0, slots := 0, locals := 0 }) K 0 0 ct 4 [(3, .int v3_4), (2, .int v2_4), (0, .ref 21), (1, .int i)] [] := by
    intro n4
    induction n4 with
    | zero =>
      intro v3_4 v2_4 hn4 b3_4
      exact absurd hn4 (Nat.not_lt_zero _)
    | succ n4 ih4 =>
      intro v3_4 v2_4 hn4 b3_4
      refine dv_iload_n dX1_lossOf_4 rfl 0 rfl ?_
      refine dv_iconst (v := 4) dX1_lossOf_5 (by decide) ?_
      refine dv_icmp_ge (tgt := 36) dX1_lossOf_6 (by decide) (fun c1 => ?_) (fun c1 => ?_)
      · skip
        have c1 : 4 ≤ v3_4.toInt := (z_le (by decide : (4 : Int32).toInt = 4) rfl).mp c1
        refine dv_iload_n dX1_lossOf_36 rfl 1 rfl ?_
        exact dv_iret dX1_lossOf_37 rfl (by first | exact Nat.zero_le _ | decide) (by first | exact Nat.zero_le _ | decide) (by subst hK; exact ⟨v2_4, rfl, (trivial), rfl⟩)
      · skip
        have c1 : ¬ (4 ≤ v3_4.toInt) := fun q => c1 ((z_le (by decide : (4 : Int32).toInt = 4) rfl).mpr q)
        refine dv_iload_n dX1_lossOf_9 rfl 1 rfl ?_
        refine dv_aload_n dX1_lossOf_10 rfl 2 rfl ?_
        obtain ⟨lst3, lrw4, lct5, h6, h7, hs2⟩ := a8_21 hI
        refine dv_get (ci := 1) (v := .ref 23) (C := RX1) (T := TX1) (N := 7) ⟨by decide, rfl⟩ hs2 rfl inG1 4 (by decide) mm_191 rfl dX1_lossOf_11 ?_
        refine dv_iload_n dX1_lossOf_14 rfl 0 rfl ?_
        have hs8 := a8_23 hI
        refine dv_aldII 7 ⟨by decide, rfl⟩ hs8 rfl (z_in rfl (by omega) (by omega)) dX1_lossOf_15 (r := (0 + 30 + 1 * v3_4.toInt.toNat)) (zF23_r (x := v3_4) (by omega) (by omega)) ?_
        refine dv_bipush (v := 8) dX1_lossOf_16 (by decide) ?_
        refine dv_aload_n dX1_lossOf_18 rfl 2 rfl ?_
        refine dv_get (ci := 1) (v := .ref 25) (C := RX1) (T := TX1) (N := 7) ⟨by decide, rfl⟩ hs2 rfl inG1 6 (by decide) mm_193 rfl dX1_lossOf_19 ?_
        refine dv_iload_n dX1_lossOf_22 rfl 0 rfl ?_
        obtain ⟨f10, hp11, hs9⟩ := a8_25 hI
        refine dv_iald 0 ⟨by decide, rfl⟩ hs9 rfl (z_in rfl (by omega) (by omega)) dX1_lossOf_23 ?_
        refine dv_topi (fun y12 ey12 => ?_)
        have hy12 := hp11 _ (z_clt (x := v3_4) rfl (by omega) (by omega))
        rw [← ey12] at hy12
        have hy12 : 0 ≤ y12.toInt ∧ y12.toInt ≤ 4 := hy12
        refine dv_imul dX1_lossOf_24 ?_
        refine dv_topi (fun x13 ex13 => ?_)
        have tx13 : x13.toInt = 8 * y12.toInt := by rw [ex13]; exact z_mul (by decide : (8 : Int32).toInt = 8) rfl (by omega) (by omega)
        refine dv_iload_n dX1_lossOf_25 rfl 3 rfl ?_
        refine dv_iadd dX1_lossOf_26 ?_
        refine dv_topi (fun x14 ex14 => ?_)
        have tx14 : x14.toInt = x13.toInt + i.toInt := by rw [ex14]; exact z_add rfl rfl (by omega) (by omega)
        obtain ⟨f16, hs15⟩ := a8_26 (kc := (0 + 30 + 1 * v3_4.toInt.toNat)) (by omega) hI
        refine dv_iald 0 ⟨by omega, pBl_of (by omega)⟩ hs15 rfl (z_in rfl (by omega) (by omega)) dX1_lossOf_27 ?_
        refine dv_topi (fun y17 ey17 => ?_)
        refine dv_iadd dX1_lossOf_28 ?_
        refine dv_topi (fun x18 ex18 => ?_)
        refine dv_istore_n (lv' := [(2, .int x18), (3, .int v3_4), (0, .ref 21), (1, .int i)]) dX1_lossOf_29 rfl (by decide) rfl ?_
        obtain ⟨x19, ex19⟩ : ∃ y : Int32, y = v3_4 + 1 := ⟨_, rfl⟩
        have tx19 : x19.toInt = v3_4.toInt + 1 := by rw [ex19]; exact z_add rfl (by decide : (1 : Int32).toInt = 1) (by omega) (by omega)
        refine dv_iinc (v := x19) (lv' := [(3, .int x19), (2, .int x18), (0, .ref 21), (1, .int i)]) dX1_lossOf_30 (k := 1) rfl (by rw [ex19]; rfl) (by decide) rfl ?_
        refine dv_goto (tgt := 4) dX1_lossOf_33 (by decide) ?_
        exact ih4 x19 x18 (by omega) (by first | omega | decide | assumption)
  exact loop4 ((4 - (0 : Int32).toInt : Int).toNat + 1) (0 : Int32) (0 : Int32) (by omega) (by first | omega | decide | assumption)

set_option maxHeartbeats 4000000 in
set_option maxRecDepth 100000 in
theorem k_X1_tryRow (l : Launch) (g : zG) (pe : Int32) (ct : Nat → va_E) (row : Int32) (ln : Int32) (k : Int32) (pr : Int32) (hl_row : 0 ≤ row.toInt ∧ row.toInt ≤ 624) (hl_ln : -2147483648 ≤ ln.toInt ∧ ln.toInt ≤ 8) (hI : Inv8 g idn pe ct) : DM l g pBl false yX1_tryRow cX1_tryRow 8 none ({ frames := 1, cells := 0, slots := 0, locals := 23 }) (fun (ct2 : Nat → va_E) (rr : Option Value) => rr = none ∧ Inv8 g idn pe ct2) ct [.ref 21, .int row, .int ln, .int k, .int pr] := by
  refine DM.K (fun K hK => ?_)
  refine GW.met (own := RX1) (loc := [(0, .ref 21), (1, .int row), (2, .int ln), (3, .int k), (4, .int pr)]) (by decide) rfl rfl (Nat.le_of_ble_eq_true rfl) ?_
  have hpe0 := hI.1
  have rg_k := z_rng k
  have rg_pr := z_rng pr
  refine dv_iconst (v := 0) dX1_tryRow_0 (by decide) ?_
  refine dv_istore (lv' := [(5, .int 0), (0, .ref 21), (1, .int row), (2, .int ln), (3, .int k), (4, .int pr)]) dX1_tryRow_1 (by decide) rfl ?_
  refine dv_iconst (v := 0) dX1_tryRow_3 (by decide) ?_
  refine dv_istore (lv' := [(6, .int 0), (5, .int 0), (0, .ref 21), (1, .int row), (2, .int ln), (3, .int k), (4, .int pr)]) dX1_tryRow_4 (by decide) rfl ?_
  refine dv_iconst (v := 0) dX1_tryRow_6 (by decide) ?_
  refine dv_istore (lv' := [(7, .int 0), (6, .int 0), (5, .int 0), (0, .ref 21), (1, .int row), (2, .int ln), (3, .int k), (4, .int pr)]) dX1_tryRow_7 (by decide) rfl ?_
  have loop9 : ∀ (n9 : Nat) (v7_9 : Int32) (v6_9 : Int32) (v5_9 : Int32) (ct1 : Nat → va_E), ((8 - v7_9.toInt : Int).toNat < n9) → (0 ≤ v7_9.toInt ∧ v7_9.toInt ≤ 8) → (Inv8 g idn pe ct1) → GW l g pBl pBl false yX1_tryRow cX1_tryRow 8 none RX1 ({ frames := 1, cells := 0, slots := 0, locals := 23 }) K 0 0 ct1 9 [(7, .int v7_9), (6, .int v6_9), (5, .int v5_9), (0, .ref 21), (1, .int row), (2, .int ln), (3, .int k), (4, .int pr)] [] := by
    intro n9
    induction n9 with
    | zero =>
      intro v7_9 v6_9 v5_9 ct1 hn9 b7_9 hI
      exact absurd hn9 (Nat.not_lt_zero _)
    | succ n9 ih9 =>
      intro v7_9 v6_9 v5_9 ct1 hn9 b7_9 hI
      refine dv_iload dX1_tryRow_9 0 rfl ?_
      refine dv_iload_n dX1_tryRow_11 rfl 5 rfl ?_
      refine dv_icmp_ge (tgt := 58) dX1_tryRow_12 (by decide) (fun c2 => ?_) (fun c2 => ?_)
      · skip
        have c2 : ln.toInt ≤ v7_9.toInt := (z_le rfl rfl).mp c2
        refine dv_aload_n dX1_tryRow_58 rfl 3 rfl ?_
        obtain ⟨lst4, lrw5, lct6, h7, h8, hs3⟩ := a8_21 hI
        refine dv_get (ci := 1) (v := .int lst4) (C := RX1) (T := TX1) (N := 7) ⟨by decide, rfl⟩ hs3 rfl inG1 0 (by decide) mm_184 rfl dX1_tryRow_59 ?_
        refine dv_iconst (v := (-1)) dX1_tryRow_62 (by decide) ?_
        refine dv_icmp_eq (tgt := 75) dX1_tryRow_63 (by decide) (fun c9 => ?_) (fun c9 => ?_)
        · skip
          have c9 : lst4.toInt = (-1) := (z_eq rfl (by decide : ((-1) : Int32).toInt = (-1))).mp c9
          refine dv_aload_n dX1_tryRow_75 rfl 3 rfl ?_
          refine dv_iload dX1_tryRow_76 2 rfl ?_
          refine dv_put (ci := 1) (v := .int v5_9) (ty := .int) (C := RX1) (T := TX1) (N := 7) ⟨by decide, rfl⟩ hs3 rfl inG1 tyX1 tyX1_ok nmX1 0 (by decide) mm_184 rfl (by decide +kernel) (fun _ => rfl) (fun _ => rfl) (Nat.le_of_ble_eq_true rfl) dX1_tryRow_78 (en := .inr (1, [.int v5_9, .int lrw5, .int lct6, .ref 22, .ref 23, .ref 24, .ref 25])) rfl (fun ct10 ec11 => ?_)
          have hI : Inv8 g idn pe ct10 := by rw [ec11]; exact up8 hI (i8_21 ⟨(v5_9 : Int32), (lrw5 : Int32), (lct6 : Int32), (by first | omega | decide), (by first | omega | decide), rfl⟩)
          have hs12 : ct10 21 = .inr (1, [.int v5_9, .int lrw5, .int lct6, .ref 22, .ref 23, .ref 24, .ref 25]) := by rw [ec11]; exact va_up_self _ _ _
          refine dv_aload_n dX1_tryRow_81 rfl 3 rfl ?_
          refine dv_iload_n dX1_tryRow_82 rfl 4 rfl ?_
          refine dv_put (ci := 1) (v := .int row) (ty := .int) (C := RX1) (T := TX1) (N := 7) ⟨by decide, rfl⟩ hs12 rfl inG1 tyX1 tyX1_ok nmX1 1 (by decide) mm_186 rfl (by decide +kernel) (fun _ => rfl) (fun _ => rfl) (Nat.le_of_ble_eq_true rfl) dX1_tryRow_83 (en := .inr (1, [.int v5_9, .int row, .int lct6, .ref 22, .ref 23, .ref 24, .ref 25])) rfl (fun ct13 ec14 => ?_)
          have hI : Inv8 g idn pe ct13 := by rw [ec14]; exact up8 hI (i8_21 ⟨(v5_9 : Int32), (row : Int32), (lct6 : Int32), (by first | omega | decide), (by first | omega | decide), rfl⟩)
          have hs15 : ct13 21 = .inr (1, [.int v5_9, .int row, .int lct6, .ref 22, .ref 23, .ref 24, .ref 25]) := by rw [ec14]; exact va_up_self _ _ _
          refine dv_aload_n dX1_tryRow_86 rfl 3 rfl ?_
          refine dv_iload dX1_tryRow_87 1 rfl ?_
          refine dv_put (ci := 1) (v := .int v6_9) (ty := .int) (C := RX1) (T := TX1) (N := 7) ⟨by decide, rfl⟩ hs15 rfl inG1 tyX1 tyX1_ok nmX1 2 (by decide) mm_188 rfl (by decide +kernel) (fun _ => rfl) (fun _ => rfl) (Nat.le_of_ble_eq_true rfl) dX1_tryRow_89 (en := .inr (1, [.int v5_9, .int row, .int v6_9, .ref 22, .ref 23, .ref 24, .ref 25])) rfl (fun ct16 ec17 => ?_)
          have hI : Inv8 g idn pe ct16 := by rw [ec17]; exact up8 hI (i8_21 ⟨(v5_9 : Int32), (row : Int32), (v6_9 : Int32), (by first | omega | decide), (by first | omega | decide), rfl⟩)
          have hs18 : ct16 21 = .inr (1, [.int v5_9, .int row, .int v6_9, .ref 22, .ref 23, .ref 24, .ref 25]) := by rw [ec17]; exact va_up_self _ _ _
          exact dv_vret dX1_tryRow_92 rfl (by first | exact Nat.zero_le _ | decide) (by first | exact Nat.zero_le _ | decide) (by subst hK; exact ⟨rfl, hI⟩)
        · skip
          have c9 : ¬ (lst4.toInt = (-1)) := fun q => c9 ((z_eq rfl (by decide : ((-1) : Int32).toInt = (-1))).mpr q)
          refine dv_iload dX1_tryRow_66 2 rfl ?_
          refine dv_aload_n dX1_tryRow_68 rfl 3 rfl ?_
          refine dv_get (ci := 1) (v := .int lst4) (C := RX1) (T := TX1) (N := 7) ⟨by decide, rfl⟩ hs3 rfl inG1 0 (by decide) mm_184 rfl dX1_tryRow_69 ?_
          refine dv_icmp_ge (tgt := 92) dX1_tryRow_72 (by decide) (fun c19 => ?_) (fun c19 => ?_)
          · skip
            have c19 : lst4.toInt ≤ v5_9.toInt := (z_le rfl rfl).mp c19
            exact dv_vret dX1_tryRow_92 rfl (by first | exact Nat.zero_le _ | decide) (by first | exact Nat.zero_le _ | decide) (by subst hK; exact ⟨rfl, hI⟩)
          · skip
            have c19 : ¬ (lst4.toInt ≤ v5_9.toInt) := fun q => c19 ((z_le rfl rfl).mpr q)
            refine dv_aload_n dX1_tryRow_75 rfl 3 rfl ?_
            refine dv_iload dX1_tryRow_76 2 rfl ?_
            refine dv_put (ci := 1) (v := .int v5_9) (ty := .int) (C := RX1) (T := TX1) (N := 7) ⟨by decide, rfl⟩ hs3 rfl inG1 tyX1 tyX1_ok nmX1 0 (by decide) mm_184 rfl (by decide +kernel) (fun _ => rfl) (fun _ => rfl) (Nat.le_of_ble_eq_true rfl) dX1_tryRow_78 (en := .inr (1, [.int v5_9, .int lrw5, .int lct6, .ref 22, .ref 23, .ref 24, .ref 25])) rfl (fun ct20 ec21 => ?_)
            have hI : Inv8 g idn pe ct20 := by rw [ec21]; exact up8 hI (i8_21 ⟨(v5_9 : Int32), (lrw5 : Int32), (lct6 : Int32), (by first | omega | decide), (by first | omega | decide), rfl⟩)
            have hs22 : ct20 21 = .inr (1, [.int v5_9, .int lrw5, .int lct6, .ref 22, .ref 23, .ref 24, .ref 25]) := by rw [ec21]; exact va_up_self _ _ _
            refine dv_aload_n dX1_tryRow_81 rfl 3 rfl ?_
            refine dv_iload_n dX1_tryRow_82 rfl 4 rfl ?_
            refine dv_put (ci := 1) (v := .int row) (ty := .int) (C := RX1) (T := TX1) (N := 7) ⟨by decide, rfl⟩ hs22 rfl inG1 tyX1 tyX1_ok nmX1 1 (by decide) mm_186 rfl (by decide +kernel) (fun _ => rfl) (fun _ => rfl) (Nat.le_of_ble_eq_true rfl) dX1_tryRow_83 (en := .inr (1, [.int v5_9, .int row, .int lct6, .ref 22, .ref 23, .ref 24, .ref 25])) rfl (fun ct23 ec24 => ?_)
            have hI : Inv8 g idn pe ct23 := by rw [ec24]; exact up8 hI (i8_21 ⟨(v5_9 : Int32), (row : Int32), (lct6 : Int32), (by first | omega | decide), (by first | omega | decide), rfl⟩)
            have hs25 : ct23 21 = .inr (1, [.int v5_9, .int row, .int lct6, .ref 22, .ref 23, .ref 24, .ref 25]) := by rw [ec24]; exact va_up_self _ _ _
            refine dv_aload_n dX1_tryRow_86 rfl 3 rfl ?_
            refine dv_iload dX1_tryRow_87 1 rfl ?_
            refine dv_put (ci := 1) (v := .int v6_9) (ty := .int) (C := RX1) (T := TX1) (N := 7) ⟨by decide, rfl⟩ hs25 rfl inG1 tyX1 tyX1_ok nmX1 2 (by decide) mm_188 rfl (by decide +kernel) (fun _ => rfl) (fun _ => rfl) (Nat.le_of_ble_eq_true rfl) dX1_tryRow_89 (en := .inr (1, [.int v5_9, .int row, .int v6_9, .ref 22, .ref 23, .ref 24, .ref 25])) rfl (fun ct26 ec27 => ?_)
            have hI : Inv8 g idn pe ct26 := by rw [ec27]; exact up8 hI (i8_21 ⟨(v5_9 : Int32), (row : Int32), (v6_9 : Int32), (by first | omega | decide), (by first | omega | decide), rfl⟩)
            have hs28 : ct26 21 = .inr (1, [.int v5_9, .int row, .int v6_9, .ref 22, .ref 23, .ref 24, .ref 25]) := by rw [ec27]; exact va_up_self _ _ _
            exact dv_vret dX1_tryRow_92 rfl (by first | exact Nat.zero_le _ | decide) (by first | exact Nat.zero_le _ | decide) (by subst hK; exact ⟨rfl, hI⟩)
      · skip
        have c2 : ¬ (ln.toInt ≤ v7_9.toInt) := fun q => c2 ((z_le rfl rfl).mpr q)
        refine dv_aload_n dX1_tryRow_15 rfl 3 rfl ?_
        refine dv_iload dX1_tryRow_16 0 rfl ?_
        obtain ⟨lst31, lrw32, lct33, h34, h35, hs30⟩ := a8_21 hI
        refine GW.callV (n := 1) (As := [.int v7_9]) (rest := []) (b := 21) (k_X1_whoFits l g pe ct1 v7_9 (by first | omega | decide) hI) (fun _ h => h) rfl rfl ⟨by decide, rfl⟩ hs30 (q := (RX1, TX1, 7)) rfl mm_838 mm_840 mm_47 mm_57 mm_841 (by decide +kernel) ⟨Nat.le_of_ble_eq_true rfl, Nat.le_of_ble_eq_true rfl⟩ rfl (Nat.le_of_ble_eq_true rfl) dX1_tryRow_18 (Nat.zero_le _) (Nat.zero_le _) rfl (fun ct29 rrr36 hBr36 hoff37 => ?_)
        obtain ⟨r36, rfl, hr36, rfl⟩ := hBr36
        refine GW.eq (S2 := [.int r36]) rfl rfl rfl ?_
        refine GW.callS (n := 1) (As := [.int r36]) (rest := []) (k_J6_bitCount_0f7a4 l g pe ct1 r36 hI) (fun _ h => Bool.noConfusion h) rfl rfl mm_842 mm_499 mm_62 mm_500 (by decide +kernel) ⟨Nat.le_of_ble_eq_true rfl, Nat.le_of_ble_eq_true rfl⟩ rfl (Nat.le_of_ble_eq_true rfl) dX1_tryRow_21 (Nat.zero_le _) (Nat.zero_le _) rfl (fun ct38 rrr39 hBr39 hoff40 => ?_)
        obtain ⟨r39, rfl, hr39, rfl⟩ := hBr39
        refine GW.eq (S2 := [.int r39]) rfl rfl rfl ?_
        obtain ⟨hr39_0, hr39_1⟩ := hr39
        have hr39_0 : 0 ≤ r39.toInt := hr39_0
        have hr39_1 : r39.toInt ≤ 63 := hr39_1
        refine dv_iload_n dX1_tryRow_24 rfl 6 rfl ?_
        refine dv_icmp_lt (tgt := 42) dX1_tryRow_25 (by decide) (fun c41 => ?_) (fun c41 => ?_)
        · skip
          have c41 : r39.toInt < k.toInt := (z_lt rfl rfl).mp c41
          refine dv_iload dX1_tryRow_42 2 rfl ?_
          refine dv_iload dX1_tryRow_44 7 rfl ?_
          refine dv_iadd dX1_tryRow_46 ?_
          refine dv_topi (fun x42 ex42 => ?_)
          refine dv_istore (lv' := [(5, .int x42), (7, .int v7_9), (6, .int v6_9), (0, .ref 21), (1, .int row), (2, .int ln), (3, .int k), (4, .int pr)]) dX1_tryRow_47 (by decide) rfl ?_
          obtain ⟨x43, ex43⟩ : ∃ y : Int32, y = v6_9 + 1 := ⟨_, rfl⟩
          refine dv_iinc (v := x43) (lv' := [(6, .int x43), (5, .int x42), (7, .int v7_9), (0, .ref 21), (1, .int row), (2, .int ln), (3, .int k), (4, .int pr)]) dX1_tryRow_49 (k := 2) rfl (by rw [ex43]; rfl) (by decide) rfl ?_
          obtain ⟨x44, ex44⟩ : ∃ y : Int32, y = v7_9 + 1 := ⟨_, rfl⟩
          have tx44 : x44.toInt = v7_9.toInt + 1 := by rw [ex44]; exact z_add rfl (by decide : (1 : Int32).toInt = 1) (by omega) (by omega)
          refine dv_iinc (v := x44) (lv' := [(7, .int x44), (6, .int x43), (5, .int x42), (0, .ref 21), (1, .int row), (2, .int ln), (3, .int k), (4, .int pr)]) dX1_tryRow_52 (k := 2) rfl (by rw [ex44]; rfl) (by decide) rfl ?_
          refine dv_goto (tgt := 9) dX1_tryRow_55 (by decide) ?_
          exact ih9 x44 x43 x42 ct1 (by omega) (by first | omega | decide | assumption) hI
        · skip
          have c41 : ¬ (r39.toInt < k.toInt) := fun q => c41 ((z_lt rfl rfl).mpr q)
          refine dv_iload dX1_tryRow_28 2 rfl ?_
          refine dv_aload_n dX1_tryRow_30 rfl 3 rfl ?_
          refine dv_iload dX1_tryRow_31 0 rfl ?_
          refine GW.callV (n := 1) (As := [.int v7_9]) (rest := [.int v5_9]) (b := 21) (k_X1_lossOf l g pe ct1 v7_9 (by first | omega | decide) hI) (fun _ h => h) rfl rfl ⟨by decide, rfl⟩ hs30 (q := (RX1, TX1, 7)) rfl mm_843 mm_845 mm_48 mm_57 mm_846 (by decide +kernel) ⟨Nat.le_of_ble_eq_true rfl, Nat.le_of_ble_eq_true rfl⟩ rfl (Nat.le_of_ble_eq_true rfl) dX1_tryRow_33 (Nat.zero_le _) (Nat.zero_le _) rfl (fun ct45 rrr46 hBr46 hoff47 => ?_)
          obtain ⟨r46, rfl, hr46, rfl⟩ := hBr46
          refine GW.eq (S2 := [.int r46, .int v5_9]) rfl rfl rfl ?_
          refine dv_iadd dX1_tryRow_36 ?_
          refine dv_topi (fun x48 ex48 => ?_)
          refine dv_istore (lv' := [(5, .int x48), (7, .int v7_9), (6, .int v6_9), (0, .ref 21), (1, .int row), (2, .int ln), (3, .int k), (4, .int pr)]) dX1_tryRow_37 (by decide) rfl ?_
          refine dv_goto (tgt := 52) dX1_tryRow_39 (by decide) ?_
          obtain ⟨x49, ex49⟩ : ∃ y : Int32, y = v7_9 + 1 := ⟨_, rfl⟩
          have tx49 : x49.toInt = v7_9.toInt + 1 := by rw [ex49]; exact z_add rfl (by decide : (1 : Int32).toInt = 1) (by omega) (by omega)
          refine dv_iinc (v := x49) (lv' := [(7, .int x49), (5, .int x48), (6, .int v6_9), (0, .ref 21), (1, .int row), (2, .int ln), (3, .int k), (4, .int pr)]) dX1_tryRow_52 (k := 1) rfl (by rw [ex49]; rfl) (by decide) rfl ?_
          refine dv_goto (tgt := 9) dX1_tryRow_55 (by decide) ?_
          refine dv_sub (loc2 := [(7, .int x49), (6, .int v6_9), (5, .int x48), (0, .ref 21), (1, .int row), (2, .int ln), (3, .int k), (4, .int pr)]) [0, 2, 1, 3, 4, 5, 6, 7] rfl ?_
          exact ih9 x49 v6_9 x48 ct1 (by omega) (by first | omega | decide | assumption) hI
  exact loop9 ((8 - (0 : Int32).toInt : Int).toNat + 1) (0 : Int32) (0 : Int32) (0 : Int32) ct (by omega) (by first | omega | decide | assumption) hI

set_option maxHeartbeats 4000000 in
set_option maxRecDepth 100000 in
theorem k_X1_find (l : Launch) (g : zG) (pe : Int32) (ct : Nat → va_E) (ln : Int32) (k : Int32) (pr : Int32) (hI : Inv8 g idn pe ct) : DM l g pBl false yX1_find cX1_find 7 none ({ frames := 2, cells := 0, slots := 0, locals := 50 }) (fun (ct2 : Nat → va_E) (rr : Option Value) => rr = none ∧ Inv8 g idn pe ct2) ct [.ref 21, .int ln, .int k, .int pr] := by
  refine DM.K (fun K hK => ?_)
  refine GW.met (own := RX1) (loc := [(0, .ref 21), (1, .int ln), (2, .int k), (3, .int pr)]) (by decide) rfl rfl (Nat.le_of_ble_eq_true rfl) ?_
  have hpe0 := hI.1
  have rg_ln := z_rng ln
  have rg_k := z_rng k
  have rg_pr := z_rng pr
  refine dv_aload_n dX1_find_0 rfl 0 rfl ?_
  refine dv_iconst (v := (-1)) dX1_find_1 (by decide) ?_
  obtain ⟨lst2, lrw3, lct4, h5, h6, hs1⟩ := a8_21 hI
  refine dv_put (ci := 1) (v := .int (-1)) (ty := .int) (C := RX1) (T := TX1) (N := 7) ⟨by decide, rfl⟩ hs1 rfl inG1 tyX1 tyX1_ok nmX1 0 (by decide) mm_184 rfl (by decide +kernel) (fun _ => rfl) (fun _ => rfl) (Nat.le_of_ble_eq_true rfl) dX1_find_2 (en := .inr (1, [.int (-1), .int lrw3, .int lct4, .ref 22, .ref 23, .ref 24, .ref 25])) rfl (fun ct7 ec8 => ?_)
  have hI : Inv8 g idn pe ct7 := by rw [ec8]; exact up8 hI (i8_21 ⟨((-1) : Int32), (lrw3 : Int32), (lct4 : Int32), (by first | omega | decide), (by first | omega | decide), rfl⟩)
  have hs9 : ct7 21 = .inr (1, [.int (-1), .int lrw3, .int lct4, .ref 22, .ref 23, .ref 24, .ref 25]) := by rw [ec8]; exact va_up_self _ _ _
  refine dv_iconst (v := 0) dX1_find_5 (by decide) ?_
  refine dv_istore (lv' := [(4, .int 0), (0, .ref 21), (1, .int ln), (2, .int k), (3, .int pr)]) dX1_find_6 (by decide) rfl ?_
  have loop8 : ∀ (n8 : Nat) (v4_8 : Int32) (ct10 : Nat → va_E), ((625 - v4_8.toInt : Int).toNat < n8) → (0 ≤ v4_8.toInt ∧ v4_8.toInt ≤ 625) → (Inv8 g idn pe ct10) → GW l g pBl pBl false yX1_find cX1_find 7 none RX1 ({ frames := 2, cells := 0, slots := 0, locals := 50 }) K 0 0 ct10 8 [(4, .int v4_8), (0, .ref 21), (1, .int ln), (2, .int k), (3, .int pr)] [] := by
    intro n8
    induction n8 with
    | zero =>
      intro v4_8 ct10 hn8 b4_8 hI
      exact absurd hn8 (Nat.not_lt_zero _)
    | succ n8 ih8 =>
      intro v4_8 ct10 hn8 b4_8 hI
      refine dv_iload dX1_find_8 0 rfl ?_
      refine dv_sipush (v := 625) dX1_find_10 (by decide) ?_
      refine dv_icmp_ge (tgt := 102) dX1_find_13 (by decide) (fun c11 => ?_) (fun c11 => ?_)
      · skip
        have c11 : 625 ≤ v4_8.toInt := (z_le (by decide : (625 : Int32).toInt = 625) rfl).mp c11
        exact dv_vret dX1_find_102 rfl (by first | exact Nat.zero_le _ | decide) (by first | exact Nat.zero_le _ | decide) (by subst hK; exact ⟨rfl, hI⟩)
      · skip
        have c11 : ¬ (625 ≤ v4_8.toInt) := fun q => c11 ((z_le (by decide : (625 : Int32).toInt = 625) rfl).mpr q)
        refine dv_iconst (v := 1) dX1_find_16 (by decide) ?_
        refine dv_istore (lv' := [(5, .int 1), (4, .int v4_8), (0, .ref 21), (1, .int ln), (2, .int k), (3, .int pr)]) dX1_find_17 (by decide) rfl ?_
        refine dv_iconst (v := 0) dX1_find_19 (by decide) ?_
        refine dv_istore (lv' := [(6, .int 0), (5, .int 1), (4, .int v4_8), (0, .ref 21), (1, .int ln), (2, .int k), (3, .int pr)]) dX1_find_20 (by decide) rfl ?_
        have loop22 : ∀ (n22 : Nat) (v6_22 : Int32) (v5_22 : Int32) (ct12 : Nat → va_E), ((4 - v6_22.toInt : Int).toNat < n22) → (0 ≤ v6_22.toInt ∧ v6_22.toInt ≤ 4) → (Inv8 g idn pe ct12) → GW l g pBl pBl false yX1_find cX1_find 7 none RX1 ({ frames := 2, cells := 0, slots := 0, locals := 50 }) K 0 0 ct12 22 [(6, .int v6_22), (5, .int v5_22), (4, .int v4_8), (0, .ref 21), (1, .int ln), (2, .int k), (3, .int pr)] [] := by
          intro n22
          induction n22 with
          | zero =>
            intro v6_22 v5_22 ct12 hn22 b6_22 hI
            exact absurd hn22 (Nat.not_lt_zero _)
          | succ n22 ih22 =>
            intro v6_22 v5_22 ct12 hn22 b6_22 hI
            refine dv_iload dX1_find_22 0 rfl ?_
            refine dv_iconst (v := 4) dX1_find_24 (by decide) ?_
            refine dv_icmp_ge (tgt := 77) dX1_find_25 (by decide) (fun c13 => ?_) (fun c13 => ?_)
            · skip
              have c13 : 4 ≤ v6_22.toInt := (z_le (by decide : (4 : Int32).toInt = 4) rfl).mp c13
              refine dv_iload dX1_find_77 1 rfl ?_
              refine dv_if_eq (tgt := 96) dX1_find_79 (by decide) (fun c14 => ?_) (fun c14 => ?_)
              · skip
                have c14 : v5_22.toInt = 0 := (z_eq rfl (by decide : (0 : Int32).toInt = 0)).mp c14
                obtain ⟨x15, ex15⟩ : ∃ y : Int32, y = v4_8 + 1 := ⟨_, rfl⟩
                have tx15 : x15.toInt = v4_8.toInt + 1 := by rw [ex15]; exact z_add rfl (by decide : (1 : Int32).toInt = 1) (by omega) (by omega)
                refine dv_iinc (v := x15) (lv' := [(4, .int x15), (6, .int v6_22), (5, .int v5_22), (0, .ref 21), (1, .int ln), (2, .int k), (3, .int pr)]) dX1_find_96 (k := 2) rfl (by rw [ex15]; rfl) (by decide) rfl ?_
                refine dv_goto (tgt := 8) dX1_find_99 (by decide) ?_
                refine dv_sub (loc2 := [(4, .int x15), (0, .ref 21), (1, .int ln), (2, .int k), (3, .int pr)]) [0, 3, 4, 5, 6] rfl ?_
                exact ih8 x15 ct12 (by omega) (by first | omega | decide | assumption) hI
              · skip
                have c14 : ¬ (v5_22.toInt = 0) := fun q => c14 ((z_eq rfl (by decide : (0 : Int32).toInt = 0)).mpr q)
                refine dv_aload_n dX1_find_82 rfl 3 rfl ?_
                refine dv_iload dX1_find_83 2 rfl ?_
                refine dv_iload_n dX1_find_85 rfl 4 rfl ?_
                refine dv_bipush (v := 8) dX1_find_86 (by decide) ?_
                refine dv_mmin mm_833 mm_680 mm_61 mm_681 (Nat.le_of_ble_eq_true rfl) (Nat.le_of_ble_eq_true rfl) (Nat.zero_le _) (Nat.zero_le _) dX1_find_88 ?_
                refine dv_topi (fun x16 ex16 => ?_)
                have tx16 := z_min (x := ln) (y := 8) rfl (by decide : (8 : Int32).toInt = 8)
                rw [← ex16] at tx16
                refine dv_iload_n dX1_find_91 rfl 5 rfl ?_
                refine dv_iload_n dX1_find_92 rfl 6 rfl ?_
                obtain ⟨lst19, lrw20, lct21, h22, h23, hs18⟩ := a8_21 hI
                refine GW.callV (n := 4) (As := [.int v4_8, .int x16, .int k, .int pr]) (rest := []) (b := 21) (k_X1_tryRow l g pe ct12 v4_8 x16 k pr (by first | omega | decide) (by first | omega | decide) hI) (fun _ h => h) rfl rfl ⟨by decide, rfl⟩ hs18 (q := (RX1, TX1, 7)) rfl mm_834 mm_836 mm_46 mm_57 mm_837 (by decide +kernel) ⟨Nat.le_of_ble_eq_true rfl, Nat.le_of_ble_eq_true rfl⟩ rfl (Nat.le_of_ble_eq_true rfl) dX1_find_93 (Nat.zero_le _) (Nat.zero_le _) rfl (fun ct17 rrr24 hBr24 hoff25 => ?_)
                obtain ⟨rfl, hI⟩ := hBr24
                refine GW.eq (S2 := []) rfl rfl rfl ?_
                obtain ⟨x26, ex26⟩ : ∃ y : Int32, y = v4_8 + 1 := ⟨_, rfl⟩
                have tx26 : x26.toInt = v4_8.toInt + 1 := by rw [ex26]; exact z_add rfl (by decide : (1 : Int32).toInt = 1) (by omega) (by omega)
                refine dv_iinc (v := x26) (lv' := [(4, .int x26), (6, .int v6_22), (5, .int v5_22), (0, .ref 21), (1, .int ln), (2, .int k), (3, .int pr)]) dX1_find_96 (k := 2) rfl (by rw [ex26]; rfl) (by decide) rfl ?_
                refine dv_goto (tgt := 8) dX1_find_99 (by decide) ?_
                refine dv_sub (loc2 := [(4, .int x26), (0, .ref 21), (1, .int ln), (2, .int k), (3, .int pr)]) [0, 3, 4, 5, 6] rfl ?_
                exact ih8 x26 ct17 (by omega) (by first | omega | decide | assumption) hI
            · skip
              have c13 : ¬ (4 ≤ v6_22.toInt) := fun q => c13 ((z_le (by decide : (4 : Int32).toInt = 4) rfl).mpr q)
              refine dv_aload_n dX1_find_28 rfl 3 rfl ?_
              obtain ⟨lst28, lrw29, lct30, h31, h32, hs27⟩ := a8_21 hI
              refine dv_get (ci := 1) (v := .ref 25) (C := RX1) (T := TX1) (N := 7) ⟨by decide, rfl⟩ hs27 rfl inG1 6 (by decide) mm_193 rfl dX1_find_29 ?_
              refine dv_iload dX1_find_32 0 rfl ?_
              refine dv_iload dX1_find_34 2 rfl ?_
              refine dv_iload dX1_find_36 0 rfl ?_
              refine GW.callS (n := 2) (As := [.int v4_8, .int v6_22]) (rest := [.int v6_22, .ref 25]) (k_X1_level l g pe ct12 v4_8 v6_22 (by first | omega | decide) hI) (fun _ h => Bool.noConfusion h) rfl rfl mm_830 mm_831 mm_57 mm_832 (by decide +kernel) ⟨Nat.le_of_ble_eq_true rfl, Nat.le_of_ble_eq_true rfl⟩ rfl (Nat.le_of_ble_eq_true rfl) dX1_find_38 (Nat.zero_le _) (Nat.zero_le _) rfl (fun ct33 rrr34 hBr34 hoff35 => ?_)
              obtain ⟨r34, rfl, hr34, rfl⟩ := hBr34
              refine GW.eq (S2 := [.int r34, .int v6_22, .ref 25]) rfl rfl rfl ?_
              obtain ⟨hr34_0, hr34_1⟩ := hr34
              have hr34_0 : 0 ≤ r34.toInt := hr34_0
              have hr34_1 : r34.toInt ≤ 4 := hr34_1
              obtain ⟨f37, hp38, hs36⟩ := a8_25 hI
              refine dv_iast 0 ⟨by decide, rfl⟩ hs36 rfl (z_in rfl (by omega) (by omega)) dX1_find_41 (en := .inl (g.2 0, 4, .inl (upd f37 (Int32.toNatClampNeg v6_22) r34))) rfl (fun ct39 ec40 => ?_)
              have hp41 : ∀ j : Nat, j < 4 → (fun x : Int32 => 0 ≤ x.toInt ∧ x.toInt ≤ 4) ((upd f37 (Int32.toNatClampNeg v6_22) r34) j) := fun j hj => by
                unfold upd
                by_cases q : j = Int32.toNatClampNeg v6_22
                · rw [if_pos q]; exact (show 0 ≤ (r34 : Int32).toInt ∧ (r34 : Int32).toInt ≤ 4 from (by first | omega | decide))
                · rw [if_neg q]; exact hp38 j hj
              have hI : Inv8 g idn pe ct39 := by rw [ec40]; exact up8 hI (i8_25 ⟨_, hp41, rfl⟩)
              have hs42 : ct39 21 = .inr (1, [.int lst28, .int lrw29, .int lct30, .ref 22, .ref 23, .ref 24, .ref 25]) := by rw [ec40, va_up_ne _ _ (by omega)]; exact hs27
              have hs43 : ct39 25 = .inl (g.2 0, 4, .inl (upd f37 (Int32.toNatClampNeg v6_22) r34)) := by rw [ec40]; exact va_up_self _ _ _
              refine dv_iload dX1_find_42 1 rfl ?_
              refine dv_if_eq (tgt := 68) dX1_find_44 (by decide) (fun c44 => ?_) (fun c44 => ?_)
              · skip
                have c44 : v5_22.toInt = 0 := (z_eq rfl (by decide : (0 : Int32).toInt = 0)).mp c44
                refine dv_iconst (v := 0) dX1_find_68 (by decide) ?_
                refine dv_istore (lv' := [(5, .int 0), (6, .int v6_22), (4, .int v4_8), (0, .ref 21), (1, .int ln), (2, .int k), (3, .int pr)]) dX1_find_69 (by decide) rfl ?_
                obtain ⟨x45, ex45⟩ : ∃ y : Int32, y = v6_22 + 1 := ⟨_, rfl⟩
                have tx45 : x45.toInt = v6_22.toInt + 1 := by rw [ex45]; exact z_add rfl (by decide : (1 : Int32).toInt = 1) (by omega) (by omega)
                refine dv_iinc (v := x45) (lv' := [(6, .int x45), (5, .int 0), (4, .int v4_8), (0, .ref 21), (1, .int ln), (2, .int k), (3, .int pr)]) dX1_find_71 (k := 1) rfl (by rw [ex45]; rfl) (by decide) rfl ?_
                refine dv_goto (tgt := 22) dX1_find_74 (by decide) ?_
                exact ih22 x45 (0 : Int32) ct39 (by omega) (by first | omega | decide | assumption) hI
              · skip
                have c44 : ¬ (v5_22.toInt = 0) := fun q => c44 ((z_eq rfl (by decide : (0 : Int32).toInt = 0)).mpr q)
                refine dv_aload_n dX1_find_47 rfl 3 rfl ?_
                refine dv_get (ci := 1) (v := .ref 25) (C := RX1) (T := TX1) (N := 7) ⟨by decide, rfl⟩ hs42 rfl inG1 6 (by decide) mm_193 rfl dX1_find_48 ?_
                refine dv_iload dX1_find_51 0 rfl ?_
                refine dv_iald 0 ⟨by decide, rfl⟩ hs43 rfl (z_in rfl (by omega) (by omega)) dX1_find_53 ?_
                refine dv_topi (fun y46 ey46 => ?_)
                have hy46 := hp41 _ (z_clt (x := v6_22) rfl (by omega) (by omega))
                rw [← ey46] at hy46
                have hy46 : 0 ≤ y46.toInt ∧ y46.toInt ≤ 4 := hy46
                refine dv_aload_n dX1_find_54 rfl 3 rfl ?_
                refine dv_get (ci := 1) (v := .ref 24) (C := RX1) (T := TX1) (N := 7) ⟨by decide, rfl⟩ hs42 rfl inG1 5 (by decide) mm_192 rfl dX1_find_55 ?_
                refine dv_iload dX1_find_58 0 rfl ?_
                obtain ⟨f48, hs47⟩ := a8_24 hI
                refine dv_iald 0 ⟨by decide, rfl⟩ hs47 rfl (z_in rfl (by omega) (by omega)) dX1_find_60 ?_
                refine dv_topi (fun y49 ey49 => ?_)
                refine dv_icmp_gt (tgt := 68) dX1_find_61 (by decide) (fun c50 => ?_) (fun c50 => ?_)
                · skip
                  have c50 : y49.toInt < y46.toInt := (z_lt rfl rfl).mp c50
                  refine dv_iconst (v := 0) dX1_find_68 (by decide) ?_
                  refine dv_istore (lv' := [(5, .int 0), (6, .int v6_22), (4, .int v4_8), (0, .ref 21), (1, .int ln), (2, .int k), (3, .int pr)]) dX1_find_69 (by decide) rfl ?_
                  obtain ⟨x51, ex51⟩ : ∃ y : Int32, y = v6_22 + 1 := ⟨_, rfl⟩
                  have tx51 : x51.toInt = v6_22.toInt + 1 := by rw [ex51]; exact z_add rfl (by decide : (1 : Int32).toInt = 1) (by omega) (by omega)
                  refine dv_iinc (v := x51) (lv' := [(6, .int x51), (5, .int 0), (4, .int v4_8), (0, .ref 21), (1, .int ln), (2, .int k), (3, .int pr)]) dX1_find_71 (k := 1) rfl (by rw [ex51]; rfl) (by decide) rfl ?_
                  refine dv_goto (tgt := 22) dX1_find_74 (by decide) ?_
                  exact ih22 x51 (0 : Int32) ct39 (by omega) (by first | omega | decide | assumption) hI
                · skip
                  have c50 : ¬ (y49.toInt < y46.toInt) := fun q => c50 ((z_lt rfl rfl).mpr q)
                  refine dv_iconst (v := 1) dX1_find_64 (by decide) ?_
                  refine dv_goto (tgt := 69) dX1_find_65 (by decide) ?_
                  refine dv_istore (lv' := [(5, .int 1), (6, .int v6_22), (4, .int v4_8), (0, .ref 21), (1, .int ln), (2, .int k), (3, .int pr)]) dX1_find_69 (by decide) rfl ?_
                  obtain ⟨x52, ex52⟩ : ∃ y : Int32, y = v6_22 + 1 := ⟨_, rfl⟩
                  have tx52 : x52.toInt = v6_22.toInt + 1 := by rw [ex52]; exact z_add rfl (by decide : (1 : Int32).toInt = 1) (by omega) (by omega)
                  refine dv_iinc (v := x52) (lv' := [(6, .int x52), (5, .int 1), (4, .int v4_8), (0, .ref 21), (1, .int ln), (2, .int k), (3, .int pr)]) dX1_find_71 (k := 1) rfl (by rw [ex52]; rfl) (by decide) rfl ?_
                  refine dv_goto (tgt := 22) dX1_find_74 (by decide) ?_
                  exact ih22 x52 (1 : Int32) ct39 (by omega) (by first | omega | decide | assumption) hI
        exact loop22 ((4 - (0 : Int32).toInt : Int).toNat + 1) (0 : Int32) (1 : Int32) ct10 (by omega) (by first | omega | decide | assumption) hI
  exact loop8 ((625 - (0 : Int32).toInt : Int).toNat + 1) (0 : Int32) ct7 (by omega) (by first | omega | decide | assumption) hI
