set_option maxHeartbeats 4000000 in
set_option maxRecDepth 100000 in
theorem k_X0_forget (l : Launch) (g : zG) (sz : Nat) (ad : Nat → Nat) (pe : Int32) (ct : Nat → va_E) (hI : Inv8 g ad pe ct) : Met l yX0_forget (zW yX0_forget cX0_forget 1 none) ({ frames := 0, cells := 0, slots := 0, locals := 0 }) (va_Pc [.ref (ad 17)] (zA g (zw 126 ad ct) sz)) (va_Qv (fun (_ : Unit) => True) (fun _ t => ∃ ct2 : Nat → va_E, zP g (zw 126 ad ct2) t.heap ∧ va_D (va_A (zw 126 ad ct) sz) (zw 126 ad ct2) ∧ Inv8 g ad pe ct2) (va_A (zw 126 ad ct) sz)) 0 0 (va_A (zw 126 ad ct) sz) := by
  refine Met.ofW (cc := cX0_forget) (maxL := 1) (ret := none) (by decide) rfl ?_
  intro p e s m args below meth c s₁ B hml hv
  obtain ⟨rfl, hsz, hP, hK, hD0, hN⟩ := hv
  have hx := B.exec
  have hb := B.bytes
  have hr := B.returns
  have hg := zW.law (atoms_spec (ws := (zW yX0_forget cX0_forget 1 none)) B.pre)
  have hown : s.vm.findClass RX0 = some m.cls := findClass_of_methodNamed B.named
  have hlocks := B.notSynchronized
  have hpe0 := hI.1
  subst hsz
  have hD := hD0.self (sz := s.heap.size)
  generalize hAe : va_A (zw 126 ad ct) s.heap.size = A at hD ⊢
  have hA : ∀ q : Nat, s.heap.size ≤ q → A q := fun q h => by rw [← hAe]; exact Or.inr h
  have hS : va_S A s.heap s.heap [] := va_S.rf
  have hl := lv_entry ([.ref (ad 17)]) (n := 1) (Nat.le_of_ble_eq_true rfl)
  rw [lg_entry_eq]
  generalize (lg_sl ([.ref (ad 17)]) ++ List.replicate (1 - (lg_sl ([.ref (ad 17)])).length) Slot.unset).toArray = ls at hl ⊢
  have hl : lv_has ls 1 [(0, .ref (ad 17))] := hl
  refine lv_aload_n hx hb dX0_forget_0 rfl (lv_at hl 0 rfl) ?_
  refine lv_dup hx hb dX0_forget_1 rfl ?_
  obtain ⟨spc2, tim3, h4, h5, hs1⟩ := a8_17 hI
  refine va_get (D := g.1) (ci := 0) (v := .int tim3) (C := RX0) (T := TX0) (N := 5) hx hb hg inG0 hown hK hP 17 (zw_at (by omega) hs1) rfl 4 (by decide) (hg _ mm_221) (fun _ h9 => h9) rfl dX0_forget_2 ?_
  refine lv_iconst (v := 1) hx hb dX0_forget_5 (by decide) ?_
  refine lv_iadd hx hb dX0_forget_6 ?_
  refine lv_topi (fun x6 ex6 => ?_)
  refine va_put (D := g.1) (ci := 0) (v := .int x6) (ty := .int) (C := RX0) (T := TX0) (N := 5) hx hb hg inG0 tyX0 tyX0_ok nmX0 hown hK hP hD hS 17 (zw_at (by omega) hs1) rfl 4 (by decide) (hg _ mm_221) (fun _ h9 => h9) rfl (by decide +kernel) rfl rfl (Nat.le_of_ble_eq_true rfl) dX0_forget_7 (fun H locs hP hD hS => ?_)
  have hP : zP g ((zw 126 ad ct).set 17 (ad 17, .inr (0, [.ref (ad 18), .int spc2, .ref (ad 19), .ref (ad 20), .int x6]))) H := hP
  have hD : va_D A ((zw 126 ad ct).set 17 (ad 17, .inr (0, [.ref (ad 18), .int spc2, .ref (ad 19), .ref (ad 20), .int x6]))) := hD
  rw [zw_set (by omega)] at hP hD
  obtain ⟨ct7, ec8⟩ : ∃ z : Nat → va_E, z = va_up ct 17 (.inr (0, [.ref (ad 18), .int spc2, .ref (ad 19), .ref (ad 20), .int x6])) := ⟨_, rfl⟩
  rw [← ec8] at hP hD
  have hI : Inv8 g ad pe ct7 := by rw [ec8]; exact up8 hI (i8_17 ⟨(spc2 : Int32), (x6 : Int32), (by first | omega | decide), (by first | omega | decide), rfl⟩)
  have hs9 : ct7 17 = .inr (0, [.ref (ad 18), .int spc2, .ref (ad 19), .ref (ad 20), .int x6]) := by rw [ec8]; exact va_up_self _ _ _
  exact W.vret hx hb hr (fun t ht hW => ⟨⟨(), rfl, trivial, ct7, by rw [ht]; exact hP, hD, hI⟩, hS.F ht⟩) hS.2.2 dX0_forget_10

set_option maxHeartbeats 4000000 in
set_option maxRecDepth 100000 in
theorem k_X8_upper (l : Launch) (g : zG) (sz : Nat) (ad0 : Nat → Nat) (pe : Int32) (ct : Nat → va_E) (c0 : Int32) (nd : Int32) (up : Int32) (hI : Inv8 g ad0 pe ct) : Met l yX8_upper (zW yX8_upper cX8_upper 4 (some .boolean)) ({ frames := 3, cells := 0, slots := 0, locals := 70 }) (va_Pc [.ref (ad0 0), .int c0, .int nd, .int up] (zA g (zw 126 ad0 ct) sz)) (va_Qi (fun (r : Int32) (u : Int32) => ((r = 1 ∧ (0 ≤ c0.toInt ∧ c0.toInt ≤ 3) ∧ (0 ≤ nd.toInt ∧ nd.toInt ≤ 31) ∧ (up.toInt = -1 ∨ (16 ≤ up.toInt ∧ up.toInt ≤ 31 ∧ nd.toInt < up.toInt))) ∨ (r = 0 ∧ (¬ ((0 ≤ c0.toInt ∧ c0.toInt ≤ 3) ∧ (0 ≤ nd.toInt ∧ nd.toInt ≤ 31) ∧ (up.toInt = -1 ∨ (16 ≤ up.toInt ∧ up.toInt ≤ 31 ∧ nd.toInt < up.toInt)))))) ∧ u = r) (fun (u : Int32) t => ∃ (ad2 : Nat → Nat) (ct2 : Nat → va_E), (u = 1 → ad2 = va_up ad0 (3 * (1000 + 100 * (0 + 35 + 5 * c0.toInt.toNat) + nd.toInt.toNat) + 1) (up.toInt + 1).toNat) ∧ (u = 0 → ad2 = ad0) ∧ zP g (zw 126 ad2 ct2) t.heap ∧ va_D (va_A (zw 126 ad0 ct) sz) (zw 126 ad2 ct2) ∧ Inv8 g ad2 pe ct2) (va_A (zw 126 ad0 ct) sz)) 0 0 (va_A (zw 126 ad0 ct) sz) := by
  refine Met.ofW (cc := cX8_upper) (maxL := 4) (ret := (some .boolean)) (by decide) rfl ?_
  intro p e s m args below meth c s₁ B hml hv
  obtain ⟨rfl, hsz, hP, hK, hD0, hN⟩ := hv
  have hx := B.exec
  have hb := B.bytes
  have hr := B.returns
  have hg := zW.law (atoms_spec (ws := (zW yX8_upper cX8_upper 4 (some .boolean))) B.pre)
  have hown : s.vm.findClass RX8 = some m.cls := findClass_of_methodNamed B.named
  have hlocks := B.notSynchronized
  have hpe0 := hI.1
  subst hsz
  have hD := hD0.self (sz := s.heap.size)
  generalize hAe : va_A (zw 126 ad0 ct) s.heap.size = A at hD ⊢
  have hA : ∀ q : Nat, s.heap.size ≤ q → A q := fun q h => by rw [← hAe]; exact Or.inr h
  have hS : va_S A s.heap s.heap [] := va_S.rf
  have hl := lv_entry ([.ref (ad0 0), .int c0, .int nd, .int up]) (n := 4) (Nat.le_of_ble_eq_true rfl)
  rw [lg_entry_eq]
  generalize (lg_sl ([.ref (ad0 0), .int c0, .int nd, .int up]) ++ List.replicate (4 - (lg_sl ([.ref (ad0 0), .int c0, .int nd, .int up])).length) Slot.unset).toArray = ls at hl ⊢
  have hl : lv_has ls 4 [(0, .ref (ad0 0)), (1, .int c0), (2, .int nd), (3, .int up)] := hl
  obtain ⟨ad, had⟩ : ∃ f : Nat → Nat, f = ad0 := ⟨_, rfl⟩
  rw [← had] at hP hD hI hl hAe
  have rg_c0 := z_rng c0
  have rg_nd := z_rng nd
  have rg_up := z_rng up
  refine lv_iload_n hx hb dX8_upper_0 rfl (lv_at hl 1 rfl) ?_
  refine zc_i (va_runS (As := [.int c0]) (rest := []) ⟨hx, hb, hml, hown, hg⟩ (k_X8_isColumn l g ad pe ct c0 hI) (va_cwS 1 hg (z_gS mm_404 mm_405 mm_108 mm_406) rfl rfl rfl (by decide +kernel) ⟨Nat.le_of_ble_eq_true rfl, Nat.le_of_ble_eq_true rfl⟩) (zR.pre [.int c0] hP hK hN) rfl rfl hl.1 rfl (lv_room (Nat.le_of_ble_eq_true rfl)) dX8_upper_1 ⟨Nat.le_of_ble_eq_true rfl, Nat.le_of_ble_eq_true rfl⟩) (fun r1 hr1 => ?_)
  rcases hr1 with hr1 | hr1
  · skip
    obtain ⟨rfl, h2, h3⟩ := hr1
    have h2 : 0 ≤ c0.toInt := h2
    have h3 : c0.toInt ≤ 3 := h3
    refine lv_if_eq (tgt := 17) hx hb dX8_upper_4 (by decide) (fun c4 => ?_) (fun c4 => ?_)
    · skip
      exact absurd c4 (by decide)
    · skip
      refine lv_iload_n hx hb dX8_upper_7 rfl (lv_at hl 2 rfl) ?_
      refine lv_iconst (v := 0) hx hb dX8_upper_8 (by decide) ?_
      refine lv_bipush (v := 31) hx hb dX8_upper_9 (by decide) ?_
      refine zc_i (va_runS (As := [.int nd, .int 0, .int 31]) (rest := []) ⟨hx, hb, hml, hown, hg⟩ (k_X8_within l g ad pe ct nd (0 : Int32) (31 : Int32) hI) (va_cwS 3 hg (z_gS mm_407 mm_408 mm_108 mm_409) rfl rfl rfl (by decide +kernel) ⟨Nat.le_of_ble_eq_true rfl, Nat.le_of_ble_eq_true rfl⟩) (zR.pre [.int nd, .int 0, .int 31] hP hK hN) rfl rfl hl.1 rfl (lv_room (Nat.le_of_ble_eq_true rfl)) dX8_upper_11 ⟨Nat.le_of_ble_eq_true rfl, Nat.le_of_ble_eq_true rfl⟩) (fun r5 hr5 => ?_)
      rcases hr5 with hr5 | hr5
      · skip
        obtain ⟨rfl, h6, h7⟩ := hr5
        have h6 : (0 : Int) ≤ nd.toInt := h6
        have h7 : nd.toInt ≤ (31 : Int) := h7
        refine lv_if_ne (tgt := 19) hx hb dX8_upper_14 (by decide) (fun c8 => ?_) (fun c8 => ?_)
        · skip
          refine lv_iload_n hx hb dX8_upper_19 rfl (lv_at hl 3 rfl) ?_
          refine lv_iconst (v := (-1)) hx hb dX8_upper_20 (by decide) ?_
          refine lv_icmp_eq (tgt := 42) hx hb dX8_upper_21 (by decide) (fun c9 => ?_) (fun c9 => ?_)
          · skip
            have c9 : up.toInt = (-1) := (z_eq rfl (by decide : ((-1) : Int32).toInt = (-1))).mp c9
            refine lv_aload_n hx hb dX8_upper_42 rfl (lv_at hl 0 rfl) ?_
            obtain ⟨bk12, dr11, h13, h14, h15, hs10⟩ := a8_0 hI
            refine va_get (D := g.1) (ci := 8) (v := .ref (ad 1)) (C := RX8) (T := TX8) (N := 13) hx hb hg inG8 hown hK hP 0 (zw_at (by omega) hs10) rfl 0 (by decide) (hg _ mm_360) (fun _ h9 => h9) rfl dX8_upper_43 ?_
            refine lv_iload_n hx hb dX8_upper_46 rfl (lv_at hl 1 rfl) ?_
            have hs16 := a8_1 hI
            refine va_aldq hx hb hK hP 1 4 (zw_at (by omega) hs16) rfl (z_in rfl (by omega) (by omega)) dX8_upper_47 ?_
            rw [zF1_at (x := c0) (by omega) (by omega)]
            refine lv_iload_n hx hb dX8_upper_48 rfl (lv_at hl 2 rfl) ?_
            refine lv_iload_n hx hb dX8_upper_49 rfl (lv_at hl 3 rfl) ?_
            obtain ⟨we18, se19, h20, h21, hs17⟩ := a8_35 (kc := (0 + 35 + 5 * c0.toInt.toNat)) (by omega) hI
            obtain ⟨f23, hp24, hs22⟩ := a8_36 (kc := (0 + 35 + 5 * c0.toInt.toNat)) (by omega) hI
            obtain ⟨f26, hp27, hs25⟩ := a8_37 (kc := (0 + 35 + 5 * c0.toInt.toNat)) (by omega) hI
            obtain ⟨f29, hs28⟩ := a8_38 (kc := (0 + 35 + 5 * c0.toInt.toNat)) (by omega) hI
            obtain ⟨f31, hs30⟩ := a8_39 (kc := (0 + 35 + 5 * c0.toInt.toNat)) (by omega) hI
            have hPw := zw_winP (0 + 35 + 5 * c0.toInt.toNat) 5 (by omega) hP
            have hDw := zw_winD (0 + 35 + 5 * c0.toInt.toNat) 5 (by omega) hD
            have hw : zw 5 (fun i => ad ((0 + 35 + 5 * c0.toInt.toNat) + i)) (fun i => ct ((0 + 35 + 5 * c0.toInt.toNat) + i)) = [((ad (0 + 35 + 5 * c0.toInt.toNat)), .inr (3, [.int we18, .ref (ad ((0 + 35 + 5 * c0.toInt.toNat) + 1)), .ref (ad ((0 + 35 + 5 * c0.toInt.toNat) + 2)), .ref (ad ((0 + 35 + 5 * c0.toInt.toNat) + 3)), .ref (ad ((0 + 35 + 5 * c0.toInt.toNat) + 4)), .int se19])), ((ad ((0 + 35 + 5 * c0.toInt.toNat) + 1)), .inl (g.2 0, 32, .inl f23)), ((ad ((0 + 35 + 5 * c0.toInt.toNat) + 2)), .inl (g.2 0, 33, .inl f26)), ((ad ((0 + 35 + 5 * c0.toInt.toNat) + 3)), .inl (g.2 0, 33, .inl f29)), ((ad ((0 + 35 + 5 * c0.toInt.toNat) + 4)), .inl (g.2 0, 16, .inl f31))] := by
              show [(ad ((0 + 35 + 5 * c0.toInt.toNat)), ct ((0 + 35 + 5 * c0.toInt.toNat))), (ad ((0 + 35 + 5 * c0.toInt.toNat) + 1), ct ((0 + 35 + 5 * c0.toInt.toNat) + 1)), (ad ((0 + 35 + 5 * c0.toInt.toNat) + 2), ct ((0 + 35 + 5 * c0.toInt.toNat) + 2)), (ad ((0 + 35 + 5 * c0.toInt.toNat) + 3), ct ((0 + 35 + 5 * c0.toInt.toNat) + 3)), (ad ((0 + 35 + 5 * c0.toInt.toNat) + 4), ct ((0 + 35 + 5 * c0.toInt.toNat) + 4))] = _
              rw [hs17, hs22, hs25, hs28, hs30]
            rw [hw] at hPw hDw
            have hFw := zw_free hDw hS hA
            refine va_callv (va_runV (As := [.int nd, .int up]) (rest := []) ⟨hx, hb, hml, hown, hg⟩ (c_X3_hang l g _ (ad ((0 + 35 + 5 * c0.toInt.toNat))) (ad ((0 + 35 + 5 * c0.toInt.toNat) + 1)) (ad ((0 + 35 + 5 * c0.toInt.toNat) + 2)) (ad ((0 + 35 + 5 * c0.toInt.toNat) + 3)) (ad ((0 + 35 + 5 * c0.toInt.toNat) + 4)) f23 f26 f29 f31 we18 se19 nd up (by omega) (by omega)) (cwV 2 hg (z_gV mm_410 mm_411 mm_412 mm_115 mm_413) rfl rfl rfl (by decide +kernel) ⟨Nat.le_of_ble_eq_true rfl, Nat.le_of_ble_eq_true rfl⟩) ⟨(zA.pre [.ref (ad (0 + 35 + 5 * c0.toInt.toNat)), .int nd, .int up] hPw hK hDw hN).1, va_recv hK hPw (ci := 3) (q0 := 0) rfl rfl, (zA.pre [.ref (ad (0 + 35 + 5 * c0.toInt.toNat)), .int nd, .int up] hPw hK hDw hN).2⟩ rfl rfl hl.1 rfl (lv_room (Nat.le_of_ble_eq_true rfl)) dX8_upper_50 ⟨Nat.le_of_ble_eq_true rfl, Nat.le_of_ble_eq_true rfl⟩) hS (fun q _ h => hFw q h) hFw (fun u9 t H1 locs ht hvm hr1 hB hz1 hk1 hS => ?_)
            obtain ⟨z2, z3, hP1, hD1, g1, g2⟩ := hB
            rw [ht] at hP1
            obtain ⟨ct9, e9⟩ : ∃ z : Nat → va_E, z = va_up (va_up (va_up ct ((0 + 35 + 5 * c0.toInt.toNat) + 1) (.inl (g.2 0, 32, .inl (upd f23 (Int32.toNatClampNeg nd) up)))) ((0 + 35 + 5 * c0.toInt.toNat) + 2) (.inl (g.2 0, 33, .inl z2))) ((0 + 35 + 5 * c0.toInt.toNat) + 3) (.inl (g.2 0, 33, .inl z3)) := ⟨_, rfl⟩
            have w0 : ct9 ((0 + 35 + 5 * c0.toInt.toNat)) = .inr (3, [.int we18, .ref (ad ((0 + 35 + 5 * c0.toInt.toNat) + 1)), .ref (ad ((0 + 35 + 5 * c0.toInt.toNat) + 2)), .ref (ad ((0 + 35 + 5 * c0.toInt.toNat) + 3)), .ref (ad ((0 + 35 + 5 * c0.toInt.toNat) + 4)), .int se19]) := by rw [e9, va_up_ne _ _ (by omega), va_up_ne _ _ (by omega), va_up_ne _ _ (by omega)]; exact hs17
            have w1 : ct9 ((0 + 35 + 5 * c0.toInt.toNat) + 1) = .inl (g.2 0, 32, .inl (upd f23 (Int32.toNatClampNeg nd) up)) := by rw [e9, va_up_ne _ _ (by omega), va_up_ne _ _ (by omega), va_up_self]
            have w2 : ct9 ((0 + 35 + 5 * c0.toInt.toNat) + 2) = .inl (g.2 0, 33, .inl z2) := by rw [e9, va_up_ne _ _ (by omega), va_up_self]
            have w3 : ct9 ((0 + 35 + 5 * c0.toInt.toNat) + 3) = .inl (g.2 0, 33, .inl z3) := by rw [e9, va_up_self]
            have w4 : ct9 ((0 + 35 + 5 * c0.toInt.toNat) + 4) = .inl (g.2 0, 16, .inl f31) := by rw [e9, va_up_ne _ _ (by omega), va_up_ne _ _ (by omega), va_up_ne _ _ (by omega)]; exact hs30
            have hw9 : zw 5 (fun i => ad ((0 + 35 + 5 * c0.toInt.toNat) + i)) (fun i => ct9 ((0 + 35 + 5 * c0.toInt.toNat) + i)) = [(ad ((0 + 35 + 5 * c0.toInt.toNat)), .inr (3, [.int we18, .ref (ad ((0 + 35 + 5 * c0.toInt.toNat) + 1)), .ref (ad ((0 + 35 + 5 * c0.toInt.toNat) + 2)), .ref (ad ((0 + 35 + 5 * c0.toInt.toNat) + 3)), .ref (ad ((0 + 35 + 5 * c0.toInt.toNat) + 4)), .int se19])), (ad ((0 + 35 + 5 * c0.toInt.toNat) + 1), .inl (g.2 0, 32, .inl (upd f23 (Int32.toNatClampNeg nd) up))), (ad ((0 + 35 + 5 * c0.toInt.toNat) + 2), .inl (g.2 0, 33, .inl z2)), (ad ((0 + 35 + 5 * c0.toInt.toNat) + 3), .inl (g.2 0, 33, .inl z3)), (ad ((0 + 35 + 5 * c0.toInt.toNat) + 4), .inl (g.2 0, 16, .inl f31))] := by
              show [(ad ((0 + 35 + 5 * c0.toInt.toNat)), ct9 ((0 + 35 + 5 * c0.toInt.toNat))), (ad ((0 + 35 + 5 * c0.toInt.toNat) + 1), ct9 ((0 + 35 + 5 * c0.toInt.toNat) + 1)), (ad ((0 + 35 + 5 * c0.toInt.toNat) + 2), ct9 ((0 + 35 + 5 * c0.toInt.toNat) + 2)), (ad ((0 + 35 + 5 * c0.toInt.toNat) + 3), ct9 ((0 + 35 + 5 * c0.toInt.toNat) + 3)), (ad ((0 + 35 + 5 * c0.toInt.toNat) + 4), ct9 ((0 + 35 + 5 * c0.toInt.toNat) + 4))] = _
              rw [w0, w1, w2, w3, w4]
            have hPn := zw_back (ct2 := ct9) (0 + 35 + 5 * c0.toInt.toNat) 5 (by omega) hP hD (by rw [hw]; exact hk1) (by rw [hw9]; exact hP1) (fun k _ hk => by rw [e9, va_up_ne _ _ (by omega), va_up_ne _ _ (by omega), va_up_ne _ _ (by omega)])
            have hDn := zw_D2 (ct2 := ct9) hD
            obtain ⟨ad9, had9⟩ : ∃ f : Nat → Nat, f = va_up ad (3 * (1000 + 100 * (0 + 35 + 5 * c0.toInt.toNat) + nd.toInt.toNat) + 1) (up.toInt + 1).toNat := ⟨_, rfl⟩
            have hIn : Inv8 g ad9 pe ct9 := by
              rw [e9]
              exact Inv8_hang hI (by omega) (by omega) (by omega) hp24 hp27 g1 g2 had9
            have hag : ∀ j, j < 126 → ad9 j = ad j := fun j hj => by rw [had9, va_up_ne _ _ (by omega)]
            rw [← zw_gh hag] at hPn hDn
            rw [← hag 0 (by omega)] at hl
            have hgh : ad9 = _ := had9.trans (by rw [had])
            clear hw9 hw w0 w1 w2 w3 w4 e9 had9 hP1 hD1 g1 g2 hPw hDw hFw hk1 hI hP hD had hag hs17 hs22 hs25 hs28 hs30
            generalize H1 = H at hPn hS ⊢
            have hP := hPn
            have hD := hDn
            have hI := hIn
            clear hPn hDn hIn
            obtain ⟨ad, had⟩ : ∃ f : Nat → Nat, f = ad9 := ⟨_, rfl⟩
            rw [← had] at hP hD hI hl hgh
            refine W.widen (k := 0) (n := 0) (Nat.le_refl _) (Nat.le_refl _) ?_
            refine lv_aload_n hx hb dX8_upper_53 rfl (lv_at hl 0 rfl) ?_
            obtain ⟨bk34, dr33, h35, h36, h37, hs32⟩ := a8_0 hI
            refine va_get (D := g.1) (ci := 8) (v := .ref (ad 17)) (C := RX8) (T := TX8) (N := 13) hx hb hg inG8 hown hK hP 0 (zw_at (by omega) hs32) rfl 7 (by decide) (hg _ mm_367) (fun _ h9 => h9) rfl dX8_upper_54 ?_
            obtain ⟨spc39, tim40, h41, h42, hs38⟩ := a8_17 hI
            have hFc := zw_free hD hS hA
            refine va_callv (va_runV (As := []) (rest := []) ⟨hx, hb, hml, hown, hg⟩ (k_X0_forget l g _ ad pe ct9  hI) (cwV 0 hg (z_gV mm_419 mm_420 mm_421 mm_112 mm_422) rfl rfl rfl (by decide +kernel) ⟨Nat.le_of_ble_eq_true rfl, Nat.le_of_ble_eq_true rfl⟩) ⟨(zA.pre [.ref (ad 17)] hP hK hD hN).1, va_recv hK hP (ci := 0) (q0 := 17) rfl (zw_at (by omega) hs38), (zA.pre [.ref (ad 17)] hP hK hD hN).2⟩ rfl rfl hl.1 rfl (lv_room (Nat.le_of_ble_eq_true rfl)) dX8_upper_57 ⟨Nat.le_of_ble_eq_true rfl, Nat.le_of_ble_eq_true rfl⟩) hS (fun q _ h => hFc q h) hFc (fun _ t H1 locs ht hvm hr43 hB hz1 hk1 hS => ?_)
            obtain ⟨ct44, hP1, hD1, hI⟩ := hB
            rw [ht] at hP1
            have hD := hD1.weaken (fun _ _ _ h => hFc _ h)
            generalize H1 = H at hP1 hS ⊢
            have hP := hP1
            refine W.widen (k := 0) (n := 0) (Nat.le_refl _) (Nat.le_refl _) ?_
            refine lv_iconst (v := 1) hx hb dX8_upper_60 (by decide) ?_
            have q45 : (1 : Int32).toInt = 1 := by decide
            exact W.zret (v := 1) hx hb hr rfl (fun t ht hW => ⟨⟨1, 1, rfl, ⟨by first | exact Or.inl ⟨rfl, by omega, by omega, by omega⟩ | exact Or.inr ⟨rfl, by omega⟩, rfl⟩, ad, ct44, (fun _ => hgh), (fun q => absurd q (by decide)), by rw [ht]; exact hP, hD, hI⟩, hS.F ht⟩) hS.2.2 dX8_upper_61
          · skip
            have c9 : ¬ (up.toInt = (-1)) := fun q => c9 ((z_eq rfl (by decide : ((-1) : Int32).toInt = (-1))).mpr q)
            refine lv_iload_n hx hb dX8_upper_24 rfl (lv_at hl 3 rfl) ?_
            refine lv_bipush (v := 16) hx hb dX8_upper_25 (by decide) ?_
            refine lv_bipush (v := 31) hx hb dX8_upper_27 (by decide) ?_
            refine zc_i (va_runS (As := [.int up, .int 16, .int 31]) (rest := []) ⟨hx, hb, hml, hown, hg⟩ (k_X8_within l g ad pe ct up (16 : Int32) (31 : Int32) hI) (va_cwS 3 hg (z_gS mm_407 mm_408 mm_108 mm_409) rfl rfl rfl (by decide +kernel) ⟨Nat.le_of_ble_eq_true rfl, Nat.le_of_ble_eq_true rfl⟩) (zR.pre [.int up, .int 16, .int 31] hP hK hN) rfl rfl hl.1 rfl (lv_room (Nat.le_of_ble_eq_true rfl)) dX8_upper_29 ⟨Nat.le_of_ble_eq_true rfl, Nat.le_of_ble_eq_true rfl⟩) (fun r46 hr46 => ?_)
            rcases hr46 with hr46 | hr46
            · skip
              obtain ⟨rfl, h47, h48⟩ := hr46
              have h47 : (16 : Int) ≤ up.toInt := h47
              have h48 : up.toInt ≤ (31 : Int) := h48
              refine lv_if_eq (tgt := 40) hx hb dX8_upper_32 (by decide) (fun c49 => ?_) (fun c49 => ?_)
              · skip
                exact absurd c49 (by decide)
              · skip
                refine lv_iload_n hx hb dX8_upper_35 rfl (lv_at hl 3 rfl) ?_
                refine lv_iload_n hx hb dX8_upper_36 rfl (lv_at hl 2 rfl) ?_
                refine lv_icmp_gt (tgt := 42) hx hb dX8_upper_37 (by decide) (fun c50 => ?_) (fun c50 => ?_)
                · skip
                  have c50 : nd.toInt < up.toInt := (z_lt rfl rfl).mp c50
                  refine lv_aload_n hx hb dX8_upper_42 rfl (lv_at hl 0 rfl) ?_
                  obtain ⟨bk53, dr52, h54, h55, h56, hs51⟩ := a8_0 hI
                  refine va_get (D := g.1) (ci := 8) (v := .ref (ad 1)) (C := RX8) (T := TX8) (N := 13) hx hb hg inG8 hown hK hP 0 (zw_at (by omega) hs51) rfl 0 (by decide) (hg _ mm_360) (fun _ h9 => h9) rfl dX8_upper_43 ?_
                  refine lv_iload_n hx hb dX8_upper_46 rfl (lv_at hl 1 rfl) ?_
                  have hs57 := a8_1 hI
                  refine va_aldq hx hb hK hP 1 4 (zw_at (by omega) hs57) rfl (z_in rfl (by omega) (by omega)) dX8_upper_47 ?_
                  rw [zF1_at (x := c0) (by omega) (by omega)]
                  refine lv_iload_n hx hb dX8_upper_48 rfl (lv_at hl 2 rfl) ?_
                  refine lv_iload_n hx hb dX8_upper_49 rfl (lv_at hl 3 rfl) ?_
                  obtain ⟨we59, se60, h61, h62, hs58⟩ := a8_35 (kc := (0 + 35 + 5 * c0.toInt.toNat)) (by omega) hI
                  obtain ⟨f64, hp65, hs63⟩ := a8_36 (kc := (0 + 35 + 5 * c0.toInt.toNat)) (by omega) hI
                  obtain ⟨f67, hp68, hs66⟩ := a8_37 (kc := (0 + 35 + 5 * c0.toInt.toNat)) (by omega) hI
                  obtain ⟨f70, hs69⟩ := a8_38 (kc := (0 + 35 + 5 * c0.toInt.toNat)) (by omega) hI
                  obtain ⟨f72, hs71⟩ := a8_39 (kc := (0 + 35 + 5 * c0.toInt.toNat)) (by omega) hI
                  have hPw := zw_winP (0 + 35 + 5 * c0.toInt.toNat) 5 (by omega) hP
                  have hDw := zw_winD (0 + 35 + 5 * c0.toInt.toNat) 5 (by omega) hD
                  have hw : zw 5 (fun i => ad ((0 + 35 + 5 * c0.toInt.toNat) + i)) (fun i => ct ((0 + 35 + 5 * c0.toInt.toNat) + i)) = [((ad (0 + 35 + 5 * c0.toInt.toNat)), .inr (3, [.int we59, .ref (ad ((0 + 35 + 5 * c0.toInt.toNat) + 1)), .ref (ad ((0 + 35 + 5 * c0.toInt.toNat) + 2)), .ref (ad ((0 + 35 + 5 * c0.toInt.toNat) + 3)), .ref (ad ((0 + 35 + 5 * c0.toInt.toNat) + 4)), .int se60])), ((ad ((0 + 35 + 5 * c0.toInt.toNat) + 1)), .inl (g.2 0, 32, .inl f64)), ((ad ((0 + 35 + 5 * c0.toInt.toNat) + 2)), .inl (g.2 0, 33, .inl f67)), ((ad ((0 + 35 + 5 * c0.toInt.toNat) + 3)), .inl (g.2 0, 33, .inl f70)), ((ad ((0 + 35 + 5 * c0.toInt.toNat) + 4)), .inl (g.2 0, 16, .inl f72))] := by
                    show [(ad ((0 + 35 + 5 * c0.toInt.toNat)), ct ((0 + 35 + 5 * c0.toInt.toNat))), (ad ((0 + 35 + 5 * c0.toInt.toNat) + 1), ct ((0 + 35 + 5 * c0.toInt.toNat) + 1)), (ad ((0 + 35 + 5 * c0.toInt.toNat) + 2), ct ((0 + 35 + 5 * c0.toInt.toNat) + 2)), (ad ((0 + 35 + 5 * c0.toInt.toNat) + 3), ct ((0 + 35 + 5 * c0.toInt.toNat) + 3)), (ad ((0 + 35 + 5 * c0.toInt.toNat) + 4), ct ((0 + 35 + 5 * c0.toInt.toNat) + 4))] = _
                    rw [hs58, hs63, hs66, hs69, hs71]
                  rw [hw] at hPw hDw
                  have hFw := zw_free hDw hS hA
                  refine va_callv (va_runV (As := [.int nd, .int up]) (rest := []) ⟨hx, hb, hml, hown, hg⟩ (c_X3_hang l g _ (ad ((0 + 35 + 5 * c0.toInt.toNat))) (ad ((0 + 35 + 5 * c0.toInt.toNat) + 1)) (ad ((0 + 35 + 5 * c0.toInt.toNat) + 2)) (ad ((0 + 35 + 5 * c0.toInt.toNat) + 3)) (ad ((0 + 35 + 5 * c0.toInt.toNat) + 4)) f64 f67 f70 f72 we59 se60 nd up (by omega) (by omega)) (cwV 2 hg (z_gV mm_410 mm_411 mm_412 mm_115 mm_413) rfl rfl rfl (by decide +kernel) ⟨Nat.le_of_ble_eq_true rfl, Nat.le_of_ble_eq_true rfl⟩) ⟨(zA.pre [.ref (ad (0 + 35 + 5 * c0.toInt.toNat)), .int nd, .int up] hPw hK hDw hN).1, va_recv hK hPw (ci := 3) (q0 := 0) rfl rfl, (zA.pre [.ref (ad (0 + 35 + 5 * c0.toInt.toNat)), .int nd, .int up] hPw hK hDw hN).2⟩ rfl rfl hl.1 rfl (lv_room (Nat.le_of_ble_eq_true rfl)) dX8_upper_50 ⟨Nat.le_of_ble_eq_true rfl, Nat.le_of_ble_eq_true rfl⟩) hS (fun q _ h => hFw q h) hFw (fun u9 t H1 locs ht hvm hr1 hB hz1 hk1 hS => ?_)
                  obtain ⟨z2, z3, hP1, hD1, g1, g2⟩ := hB
                  rw [ht] at hP1
                  obtain ⟨ct9, e9⟩ : ∃ z : Nat → va_E, z = va_up (va_up (va_up ct ((0 + 35 + 5 * c0.toInt.toNat) + 1) (.inl (g.2 0, 32, .inl (upd f64 (Int32.toNatClampNeg nd) up)))) ((0 + 35 + 5 * c0.toInt.toNat) + 2) (.inl (g.2 0, 33, .inl z2))) ((0 + 35 + 5 * c0.toInt.toNat) + 3) (.inl (g.2 0, 33, .inl z3)) := ⟨_, rfl⟩
                  have w0 : ct9 ((0 + 35 + 5 * c0.toInt.toNat)) = .inr (3, [.int we59, .ref (ad ((0 + 35 + 5 * c0.toInt.toNat) + 1)), .ref (ad ((0 + 35 + 5 * c0.toInt.toNat) + 2)), .ref (ad ((0 + 35 + 5 * c0.toInt.toNat) + 3)), .ref (ad ((0 + 35 + 5 * c0.toInt.toNat) + 4)), .int se60]) := by rw [e9, va_up_ne _ _ (by omega), va_up_ne _ _ (by omega), va_up_ne _ _ (by omega)]; exact hs58
                  have w1 : ct9 ((0 + 35 + 5 * c0.toInt.toNat) + 1) = .inl (g.2 0, 32, .inl (upd f64 (Int32.toNatClampNeg nd) up)) := by rw [e9, va_up_ne _ _ (by omega), va_up_ne _ _ (by omega), va_up_self]
                  have w2 : ct9 ((0 + 35 + 5 * c0.toInt.toNat) + 2) = .inl (g.2 0, 33, .inl z2) := by rw [e9, va_up_ne _ _ (by omega), va_up_self]
                  have w3 : ct9 ((0 + 35 + 5 * c0.toInt.toNat) + 3) = .inl (g.2 0, 33, .inl z3) := by rw [e9, va_up_self]
                  have w4 : ct9 ((0 + 35 + 5 * c0.toInt.toNat) + 4) = .inl (g.2 0, 16, .inl f72) := by rw [e9, va_up_ne _ _ (by omega), va_up_ne _ _ (by omega), va_up_ne _ _ (by omega)]; exact hs71
                  have hw9 : zw 5 (fun i => ad ((0 + 35 + 5 * c0.toInt.toNat) + i)) (fun i => ct9 ((0 + 35 + 5 * c0.toInt.toNat) + i)) = [(ad ((0 + 35 + 5 * c0.toInt.toNat)), .inr (3, [.int we59, .ref (ad ((0 + 35 + 5 * c0.toInt.toNat) + 1)), .ref (ad ((0 + 35 + 5 * c0.toInt.toNat) + 2)), .ref (ad ((0 + 35 + 5 * c0.toInt.toNat) + 3)), .ref (ad ((0 + 35 + 5 * c0.toInt.toNat) + 4)), .int se60])), (ad ((0 + 35 + 5 * c0.toInt.toNat) + 1), .inl (g.2 0, 32, .inl (upd f64 (Int32.toNatClampNeg nd) up))), (ad ((0 + 35 + 5 * c0.toInt.toNat) + 2), .inl (g.2 0, 33, .inl z2)), (ad ((0 + 35 + 5 * c0.toInt.toNat) + 3), .inl (g.2 0, 33, .inl z3)), (ad ((0 + 35 + 5 * c0.toInt.toNat) + 4), .inl (g.2 0, 16, .inl f72))] := by
                    show [(ad ((0 + 35 + 5 * c0.toInt.toNat)), ct9 ((0 + 35 + 5 * c0.toInt.toNat))), (ad ((0 + 35 + 5 * c0.toInt.toNat) + 1), ct9 ((0 + 35 + 5 * c0.toInt.toNat) + 1)), (ad ((0 + 35 + 5 * c0.toInt.toNat) + 2), ct9 ((0 + 35 + 5 * c0.toInt.toNat) + 2)), (ad ((0 + 35 + 5 * c0.toInt.toNat) + 3), ct9 ((0 + 35 + 5 * c0.toInt.toNat) + 3)), (ad ((0 + 35 + 5 * c0.toInt.toNat) + 4), ct9 ((0 + 35 + 5 * c0.toInt.toNat) + 4))] = _
                    rw [w0, w1, w2, w3, w4]
                  have hPn := zw_back (ct2 := ct9) (0 + 35 + 5 * c0.toInt.toNat) 5 (by omega) hP hD (by rw [hw]; exact hk1) (by rw [hw9]; exact hP1) (fun k _ hk => by rw [e9, va_up_ne _ _ (by omega), va_up_ne _ _ (by omega), va_up_ne _ _ (by omega)])
                  have hDn := zw_D2 (ct2 := ct9) hD
                  obtain ⟨ad9, had9⟩ : ∃ f : Nat → Nat, f = va_up ad (3 * (1000 + 100 * (0 + 35 + 5 * c0.toInt.toNat) + nd.toInt.toNat) + 1) (up.toInt + 1).toNat := ⟨_, rfl⟩
                  have hIn : Inv8 g ad9 pe ct9 := by
                    rw [e9]
                    exact Inv8_hang hI (by omega) (by omega) (by omega) hp65 hp68 g1 g2 had9
                  have hag : ∀ j, j < 126 → ad9 j = ad j := fun j hj => by rw [had9, va_up_ne _ _ (by omega)]
                  rw [← zw_gh hag] at hPn hDn
                  rw [← hag 0 (by omega)] at hl
                  have hgh : ad9 = _ := had9.trans (by rw [had])
                  clear hw9 hw w0 w1 w2 w3 w4 e9 had9 hP1 hD1 g1 g2 hPw hDw hFw hk1 hI hP hD had hag hs58 hs63 hs66 hs69 hs71
                  generalize H1 = H at hPn hS ⊢
                  have hP := hPn
                  have hD := hDn
                  have hI := hIn
                  clear hPn hDn hIn
                  obtain ⟨ad, had⟩ : ∃ f : Nat → Nat, f = ad9 := ⟨_, rfl⟩
                  rw [← had] at hP hD hI hl hgh
                  refine W.widen (k := 0) (n := 0) (Nat.le_refl _) (Nat.le_refl _) ?_
                  refine lv_aload_n hx hb dX8_upper_53 rfl (lv_at hl 0 rfl) ?_
                  obtain ⟨bk75, dr74, h76, h77, h78, hs73⟩ := a8_0 hI
                  refine va_get (D := g.1) (ci := 8) (v := .ref (ad 17)) (C := RX8) (T := TX8) (N := 13) hx hb hg inG8 hown hK hP 0 (zw_at (by omega) hs73) rfl 7 (by decide) (hg _ mm_367) (fun _ h9 => h9) rfl dX8_upper_54 ?_
                  obtain ⟨spc80, tim81, h82, h83, hs79⟩ := a8_17 hI
                  have hFc := zw_free hD hS hA
                  refine va_callv (va_runV (As := []) (rest := []) ⟨hx, hb, hml, hown, hg⟩ (k_X0_forget l g _ ad pe ct9  hI) (cwV 0 hg (z_gV mm_419 mm_420 mm_421 mm_112 mm_422) rfl rfl rfl (by decide +kernel) ⟨Nat.le_of_ble_eq_true rfl, Nat.le_of_ble_eq_true rfl⟩) ⟨(zA.pre [.ref (ad 17)] hP hK hD hN).1, va_recv hK hP (ci := 0) (q0 := 17) rfl (zw_at (by omega) hs79), (zA.pre [.ref (ad 17)] hP hK hD hN).2⟩ rfl rfl hl.1 rfl (lv_room (Nat.le_of_ble_eq_true rfl)) dX8_upper_57 ⟨Nat.le_of_ble_eq_true rfl, Nat.le_of_ble_eq_true rfl⟩) hS (fun q _ h => hFc q h) hFc (fun _ t H1 locs ht hvm hr84 hB hz1 hk1 hS => ?_)
                  obtain ⟨ct85, hP1, hD1, hI⟩ := hB
                  rw [ht] at hP1
                  have hD := hD1.weaken (fun _ _ _ h => hFc _ h)
                  generalize H1 = H at hP1 hS ⊢
                  have hP := hP1
                  refine W.widen (k := 0) (n := 0) (Nat.le_refl _) (Nat.le_refl _) ?_
                  refine lv_iconst (v := 1) hx hb dX8_upper_60 (by decide) ?_
                  have q86 : (1 : Int32).toInt = 1 := by decide
                  exact W.zret (v := 1) hx hb hr rfl (fun t ht hW => ⟨⟨1, 1, rfl, ⟨by first | exact Or.inl ⟨rfl, by omega, by omega, by omega⟩ | exact Or.inr ⟨rfl, by omega⟩, rfl⟩, ad, ct85, (fun _ => hgh), (fun q => absurd q (by decide)), by rw [ht]; exact hP, hD, hI⟩, hS.F ht⟩) hS.2.2 dX8_upper_61
                · skip
                  have c50 : ¬ (nd.toInt < up.toInt) := fun q => c50 ((z_lt rfl rfl).mpr q)
                  refine lv_iconst (v := 0) hx hb dX8_upper_40 (by decide) ?_
                  have q87 : (0 : Int32).toInt = 0 := by decide
                  exact W.zret (v := 0) hx hb hr rfl (fun t ht hW => ⟨⟨0, 0, rfl, ⟨by first | exact Or.inl ⟨rfl, by omega, by omega, by omega⟩ | exact Or.inr ⟨rfl, by omega⟩, rfl⟩, ad, ct, (fun q => absurd q (by decide)), (fun _ => had), by rw [ht]; exact hP, hD, hI⟩, hS.F ht⟩) hS.2.2 dX8_upper_41
            · skip
              obtain ⟨rfl, h88⟩ := hr46
              have h88 : ¬ ((16 : Int) ≤ up.toInt ∧ up.toInt ≤ (31 : Int)) := h88
              refine lv_if_eq (tgt := 40) hx hb dX8_upper_32 (by decide) (fun c89 => ?_) (fun c89 => ?_)
              · skip
                refine lv_iconst (v := 0) hx hb dX8_upper_40 (by decide) ?_
                have q90 : (0 : Int32).toInt = 0 := by decide
                exact W.zret (v := 0) hx hb hr rfl (fun t ht hW => ⟨⟨0, 0, rfl, ⟨by first | exact Or.inl ⟨rfl, by omega, by omega, by omega⟩ | exact Or.inr ⟨rfl, by omega⟩, rfl⟩, ad, ct, (fun q => absurd q (by decide)), (fun _ => had), by rw [ht]; exact hP, hD, hI⟩, hS.F ht⟩) hS.2.2 dX8_upper_41
              · skip
                exact absurd c89 (by decide)
        · skip
          exact absurd c8 (by decide)
      · skip
        obtain ⟨rfl, h91⟩ := hr5
        have h91 : ¬ ((0 : Int) ≤ nd.toInt ∧ nd.toInt ≤ (31 : Int)) := h91
        refine lv_if_ne (tgt := 19) hx hb dX8_upper_14 (by decide) (fun c92 => ?_) (fun c92 => ?_)
        · skip
          exact absurd c92 (by decide)
        · skip
          refine lv_iconst (v := 0) hx hb dX8_upper_17 (by decide) ?_
          have q93 : (0 : Int32).toInt = 0 := by decide
          exact W.zret (v := 0) hx hb hr rfl (fun t ht hW => ⟨⟨0, 0, rfl, ⟨by first | exact Or.inl ⟨rfl, by omega, by omega, by omega⟩ | exact Or.inr ⟨rfl, by omega⟩, rfl⟩, ad, ct, (fun q => absurd q (by decide)), (fun _ => had), by rw [ht]; exact hP, hD, hI⟩, hS.F ht⟩) hS.2.2 dX8_upper_18
  · skip
    obtain ⟨rfl, h94⟩ := hr1
    have h94 : ¬ (0 ≤ c0.toInt ∧ c0.toInt ≤ 3) := h94
    refine lv_if_eq (tgt := 17) hx hb dX8_upper_4 (by decide) (fun c95 => ?_) (fun c95 => ?_)
    · skip
      refine lv_iconst (v := 0) hx hb dX8_upper_17 (by decide) ?_
      have q96 : (0 : Int32).toInt = 0 := by decide
      exact W.zret (v := 0) hx hb hr rfl (fun t ht hW => ⟨⟨0, 0, rfl, ⟨by first | exact Or.inl ⟨rfl, by omega, by omega, by omega⟩ | exact Or.inr ⟨rfl, by omega⟩, rfl⟩, ad, ct, (fun q => absurd q (by decide)), (fun _ => had), by rw [ht]; exact hP, hD, hI⟩, hS.F ht⟩) hS.2.2 dX8_upper_18
    · skip
      exact absurd c95 (by decide)

set_option maxHeartbeats 4000000 in
set_option maxRecDepth 100000 in
theorem k_X8_blurred (l : Launch) (g : zG) (ad : Nat → Nat) (pe : Int32) (ct : Nat → va_E) (c0 : Int32) (v : Int32) (n : Int32) (hI : Inv8 g ad pe ct) : Met l yX8_blurred (zW yX8_blurred cX8_blurred 4 (some .int)) ({ frames := 2, cells := 0, slots := 0, locals := 46 }) (va_Pc [.ref (ad 0), .int c0, .int v, .int n] (zR g (zw 126 ad ct))) (vp_Si (fun r : Int32 => (((((0 ≤ c0.toInt ∧ c0.toInt ≤ 3) ∧ (0 ≤ v.toInt ∧ v.toInt ≤ 15) ∧ 0 ≤ n.toInt ∧ n.toInt ≤ 4) ∧ r.toInt = zrs (zTr ad (1000 + 100 * (0 + 35 + 5 * c0.toInt.toNat))) n.toInt.toNat v.toInt) ∨ (¬ ((0 ≤ c0.toInt ∧ c0.toInt ≤ 3) ∧ (0 ≤ v.toInt ∧ v.toInt ≤ 15) ∧ 0 ≤ n.toInt ∧ n.toInt ≤ 4) ∧ r.toInt = -1))))) 0 0 (fun _ => False) := by
  refine Met.ofW (cc := cX8_blurred) (maxL := 4) (ret := (some .int)) (by decide) rfl ?_
  intro p e s m args below meth c s₁ B hml hv
  obtain ⟨rfl, hP, hK, hN⟩ := hv
  have hx := B.exec
  have hb := B.bytes
  have hr := B.returns
  have hg := zW.law (atoms_spec (ws := (zW yX8_blurred cX8_blurred 4 (some .int))) B.pre)
  have hown : s.vm.findClass RX8 = some m.cls := findClass_of_methodNamed B.named
  have hlocks := B.notSynchronized
  have hpe0 := hI.1
  have hl := lv_entry ([.ref (ad 0), .int c0, .int v, .int n]) (n := 4) (Nat.le_of_ble_eq_true rfl)
  rw [lg_entry_eq]
  generalize (lg_sl ([.ref (ad 0), .int c0, .int v, .int n]) ++ List.replicate (4 - (lg_sl ([.ref (ad 0), .int c0, .int v, .int n])).length) Slot.unset).toArray = ls at hl ⊢
  have hl : lv_has ls 4 [(0, .ref (ad 0)), (1, .int c0), (2, .int v), (3, .int n)] := hl
  have rg_c0 := z_rng c0
  have rg_v := z_rng v
  have rg_n := z_rng n
  refine lv_iload_n hx hb dX8_blurred_0 rfl (lv_at hl 1 rfl) ?_
  refine zc_i (va_runS (As := [.int c0]) (rest := []) ⟨hx, hb, hml, hown, hg⟩ (k_X8_isColumn l g ad pe ct c0 hI) (va_cwS 1 hg (z_gS mm_404 mm_405 mm_108 mm_406) rfl rfl rfl (by decide +kernel) ⟨Nat.le_of_ble_eq_true rfl, Nat.le_of_ble_eq_true rfl⟩) (zR.pre [.int c0] hP hK hN) rfl rfl hl.1 rfl (lv_room (Nat.le_of_ble_eq_true rfl)) dX8_blurred_1 ⟨Nat.le_of_ble_eq_true rfl, Nat.le_of_ble_eq_true rfl⟩) (fun r1 hr1 => ?_)
  rcases hr1 with hr1 | hr1
  · skip
    obtain ⟨rfl, h2, h3⟩ := hr1
    have h2 : 0 ≤ c0.toInt := h2
    have h3 : c0.toInt ≤ 3 := h3
    refine lv_if_eq (tgt := 21) hx hb dX8_blurred_4 (by decide) (fun c4 => ?_) (fun c4 => ?_)
    · skip
      exact absurd c4 (by decide)
    · skip
      refine lv_iload_n hx hb dX8_blurred_7 rfl (lv_at hl 2 rfl) ?_
      refine zc_i (va_runS (As := [.int v]) (rest := []) ⟨hx, hb, hml, hown, hg⟩ (k_X8_isValue l g ad pe ct v hI) (va_cwS 1 hg (z_gS mm_431 mm_432 mm_108 mm_433) rfl rfl rfl (by decide +kernel) ⟨Nat.le_of_ble_eq_true rfl, Nat.le_of_ble_eq_true rfl⟩) (zR.pre [.int v] hP hK hN) rfl rfl hl.1 rfl (lv_room (Nat.le_of_ble_eq_true rfl)) dX8_blurred_8 ⟨Nat.le_of_ble_eq_true rfl, Nat.le_of_ble_eq_true rfl⟩) (fun r5 hr5 => ?_)
      rcases hr5 with hr5 | hr5
      · skip
        obtain ⟨rfl, h6, h7⟩ := hr5
        have h6 : 0 ≤ v.toInt := h6
        have h7 : v.toInt ≤ 15 := h7
        refine lv_if_eq (tgt := 21) hx hb dX8_blurred_11 (by decide) (fun c8 => ?_) (fun c8 => ?_)
        · skip
          exact absurd c8 (by decide)
        · skip
          refine lv_iload_n hx hb dX8_blurred_14 rfl (lv_at hl 3 rfl) ?_
          refine zc_i (va_runS (As := [.int n]) (rest := []) ⟨hx, hb, hml, hown, hg⟩ (k_X8_isLevel l g ad pe ct n hI) (va_cwS 1 hg (z_gS mm_529 mm_530 mm_108 mm_531) rfl rfl rfl (by decide +kernel) ⟨Nat.le_of_ble_eq_true rfl, Nat.le_of_ble_eq_true rfl⟩) (zR.pre [.int n] hP hK hN) rfl rfl hl.1 rfl (lv_room (Nat.le_of_ble_eq_true rfl)) dX8_blurred_15 ⟨Nat.le_of_ble_eq_true rfl, Nat.le_of_ble_eq_true rfl⟩) (fun r9 hr9 => ?_)
          rcases hr9 with hr9 | hr9
          · skip
            obtain ⟨rfl, h10, h11⟩ := hr9
            have h10 : 0 ≤ n.toInt := h10
            have h11 : n.toInt ≤ 4 := h11
            refine lv_if_ne (tgt := 23) hx hb dX8_blurred_18 (by decide) (fun c12 => ?_) (fun c12 => ?_)
            · skip
              refine lv_aload_n hx hb dX8_blurred_23 rfl (lv_at hl 0 rfl) ?_
              obtain ⟨bk15, dr14, h16, h17, h18, hs13⟩ := a8_0 hI
              refine va_get (D := g.1) (ci := 8) (v := .ref (ad 1)) (C := RX8) (T := TX8) (N := 13) hx hb hg inG8 hown hK hP 0 (zw_at (by omega) hs13) rfl 0 (by decide) (hg _ mm_360) (fun _ h9 => h9) rfl dX8_blurred_24 ?_
              refine lv_iload_n hx hb dX8_blurred_27 rfl (lv_at hl 1 rfl) ?_
              have hs19 := a8_1 hI
              refine va_aldq hx hb hK hP 1 4 (zw_at (by omega) hs19) rfl (z_in rfl (by omega) (by omega)) dX8_blurred_28 ?_
              rw [zF1_at (x := c0) (by omega) (by omega)]
              refine lv_iload_n hx hb dX8_blurred_29 rfl (lv_at hl 2 rfl) ?_
              refine lv_iload_n hx hb dX8_blurred_30 rfl (lv_at hl 3 rfl) ?_
              obtain ⟨we21, se22, h23, h24, hs20⟩ := a8_35 (kc := (0 + 35 + 5 * c0.toInt.toNat)) (by omega) hI
              refine zc_i (va_runV (As := [.int v, .int n]) (rest := []) ⟨hx, hb, hml, hown, hg⟩ (k_X3_raised l g ad pe ct (0 + 35 + 5 * c0.toInt.toNat) v n (by omega) hI) (cwV 2 hg (z_gV mm_532 mm_533 mm_534 mm_115 mm_535) rfl rfl rfl (by decide +kernel) ⟨Nat.le_of_ble_eq_true rfl, Nat.le_of_ble_eq_true rfl⟩) ⟨(zR.pre [.ref (ad (0 + 35 + 5 * c0.toInt.toNat)), .int v, .int n] hP hK hN).1, va_recv hK hP (ci := 3) (q0 := (0 + 35 + 5 * c0.toInt.toNat)) rfl (zw_at (by omega) hs20), (zR.pre [.ref (ad (0 + 35 + 5 * c0.toInt.toNat)), .int v, .int n] hP hK hN).2⟩ rfl rfl hl.1 rfl (lv_room (Nat.le_of_ble_eq_true rfl)) dX8_blurred_31 ⟨Nat.le_of_ble_eq_true rfl, Nat.le_of_ble_eq_true rfl⟩) (fun r25 hr25 => ?_)
              have hr25_0 := hr25
              have hr25_0 : r25.toInt = zrs (zTr ad (1000 + 100 * (0 + 35 + 5 * c0.toInt.toNat))) n.toInt.toNat v.toInt := hr25_0
              exact W.iret (v := r25) hx hb hr (fun t ht hW => ⟨r25, rfl, Or.inl ⟨by omega, hr25_0⟩, ht⟩) (fun q hq => by cases hq) dX8_blurred_34
            · skip
              exact absurd c12 (by decide)
          · skip
            obtain ⟨rfl, h26⟩ := hr9
            have h26 : ¬ (0 ≤ n.toInt ∧ n.toInt ≤ 4) := h26
            refine lv_if_ne (tgt := 23) hx hb dX8_blurred_18 (by decide) (fun c27 => ?_) (fun c27 => ?_)
            · skip
              exact absurd c27 (by decide)
            · skip
              refine lv_iconst (v := (-1)) hx hb dX8_blurred_21 (by decide) ?_
              have q28 : ((-1) : Int32).toInt = -1 := by decide
              exact W.iret (v := (-1)) hx hb hr (fun t ht hW => ⟨(-1), rfl, Or.inr ⟨by omega, by decide⟩, ht⟩) (fun q hq => by cases hq) dX8_blurred_22
      · skip
        obtain ⟨rfl, h29⟩ := hr5
        have h29 : ¬ (0 ≤ v.toInt ∧ v.toInt ≤ 15) := h29
        refine lv_if_eq (tgt := 21) hx hb dX8_blurred_11 (by decide) (fun c30 => ?_) (fun c30 => ?_)
        · skip
          refine lv_iconst (v := (-1)) hx hb dX8_blurred_21 (by decide) ?_
          have q31 : ((-1) : Int32).toInt = -1 := by decide
          exact W.iret (v := (-1)) hx hb hr (fun t ht hW => ⟨(-1), rfl, Or.inr ⟨by omega, by decide⟩, ht⟩) (fun q hq => by cases hq) dX8_blurred_22
        · skip
          exact absurd c30 (by decide)
  · skip
    obtain ⟨rfl, h32⟩ := hr1
    have h32 : ¬ (0 ≤ c0.toInt ∧ c0.toInt ≤ 3) := h32
    refine lv_if_eq (tgt := 21) hx hb dX8_blurred_4 (by decide) (fun c33 => ?_) (fun c33 => ?_)
    · skip
      refine lv_iconst (v := (-1)) hx hb dX8_blurred_21 (by decide) ?_
      have q34 : ((-1) : Int32).toInt = -1 := by decide
      exact W.iret (v := (-1)) hx hb hr (fun t ht hW => ⟨(-1), rfl, Or.inr ⟨by omega, by decide⟩, ht⟩) (fun q hq => by cases hq) dX8_blurred_22
    · skip
      exact absurd c33 (by decide)

set_option maxHeartbeats 4000000 in
set_option maxRecDepth 100000 in
theorem k_X8_size (l : Launch) (g : zG) (ad : Nat → Nat) (pe : Int32) (ct : Nat → va_E) (c0 : Int32) (nd : Int32) (hI : Inv8 g ad pe ct) : Met l yX8_size (zW yX8_size cX8_size 3 (some .int)) ({ frames := 1, cells := 0, slots := 0, locals := 22 }) (va_Pc [.ref (ad 0), .int c0, .int nd] (zR g (zw 126 ad ct))) (vp_Si (fun r : Int32 => (((((0 ≤ c0.toInt ∧ c0.toInt ≤ 3) ∧ 0 ≤ nd.toInt ∧ nd.toInt ≤ 32) ∧ r.toInt = zblN (zTr ad (1000 + 100 * (0 + 35 + 5 * c0.toInt.toNat))) nd.toInt.toNat 16) ∨ (¬ ((0 ≤ c0.toInt ∧ c0.toInt ≤ 3) ∧ 0 ≤ nd.toInt ∧ nd.toInt ≤ 32) ∧ r.toInt = -1))))) 0 0 (fun _ => False) := by
  refine Met.ofW (cc := cX8_size) (maxL := 3) (ret := (some .int)) (by decide) rfl ?_
  intro p e s m args below meth c s₁ B hml hv
  obtain ⟨rfl, hP, hK, hN⟩ := hv
  have hx := B.exec
  have hb := B.bytes
  have hr := B.returns
  have hg := zW.law (atoms_spec (ws := (zW yX8_size cX8_size 3 (some .int))) B.pre)
  have hown : s.vm.findClass RX8 = some m.cls := findClass_of_methodNamed B.named
  have hlocks := B.notSynchronized
  have hpe0 := hI.1
  have hl := lv_entry ([.ref (ad 0), .int c0, .int nd]) (n := 3) (Nat.le_of_ble_eq_true rfl)
  rw [lg_entry_eq]
  generalize (lg_sl ([.ref (ad 0), .int c0, .int nd]) ++ List.replicate (3 - (lg_sl ([.ref (ad 0), .int c0, .int nd])).length) Slot.unset).toArray = ls at hl ⊢
  have hl : lv_has ls 3 [(0, .ref (ad 0)), (1, .int c0), (2, .int nd)] := hl
  have rg_c0 := z_rng c0
  have rg_nd := z_rng nd
  refine lv_iload_n hx hb dX8_size_0 rfl (lv_at hl 1 rfl) ?_
  refine zc_i (va_runS (As := [.int c0]) (rest := []) ⟨hx, hb, hml, hown, hg⟩ (k_X8_isColumn l g ad pe ct c0 hI) (va_cwS 1 hg (z_gS mm_404 mm_405 mm_108 mm_406) rfl rfl rfl (by decide +kernel) ⟨Nat.le_of_ble_eq_true rfl, Nat.le_of_ble_eq_true rfl⟩) (zR.pre [.int c0] hP hK hN) rfl rfl hl.1 rfl (lv_room (Nat.le_of_ble_eq_true rfl)) dX8_size_1 ⟨Nat.le_of_ble_eq_true rfl, Nat.le_of_ble_eq_true rfl⟩) (fun r1 hr1 => ?_)
  rcases hr1 with hr1 | hr1
  · skip
    obtain ⟨rfl, h2, h3⟩ := hr1
    have h2 : 0 ≤ c0.toInt := h2
    have h3 : c0.toInt ≤ 3 := h3
    refine lv_if_eq (tgt := 17) hx hb dX8_size_4 (by decide) (fun c4 => ?_) (fun c4 => ?_)
    · skip
      exact absurd c4 (by decide)
    · skip
      refine lv_iload_n hx hb dX8_size_7 rfl (lv_at hl 2 rfl) ?_
      refine lv_iconst (v := 0) hx hb dX8_size_8 (by decide) ?_
      refine lv_bipush (v := 32) hx hb dX8_size_9 (by decide) ?_
      refine zc_i (va_runS (As := [.int nd, .int 0, .int 32]) (rest := []) ⟨hx, hb, hml, hown, hg⟩ (k_X8_within l g ad pe ct nd (0 : Int32) (32 : Int32) hI) (va_cwS 3 hg (z_gS mm_407 mm_408 mm_108 mm_409) rfl rfl rfl (by decide +kernel) ⟨Nat.le_of_ble_eq_true rfl, Nat.le_of_ble_eq_true rfl⟩) (zR.pre [.int nd, .int 0, .int 32] hP hK hN) rfl rfl hl.1 rfl (lv_room (Nat.le_of_ble_eq_true rfl)) dX8_size_11 ⟨Nat.le_of_ble_eq_true rfl, Nat.le_of_ble_eq_true rfl⟩) (fun r5 hr5 => ?_)
      rcases hr5 with hr5 | hr5
      · skip
        obtain ⟨rfl, h6, h7⟩ := hr5
        have h6 : (0 : Int) ≤ nd.toInt := h6
        have h7 : nd.toInt ≤ (32 : Int) := h7
        refine lv_if_ne (tgt := 19) hx hb dX8_size_14 (by decide) (fun c8 => ?_) (fun c8 => ?_)
        · skip
          refine lv_aload_n hx hb dX8_size_19 rfl (lv_at hl 0 rfl) ?_
          obtain ⟨bk11, dr10, h12, h13, h14, hs9⟩ := a8_0 hI
          refine va_get (D := g.1) (ci := 8) (v := .ref (ad 1)) (C := RX8) (T := TX8) (N := 13) hx hb hg inG8 hown hK hP 0 (zw_at (by omega) hs9) rfl 0 (by decide) (hg _ mm_360) (fun _ h9 => h9) rfl dX8_size_20 ?_
          refine lv_iload_n hx hb dX8_size_23 rfl (lv_at hl 1 rfl) ?_
          have hs15 := a8_1 hI
          refine va_aldq hx hb hK hP 1 4 (zw_at (by omega) hs15) rfl (z_in rfl (by omega) (by omega)) dX8_size_24 ?_
          rw [zF1_at (x := c0) (by omega) (by omega)]
          refine lv_iload_n hx hb dX8_size_25 rfl (lv_at hl 2 rfl) ?_
          obtain ⟨we17, se18, h19, h20, hs16⟩ := a8_35 (kc := (0 + 35 + 5 * c0.toInt.toNat)) (by omega) hI
          refine zc_i (va_runV (As := [.int nd]) (rest := []) ⟨hx, hb, hml, hown, hg⟩ (k_X3_valuesBelow l g ad pe ct (0 + 35 + 5 * c0.toInt.toNat) nd (by omega) hI) (cwV 1 hg (z_gV mm_540 mm_541 mm_542 mm_115 mm_543) rfl rfl rfl (by decide +kernel) ⟨Nat.le_of_ble_eq_true rfl, Nat.le_of_ble_eq_true rfl⟩) ⟨(zR.pre [.ref (ad (0 + 35 + 5 * c0.toInt.toNat)), .int nd] hP hK hN).1, va_recv hK hP (ci := 3) (q0 := (0 + 35 + 5 * c0.toInt.toNat)) rfl (zw_at (by omega) hs16), (zR.pre [.ref (ad (0 + 35 + 5 * c0.toInt.toNat)), .int nd] hP hK hN).2⟩ rfl rfl hl.1 rfl (lv_room (Nat.le_of_ble_eq_true rfl)) dX8_size_26 ⟨Nat.le_of_ble_eq_true rfl, Nat.le_of_ble_eq_true rfl⟩) (fun r21 hr21 => ?_)
          have hr21_0 := hr21
          have hr21_0 : 0 ≤ nd.toInt ∧ nd.toInt ≤ 32 → r21.toInt = zblN (zTr ad (1000 + 100 * (0 + 35 + 5 * c0.toInt.toNat))) nd.toInt.toNat 16 := hr21_0
          exact W.iret (v := r21) hx hb hr (fun t ht hW => ⟨r21, rfl, Or.inl ⟨by omega, hr21_0 (by omega)⟩, ht⟩) (fun q hq => by cases hq) dX8_size_29
        · skip
          exact absurd c8 (by decide)
      · skip
        obtain ⟨rfl, h22⟩ := hr5
        have h22 : ¬ ((0 : Int) ≤ nd.toInt ∧ nd.toInt ≤ (32 : Int)) := h22
        refine lv_if_ne (tgt := 19) hx hb dX8_size_14 (by decide) (fun c23 => ?_) (fun c23 => ?_)
        · skip
          exact absurd c23 (by decide)
        · skip
          refine lv_iconst (v := (-1)) hx hb dX8_size_17 (by decide) ?_
          have q24 : ((-1) : Int32).toInt = -1 := by decide
          exact W.iret (v := (-1)) hx hb hr (fun t ht hW => ⟨(-1), rfl, Or.inr ⟨by omega, by decide⟩, ht⟩) (fun q hq => by cases hq) dX8_size_18
  · skip
    obtain ⟨rfl, h25⟩ := hr1
    have h25 : ¬ (0 ≤ c0.toInt ∧ c0.toInt ≤ 3) := h25
    refine lv_if_eq (tgt := 17) hx hb dX8_size_4 (by decide) (fun c26 => ?_) (fun c26 => ?_)
    · skip
      refine lv_iconst (v := (-1)) hx hb dX8_size_17 (by decide) ?_
      have q27 : ((-1) : Int32).toInt = -1 := by decide
      exact W.iret (v := (-1)) hx hb hr (fun t ht hW => ⟨(-1), rfl, Or.inr ⟨by omega, by decide⟩, ht⟩) (fun q hq => by cases hq) dX8_size_18
    · skip
      exact absurd c26 (by decide)

set_option maxHeartbeats 4000000 in
set_option maxRecDepth 100000 in
theorem k_X8_weight (l : Launch) (g : zG) (sz : Nat) (ad : Nat → Nat) (pe : Int32) (ct : Nat → va_E) (c0 : Int32) (n : Int32) (hI : Inv8 g ad pe ct) : Met l yX8_weight (zW yX8_weight cX8_weight 3 (some .boolean)) ({ frames := 1, cells := 0, slots := 0, locals := 22 }) (va_Pc [.ref (ad 0), .int c0, .int n] (zA g (zw 126 ad ct) sz)) (va_Qi (fun (r : Int32) (_ : Unit) => (r = 1 ∧ (0 ≤ c0.toInt ∧ c0.toInt ≤ 3) ∧ (0 ≤ n.toInt ∧ n.toInt ≤ 99)) ∨ (r = 0 ∧ (¬ ((0 ≤ c0.toInt ∧ c0.toInt ≤ 3) ∧ (0 ≤ n.toInt ∧ n.toInt ≤ 99))))) (fun _ t => ∃ ct2 : Nat → va_E, zP g (zw 126 ad ct2) t.heap ∧ va_D (va_A (zw 126 ad ct) sz) (zw 126 ad ct2) ∧ Inv8 g ad pe ct2) (va_A (zw 126 ad ct) sz)) 0 0 (va_A (zw 126 ad ct) sz) := by
  refine Met.ofW (cc := cX8_weight) (maxL := 3) (ret := (some .boolean)) (by decide) rfl ?_
  intro p e s m args below meth c s₁ B hml hv
  obtain ⟨rfl, hsz, hP, hK, hD0, hN⟩ := hv
  have hx := B.exec
  have hb := B.bytes
  have hr := B.returns
  have hg := zW.law (atoms_spec (ws := (zW yX8_weight cX8_weight 3 (some .boolean))) B.pre)
  have hown : s.vm.findClass RX8 = some m.cls := findClass_of_methodNamed B.named
  have hlocks := B.notSynchronized
  have hpe0 := hI.1
  subst hsz
  have hD := hD0.self (sz := s.heap.size)
  generalize hAe : va_A (zw 126 ad ct) s.heap.size = A at hD ⊢
  have hA : ∀ q : Nat, s.heap.size ≤ q → A q := fun q h => by rw [← hAe]; exact Or.inr h
  have hS : va_S A s.heap s.heap [] := va_S.rf
  have hl := lv_entry ([.ref (ad 0), .int c0, .int n]) (n := 3) (Nat.le_of_ble_eq_true rfl)
  rw [lg_entry_eq]
  generalize (lg_sl ([.ref (ad 0), .int c0, .int n]) ++ List.replicate (3 - (lg_sl ([.ref (ad 0), .int c0, .int n])).length) Slot.unset).toArray = ls at hl ⊢
  have hl : lv_has ls 3 [(0, .ref (ad 0)), (1, .int c0), (2, .int n)] := hl
  have rg_c0 := z_rng c0
  have rg_n := z_rng n
  refine lv_iload_n hx hb dX8_weight_0 rfl (lv_at hl 1 rfl) ?_
  refine zc_i (va_runS (As := [.int c0]) (rest := []) ⟨hx, hb, hml, hown, hg⟩ (k_X8_isColumn l g ad pe ct c0 hI) (va_cwS 1 hg (z_gS mm_404 mm_405 mm_108 mm_406) rfl rfl rfl (by decide +kernel) ⟨Nat.le_of_ble_eq_true rfl, Nat.le_of_ble_eq_true rfl⟩) (zR.pre [.int c0] hP hK hN) rfl rfl hl.1 rfl (lv_room (Nat.le_of_ble_eq_true rfl)) dX8_weight_1 ⟨Nat.le_of_ble_eq_true rfl, Nat.le_of_ble_eq_true rfl⟩) (fun r1 hr1 => ?_)
  rcases hr1 with hr1 | hr1
  · skip
    obtain ⟨rfl, h2, h3⟩ := hr1
    have h2 : 0 ≤ c0.toInt := h2
    have h3 : c0.toInt ≤ 3 := h3
    refine lv_if_eq (tgt := 17) hx hb dX8_weight_4 (by decide) (fun c4 => ?_) (fun c4 => ?_)
    · skip
      exact absurd c4 (by decide)
    · skip
      refine lv_iload_n hx hb dX8_weight_7 rfl (lv_at hl 2 rfl) ?_
      refine lv_iconst (v := 0) hx hb dX8_weight_8 (by decide) ?_
      refine lv_bipush (v := 99) hx hb dX8_weight_9 (by decide) ?_
      refine zc_i (va_runS (As := [.int n, .int 0, .int 99]) (rest := []) ⟨hx, hb, hml, hown, hg⟩ (k_X8_within l g ad pe ct n (0 : Int32) (99 : Int32) hI) (va_cwS 3 hg (z_gS mm_407 mm_408 mm_108 mm_409) rfl rfl rfl (by decide +kernel) ⟨Nat.le_of_ble_eq_true rfl, Nat.le_of_ble_eq_true rfl⟩) (zR.pre [.int n, .int 0, .int 99] hP hK hN) rfl rfl hl.1 rfl (lv_room (Nat.le_of_ble_eq_true rfl)) dX8_weight_11 ⟨Nat.le_of_ble_eq_true rfl, Nat.le_of_ble_eq_true rfl⟩) (fun r5 hr5 => ?_)
      rcases hr5 with hr5 | hr5
      · skip
        obtain ⟨rfl, h6, h7⟩ := hr5
        have h6 : (0 : Int) ≤ n.toInt := h6
        have h7 : n.toInt ≤ (99 : Int) := h7
        refine lv_if_ne (tgt := 19) hx hb dX8_weight_14 (by decide) (fun c8 => ?_) (fun c8 => ?_)
        · skip
          refine lv_aload_n hx hb dX8_weight_19 rfl (lv_at hl 0 rfl) ?_
          obtain ⟨bk11, dr10, h12, h13, h14, hs9⟩ := a8_0 hI
          refine va_get (D := g.1) (ci := 8) (v := .ref (ad 1)) (C := RX8) (T := TX8) (N := 13) hx hb hg inG8 hown hK hP 0 (zw_at (by omega) hs9) rfl 0 (by decide) (hg _ mm_360) (fun _ h9 => h9) rfl dX8_weight_20 ?_
          refine lv_iload_n hx hb dX8_weight_23 rfl (lv_at hl 1 rfl) ?_
          have hs15 := a8_1 hI
          refine va_aldq hx hb hK hP 1 4 (zw_at (by omega) hs15) rfl (z_in rfl (by omega) (by omega)) dX8_weight_24 ?_
          rw [zF1_at (x := c0) (by omega) (by omega)]
          refine lv_iload_n hx hb dX8_weight_25 rfl (lv_at hl 2 rfl) ?_
          obtain ⟨we17, se18, h19, h20, hs16⟩ := a8_35 (kc := (0 + 35 + 5 * c0.toInt.toNat)) (by omega) hI
          refine va_put (D := g.1) (ci := 3) (v := .int n) (ty := .int) (C := RX3) (T := TX3) (N := 6) hx hb hg inG3 tyX3 tyX3_ok nmX3 hown hK hP hD hS (0 + 35 + 5 * c0.toInt.toNat) (zw_at (by omega) hs16) rfl 0 (by decide) (hg _ mm_316) (fun _ h9 => h9) rfl (by decide +kernel) rfl rfl (Nat.le_of_ble_eq_true rfl) dX8_weight_26 (fun H locs hP hD hS => ?_)
          have hP : zP g ((zw 126 ad ct).set (0 + 35 + 5 * c0.toInt.toNat) (ad (0 + 35 + 5 * c0.toInt.toNat), .inr (3, [.int n, .ref (ad ((0 + 35 + 5 * c0.toInt.toNat) + 1)), .ref (ad ((0 + 35 + 5 * c0.toInt.toNat) + 2)), .ref (ad ((0 + 35 + 5 * c0.toInt.toNat) + 3)), .ref (ad ((0 + 35 + 5 * c0.toInt.toNat) + 4)), .int se18]))) H := hP
          have hD : va_D A ((zw 126 ad ct).set (0 + 35 + 5 * c0.toInt.toNat) (ad (0 + 35 + 5 * c0.toInt.toNat), .inr (3, [.int n, .ref (ad ((0 + 35 + 5 * c0.toInt.toNat) + 1)), .ref (ad ((0 + 35 + 5 * c0.toInt.toNat) + 2)), .ref (ad ((0 + 35 + 5 * c0.toInt.toNat) + 3)), .ref (ad ((0 + 35 + 5 * c0.toInt.toNat) + 4)), .int se18]))) := hD
          rw [zw_set (by omega)] at hP hD
          obtain ⟨ct21, ec22⟩ : ∃ z : Nat → va_E, z = va_up ct (0 + 35 + 5 * c0.toInt.toNat) (.inr (3, [.int n, .ref (ad ((0 + 35 + 5 * c0.toInt.toNat) + 1)), .ref (ad ((0 + 35 + 5 * c0.toInt.toNat) + 2)), .ref (ad ((0 + 35 + 5 * c0.toInt.toNat) + 3)), .ref (ad ((0 + 35 + 5 * c0.toInt.toNat) + 4)), .int se18])) := ⟨_, rfl⟩
          rw [← ec22] at hP hD
          have hI : Inv8 g ad pe ct21 := by rw [ec22]; exact up8 hI (i8_35 (kc := (0 + 35 + 5 * c0.toInt.toNat)) (by omega) ⟨(n : Int32), (se18 : Int32), (by first | omega | decide), (by first | omega | decide), rfl⟩)
          have hs23 : ct21 0 = .inr (8, [.ref (ad 1), .ref (ad 2), .ref (ad 3), .ref (ad 5), .ref (ad 6), .ref (ad 9), .ref (ad 10), .ref (ad 17), .ref (ad 21), .ref (ad 34), .ref (ad (99 + 3 * dr10)), .int pe, .int bk11]) := by rw [ec22, va_up_ne _ _ (by omega)]; exact hs9
          have hs24 : ct21 1 = .inl (g.2 4, 4, .inr (.inr (.inr (.inr (zF1 ad 0))))) := by rw [ec22, va_up_ne _ _ (by omega)]; exact hs15
          have hs25 : ct21 (0 + 35 + 5 * c0.toInt.toNat) = .inr (3, [.int n, .ref (ad ((0 + 35 + 5 * c0.toInt.toNat) + 1)), .ref (ad ((0 + 35 + 5 * c0.toInt.toNat) + 2)), .ref (ad ((0 + 35 + 5 * c0.toInt.toNat) + 3)), .ref (ad ((0 + 35 + 5 * c0.toInt.toNat) + 4)), .int se18]) := by rw [ec22]; exact va_up_self _ _ _
          refine lv_iconst (v := 1) hx hb dX8_weight_29 (by decide) ?_
          have q26 : (1 : Int32).toInt = 1 := by decide
          exact W.zret (v := 1) hx hb hr rfl (fun t ht hW => ⟨⟨1, (), rfl, by first | exact Or.inl ⟨rfl, by omega, by omega⟩ | exact Or.inr ⟨rfl, by omega⟩, ct21, by rw [ht]; exact hP, hD, hI⟩, hS.F ht⟩) hS.2.2 dX8_weight_30
        · skip
          exact absurd c8 (by decide)
      · skip
        obtain ⟨rfl, h27⟩ := hr5
        have h27 : ¬ ((0 : Int) ≤ n.toInt ∧ n.toInt ≤ (99 : Int)) := h27
        refine lv_if_ne (tgt := 19) hx hb dX8_weight_14 (by decide) (fun c28 => ?_) (fun c28 => ?_)
        · skip
          exact absurd c28 (by decide)
        · skip
          refine lv_iconst (v := 0) hx hb dX8_weight_17 (by decide) ?_
          have q29 : (0 : Int32).toInt = 0 := by decide
          exact W.zret (v := 0) hx hb hr rfl (fun t ht hW => ⟨⟨0, (), rfl, by first | exact Or.inl ⟨rfl, by omega, by omega⟩ | exact Or.inr ⟨rfl, by omega⟩, ct, by rw [ht]; exact hP, hD, hI⟩, hS.F ht⟩) hS.2.2 dX8_weight_18
  · skip
    obtain ⟨rfl, h30⟩ := hr1
    have h30 : ¬ (0 ≤ c0.toInt ∧ c0.toInt ≤ 3) := h30
    refine lv_if_eq (tgt := 17) hx hb dX8_weight_4 (by decide) (fun c31 => ?_) (fun c31 => ?_)
    · skip
      refine lv_iconst (v := 0) hx hb dX8_weight_17 (by decide) ?_
      have q32 : (0 : Int32).toInt = 0 := by decide
      exact W.zret (v := 0) hx hb hr rfl (fun t ht hW => ⟨⟨0, (), rfl, by first | exact Or.inl ⟨rfl, by omega, by omega⟩ | exact Or.inr ⟨rfl, by omega⟩, ct, by rw [ht]; exact hP, hD, hI⟩, hS.F ht⟩) hS.2.2 dX8_weight_18
    · skip
      exact absurd c31 (by decide)

set_option maxHeartbeats 4000000 in
set_option maxRecDepth 100000 in
theorem k_X8_wish (l : Launch) (g : zG) (sz : Nat) (ad : Nat → Nat) (pe : Int32) (ct : Nat → va_E) (p0 : Int32) (n : Int32) (hI : Inv8 g ad pe ct) : Met l yX8_wish (zW yX8_wish cX8_wish 3 (some .boolean)) ({ frames := 28, cells := 0, slots := 0, locals := 694 }) (va_Pc [.ref (ad 0), .int p0, .int n] (zA g (zw 126 ad ct) sz)) (va_Qi (fun (r : Int32) (_ : Unit) => (r = 1 ∧ (0 ≤ p0.toInt ∧ p0.toInt < pe.toInt) ∧ (0 ≤ n.toInt ∧ n.toInt ≤ 16)) ∨ (r = 0 ∧ (¬ ((0 ≤ p0.toInt ∧ p0.toInt < pe.toInt) ∧ (0 ≤ n.toInt ∧ n.toInt ≤ 16))))) (fun _ t => ∃ ct2 : Nat → va_E, zP g (zw 126 ad ct2) t.heap ∧ va_D (va_A (zw 126 ad ct) sz) (zw 126 ad ct2) ∧ Inv8 g ad pe ct2) (va_A (zw 126 ad ct) sz)) 0 0 (va_A (zw 126 ad ct) sz) := by
  refine Met.ofW (cc := cX8_wish) (maxL := 3) (ret := (some .boolean)) (by decide) rfl ?_
  intro p e s m args below meth c s₁ B hml hv
  obtain ⟨rfl, hsz, hP, hK, hD0, hN⟩ := hv
  have hx := B.exec
  have hb := B.bytes
  have hr := B.returns
  have hg := zW.law (atoms_spec (ws := (zW yX8_wish cX8_wish 3 (some .boolean))) B.pre)
  have hown : s.vm.findClass RX8 = some m.cls := findClass_of_methodNamed B.named
  have hlocks := B.notSynchronized
  have hpe0 := hI.1
  subst hsz
  have hD := hD0.self (sz := s.heap.size)
  generalize hAe : va_A (zw 126 ad ct) s.heap.size = A at hD ⊢
  have hA : ∀ q : Nat, s.heap.size ≤ q → A q := fun q h => by rw [← hAe]; exact Or.inr h
  have hS : va_S A s.heap s.heap [] := va_S.rf
  have hl := lv_entry ([.ref (ad 0), .int p0, .int n]) (n := 3) (Nat.le_of_ble_eq_true rfl)
  rw [lg_entry_eq]
  generalize (lg_sl ([.ref (ad 0), .int p0, .int n]) ++ List.replicate (3 - (lg_sl ([.ref (ad 0), .int p0, .int n])).length) Slot.unset).toArray = ls at hl ⊢
  have hl : lv_has ls 3 [(0, .ref (ad 0)), (1, .int p0), (2, .int n)] := hl
  have rg_p0 := z_rng p0
  have rg_n := z_rng n
  refine lv_aload_n hx hb dX8_wish_0 rfl (lv_at hl 0 rfl) ?_
  refine lv_iload_n hx hb dX8_wish_1 rfl (lv_at hl 1 rfl) ?_
  obtain ⟨bk3, dr2, h4, h5, h6, hs1⟩ := a8_0 hI
  refine zc_i (va_runV (As := [.int p0]) (rest := []) ⟨hx, hb, hml, hown, hg⟩ (k_X8_isPerson l g ad pe ct p0 hI) (cwV 1 hg (z_gV mm_451 mm_453 mm_3 mm_108 mm_454) rfl rfl rfl (by decide +kernel) ⟨Nat.le_of_ble_eq_true rfl, Nat.le_of_ble_eq_true rfl⟩) ⟨(zR.pre [.ref (ad 0), .int p0] hP hK hN).1, va_recv hK hP (ci := 8) (q0 := 0) rfl (zw_at (by omega) hs1), (zR.pre [.ref (ad 0), .int p0] hP hK hN).2⟩ rfl rfl hl.1 rfl (lv_room (Nat.le_of_ble_eq_true rfl)) dX8_wish_2 ⟨Nat.le_of_ble_eq_true rfl, Nat.le_of_ble_eq_true rfl⟩) (fun r7 hr7 => ?_)
  rcases hr7 with hr7 | hr7
  · skip
    obtain ⟨rfl, h8, h9⟩ := hr7
    have h8 : 0 ≤ p0.toInt := h8
    have h9 : p0.toInt < pe.toInt := h9
    refine lv_if_eq (tgt := 18) hx hb dX8_wish_5 (by decide) (fun c10 => ?_) (fun c10 => ?_)
    · skip
      exact absurd c10 (by decide)
    · skip
      refine lv_iload_n hx hb dX8_wish_8 rfl (lv_at hl 2 rfl) ?_
      refine lv_iconst (v := 0) hx hb dX8_wish_9 (by decide) ?_
      refine lv_bipush (v := 16) hx hb dX8_wish_10 (by decide) ?_
      refine zc_i (va_runS (As := [.int n, .int 0, .int 16]) (rest := []) ⟨hx, hb, hml, hown, hg⟩ (k_X8_within l g ad pe ct n (0 : Int32) (16 : Int32) hI) (va_cwS 3 hg (z_gS mm_407 mm_408 mm_108 mm_409) rfl rfl rfl (by decide +kernel) ⟨Nat.le_of_ble_eq_true rfl, Nat.le_of_ble_eq_true rfl⟩) (zR.pre [.int n, .int 0, .int 16] hP hK hN) rfl rfl hl.1 rfl (lv_room (Nat.le_of_ble_eq_true rfl)) dX8_wish_12 ⟨Nat.le_of_ble_eq_true rfl, Nat.le_of_ble_eq_true rfl⟩) (fun r11 hr11 => ?_)
      rcases hr11 with hr11 | hr11
      · skip
        obtain ⟨rfl, h12, h13⟩ := hr11
        have h12 : (0 : Int) ≤ n.toInt := h12
        have h13 : n.toInt ≤ (16 : Int) := h13
        refine lv_if_ne (tgt := 20) hx hb dX8_wish_15 (by decide) (fun c14 => ?_) (fun c14 => ?_)
        · skip
          refine lv_aload_n hx hb dX8_wish_20 rfl (lv_at hl 0 rfl) ?_
          refine va_get (D := g.1) (ci := 8) (v := .ref (ad 2)) (C := RX8) (T := TX8) (N := 13) hx hb hg inG8 hown hK hP 0 (zw_at (by omega) hs1) rfl 1 (by decide) (hg _ mm_361) (fun _ h9 => h9) rfl dX8_wish_21 ?_
          refine lv_iload_n hx hb dX8_wish_24 rfl (lv_at hl 1 rfl) ?_
          refine lv_iload_n hx hb dX8_wish_25 rfl (lv_at hl 2 rfl) ?_
          obtain ⟨f16, hs15⟩ := a8_2 hI
          refine va_iast hx hb hK hP hD hS 2 0 (zw_at (by omega) hs15) rfl (z_in rfl (by omega) (by omega)) dX8_wish_26 (fun H locs hP hD hS => ?_)
          have hP : zP g ((zw 126 ad ct).set 2 (ad 2, .inl (g.2 0, 16, .inl (upd f16 (Int32.toNatClampNeg p0) n)))) H := hP
          have hD : va_D A ((zw 126 ad ct).set 2 (ad 2, .inl (g.2 0, 16, .inl (upd f16 (Int32.toNatClampNeg p0) n)))) := hD
          rw [zw_set (by omega)] at hP hD
          obtain ⟨ct18, ec19⟩ : ∃ z : Nat → va_E, z = va_up ct 2 (.inl (g.2 0, 16, .inl (upd f16 (Int32.toNatClampNeg p0) n))) := ⟨_, rfl⟩
          rw [← ec19] at hP hD
          have hI : Inv8 g ad pe ct18 := by rw [ec19]; exact up8 hI (i8_2 ⟨_, rfl⟩)
          have hs20 : ct18 0 = .inr (8, [.ref (ad 1), .ref (ad 2), .ref (ad 3), .ref (ad 5), .ref (ad 6), .ref (ad 9), .ref (ad 10), .ref (ad 17), .ref (ad 21), .ref (ad 34), .ref (ad (99 + 3 * dr2)), .int pe, .int bk3]) := by rw [ec19, va_up_ne _ _ (by omega)]; exact hs1
          have hs21 : ct18 2 = .inl (g.2 0, 16, .inl (upd f16 (Int32.toNatClampNeg p0) n)) := by rw [ec19]; exact va_up_self _ _ _
          refine lv_aload_n hx hb dX8_wish_27 rfl (lv_at hl 0 rfl) ?_
          refine lv_iload_n hx hb dX8_wish_28 rfl (lv_at hl 1 rfl) ?_
          have hFc := zw_free hD hS hA
          refine va_callv (va_runV (As := [.int p0]) (rest := []) ⟨hx, hb, hml, hown, hg⟩ (k_X8_judgeAll l g _ ad pe ct18 p0 hI) (cwV 1 hg (z_gV mm_439 mm_441 mm_1 mm_108 mm_442) rfl rfl rfl (by decide +kernel) ⟨Nat.le_of_ble_eq_true rfl, Nat.le_of_ble_eq_true rfl⟩) ⟨(zA.pre [.ref (ad 0), .int p0] hP hK hD hN).1, va_recv hK hP (ci := 8) (q0 := 0) rfl (zw_at (by omega) hs20), (zA.pre [.ref (ad 0), .int p0] hP hK hD hN).2⟩ rfl rfl hl.1 rfl (lv_room (Nat.le_of_ble_eq_true rfl)) dX8_wish_29 ⟨Nat.le_of_ble_eq_true rfl, Nat.le_of_ble_eq_true rfl⟩) hS (fun q _ h => hFc q h) hFc (fun _ t H1 locs ht hvm hr22 hB hz1 hk1 hS => ?_)
          obtain ⟨ct23, hP1, hD1, hI⟩ := hB
          rw [ht] at hP1
          have hD := hD1.weaken (fun _ _ _ h => hFc _ h)
          generalize H1 = H at hP1 hS ⊢
          have hP := hP1
          refine W.widen (k := 0) (n := 0) (Nat.le_refl _) (Nat.le_refl _) ?_
          refine lv_iconst (v := 1) hx hb dX8_wish_32 (by decide) ?_
          have q24 : (1 : Int32).toInt = 1 := by decide
          exact W.zret (v := 1) hx hb hr rfl (fun t ht hW => ⟨⟨1, (), rfl, by first | exact Or.inl ⟨rfl, by omega, by omega⟩ | exact Or.inr ⟨rfl, by omega⟩, ct23, by rw [ht]; exact hP, hD, hI⟩, hS.F ht⟩) hS.2.2 dX8_wish_33
        · skip
          exact absurd c14 (by decide)
      · skip
        obtain ⟨rfl, h25⟩ := hr11
        have h25 : ¬ ((0 : Int) ≤ n.toInt ∧ n.toInt ≤ (16 : Int)) := h25
        refine lv_if_ne (tgt := 20) hx hb dX8_wish_15 (by decide) (fun c26 => ?_) (fun c26 => ?_)
        · skip
          exact absurd c26 (by decide)
        · skip
          refine lv_iconst (v := 0) hx hb dX8_wish_18 (by decide) ?_
          have q27 : (0 : Int32).toInt = 0 := by decide
          exact W.zret (v := 0) hx hb hr rfl (fun t ht hW => ⟨⟨0, (), rfl, by first | exact Or.inl ⟨rfl, by omega, by omega⟩ | exact Or.inr ⟨rfl, by omega⟩, ct, by rw [ht]; exact hP, hD, hI⟩, hS.F ht⟩) hS.2.2 dX8_wish_19
  · skip
    obtain ⟨rfl, h28⟩ := hr7
    have h28 : ¬ (0 ≤ p0.toInt ∧ p0.toInt < pe.toInt) := h28
    refine lv_if_eq (tgt := 18) hx hb dX8_wish_5 (by decide) (fun c29 => ?_) (fun c29 => ?_)
    · skip
      refine lv_iconst (v := 0) hx hb dX8_wish_18 (by decide) ?_
      have q30 : (0 : Int32).toInt = 0 := by decide
      exact W.zret (v := 0) hx hb hr rfl (fun t ht hW => ⟨⟨0, (), rfl, by first | exact Or.inl ⟨rfl, by omega, by omega⟩ | exact Or.inr ⟨rfl, by omega⟩, ct, by rw [ht]; exact hP, hD, hI⟩, hS.F ht⟩) hS.2.2 dX8_wish_19
    · skip
      exact absurd c29 (by decide)

set_option maxHeartbeats 4000000 in
set_option maxRecDepth 100000 in
theorem k_X8_feed (l : Launch) (g : zG) (sz : Nat) (ad : Nat → Nat) (pe : Int32) (ct : Nat → va_E) (a0 : Int32) (b0 : Int32) (c0 : Int32) (d0 : Int32) (e0 : Int32) (hI : Inv8 g ad pe ct) : Met l yX8_feed (zW yX8_feed cX8_feed 6 (some .int)) ({ frames := 1, cells := 0, slots := 0, locals := 22 }) (va_Pc [.ref (ad 0), .int a0, .int b0, .int c0, .int d0, .int e0] (zA g (zw 126 ad ct) sz)) (va_Qi (fun (r : Int32) (_ : Unit) => (True)) (fun _ t => ∃ ct2 : Nat → va_E, zP g (zw 126 ad ct2) t.heap ∧ va_D (va_A (zw 126 ad ct) sz) (zw 126 ad ct2) ∧ Inv8 g ad pe ct2) (va_A (zw 126 ad ct) sz)) 0 0 (va_A (zw 126 ad ct) sz) := by
  refine Met.ofW (cc := cX8_feed) (maxL := 6) (ret := (some .int)) (by decide) rfl ?_
  intro p e s m args below meth c s₁ B hml hv
  obtain ⟨rfl, hsz, hP, hK, hD0, hN⟩ := hv
  have hx := B.exec
  have hb := B.bytes
  have hr := B.returns
  have hg := zW.law (atoms_spec (ws := (zW yX8_feed cX8_feed 6 (some .int))) B.pre)
  have hown : s.vm.findClass RX8 = some m.cls := findClass_of_methodNamed B.named
  have hlocks := B.notSynchronized
  have hpe0 := hI.1
  subst hsz
  have hD := hD0.self (sz := s.heap.size)
  generalize hAe : va_A (zw 126 ad ct) s.heap.size = A at hD ⊢
  have hA : ∀ q : Nat, s.heap.size ≤ q → A q := fun q h => by rw [← hAe]; exact Or.inr h
  have hS : va_S A s.heap s.heap [] := va_S.rf
  have hl := lv_entry ([.ref (ad 0), .int a0, .int b0, .int c0, .int d0, .int e0]) (n := 6) (Nat.le_of_ble_eq_true rfl)
  rw [lg_entry_eq]
  generalize (lg_sl ([.ref (ad 0), .int a0, .int b0, .int c0, .int d0, .int e0]) ++ List.replicate (6 - (lg_sl ([.ref (ad 0), .int a0, .int b0, .int c0, .int d0, .int e0])).length) Slot.unset).toArray = ls at hl ⊢
  have hl : lv_has ls 6 [(0, .ref (ad 0)), (1, .int a0), (2, .int b0), (3, .int c0), (4, .int d0), (5, .int e0)] := hl
  have rg_a0 := z_rng a0
  have rg_b0 := z_rng b0
  have rg_c0 := z_rng c0
  have rg_d0 := z_rng d0
  have rg_e0 := z_rng e0
  refine lv_aload_n hx hb dX8_feed_0 rfl (lv_at hl 0 rfl) ?_
  obtain ⟨bk3, dr2, h4, h5, h6, hs1⟩ := a8_0 hI
  refine va_get (D := g.1) (ci := 8) (v := .ref (ad 3)) (C := RX8) (T := TX8) (N := 13) hx hb hg inG8 hown hK hP 0 (zw_at (by omega) hs1) rfl 2 (by decide) (hg _ mm_362) (fun _ h9 => h9) rfl dX8_feed_1 ?_
  obtain ⟨len8, h9, h10, hs7⟩ := a8_3 hI
  refine va_get (D := g.1) (ci := 7) (v := .int len8) (C := RX7) (T := TX7) (N := 2) hx hb hg inG7 hown hK hP 3 (zw_at (by omega) hs7) rfl 0 (by decide) (hg _ mm_137) (fun _ h9 => h9) rfl dX8_feed_4 ?_
  refine lv_bipush (v := 20) hx hb dX8_feed_7 (by decide) ?_
  refine lv_iadd hx hb dX8_feed_9 ?_
  refine lv_topi (fun x11 ex11 => ?_)
  have tx11 : x11.toInt = len8.toInt + 20 := by rw [ex11]; exact z_add rfl (by decide : (20 : Int32).toInt = 20) (by omega) (by omega)
  refine lv_sipush (v := 200) hx hb dX8_feed_10 (by decide) ?_
  refine lv_icmp_le (tgt := 18) hx hb dX8_feed_13 (by decide) (fun c12 => ?_) (fun c12 => ?_)
  · skip
    have c12 : x11.toInt ≤ 200 := (z_le rfl (by decide : (200 : Int32).toInt = 200)).mp c12
    refine lv_aload_n hx hb dX8_feed_18 rfl (lv_at hl 0 rfl) ?_
    refine va_get (D := g.1) (ci := 8) (v := .ref (ad 3)) (C := RX8) (T := TX8) (N := 13) hx hb hg inG8 hown hK hP 0 (zw_at (by omega) hs1) rfl 2 (by decide) (hg _ mm_362) (fun _ h9 => h9) rfl dX8_feed_19 ?_
    refine lv_iload_n hx hb dX8_feed_22 rfl (lv_at hl 1 rfl) ?_
    have hFc := zw_free hD hS hA
    refine va_callv (va_runV (As := [.int a0]) (rest := []) ⟨hx, hb, hml, hown, hg⟩ (k_X7_append l g _ ad pe ct a0 hI) (cwV 1 hg (z_gV mm_521 mm_522 mm_523 mm_109 mm_524) rfl rfl rfl (by decide +kernel) ⟨Nat.le_of_ble_eq_true rfl, Nat.le_of_ble_eq_true rfl⟩) ⟨(zA.pre [.ref (ad 3), .int a0] hP hK hD hN).1, va_recv hK hP (ci := 7) (q0 := 3) rfl (zw_at (by omega) hs7), (zA.pre [.ref (ad 3), .int a0] hP hK hD hN).2⟩ rfl rfl hl.1 rfl (lv_room (Nat.le_of_ble_eq_true rfl)) dX8_feed_23 ⟨Nat.le_of_ble_eq_true rfl, Nat.le_of_ble_eq_true rfl⟩) hS (fun q _ h => hFc q h) hFc (fun _ t H1 locs ht hvm hr13 hB hz1 hk1 hS => ?_)
    obtain ⟨ct14, hP1, hD1, hI⟩ := hB
    rw [ht] at hP1
    have hD := hD1.weaken (fun _ _ _ h => hFc _ h)
    generalize H1 = H at hP1 hS ⊢
    have hP := hP1
    refine W.widen (k := 0) (n := 0) (Nat.le_refl _) (Nat.le_refl _) ?_
    refine lv_aload_n hx hb dX8_feed_26 rfl (lv_at hl 0 rfl) ?_
    obtain ⟨bk17, dr16, h18, h19, h20, hs15⟩ := a8_0 hI
    refine va_get (D := g.1) (ci := 8) (v := .ref (ad 3)) (C := RX8) (T := TX8) (N := 13) hx hb hg inG8 hown hK hP 0 (zw_at (by omega) hs15) rfl 2 (by decide) (hg _ mm_362) (fun _ h9 => h9) rfl dX8_feed_27 ?_
    refine lv_iload_n hx hb dX8_feed_30 rfl (lv_at hl 2 rfl) ?_
    obtain ⟨len22, h23, h24, hs21⟩ := a8_3 hI
    have hFc := zw_free hD hS hA
    refine va_callv (va_runV (As := [.int b0]) (rest := []) ⟨hx, hb, hml, hown, hg⟩ (k_X7_append l g _ ad pe ct14 b0 hI) (cwV 1 hg (z_gV mm_521 mm_522 mm_523 mm_109 mm_524) rfl rfl rfl (by decide +kernel) ⟨Nat.le_of_ble_eq_true rfl, Nat.le_of_ble_eq_true rfl⟩) ⟨(zA.pre [.ref (ad 3), .int b0] hP hK hD hN).1, va_recv hK hP (ci := 7) (q0 := 3) rfl (zw_at (by omega) hs21), (zA.pre [.ref (ad 3), .int b0] hP hK hD hN).2⟩ rfl rfl hl.1 rfl (lv_room (Nat.le_of_ble_eq_true rfl)) dX8_feed_31 ⟨Nat.le_of_ble_eq_true rfl, Nat.le_of_ble_eq_true rfl⟩) hS (fun q _ h => hFc q h) hFc (fun _ t H1 locs ht hvm hr25 hB hz1 hk1 hS => ?_)
    obtain ⟨ct26, hP1, hD1, hI⟩ := hB
    rw [ht] at hP1
    have hD := hD1.weaken (fun _ _ _ h => hFc _ h)
    generalize H1 = H at hP1 hS ⊢
    have hP := hP1
    refine W.widen (k := 0) (n := 0) (Nat.le_refl _) (Nat.le_refl _) ?_
    refine lv_aload_n hx hb dX8_feed_34 rfl (lv_at hl 0 rfl) ?_
    obtain ⟨bk29, dr28, h30, h31, h32, hs27⟩ := a8_0 hI
    refine va_get (D := g.1) (ci := 8) (v := .ref (ad 3)) (C := RX8) (T := TX8) (N := 13) hx hb hg inG8 hown hK hP 0 (zw_at (by omega) hs27) rfl 2 (by decide) (hg _ mm_362) (fun _ h9 => h9) rfl dX8_feed_35 ?_
    refine lv_iload_n hx hb dX8_feed_38 rfl (lv_at hl 3 rfl) ?_
    obtain ⟨len34, h35, h36, hs33⟩ := a8_3 hI
    have hFc := zw_free hD hS hA
    refine va_callv (va_runV (As := [.int c0]) (rest := []) ⟨hx, hb, hml, hown, hg⟩ (k_X7_append l g _ ad pe ct26 c0 hI) (cwV 1 hg (z_gV mm_521 mm_522 mm_523 mm_109 mm_524) rfl rfl rfl (by decide +kernel) ⟨Nat.le_of_ble_eq_true rfl, Nat.le_of_ble_eq_true rfl⟩) ⟨(zA.pre [.ref (ad 3), .int c0] hP hK hD hN).1, va_recv hK hP (ci := 7) (q0 := 3) rfl (zw_at (by omega) hs33), (zA.pre [.ref (ad 3), .int c0] hP hK hD hN).2⟩ rfl rfl hl.1 rfl (lv_room (Nat.le_of_ble_eq_true rfl)) dX8_feed_39 ⟨Nat.le_of_ble_eq_true rfl, Nat.le_of_ble_eq_true rfl⟩) hS (fun q _ h => hFc q h) hFc (fun _ t H1 locs ht hvm hr37 hB hz1 hk1 hS => ?_)
    obtain ⟨ct38, hP1, hD1, hI⟩ := hB
    rw [ht] at hP1
    have hD := hD1.weaken (fun _ _ _ h => hFc _ h)
    generalize H1 = H at hP1 hS ⊢
    have hP := hP1
    refine W.widen (k := 0) (n := 0) (Nat.le_refl _) (Nat.le_refl _) ?_
    refine lv_aload_n hx hb dX8_feed_42 rfl (lv_at hl 0 rfl) ?_
    obtain ⟨bk41, dr40, h42, h43, h44, hs39⟩ := a8_0 hI
    refine va_get (D := g.1) (ci := 8) (v := .ref (ad 3)) (C := RX8) (T := TX8) (N := 13) hx hb hg inG8 hown hK hP 0 (zw_at (by omega) hs39) rfl 2 (by decide) (hg _ mm_362) (fun _ h9 => h9) rfl dX8_feed_43 ?_
    refine lv_iload hx hb dX8_feed_46 (lv_at hl 4 rfl) ?_
    obtain ⟨len46, h47, h48, hs45⟩ := a8_3 hI
    have hFc := zw_free hD hS hA
    refine va_callv (va_runV (As := [.int d0]) (rest := []) ⟨hx, hb, hml, hown, hg⟩ (k_X7_append l g _ ad pe ct38 d0 hI) (cwV 1 hg (z_gV mm_521 mm_522 mm_523 mm_109 mm_524) rfl rfl rfl (by decide +kernel) ⟨Nat.le_of_ble_eq_true rfl, Nat.le_of_ble_eq_true rfl⟩) ⟨(zA.pre [.ref (ad 3), .int d0] hP hK hD hN).1, va_recv hK hP (ci := 7) (q0 := 3) rfl (zw_at (by omega) hs45), (zA.pre [.ref (ad 3), .int d0] hP hK hD hN).2⟩ rfl rfl hl.1 rfl (lv_room (Nat.le_of_ble_eq_true rfl)) dX8_feed_48 ⟨Nat.le_of_ble_eq_true rfl, Nat.le_of_ble_eq_true rfl⟩) hS (fun q _ h => hFc q h) hFc (fun _ t H1 locs ht hvm hr49 hB hz1 hk1 hS => ?_)
    obtain ⟨ct50, hP1, hD1, hI⟩ := hB
    rw [ht] at hP1
    have hD := hD1.weaken (fun _ _ _ h => hFc _ h)
    generalize H1 = H at hP1 hS ⊢
    have hP := hP1
    refine W.widen (k := 0) (n := 0) (Nat.le_refl _) (Nat.le_refl _) ?_
    refine lv_aload_n hx hb dX8_feed_51 rfl (lv_at hl 0 rfl) ?_
    obtain ⟨bk53, dr52, h54, h55, h56, hs51⟩ := a8_0 hI
    refine va_get (D := g.1) (ci := 8) (v := .ref (ad 3)) (C := RX8) (T := TX8) (N := 13) hx hb hg inG8 hown hK hP 0 (zw_at (by omega) hs51) rfl 2 (by decide) (hg _ mm_362) (fun _ h9 => h9) rfl dX8_feed_52 ?_
    refine lv_iload hx hb dX8_feed_55 (lv_at hl 5 rfl) ?_
    obtain ⟨len58, h59, h60, hs57⟩ := a8_3 hI
    have hFc := zw_free hD hS hA
    refine va_callv (va_runV (As := [.int e0]) (rest := []) ⟨hx, hb, hml, hown, hg⟩ (k_X7_append l g _ ad pe ct50 e0 hI) (cwV 1 hg (z_gV mm_521 mm_522 mm_523 mm_109 mm_524) rfl rfl rfl (by decide +kernel) ⟨Nat.le_of_ble_eq_true rfl, Nat.le_of_ble_eq_true rfl⟩) ⟨(zA.pre [.ref (ad 3), .int e0] hP hK hD hN).1, va_recv hK hP (ci := 7) (q0 := 3) rfl (zw_at (by omega) hs57), (zA.pre [.ref (ad 3), .int e0] hP hK hD hN).2⟩ rfl rfl hl.1 rfl (lv_room (Nat.le_of_ble_eq_true rfl)) dX8_feed_57 ⟨Nat.le_of_ble_eq_true rfl, Nat.le_of_ble_eq_true rfl⟩) hS (fun q _ h => hFc q h) hFc (fun _ t H1 locs ht hvm hr61 hB hz1 hk1 hS => ?_)
    obtain ⟨ct62, hP1, hD1, hI⟩ := hB
    rw [ht] at hP1
    have hD := hD1.weaken (fun _ _ _ h => hFc _ h)
    generalize H1 = H at hP1 hS ⊢
    have hP := hP1
    refine W.widen (k := 0) (n := 0) (Nat.le_refl _) (Nat.le_refl _) ?_
    refine lv_aload_n hx hb dX8_feed_60 rfl (lv_at hl 0 rfl) ?_
    obtain ⟨bk65, dr64, h66, h67, h68, hs63⟩ := a8_0 hI
    refine va_get (D := g.1) (ci := 8) (v := .ref (ad 3)) (C := RX8) (T := TX8) (N := 13) hx hb hg inG8 hown hK hP 0 (zw_at (by omega) hs63) rfl 2 (by decide) (hg _ mm_362) (fun _ h9 => h9) rfl dX8_feed_61 ?_
    obtain ⟨len70, h71, h72, hs69⟩ := a8_3 hI
    refine va_get (D := g.1) (ci := 7) (v := .int len70) (C := RX7) (T := TX7) (N := 2) hx hb hg inG7 hown hK hP 3 (zw_at (by omega) hs69) rfl 0 (by decide) (hg _ mm_137) (fun _ h9 => h9) rfl dX8_feed_64 ?_
    exact W.iret (v := len70) hx hb hr (fun t ht hW => ⟨⟨len70, (), rfl, trivial, ct62, by rw [ht]; exact hP, hD, hI⟩, hS.F ht⟩) hS.2.2 dX8_feed_67
  · skip
    have c12 : ¬ (x11.toInt ≤ 200) := fun q => c12 ((z_le rfl (by decide : (200 : Int32).toInt = 200)).mpr q)
    refine lv_iconst (v := (-1)) hx hb dX8_feed_16 (by decide) ?_
    have q73 : ((-1) : Int32).toInt = -1 := by decide
    exact W.iret (v := (-1)) hx hb hr (fun t ht hW => ⟨⟨(-1), (), rfl, trivial, ct, by rw [ht]; exact hP, hD, hI⟩, hS.F ht⟩) hS.2.2 dX8_feed_17
