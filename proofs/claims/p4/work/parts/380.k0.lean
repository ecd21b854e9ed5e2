set_option maxHeartbeats 4000000 in
set_option maxRecDepth 100000 in
theorem k_X0_forget (l : Launch) (g : zG) (sz : Nat) (ad : Nat → Nat) (pe : Int32) (ct : Nat → va_E) (hI : Inv8 g ad pe ct) : Met l yX0_forget (zW yX0_forget cX0_forget 1 none) ({ frames := 0, cells := 0, slots := 0, locals := 0 }) (va_Pc [.ref (ad 17)] (zA g (zw 126 ad ct) sz)) (va_Qv (fun (_ : Unit) => True) (fun _ t => ∃ ct2 : Nat → va_E, zP g (zw 126 ad ct2) t.heap ∧ va_D (va_A (zw 126 ad ct) sz) (zw 126 ad ct2) ∧ Inv8 g ad pe ct2) (va_A (zw 126 ad ct) sz)) 0 0 (va_A (zw 126 ad ct) sz) := by
  refine Met.ofW (cc := cX0_forget) (maxL := 1) (ret := none) (by decide) rfl ?_
  intro p e s m args below meth c s₁ B hml hv
  obtain ⟨rfl, hsz, hP, hK, hD0, hN⟩ := hv
  have hx := B.exec
  have hb := B.bytes
  have hr := B.returns
  have hg := zW.law (atoms_spec (ws := (zW yX0_forget cX0_forget 1 none)) B.pre)
  have hown : s.vm.findClass RX0 = some m.cls := findClass_of_methodNamed B.named
  have hlocks := B.notSynchronized
  have hpe0 := hI.1
  subst hsz
  have hD := hD0.self (sz := s.heap.size)
  generalize hAe : va_A (zw 126 ad ct) s.heap.size = A at hD ⊢
  have hA : ∀ q : Nat, s.heap.size ≤ q → A q := fun q h => by rw [← hAe]; exact Or.inr h
  have hS : va_S A s.heap s.heap [] := va_S.rf
  have hl := lv_entry ([.ref (ad 17)]) (n := 1) (Nat.le_of_ble_eq_true rfl)
  rw [lg_entry_eq]
  generalize (lg_sl ([.ref (ad 17)]) ++ List.replicate (1 - (lg_sl ([.ref (ad 17)])).length) Slot.unset).toArray = ls at hl ⊢
  have hl : lv_has ls 1 [(0, .ref (ad 17))] := hl
  refine lv_aload_n hx hb dX0_forget_0 rfl (lv_at hl 0 rfl) ?_
  refine lv_dup hx hb dX0_forget_1 rfl ?_
  obtain ⟨spc2, tim3, h4, h5, hs1⟩ := a8_17 hI
  refine va_get (D := g.1) (ci := 0) (v := .int tim3) (C := RX0) (T := TX0) (N := 5) hx hb hg inG0 hown hK hP 17 (zw_at (by omega) hs1) rfl 4 (by decide) (hg _ mm_221) (fun _ h9 => h9) rfl dX0_forget_2 ?_
  refine lv_iconst (v := 1) hx hb dX0_forget_5 (by decide) ?_
  refine lv_iadd hx hb dX0_forget_6 ?_
  refine lv_topi (fun x6 ex6 => ?_)
  refine va_put (D := g.1) (ci := 0) (v := .int x6) (ty := .int) (C := RX0) (T := TX0) (N := 5) hx hb hg inG0 tyX0 tyX0_ok nmX0 hown hK hP hD hS 17 (zw_at (by omega) hs1) rfl 4 (by decide) (hg _ mm_221) (fun _ h9 => h9) rfl (by decide +kernel) rfl rfl (Nat.le_of_ble_eq_true rfl) dX0_forget_7 (fun H locs hP hD hS => ?_)
  have hP : zP g ((zw 126 ad ct).set 17 (ad 17, .inr (0, [.ref (ad 18), .int spc2, .ref (ad 19), .ref (ad 20), .int x6]))) H := hP
  have hD : va_D A ((zw 126 ad ct).set 17 (ad 17, .inr (0, [.ref (ad 18), .int spc2, .ref (ad 19), .ref (ad 20), .int x6]))) := hD
  rw [zw_set (by omega)] at hP hD
  obtain ⟨ct7, ec8⟩ : ∃ z : Nat → va_E, z = va_up ct 17 (.inr (0, [.ref (ad 18), .int spc2, .ref (ad 19), .ref (ad 20), .int x6])) := ⟨_, rfl⟩
  rw [← ec8] at hP hD
  have hI : Inv8 g ad pe ct7 := by rw [ec8]; exact up8 hI (i8_17 ⟨(spc2 : Int32), (x6 : Int32), (by first | omega | decide), (by first | omega | decide), rfl⟩)
  have hs9 : ct7 17 = .inr (0, [.ref (ad 18), .int spc2, .ref (ad 19), .ref (ad 20), .int x6]) := by rw [ec8]; exact va_up_self _ _ _
  exact W.vret hx hb hr (fun t ht hW => ⟨⟨(), rfl, trivial, ct7, by rw [ht]; exact hP, hD, hI⟩, hS.F ht⟩) hS.2.2 dX0_forget_10

set_option maxHeartbeats 4000000 in
set_option maxRecDepth 100000 in
theorem k_X8_upper (l : Launch) (g : zG) (sz : Nat) (ad : Nat → Nat) (pe : Int32) (ct : Nat → va_E) (c0 : Int32) (nd : Int32) (up : Int32) (hI : Inv8 g ad pe ct) : Met l yX8_upper (zW yX8_upper cX8_upper 4 (some .boolean)) ({ frames := 3, cells := 0, slots := 0, locals := 70 }) (va_Pc [.ref (ad 0), .int c0, .int nd, .int up] (zA g (zw 126 ad ct) sz)) (va_Qi (fun (r : Int32) (_ : Unit) => (r = 1 ∧ (0 ≤ c0.toInt ∧ c0.toInt ≤ 3) ∧ (0 ≤ nd.toInt ∧ nd.toInt ≤ 31) ∧ (up.toInt = -1 ∨ (16 ≤ up.toInt ∧ up.toInt ≤ 31 ∧ nd.toInt < up.toInt))) ∨ (r = 0 ∧ (¬ ((0 ≤ c0.toInt ∧ c0.toInt ≤ 3) ∧ (0 ≤ nd.toInt ∧ nd.toInt ≤ 31) ∧ (up.toInt = -1 ∨ (16 ≤ up.toInt ∧ up.toInt ≤ 31 ∧ nd.toInt < up.toInt)))))) (fun _ t => ∃ ct2 : Nat → va_E, zP g (zw 126 ad ct2) t.heap ∧ va_D (va_A (zw 126 ad ct) sz) (zw 126 ad ct2) ∧ Inv8 g ad pe ct2) (va_A (zw 126 ad ct) sz)) 0 0 (va_A (zw 126 ad ct) sz) := by
  refine Met.ofW (cc := cX8_upper) (maxL := 4) (ret := (some .boolean)) (by decide) rfl ?_
  intro p e s m args below meth c s₁ B hml hv
  obtain ⟨rfl, hsz, hP, hK, hD0, hN⟩ := hv
  have hx := B.exec
  have hb := B.bytes
  have hr := B.returns
  have hg := zW.law (atoms_spec (ws := (zW yX8_upper cX8_upper 4 (some .boolean))) B.pre)
  have hown : s.vm.findClass RX8 = some m.cls := findClass_of_methodNamed B.named
  have hlocks := B.notSynchronized
  have hpe0 := hI.1
  subst hsz
  have hD := hD0.self (sz := s.heap.size)
  generalize hAe : va_A (zw 126 ad ct) s.heap.size = A at hD ⊢
  have hA : ∀ q : Nat, s.heap.size ≤ q → A q := fun q h => by rw [← hAe]; exact Or.inr h
  have hS : va_S A s.heap s.heap [] := va_S.rf
  have hl := lv_entry ([.ref (ad 0), .int c0, .int nd, .int up]) (n := 4) (Nat.le_of_ble_eq_true rfl)
  rw [lg_entry_eq]
  generalize (lg_sl ([.ref (ad 0), .int c0, .int nd, .int up]) ++ List.replicate (4 - (lg_sl ([.ref (ad 0), .int c0, .int nd, .int up])).length) Slot.unset).toArray = ls at hl ⊢
  have hl : lv_has ls 4 [(0, .ref (ad 0)), (1, .int c0), (2, .int nd), (3, .int up)] := hl
  have rg_c0 := z_rng c0
  have rg_nd := z_rng nd
  have rg_up := z_rng up
  refine lv_iload_n hx hb dX8_upper_0 rfl (lv_at hl 1 rfl) ?_
  refine zc_i (va_runS (As := [.int c0]) (rest := []) ⟨hx, hb, hml, hown, hg⟩ (k_X8_isColumn l g ad pe ct c0 hI) (va_cwS 1 hg (z_gS mm_404 mm_405 mm_108 mm_406) rfl rfl rfl (by decide +kernel) ⟨Nat.le_of_ble_eq_true rfl, Nat.le_of_ble_eq_true rfl⟩) (zR.pre [.int c0] hP hK hN) rfl rfl hl.1 rfl (lv_room (Nat.le_of_ble_eq_true rfl)) dX8_upper_1 ⟨Nat.le_of_ble_eq_true rfl, Nat.le_of_ble_eq_true rfl⟩) (fun r1 hr1 => ?_)
  rcases hr1 with hr1 | hr1
  · skip
    obtain ⟨rfl, h2, h3⟩ := hr1
    have h2 : 0 ≤ c0.toInt := h2
    have h3 : c0.toInt ≤ 3 := h3
    refine lv_if_eq (tgt := 17) hx hb dX8_upper_4 (by decide) (fun c4 => ?_) (fun c4 => ?_)
    · skip
      exact absurd c4 (by decide)
    · skip
      refine lv_iload_n hx hb dX8_upper_7 rfl (lv_at hl 2 rfl) ?_
      refine lv_iconst (v := 0) hx hb dX8_upper_8 (by decide) ?_
      refine lv_bipush (v := 31) hx hb dX8_upper_9 (by decide) ?_
      refine zc_i (va_runS (As := [.int nd, .int 0, .int 31]) (rest := []) ⟨hx, hb, hml, hown, hg⟩ (k_X8_within l g ad pe ct nd (0 : Int32) (31 : Int32) hI) (va_cwS 3 hg (z_gS mm_407 mm_408 mm_108 mm_409) rfl rfl rfl (by decide +kernel) ⟨Nat.le_of_ble_eq_true rfl, Nat.le_of_ble_eq_true rfl⟩) (zR.pre [.int nd, .int 0, .int 31] hP hK hN) rfl rfl hl.1 rfl (lv_room (Nat.le_of_ble_eq_true rfl)) dX8_upper_11 ⟨Nat.le_of_ble_eq_true rfl, Nat.le_of_ble_eq_true rfl⟩) (fun r5 hr5 => ?_)
      rcases hr5 with hr5 | hr5
      · skip
        obtain ⟨rfl, h6, h7⟩ := hr5
        have h6 : (0 : Int) ≤ nd.toInt := h6
        have h7 : nd.toInt ≤ (31 : Int) := h7
        refine lv_if_ne (tgt := 19) hx hb dX8_upper_14 (by decide) (fun c8 => ?_) (fun c8 => ?_)
        · skip
          refine lv_iload_n hx hb dX8_upper_19 rfl (lv_at hl 3 rfl) ?_
          refine lv_iconst (v := (-1)) hx hb dX8_upper_20 (by decide) ?_
          refine lv_icmp_eq (tgt := 42) hx hb dX8_upper_21 (by decide) (fun c9 => ?_) (fun c9 => ?_)
          · skip
            have c9 : up.toInt = (-1) := (z_eq rfl (by decide : ((-1) : Int32).toInt = (-1))).mp c9
            refine lv_aload_n hx hb dX8_upper_42 rfl (lv_at hl 0 rfl) ?_
            obtain ⟨bk12, dr11, h13, h14, h15, hs10⟩ := a8_0 hI
            refine va_get (D := g.1) (ci := 8) (v := .ref (ad 1)) (C := RX8) (T := TX8) (N := 13) hx hb hg inG8 hown hK hP 0 (zw_at (by omega) hs10) rfl 0 (by decide) (hg _ mm_360) (fun _ h9 => h9) rfl dX8_upper_43 ?_
            refine lv_iload_n hx hb dX8_upper_46 rfl (lv_at hl 1 rfl) ?_
            have hs16 := a8_1 hI
            refine va_aldq hx hb hK hP 1 4 (zw_at (by omega) hs16) rfl (z_in rfl (by omega) (by omega)) dX8_upper_47 ?_
            rw [zF1_at (x := c0) (by omega) (by omega)]
            refine lv_iload_n hx hb dX8_upper_48 rfl (lv_at hl 2 rfl) ?_
            refine lv_iload_n hx hb dX8_upper_49 rfl (lv_at hl 3 rfl) ?_
            obtain ⟨we18, se19, h20, h21, hs17⟩ := a8_35 (kc := (0 + 35 + 5 * c0.toInt.toNat)) (by omega) hI
            have hFc := zw_free hD hS hA
            refine va_callv (va_runV (As := [.int nd, .int up]) (rest := []) ⟨hx, hb, hml, hown, hg⟩ (k_X3_hang l g _ ad pe ct (0 + 35 + 5 * c0.toInt.toNat) nd up (by omega) hI) (cwV 2 hg (z_gV mm_410 mm_411 mm_412 mm_115 mm_413) rfl rfl rfl (by decide +kernel) ⟨Nat.le_of_ble_eq_true rfl, Nat.le_of_ble_eq_true rfl⟩) ⟨(zA.pre [.ref (ad (0 + 35 + 5 * c0.toInt.toNat)), .int nd, .int up] hP hK hD hN).1, va_recv hK hP (ci := 3) (q0 := (0 + 35 + 5 * c0.toInt.toNat)) rfl (zw_at (by omega) hs17), (zA.pre [.ref (ad (0 + 35 + 5 * c0.toInt.toNat)), .int nd, .int up] hP hK hD hN).2⟩ rfl rfl hl.1 rfl (lv_room (Nat.le_of_ble_eq_true rfl)) dX8_upper_50 ⟨Nat.le_of_ble_eq_true rfl, Nat.le_of_ble_eq_true rfl⟩) hS (fun q _ h => hFc q h) hFc (fun _ t H1 locs ht hvm hr22 hB hz1 hk1 hS => ?_)
            obtain ⟨ct23, hP1, hD1, hI⟩ := hB
            rw [ht] at hP1
            have hD := hD1.weaken (fun _ _ _ h => hFc _ h)
            generalize H1 = H at hP1 hS ⊢
            have hP := hP1
            refine W.widen (k := 0) (n := 0) (Nat.le_refl _) (Nat.le_refl _) ?_
            refine lv_aload_n hx hb dX8_upper_53 rfl (lv_at hl 0 rfl) ?_
            obtain ⟨bk26, dr25, h27, h28, h29, hs24⟩ := a8_0 hI
            refine va_get (D := g.1) (ci := 8) (v := .ref (ad 17)) (C := RX8) (T := TX8) (N := 13) hx hb hg inG8 hown hK hP 0 (zw_at (by omega) hs24) rfl 7 (by decide) (hg _ mm_367) (fun _ h9 => h9) rfl dX8_upper_54 ?_
            obtain ⟨spc31, tim32, h33, h34, hs30⟩ := a8_17 hI
            have hFc := zw_free hD hS hA
            refine va_callv (va_runV (As := []) (rest := []) ⟨hx, hb, hml, hown, hg⟩ (k_X0_forget l g _ ad pe ct23  hI) (cwV 0 hg (z_gV mm_419 mm_420 mm_421 mm_112 mm_422) rfl rfl rfl (by decide +kernel) ⟨Nat.le_of_ble_eq_true rfl, Nat.le_of_ble_eq_true rfl⟩) ⟨(zA.pre [.ref (ad 17)] hP hK hD hN).1, va_recv hK hP (ci := 0) (q0 := 17) rfl (zw_at (by omega) hs30), (zA.pre [.ref (ad 17)] hP hK hD hN).2⟩ rfl rfl hl.1 rfl (lv_room (Nat.le_of_ble_eq_true rfl)) dX8_upper_57 ⟨Nat.le_of_ble_eq_true rfl, Nat.le_of_ble_eq_true rfl⟩) hS (fun q _ h => hFc q h) hFc (fun _ t H1 locs ht hvm hr35 hB hz1 hk1 hS => ?_)
            obtain ⟨ct36, hP1, hD1, hI⟩ := hB
            rw [ht] at hP1
            have hD := hD1.weaken (fun _ _ _ h => hFc _ h)
            generalize H1 = H at hP1 hS ⊢
            have hP := hP1
            refine W.widen (k := 0) (n := 0) (Nat.le_refl _) (Nat.le_refl _) ?_
            refine lv_iconst (v := 1) hx hb dX8_upper_60 (by decide) ?_
            have q37 : (1 : Int32).toInt = 1 := by decide
            exact W.zret (v := 1) hx hb hr rfl (fun t ht hW => ⟨⟨1, (), rfl, by first | exact Or.inl ⟨rfl, by omega, by omega, by omega⟩ | exact Or.inr ⟨rfl, by omega⟩, ct36, by rw [ht]; exact hP, hD, hI⟩, hS.F ht⟩) hS.2.2 dX8_upper_61
          · skip
            have c9 : ¬ (up.toInt = (-1)) := fun q => c9 ((z_eq rfl (by decide : ((-1) : Int32).toInt = (-1))).mpr q)
            refine lv_iload_n hx hb dX8_upper_24 rfl (lv_at hl 3 rfl) ?_
            refine lv_bipush (v := 16) hx hb dX8_upper_25 (by decide) ?_
            refine lv_bipush (v := 31) hx hb dX8_upper_27 (by decide) ?_
            refine zc_i (va_runS (As := [.int up, .int 16, .int 31]) (rest := []) ⟨hx, hb, hml, hown, hg⟩ (k_X8_within l g ad pe ct up (16 : Int32) (31 : Int32) hI) (va_cwS 3 hg (z_gS mm_407 mm_408 mm_108 mm_409) rfl rfl rfl (by decide +kernel) ⟨Nat.le_of_ble_eq_true rfl, Nat.le_of_ble_eq_true rfl⟩) (zR.pre [.int up, .int 16, .int 31] hP hK hN) rfl rfl hl.1 rfl (lv_room (Nat.le_of_ble_eq_true rfl)) dX8_upper_29 ⟨Nat.le_of_ble_eq_true rfl, Nat.le_of_ble_eq_true rfl⟩) (fun r38 hr38 => ?_)
            rcases hr38 with hr38 | hr38
            · skip
              obtain ⟨rfl, h39, h40⟩ := hr38
              have h39 : (16 : Int) ≤ up.toInt := h39
              have h40 : up.toInt ≤ (31 : Int) := h40
              refine lv_if_eq (tgt := 40) hx hb dX8_upper_32 (by decide) (fun c41 => ?_) (fun c41 => ?_)
              · skip
                exact absurd c41 (by decide)
              · skip
                refine lv_iload_n hx hb dX8_upper_35 rfl (lv_at hl 3 rfl) ?_
                refine lv_iload_n hx hb dX8_upper_36 rfl (lv_at hl 2 rfl) ?_
                refine lv_icmp_gt (tgt := 42) hx hb dX8_upper_37 (by decide) (fun c42 => ?_) (fun c42 => ?_)
                · skip
                  have c42 : nd.toInt < up.toInt := (z_lt rfl rfl).mp c42
                  refine lv_aload_n hx hb dX8_upper_42 rfl (lv_at hl 0 rfl) ?_
                  obtain ⟨bk45, dr44, h46, h47, h48, hs43⟩ := a8_0 hI
                  refine va_get (D := g.1) (ci := 8) (v := .ref (ad 1)) (C := RX8) (T := TX8) (N := 13) hx hb hg inG8 hown hK hP 0 (zw_at (by omega) hs43) rfl 0 (by decide) (hg _ mm_360) (fun _ h9 => h9) rfl dX8_upper_43 ?_
                  refine lv_iload_n hx hb dX8_upper_46 rfl (lv_at hl 1 rfl) ?_
                  have hs49 := a8_1 hI
                  refine va_aldq hx hb hK hP 1 4 (zw_at (by omega) hs49) rfl (z_in rfl (by omega) (by omega)) dX8_upper_47 ?_
                  rw [zF1_at (x := c0) (by omega) (by omega)]
                  refine lv_iload_n hx hb dX8_upper_48 rfl (lv_at hl 2 rfl) ?_
                  refine lv_iload_n hx hb dX8_upper_49 rfl (lv_at hl 3 rfl) ?_
                  obtain ⟨we51, se52, h53, h54, hs50⟩ := a8_35 (kc := (0 + 35 + 5 * c0.toInt.toNat)) (by omega) hI
                  have hFc := zw_free hD hS hA
                  refine va_callv (va_runV (As := [.int nd, .int up]) (rest := []) ⟨hx, hb, hml, hown, hg⟩ (k_X3_hang l g _ ad pe ct (0 + 35 + 5 * c0.toInt.toNat) nd up (by omega) hI) (cwV 2 hg (z_gV mm_410 mm_411 mm_412 mm_115 mm_413) rfl rfl rfl (by decide +kernel) ⟨Nat.le_of_ble_eq_true rfl, Nat.le_of_ble_eq_true rfl⟩) ⟨(zA.pre [.ref (ad (0 + 35 + 5 * c0.toInt.toNat)), .int nd, .int up] hP hK hD hN).1, va_recv hK hP (ci := 3) (q0 := (0 + 35 + 5 * c0.toInt.toNat)) rfl (zw_at (by omega) hs50), (zA.pre [.ref (ad (0 + 35 + 5 * c0.toInt.toNat)), .int nd, .int up] hP hK hD hN).2⟩ rfl rfl hl.1 rfl (lv_room (Nat.le_of_ble_eq_true rfl)) dX8_upper_50 ⟨Nat.le_of_ble_eq_true rfl, Nat.le_of_ble_eq_true rfl⟩) hS (fun q _ h => hFc q h) hFc (fun _ t H1 locs ht hvm hr55 hB hz1 hk1 hS => ?_)
                  obtain ⟨ct56, hP1, hD1, hI⟩ := hB
                  rw [ht] at hP1
                  have hD := hD1.weaken (fun _ _ _ h => hFc _ h)
                  generalize H1 = H at hP1 hS ⊢
                  have hP := hP1
                  refine W.widen (k := 0) (n := 0) (Nat.le_refl _) (Nat.le_refl _) ?_
                  refine lv_aload_n hx hb dX8_upper_53 rfl (lv_at hl 0 rfl) ?_
                  obtain ⟨bk59, dr58, h60, h61, h62, hs57⟩ := a8_0 hI
                  refine va_get (D := g.1) (ci := 8) (v := .ref (ad 17)) (C := RX8) (T := TX8) (N := 13) hx hb hg inG8 hown hK hP 0 (zw_at (by omega) hs57) rfl 7 (by decide) (hg _ mm_367) (fun _ h9 => h9) rfl dX8_upper_54 ?_
                  obtain ⟨spc64, tim65, h66, h67, hs63⟩ := a8_17 hI
                  have hFc := zw_free hD hS hA
                  refine va_callv (va_runV (As := []) (rest := []) ⟨hx, hb, hml, hown, hg⟩ (k_X0_forget l g _ ad pe ct56  hI) (cwV 0 hg (z_gV mm_419 mm_420 mm_421 mm_112 mm_422) rfl rfl rfl (by decide +kernel) ⟨Nat.le_of_ble_eq_true rfl, Nat.le_of_ble_eq_true rfl⟩) ⟨(zA.pre [.ref (ad 17)] hP hK hD hN).1, va_recv hK hP (ci := 0) (q0 := 17) rfl (zw_at (by omega) hs63), (zA.pre [.ref (ad 17)] hP hK hD hN).2⟩ rfl rfl hl.1 rfl (lv_room (Nat.le_of_ble_eq_true rfl)) dX8_upper_57 ⟨Nat.le_of_ble_eq_true rfl, Nat.le_of_ble_eq_true rfl⟩) hS (fun q _ h => hFc q h) hFc (fun _ t H1 locs ht hvm hr68 hB hz1 hk1 hS => ?_)
                  obtain ⟨ct69, hP1, hD1, hI⟩ := hB
                  rw [ht] at hP1
                  have hD := hD1.weaken (fun _ _ _ h => hFc _ h)
                  generalize H1 = H at hP1 hS ⊢
                  have hP := hP1
                  refine W.widen (k := 0) (n := 0) (Nat.le_refl _) (Nat.le_refl _) ?_
                  refine lv_iconst (v := 1) hx hb dX8_upper_60 (by decide) ?_
                  have q70 : (1 : Int32).toInt = 1 := by decide
                  exact W.zret (v := 1) hx hb hr rfl (fun t ht hW => ⟨⟨1, (), rfl, by first | exact Or.inl ⟨rfl, by omega, by omega, by omega⟩ | exact Or.inr ⟨rfl, by omega⟩, ct69, by rw [ht]; exact hP, hD, hI⟩, hS.F ht⟩) hS.2.2 dX8_upper_61
                · skip
                  have c42 : ¬ (nd.toInt < up.toInt) := fun q => c42 ((z_lt rfl rfl).mpr q)
                  refine lv_iconst (v := 0) hx hb dX8_upper_40 (by decide) ?_
                  have q71 : (0 : Int32).toInt = 0 := by decide
                  exact W.zret (v := 0) hx hb hr rfl (fun t ht hW => ⟨⟨0, (), rfl, by first | exact Or.inl ⟨rfl, by omega, by omega, by omega⟩ | exact Or.inr ⟨rfl, by omega⟩, ct, by rw [ht]; exact hP, hD, hI⟩, hS.F ht⟩) hS.2.2 dX8_upper_41
            · skip
              obtain ⟨rfl, h72⟩ := hr38
              have h72 : ¬ ((16 : Int) ≤ up.toInt ∧ up.toInt ≤ (31 : Int)) := h72
              refine lv_if_eq (tgt := 40) hx hb dX8_upper_32 (by decide) (fun c73 => ?_) (fun c73 => ?_)
              · skip
                refine lv_iconst (v := 0) hx hb dX8_upper_40 (by decide) ?_
                have q74 : (0 : Int32).toInt = 0 := by decide
                exact W.zret (v := 0) hx hb hr rfl (fun t ht hW => ⟨⟨0, (), rfl, by first | exact Or.inl ⟨rfl, by omega, by omega, by omega⟩ | exact Or.inr ⟨rfl, by omega⟩, ct, by rw [ht]; exact hP, hD, hI⟩, hS.F ht⟩) hS.2.2 dX8_upper_41
              · skip
                exact absurd c73 (by decide)
        · skip
          exact absurd c8 (by decide)
      · skip
        obtain ⟨rfl, h75⟩ := hr5
        have h75 : ¬ ((0 : Int) ≤ nd.toInt ∧ nd.toInt ≤ (31 : Int)) := h75
        refine lv_if_ne (tgt := 19) hx hb dX8_upper_14 (by decide) (fun c76 => ?_) (fun c76 => ?_)
        · skip
          exact absurd c76 (by decide)
        · skip
          refine lv_iconst (v := 0) hx hb dX8_upper_17 (by decide) ?_
          have q77 : (0 : Int32).toInt = 0 := by decide
          exact W.zret (v := 0) hx hb hr rfl (fun t ht hW => ⟨⟨0, (), rfl, by first | exact Or.inl ⟨rfl, by omega, by omega, by omega⟩ | exact Or.inr ⟨rfl, by omega⟩, ct, by rw [ht]; exact hP, hD, hI⟩, hS.F ht⟩) hS.2.2 dX8_upper_18
  · skip
    obtain ⟨rfl, h78⟩ := hr1
    have h78 : ¬ (0 ≤ c0.toInt ∧ c0.toInt ≤ 3) := h78
    refine lv_if_eq (tgt := 17) hx hb dX8_upper_4 (by decide) (fun c79 => ?_) (fun c79 => ?_)
    · skip
      refine lv_iconst (v := 0) hx hb dX8_upper_17 (by decide) ?_
      have q80 : (0 : Int32).toInt = 0 := by decide
      exact W.zret (v := 0) hx hb hr rfl (fun t ht hW => ⟨⟨0, (), rfl, by first | exact Or.inl ⟨rfl, by omega, by omega, by omega⟩ | exact Or.inr ⟨rfl, by omega⟩, ct, by rw [ht]; exact hP, hD, hI⟩, hS.F ht⟩) hS.2.2 dX8_upper_18
    · skip
      exact absurd c79 (by decide)

set_option maxHeartbeats 4000000 in
set_option maxRecDepth 100000 in
theorem k_X8_weight (l : Launch) (g : zG) (sz : Nat) (ad : Nat → Nat) (pe : Int32) (ct : Nat → va_E) (c0 : Int32) (n : Int32) (hI : Inv8 g ad pe ct) : Met l yX8_weight (zW yX8_weight cX8_weight 3 (some .boolean)) ({ frames := 1, cells := 0, slots := 0, locals := 22 }) (va_Pc [.ref (ad 0), .int c0, .int n] (zA g (zw 126 ad ct) sz)) (va_Qi (fun (r : Int32) (_ : Unit) => (r = 1 ∧ (0 ≤ c0.toInt ∧ c0.toInt ≤ 3) ∧ (0 ≤ n.toInt ∧ n.toInt ≤ 99)) ∨ (r = 0 ∧ (¬ ((0 ≤ c0.toInt ∧ c0.toInt ≤ 3) ∧ (0 ≤ n.toInt ∧ n.toInt ≤ 99))))) (fun _ t => ∃ ct2 : Nat → va_E, zP g (zw 126 ad ct2) t.heap ∧ va_D (va_A (zw 126 ad ct) sz) (zw 126 ad ct2) ∧ Inv8 g ad pe ct2) (va_A (zw 126 ad ct) sz)) 0 0 (va_A (zw 126 ad ct) sz) := by
  refine Met.ofW (cc := cX8_weight) (maxL := 3) (ret := (some .boolean)) (by decide) rfl ?_
  intro p e s m args below meth c s₁ B hml hv
  obtain ⟨rfl, hsz, hP, hK, hD0, hN⟩ := hv
  have hx := B.exec
  have hb := B.bytes
  have hr := B.returns
  have hg := zW.law (atoms_spec (ws := (zW yX8_weight cX8_weight 3 (some .boolean))) B.pre)
  have hown : s.vm.findClass RX8 = some m.cls := findClass_of_methodNamed B.named
  have hlocks := B.notSynchronized
  have hpe0 := hI.1
  subst hsz
  have hD := hD0.self (sz := s.heap.size)
  generalize hAe : va_A (zw 126 ad ct) s.heap.size = A at hD ⊢
  have hA : ∀ q : Nat, s.heap.size ≤ q → A q := fun q h => by rw [← hAe]; exact Or.inr h
  have hS : va_S A s.heap s.heap [] := va_S.rf
  have hl := lv_entry ([.ref (ad 0), .int c0, .int n]) (n := 3) (Nat.le_of_ble_eq_true rfl)
  rw [lg_entry_eq]
  generalize (lg_sl ([.ref (ad 0), .int c0, .int n]) ++ List.replicate (3 - (lg_sl ([.ref (ad 0), .int c0, .int n])).length) Slot.unset).toArray = ls at hl ⊢
  have hl : lv_has ls 3 [(0, .ref (ad 0)), (1, .int c0), (2, .int n)] := hl
  have rg_c0 := z_rng c0
  have rg_n := z_rng n
  refine lv_iload_n hx hb dX8_weight_0 rfl (lv_at hl 1 rfl) ?_
  refine zc_i (va_runS (As := [.int c0]) (rest := []) ⟨hx, hb, hml, hown, hg⟩ (k_X8_isColumn l g ad pe ct c0 hI) (va_cwS 1 hg (z_gS mm_404 mm_405 mm_108 mm_406) rfl rfl rfl (by decide +kernel) ⟨Nat.le_of_ble_eq_true rfl, Nat.le_of_ble_eq_true rfl⟩) (zR.pre [.int c0] hP hK hN) rfl rfl hl.1 rfl (lv_room (Nat.le_of_ble_eq_true rfl)) dX8_weight_1 ⟨Nat.le_of_ble_eq_true rfl, Nat.le_of_ble_eq_true rfl⟩) (fun r1 hr1 => ?_)
  rcases hr1 with hr1 | hr1
  · skip
    obtain ⟨rfl, h2, h3⟩ := hr1
    have h2 : 0 ≤ c0.toInt := h2
    have h3 : c0.toInt ≤ 3 := h3
    refine lv_if_eq (tgt := 17) hx hb dX8_weight_4 (by decide) (fun c4 => ?_) (fun c4 => ?_)
    · skip
      exact absurd c4 (by decide)
    · skip
      refine lv_iload_n hx hb dX8_weight_7 rfl (lv_at hl 2 rfl) ?_
      refine lv_iconst (v := 0) hx hb dX8_weight_8 (by decide) ?_
      refine lv_bipush (v := 99) hx hb dX8_weight_9 (by decide) ?_
      refine zc_i (va_runS (As := [.int n, .int 0, .int 99]) (rest := []) ⟨hx, hb, hml, hown, hg⟩ (k_X8_within l g ad pe ct n (0 : Int32) (99 : Int32) hI) (va_cwS 3 hg (z_gS mm_407 mm_408 mm_108 mm_409) rfl rfl rfl (by decide +kernel) ⟨Nat.le_of_ble_eq_true rfl, Nat.le_of_ble_eq_true rfl⟩) (zR.pre [.int n, .int 0, .int 99] hP hK hN) rfl rfl hl.1 rfl (lv_room (Nat.le_of_ble_eq_true rfl)) dX8_weight_11 ⟨Nat.le_of_ble_eq_true rfl, Nat.le_of_ble_eq_true rfl⟩) (fun r5 hr5 => ?_)
      rcases hr5 with hr5 | hr5
      · skip
        obtain ⟨rfl, h6, h7⟩ := hr5
        have h6 : (0 : Int) ≤ n.toInt := h6
        have h7 : n.toInt ≤ (99 : Int) := h7
        refine lv_if_ne (tgt := 19) hx hb dX8_weight_14 (by decide) (fun c8 => ?_) (fun c8 => ?_)
        · skip
          refine lv_aload_n hx hb dX8_weight_19 rfl (lv_at hl 0 rfl) ?_
          obtain ⟨bk11, dr10, h12, h13, h14, hs9⟩ := a8_0 hI
          refine va_get (D := g.1) (ci := 8) (v := .ref (ad 1)) (C := RX8) (T := TX8) (N := 13) hx hb hg inG8 hown hK hP 0 (zw_at (by omega) hs9) rfl 0 (by decide) (hg _ mm_360) (fun _ h9 => h9) rfl dX8_weight_20 ?_
          refine lv_iload_n hx hb dX8_weight_23 rfl (lv_at hl 1 rfl) ?_
          have hs15 := a8_1 hI
          refine va_aldq hx hb hK hP 1 4 (zw_at (by omega) hs15) rfl (z_in rfl (by omega) (by omega)) dX8_weight_24 ?_
          rw [zF1_at (x := c0) (by omega) (by omega)]
          refine lv_iload_n hx hb dX8_weight_25 rfl (lv_at hl 2 rfl) ?_
          obtain ⟨we17, se18, h19, h20, hs16⟩ := a8_35 (kc := (0 + 35 + 5 * c0.toInt.toNat)) (by omega) hI
          refine va_put (D := g.1) (ci := 3) (v := .int n) (ty := .int) (C := RX3) (T := TX3) (N := 6) hx hb hg inG3 tyX3 tyX3_ok nmX3 hown hK hP hD hS (0 + 35 + 5 * c0.toInt.toNat) (zw_at (by omega) hs16) rfl 0 (by decide) (hg _ mm_316) (fun _ h9 => h9) rfl (by decide +kernel) rfl rfl (Nat.le_of_ble_eq_true rfl) dX8_weight_26 (fun H locs hP hD hS => ?_)
          have hP : zP g ((zw 126 ad ct).set (0 + 35 + 5 * c0.toInt.toNat) (ad (0 + 35 + 5 * c0.toInt.toNat), .inr (3, [.int n, .ref (ad ((0 + 35 + 5 * c0.toInt.toNat) + 1)), .ref (ad ((0 + 35 + 5 * c0.toInt.toNat) + 2)), .ref (ad ((0 + 35 + 5 * c0.toInt.toNat) + 3)), .ref (ad ((0 + 35 + 5 * c0.toInt.toNat) + 4)), .int se18]))) H := hP
          have hD : va_D A ((zw 126 ad ct).set (0 + 35 + 5 * c0.toInt.toNat) (ad (0 + 35 + 5 * c0.toInt.toNat), .inr (3, [.int n, .ref (ad ((0 + 35 + 5 * c0.toInt.toNat) + 1)), .ref (ad ((0 + 35 + 5 * c0.toInt.toNat) + 2)), .ref (ad ((0 + 35 + 5 * c0.toInt.toNat) + 3)), .ref (ad ((0 + 35 + 5 * c0.toInt.toNat) + 4)), .int se18]))) := hD
          rw [zw_set (by omega)] at hP hD
          obtain ⟨ct21, ec22⟩ : ∃ z : Nat → va_E, z = va_up ct (0 + 35 + 5 * c0.toInt.toNat) (.inr (3, [.int n, .ref (ad ((0 + 35 + 5 * c0.toInt.toNat) + 1)), .ref (ad ((0 + 35 + 5 * c0.toInt.toNat) + 2)), .ref (ad ((0 + 35 + 5 * c0.toInt.toNat) + 3)), .ref (ad ((0 + 35 + 5 * c0.toInt.toNat) + 4)), .int se18])) := ⟨_, rfl⟩
          rw [← ec22] at hP hD
          have hI : Inv8 g ad pe ct21 := by rw [ec22]; exact up8 hI (i8_35 (kc := (0 + 35 + 5 * c0.toInt.toNat)) (by omega) ⟨(n : Int32), (se18 : Int32), (by first | omega | decide), (by first | omega | decide), rfl⟩)
          have hs23 : ct21 0 = .inr (8, [.ref (ad 1), .ref (ad 2), .ref (ad 3), .ref (ad 5), .ref (ad 6), .ref (ad 9), .ref (ad 10), .ref (ad 17), .ref (ad 21), .ref (ad 34), .ref (ad (99 + 3 * dr10)), .int pe, .int bk11]) := by rw [ec22, va_up_ne _ _ (by omega)]; exact hs9
          have hs24 : ct21 1 = .inl (g.2 4, 4, .inr (.inr (.inr (.inr (zF1 ad 0))))) := by rw [ec22, va_up_ne _ _ (by omega)]; exact hs15
          have hs25 : ct21 (0 + 35 + 5 * c0.toInt.toNat) = .inr (3, [.int n, .ref (ad ((0 + 35 + 5 * c0.toInt.toNat) + 1)), .ref (ad ((0 + 35 + 5 * c0.toInt.toNat) + 2)), .ref (ad ((0 + 35 + 5 * c0.toInt.toNat) + 3)), .ref (ad ((0 + 35 + 5 * c0.toInt.toNat) + 4)), .int se18]) := by rw [ec22]; exact va_up_self _ _ _
          refine lv_iconst (v := 1) hx hb dX8_weight_29 (by decide) ?_
          have q26 : (1 : Int32).toInt = 1 := by decide
          exact W.zret (v := 1) hx hb hr rfl (fun t ht hW => ⟨⟨1, (), rfl, by first | exact Or.inl ⟨rfl, by omega, by omega⟩ | exact Or.inr ⟨rfl, by omega⟩, ct21, by rw [ht]; exact hP, hD, hI⟩, hS.F ht⟩) hS.2.2 dX8_weight_30
        · skip
          exact absurd c8 (by decide)
      · skip
        obtain ⟨rfl, h27⟩ := hr5
        have h27 : ¬ ((0 : Int) ≤ n.toInt ∧ n.toInt ≤ (99 : Int)) := h27
        refine lv_if_ne (tgt := 19) hx hb dX8_weight_14 (by decide) (fun c28 => ?_) (fun c28 => ?_)
        · skip
          exact absurd c28 (by decide)
        · skip
          refine lv_iconst (v := 0) hx hb dX8_weight_17 (by decide) ?_
          have q29 : (0 : Int32).toInt = 0 := by decide
          exact W.zret (v := 0) hx hb hr rfl (fun t ht hW => ⟨⟨0, (), rfl, by first | exact Or.inl ⟨rfl, by omega, by omega⟩ | exact Or.inr ⟨rfl, by omega⟩, ct, by rw [ht]; exact hP, hD, hI⟩, hS.F ht⟩) hS.2.2 dX8_weight_18
  · skip
    obtain ⟨rfl, h30⟩ := hr1
    have h30 : ¬ (0 ≤ c0.toInt ∧ c0.toInt ≤ 3) := h30
    refine lv_if_eq (tgt := 17) hx hb dX8_weight_4 (by decide) (fun c31 => ?_) (fun c31 => ?_)
    · skip
      refine lv_iconst (v := 0) hx hb dX8_weight_17 (by decide) ?_
      have q32 : (0 : Int32).toInt = 0 := by decide
      exact W.zret (v := 0) hx hb hr rfl (fun t ht hW => ⟨⟨0, (), rfl, by first | exact Or.inl ⟨rfl, by omega, by omega⟩ | exact Or.inr ⟨rfl, by omega⟩, ct, by rw [ht]; exact hP, hD, hI⟩, hS.F ht⟩) hS.2.2 dX8_weight_18
    · skip
      exact absurd c31 (by decide)

set_option maxHeartbeats 4000000 in
set_option maxRecDepth 100000 in
theorem k_X8_wish (l : Launch) (g : zG) (sz : Nat) (ad : Nat → Nat) (pe : Int32) (ct : Nat → va_E) (p0 : Int32) (n : Int32) (hI : Inv8 g ad pe ct) : Met l yX8_wish (zW yX8_wish cX8_wish 3 (some .boolean)) ({ frames := 28, cells := 0, slots := 0, locals := 694 }) (va_Pc [.ref (ad 0), .int p0, .int n] (zA g (zw 126 ad ct) sz)) (va_Qi (fun (r : Int32) (_ : Unit) => (r = 1 ∧ (0 ≤ p0.toInt ∧ p0.toInt < pe.toInt) ∧ (0 ≤ n.toInt ∧ n.toInt ≤ 16)) ∨ (r = 0 ∧ (¬ ((0 ≤ p0.toInt ∧ p0.toInt < pe.toInt) ∧ (0 ≤ n.toInt ∧ n.toInt ≤ 16))))) (fun _ t => ∃ ct2 : Nat → va_E, zP g (zw 126 ad ct2) t.heap ∧ va_D (va_A (zw 126 ad ct) sz) (zw 126 ad ct2) ∧ Inv8 g ad pe ct2) (va_A (zw 126 ad ct) sz)) 0 0 (va_A (zw 126 ad ct) sz) := by
  refine Met.ofW (cc := cX8_wish) (maxL := 3) (ret := (some .boolean)) (by decide) rfl ?_
  intro p e s m args below meth c s₁ B hml hv
  obtain ⟨rfl, hsz, hP, hK, hD0, hN⟩ := hv
  have hx := B.exec
  have hb := B.bytes
  have hr := B.returns
  have hg := zW.law (atoms_spec (ws := (zW yX8_wish cX8_wish 3 (some .boolean))) B.pre)
  have hown : s.vm.findClass RX8 = some m.cls := findClass_of_methodNamed B.named
  have hlocks := B.notSynchronized
  have hpe0 := hI.1
  subst hsz
  have hD := hD0.self (sz := s.heap.size)
  generalize hAe : va_A (zw 126 ad ct) s.heap.size = A at hD ⊢
  have hA : ∀ q : Nat, s.heap.size ≤ q → A q := fun q h => by rw [← hAe]; exact Or.inr h
  have hS : va_S A s.heap s.heap [] := va_S.rf
  have hl := lv_entry ([.ref (ad 0), .int p0, .int n]) (n := 3) (Nat.le_of_ble_eq_true rfl)
  rw [lg_entry_eq]
  generalize (lg_sl ([.ref (ad 0), .int p0, .int n]) ++ List.replicate (3 - (lg_sl ([.ref (ad 0), .int p0, .int n])).length) Slot.unset).toArray = ls at hl ⊢
  have hl : lv_has ls 3 [(0, .ref (ad 0)), (1, .int p0), (2, .int n)] := hl
  have rg_p0 := z_rng p0
  have rg_n := z_rng n
  refine lv_aload_n hx hb dX8_wish_0 rfl (lv_at hl 0 rfl) ?_
  refine lv_iload_n hx hb dX8_wish_1 rfl (lv_at hl 1 rfl) ?_
  obtain ⟨bk3, dr2, h4, h5, h6, hs1⟩ := a8_0 hI
  refine zc_i (va_runV (As := [.int p0]) (rest := []) ⟨hx, hb, hml, hown, hg⟩ (k_X8_isPerson l g ad pe ct p0 hI) (cwV 1 hg (z_gV mm_451 mm_453 mm_3 mm_108 mm_454) rfl rfl rfl (by decide +kernel) ⟨Nat.le_of_ble_eq_true rfl, Nat.le_of_ble_eq_true rfl⟩) ⟨(zR.pre [.ref (ad 0), .int p0] hP hK hN).1, va_recv hK hP (ci := 8) (q0 := 0) rfl (zw_at (by omega) hs1), (zR.pre [.ref (ad 0), .int p0] hP hK hN).2⟩ rfl rfl hl.1 rfl (lv_room (Nat.le_of_ble_eq_true rfl)) dX8_wish_2 ⟨Nat.le_of_ble_eq_true rfl, Nat.le_of_ble_eq_true rfl⟩) (fun r7 hr7 => ?_)
  rcases hr7 with hr7 | hr7
  · skip
    obtain ⟨rfl, h8, h9⟩ := hr7
    have h8 : 0 ≤ p0.toInt := h8
    have h9 : p0.toInt < pe.toInt := h9
    refine lv_if_eq (tgt := 18) hx hb dX8_wish_5 (by decide) (fun c10 => ?_) (fun c10 => ?_)
    · skip
      exact absurd c10 (by decide)
    · skip
      refine lv_iload_n hx hb dX8_wish_8 rfl (lv_at hl 2 rfl) ?_
      refine lv_iconst (v := 0) hx hb dX8_wish_9 (by decide) ?_
      refine lv_bipush (v := 16) hx hb dX8_wish_10 (by decide) ?_
      refine zc_i (va_runS (As := [.int n, .int 0, .int 16]) (rest := []) ⟨hx, hb, hml, hown, hg⟩ (k_X8_within l g ad pe ct n (0 : Int32) (16 : Int32) hI) (va_cwS 3 hg (z_gS mm_407 mm_408 mm_108 mm_409) rfl rfl rfl (by decide +kernel) ⟨Nat.le_of_ble_eq_true rfl, Nat.le_of_ble_eq_true rfl⟩) (zR.pre [.int n, .int 0, .int 16] hP hK hN) rfl rfl hl.1 rfl (lv_room (Nat.le_of_ble_eq_true rfl)) dX8_wish_12 ⟨Nat.le_of_ble_eq_true rfl, Nat.le_of_ble_eq_true rfl⟩) (fun r11 hr11 => ?_)
      rcases hr11 with hr11 | hr11
      · skip
        obtain ⟨rfl, h12, h13⟩ := hr11
        have h12 : (0 : Int) ≤ n.toInt := h12
        have h13 : n.toInt ≤ (16 : Int) := h13
        refine lv_if_ne (tgt := 20) hx hb dX8_wish_15 (by decide) (fun c14 => ?_) (fun c14 => ?_)
        · skip
          refine lv_aload_n hx hb dX8_wish_20 rfl (lv_at hl 0 rfl) ?_
          refine va_get (D := g.1) (ci := 8) (v := .ref (ad 2)) (C := RX8) (T := TX8) (N := 13) hx hb hg inG8 hown hK hP 0 (zw_at (by omega) hs1) rfl 1 (by decide) (hg _ mm_361) (fun _ h9 => h9) rfl dX8_wish_21 ?_
          refine lv_iload_n hx hb dX8_wish_24 rfl (lv_at hl 1 rfl) ?_
          refine lv_iload_n hx hb dX8_wish_25 rfl (lv_at hl 2 rfl) ?_
          obtain ⟨f16, hs15⟩ := a8_2 hI
          refine va_iast hx hb hK hP hD hS 2 0 (zw_at (by omega) hs15) rfl (z_in rfl (by omega) (by omega)) dX8_wish_26 (fun H locs hP hD hS => ?_)
          have hP : zP g ((zw 126 ad ct).set 2 (ad 2, .inl (g.2 0, 16, .inl (upd f16 (Int32.toNatClampNeg p0) n)))) H := hP
          have hD : va_D A ((zw 126 ad ct).set 2 (ad 2, .inl (g.2 0, 16, .inl (upd f16 (Int32.toNatClampNeg p0) n)))) := hD
          rw [zw_set (by omega)] at hP hD
          obtain ⟨ct18, ec19⟩ : ∃ z : Nat → va_E, z = va_up ct 2 (.inl (g.2 0, 16, .inl (upd f16 (Int32.toNatClampNeg p0) n))) := ⟨_, rfl⟩
          rw [← ec19] at hP hD
          have hI : Inv8 g ad pe ct18 := by rw [ec19]; exact up8 hI (i8_2 ⟨_, rfl⟩)
          have hs20 : ct18 0 = .inr (8, [.ref (ad 1), .ref (ad 2), .ref (ad 3), .ref (ad 5), .ref (ad 6), .ref (ad 9), .ref (ad 10), .ref (ad 17), .ref (ad 21), .ref (ad 34), .ref (ad (99 + 3 * dr2)), .int pe, .int bk3]) := by rw [ec19, va_up_ne _ _ (by omega)]; exact hs1
          have hs21 : ct18 2 = .inl (g.2 0, 16, .inl (upd f16 (Int32.toNatClampNeg p0) n)) := by rw [ec19]; exact va_up_self _ _ _
          refine lv_aload_n hx hb dX8_wish_27 rfl (lv_at hl 0 rfl) ?_
          refine lv_iload_n hx hb dX8_wish_28 rfl (lv_at hl 1 rfl) ?_
          have hFc := zw_free hD hS hA
          refine va_callv (va_runV (As := [.int p0]) (rest := []) ⟨hx, hb, hml, hown, hg⟩ (k_X8_judgeAll l g _ ad pe ct18 p0 hI) (cwV 1 hg (z_gV mm_439 mm_441 mm_1 mm_108 mm_442) rfl rfl rfl (by decide +kernel) ⟨Nat.le_of_ble_eq_true rfl, Nat.le_of_ble_eq_true rfl⟩) ⟨(zA.pre [.ref (ad 0), .int p0] hP hK hD hN).1, va_recv hK hP (ci := 8) (q0 := 0) rfl (zw_at (by omega) hs20), (zA.pre [.ref (ad 0), .int p0] hP hK hD hN).2⟩ rfl rfl hl.1 rfl (lv_room (Nat.le_of_ble_eq_true rfl)) dX8_wish_29 ⟨Nat.le_of_ble_eq_true rfl, Nat.le_of_ble_eq_true rfl⟩) hS (fun q _ h => hFc q h) hFc (fun _ t H1 locs ht hvm hr22 hB hz1 hk1 hS => ?_)
          obtain ⟨ct23, hP1, hD1, hI⟩ := hB
          rw [ht] at hP1
          have hD := hD1.weaken (fun _ _ _ h => hFc _ h)
          generalize H1 = H at hP1 hS ⊢
          have hP := hP1
          refine W.widen (k := 0) (n := 0) (Nat.le_refl _) (Nat.le_refl _) ?_
          refine lv_iconst (v := 1) hx hb dX8_wish_32 (by decide) ?_
          have q24 : (1 : Int32).toInt = 1 := by decide
          exact W.zret (v := 1) hx hb hr rfl (fun t ht hW => ⟨⟨1, (), rfl, by first | exact Or.inl ⟨rfl, by omega, by omega⟩ | exact Or.inr ⟨rfl, by omega⟩, ct23, by rw [ht]; exact hP, hD, hI⟩, hS.F ht⟩) hS.2.2 dX8_wish_33
        · skip
          exact absurd c14 (by decide)
      · skip
        obtain ⟨rfl, h25⟩ := hr11
        have h25 : ¬ ((0 : Int) ≤ n.toInt ∧ n.toInt ≤ (16 : Int)) := h25
        refine lv_if_ne (tgt := 20) hx hb dX8_wish_15 (by decide) (fun c26 => ?_) (fun c26 => ?_)
        · skip
          exact absurd c26 (by decide)
        · skip
          refine lv_iconst (v := 0) hx hb dX8_wish_18 (by decide) ?_
          have q27 : (0 : Int32).toInt = 0 := by decide
          exact W.zret (v := 0) hx hb hr rfl (fun t ht hW => ⟨⟨0, (), rfl, by first | exact Or.inl ⟨rfl, by omega, by omega⟩ | exact Or.inr ⟨rfl, by omega⟩, ct, by rw [ht]; exact hP, hD, hI⟩, hS.F ht⟩) hS.2.2 dX8_wish_19
  · skip
    obtain ⟨rfl, h28⟩ := hr7
    have h28 : ¬ (0 ≤ p0.toInt ∧ p0.toInt < pe.toInt) := h28
    refine lv_if_eq (tgt := 18) hx hb dX8_wish_5 (by decide) (fun c29 => ?_) (fun c29 => ?_)
    · skip
      refine lv_iconst (v := 0) hx hb dX8_wish_18 (by decide) ?_
      have q30 : (0 : Int32).toInt = 0 := by decide
      exact W.zret (v := 0) hx hb hr rfl (fun t ht hW => ⟨⟨0, (), rfl, by first | exact Or.inl ⟨rfl, by omega, by omega⟩ | exact Or.inr ⟨rfl, by omega⟩, ct, by rw [ht]; exact hP, hD, hI⟩, hS.F ht⟩) hS.2.2 dX8_wish_19
    · skip
      exact absurd c29 (by decide)

set_option maxHeartbeats 4000000 in
set_option maxRecDepth 100000 in
theorem k_X8_feed (l : Launch) (g : zG) (sz : Nat) (ad : Nat → Nat) (pe : Int32) (ct : Nat → va_E) (a0 : Int32) (b0 : Int32) (c0 : Int32) (d0 : Int32) (e0 : Int32) (hI : Inv8 g ad pe ct) : Met l yX8_feed (zW yX8_feed cX8_feed 6 (some .int)) ({ frames := 1, cells := 0, slots := 0, locals := 22 }) (va_Pc [.ref (ad 0), .int a0, .int b0, .int c0, .int d0, .int e0] (zA g (zw 126 ad ct) sz)) (va_Qi (fun (r : Int32) (_ : Unit) => (True)) (fun _ t => ∃ ct2 : Nat → va_E, zP g (zw 126 ad ct2) t.heap ∧ va_D (va_A (zw 126 ad ct) sz) (zw 126 ad ct2) ∧ Inv8 g ad pe ct2) (va_A (zw 126 ad ct) sz)) 0 0 (va_A (zw 126 ad ct) sz) := by
  refine Met.ofW (cc := cX8_feed) (maxL := 6) (ret := (some .int)) (by decide) rfl ?_
  intro p e s m args below meth c s₁ B hml hv
  obtain ⟨rfl, hsz, hP, hK, hD0, hN⟩ := hv
  have hx := B.exec
  have hb := B.bytes
  have hr := B.returns
  have hg := zW.law (atoms_spec (ws := (zW yX8_feed cX8_feed 6 (some .int))) B.pre)
  have hown : s.vm.findClass RX8 = some m.cls := findClass_of_methodNamed B.named
  have hlocks := B.notSynchronized
  have hpe0 := hI.1
  subst hsz
  have hD := hD0.self (sz := s.heap.size)
  generalize hAe : va_A (zw 126 ad ct) s.heap.size = A at hD ⊢
  have hA : ∀ q : Nat, s.heap.size ≤ q → A q := fun q h => by rw [← hAe]; exact Or.inr h
  have hS : va_S A s.heap s.heap [] := va_S.rf
  have hl := lv_entry ([.ref (ad 0), .int a0, .int b0, .int c0, .int d0, .int e0]) (n := 6) (Nat.le_of_ble_eq_true rfl)
  rw [lg_entry_eq]
  generalize (lg_sl ([.ref (ad 0), .int a0, .int b0, .int c0, .int d0, .int e0]) ++ List.replicate (6 - (lg_sl ([.ref (ad 0), .int a0, .int b0, .int c0, .int d0, .int e0])).length) Slot.unset).toArray = ls at hl ⊢
  have hl : lv_has ls 6 [(0, .ref (ad 0)), (1, .int a0), (2, .int b0), (3, .int c0), (4, .int d0), (5, .int e0)] := hl
  have rg_a0 := z_rng a0
  have rg_b0 := z_rng b0
  have rg_c0 := z_rng c0
  have rg_d0 := z_rng d0
  have rg_e0 := z_rng e0
  refine lv_aload_n hx hb dX8_feed_0 rfl (lv_at hl 0 rfl) ?_
  obtain ⟨bk3, dr2, h4, h5, h6, hs1⟩ := a8_0 hI
  refine va_get (D := g.1) (ci := 8) (v := .ref (ad 3)) (C := RX8) (T := TX8) (N := 13) hx hb hg inG8 hown hK hP 0 (zw_at (by omega) hs1) rfl 2 (by decide) (hg _ mm_362) (fun _ h9 => h9) rfl dX8_feed_1 ?_
  obtain ⟨len8, h9, h10, hs7⟩ := a8_3 hI
  refine va_get (D := g.1) (ci := 7) (v := .int len8) (C := RX7) (T := TX7) (N := 2) hx hb hg inG7 hown hK hP 3 (zw_at (by omega) hs7) rfl 0 (by decide) (hg _ mm_137) (fun _ h9 => h9) rfl dX8_feed_4 ?_
  refine lv_bipush (v := 20) hx hb dX8_feed_7 (by decide) ?_
  refine lv_iadd hx hb dX8_feed_9 ?_
  refine lv_topi (fun x11 ex11 => ?_)
  have tx11 : x11.toInt = len8.toInt + 20 := by rw [ex11]; exact z_add rfl (by decide : (20 : Int32).toInt = 20) (by omega) (by omega)
  refine lv_sipush (v := 200) hx hb dX8_feed_10 (by decide) ?_
  refine lv_icmp_le (tgt := 18) hx hb dX8_feed_13 (by decide) (fun c12 => ?_) (fun c12 => ?_)
  · skip
    have c12 : x11.toInt ≤ 200 := (z_le rfl (by decide : (200 : Int32).toInt = 200)).mp c12
    refine lv_aload_n hx hb dX8_feed_18 rfl (lv_at hl 0 rfl) ?_
    refine va_get (D := g.1) (ci := 8) (v := .ref (ad 3)) (C := RX8) (T := TX8) (N := 13) hx hb hg inG8 hown hK hP 0 (zw_at (by omega) hs1) rfl 2 (by decide) (hg _ mm_362) (fun _ h9 => h9) rfl dX8_feed_19 ?_
    refine lv_iload_n hx hb dX8_feed_22 rfl (lv_at hl 1 rfl) ?_
    have hFc := zw_free hD hS hA
    refine va_callv (va_runV (As := [.int a0]) (rest := []) ⟨hx, hb, hml, hown, hg⟩ (k_X7_append l g _ ad pe ct a0 hI) (cwV 1 hg (z_gV mm_521 mm_522 mm_523 mm_109 mm_524) rfl rfl rfl (by decide +kernel) ⟨Nat.le_of_ble_eq_true rfl, Nat.le_of_ble_eq_true rfl⟩) ⟨(zA.pre [.ref (ad 3), .int a0] hP hK hD hN).1, va_recv hK hP (ci := 7) (q0 := 3) rfl (zw_at (by omega) hs7), (zA.pre [.ref (ad 3), .int a0] hP hK hD hN).2⟩ rfl rfl hl.1 rfl (lv_room (Nat.le_of_ble_eq_true rfl)) dX8_feed_23 ⟨Nat.le_of_ble_eq_true rfl, Nat.le_of_ble_eq_true rfl⟩) hS (fun q _ h => hFc q h) hFc (fun _ t H1 locs ht hvm hr13 hB hz1 hk1 hS => ?_)
    obtain ⟨ct14, hP1, hD1, hI⟩ := hB
    rw [ht] at hP1
    have hD := hD1.weaken (fun _ _ _ h => hFc _ h)
    generalize H1 = H at hP1 hS ⊢
    have hP := hP1
    refine W.widen (k := 0) (n := 0) (Nat.le_refl _) (Nat.le_refl _) ?_
    refine lv_aload_n hx hb dX8_feed_26 rfl (lv_at hl 0 rfl) ?_
    obtain ⟨bk17, dr16, h18, h19, h20, hs15⟩ := a8_0 hI
    refine va_get (D := g.1) (ci := 8) (v := .ref (ad 3)) (C := RX8) (T := TX8) (N := 13) hx hb hg inG8 hown hK hP 0 (zw_at (by omega) hs15) rfl 2 (by decide) (hg _ mm_362) (fun _ h9 => h9) rfl dX8_feed_27 ?_
    refine lv_iload_n hx hb dX8_feed_30 rfl (lv_at hl 2 rfl) ?_
    obtain ⟨len22, h23, h24, hs21⟩ := a8_3 hI
    have hFc := zw_free hD hS hA
    refine va_callv (va_runV (As := [.int b0]) (rest := []) ⟨hx, hb, hml, hown, hg⟩ (k_X7_append l g _ ad pe ct14 b0 hI) (cwV 1 hg (z_gV mm_521 mm_522 mm_523 mm_109 mm_524) rfl rfl rfl (by decide +kernel) ⟨Nat.le_of_ble_eq_true rfl, Nat.le_of_ble_eq_true rfl⟩) ⟨(zA.pre [.ref (ad 3), .int b0] hP hK hD hN).1, va_recv hK hP (ci := 7) (q0 := 3) rfl (zw_at (by omega) hs21), (zA.pre [.ref (ad 3), .int b0] hP hK hD hN).2⟩ rfl rfl hl.1 rfl (lv_room (Nat.le_of_ble_eq_true rfl)) dX8_feed_31 ⟨Nat.le_of_ble_eq_true rfl, Nat.le_of_ble_eq_true rfl⟩) hS (fun q _ h => hFc q h) hFc (fun _ t H1 locs ht hvm hr25 hB hz1 hk1 hS => ?_)
    obtain ⟨ct26, hP1, hD1, hI⟩ := hB
    rw [ht] at hP1
    have hD := hD1.weaken (fun _ _ _ h => hFc _ h)
    generalize H1 = H at hP1 hS ⊢
    have hP := hP1
    refine W.widen (k := 0) (n := 0) (Nat.le_refl _) (Nat.le_refl _) ?_
    refine lv_aload_n hx hb dX8_feed_34 rfl (lv_at hl 0 rfl) ?_
    obtain ⟨bk29, dr28, h30, h31, h32, hs27⟩ := a8_0 hI
    refine va_get (D := g.1) (ci := 8) (v := .ref (ad 3)) (C := RX8) (T := TX8) (N := 13) hx hb hg inG8 hown hK hP 0 (zw_at (by omega) hs27) rfl 2 (by decide) (hg _ mm_362) (fun _ h9 => h9) rfl dX8_feed_35 ?_
    refine lv_iload_n hx hb dX8_feed_38 rfl (lv_at hl 3 rfl) ?_
    obtain ⟨len34, h35, h36, hs33⟩ := a8_3 hI
    have hFc := zw_free hD hS hA
    refine va_callv (va_runV (As := [.int c0]) (rest := []) ⟨hx, hb, hml, hown, hg⟩ (k_X7_append l g _ ad pe ct26 c0 hI) (cwV 1 hg (z_gV mm_521 mm_522 mm_523 mm_109 mm_524) rfl rfl rfl (by decide +kernel) ⟨Nat.le_of_ble_eq_true rfl, Nat.le_of_ble_eq_true rfl⟩) ⟨(zA.pre [.ref (ad 3), .int c0] hP hK hD hN).1, va_recv hK hP (ci := 7) (q0 := 3) rfl (zw_at (by omega) hs33), (zA.pre [.ref (ad 3), .int c0] hP hK hD hN).2⟩ rfl rfl hl.1 rfl (lv_room (Nat.le_of_ble_eq_true rfl)) dX8_feed_39 ⟨Nat.le_of_ble_eq_true rfl, Nat.le_of_ble_eq_true rfl⟩) hS (fun q _ h => hFc q h) hFc (fun _ t H1 locs ht hvm hr37 hB hz1 hk1 hS => ?_)
    obtain ⟨ct38, hP1, hD1, hI⟩ := hB
    rw [ht] at hP1
    have hD := hD1.weaken (fun _ _ _ h => hFc _ h)
    generalize H1 = H at hP1 hS ⊢
    have hP := hP1
    refine W.widen (k := 0) (n := 0) (Nat.le_refl _) (Nat.le_refl _) ?_
    refine lv_aload_n hx hb dX8_feed_42 rfl (lv_at hl 0 rfl) ?_
    obtain ⟨bk41, dr40, h42, h43, h44, hs39⟩ := a8_0 hI
    refine va_get (D := g.1) (ci := 8) (v := .ref (ad 3)) (C := RX8) (T := TX8) (N := 13) hx hb hg inG8 hown hK hP 0 (zw_at (by omega) hs39) rfl 2 (by decide) (hg _ mm_362) (fun _ h9 => h9) rfl dX8_feed_43 ?_
    refine lv_iload hx hb dX8_feed_46 (lv_at hl 4 rfl) ?_
    obtain ⟨len46, h47, h48, hs45⟩ := a8_3 hI
    have hFc := zw_free hD hS hA
    refine va_callv (va_runV (As := [.int d0]) (rest := []) ⟨hx, hb, hml, hown, hg⟩ (k_X7_append l g _ ad pe ct38 d0 hI) (cwV 1 hg (z_gV mm_521 mm_522 mm_523 mm_109 mm_524) rfl rfl rfl (by decide +kernel) ⟨Nat.le_of_ble_eq_true rfl, Nat.le_of_ble_eq_true rfl⟩) ⟨(zA.pre [.ref (ad 3), .int d0] hP hK hD hN).1, va_recv hK hP (ci := 7) (q0 := 3) rfl (zw_at (by omega) hs45), (zA.pre [.ref (ad 3), .int d0] hP hK hD hN).2⟩ rfl rfl hl.1 rfl (lv_room (Nat.le_of_ble_eq_true rfl)) dX8_feed_48 ⟨Nat.le_of_ble_eq_true rfl, Nat.le_of_ble_eq_true rfl⟩) hS (fun q _ h => hFc q h) hFc (fun _ t H1 locs ht hvm hr49 hB hz1 hk1 hS => ?_)
    obtain ⟨ct50, hP1, hD1, hI⟩ := hB
    rw [ht] at hP1
    have hD := hD1.weaken (fun _ _ _ h => hFc _ h)
    generalize H1 = H at hP1 hS ⊢
    have hP := hP1
    refine W.widen (k := 0) (n := 0) (Nat.le_refl _) (Nat.le_refl _) ?_
    refine lv_aload_n hx hb dX8_feed_51 rfl (lv_at hl 0 rfl) ?_
    obtain ⟨bk53, dr52, h54, h55, h56, hs51⟩ := a8_0 hI
    refine va_get (D := g.1) (ci := 8) (v := .ref (ad 3)) (C := RX8) (T := TX8) (N := 13) hx hb hg inG8 hown hK hP 0 (zw_at (by omega) hs51) rfl 2 (by decide) (hg _ mm_362) (fun _ h9 => h9) rfl dX8_feed_52 ?_
    refine lv_iload hx hb dX8_feed_55 (lv_at hl 5 rfl) ?_
    obtain ⟨len58, h59, h60, hs57⟩ := a8_3 hI
    have hFc := zw_free hD hS hA
    refine va_callv (va_runV (As := [.int e0]) (rest := []) ⟨hx, hb, hml, hown, hg⟩ (k_X7_append l g _ ad pe ct50 e0 hI) (cwV 1 hg (z_gV mm_521 mm_522 mm_523 mm_109 mm_524) rfl rfl rfl (by decide +kernel) ⟨Nat.le_of_ble_eq_true rfl, Nat.le_of_ble_eq_true rfl⟩) ⟨(zA.pre [.ref (ad 3), .int e0] hP hK hD hN).1, va_recv hK hP (ci := 7) (q0 := 3) rfl (zw_at (by omega) hs57), (zA.pre [.ref (ad 3), .int e0] hP hK hD hN).2⟩ rfl rfl hl.1 rfl (lv_room (Nat.le_of_ble_eq_true rfl)) dX8_feed_57 ⟨Nat.le_of_ble_eq_true rfl, Nat.le_of_ble_eq_true rfl⟩) hS (fun q _ h => hFc q h) hFc (fun _ t H1 locs ht hvm hr61 hB hz1 hk1 hS => ?_)
    obtain ⟨ct62, hP1, hD1, hI⟩ := hB
    rw [ht] at hP1
    have hD := hD1.weaken (fun _ _ _ h => hFc _ h)
    generalize H1 = H at hP1 hS ⊢
    have hP := hP1
    refine W.widen (k := 0) (n := 0) (Nat.le_refl _) (Nat.le_refl _) ?_
    refine lv_aload_n hx hb dX8_feed_60 rfl (lv_at hl 0 rfl) ?_
    obtain ⟨bk65, dr64, h66, h67, h68, hs63⟩ := a8_0 hI
    refine va_get (D := g.1) (ci := 8) (v := .ref (ad 3)) (C := RX8) (T := TX8) (N := 13) hx hb hg inG8 hown hK hP 0 (zw_at (by omega) hs63) rfl 2 (by decide) (hg _ mm_362) (fun _ h9 => h9) rfl dX8_feed_61 ?_
    obtain ⟨len70, h71, h72, hs69⟩ := a8_3 hI
    refine va_get (D := g.1) (ci := 7) (v := .int len70) (C := RX7) (T := TX7) (N := 2) hx hb hg inG7 hown hK hP 3 (zw_at (by omega) hs69) rfl 0 (by decide) (hg _ mm_137) (fun _ h9 => h9) rfl dX8_feed_64 ?_
    exact W.iret (v := len70) hx hb hr (fun t ht hW => ⟨⟨len70, (), rfl, trivial, ct62, by rw [ht]; exact hP, hD, hI⟩, hS.F ht⟩) hS.2.2 dX8_feed_67
  · skip
    have c12 : ¬ (x11.toInt ≤ 200) := fun q => c12 ((z_le rfl (by decide : (200 : Int32).toInt = 200)).mpr q)
    refine lv_iconst (v := (-1)) hx hb dX8_feed_16 (by decide) ?_
    have q73 : ((-1) : Int32).toInt = -1 := by decide
    exact W.iret (v := (-1)) hx hb hr (fun t ht hW => ⟨⟨(-1), (), rfl, trivial, ct, by rw [ht]; exact hP, hD, hI⟩, hS.F ht⟩) hS.2.2 dX8_feed_17

set_option maxHeartbeats 4000000 in
set_option maxRecDepth 100000 in
theorem k_X8_blurred (l : Launch) (g : zG) (ad : Nat → Nat) (pe : Int32) (ct : Nat → va_E) (c0 : Int32) (v : Int32) (n : Int32) (hI : Inv8 g ad pe ct) : Met l yX8_blurred (zW yX8_blurred cX8_blurred 4 (some .int)) ({ frames := 2, cells := 0, slots := 0, locals := 46 }) (va_Pc [.ref (ad 0), .int c0, .int v, .int n] (zR g (zw 126 ad ct))) (vp_Si (fun r : Int32 => (True))) 0 0 (fun _ => False) := by
  refine Met.ofW (cc := cX8_blurred) (maxL := 4) (ret := (some .int)) (by decide) rfl ?_
  intro p e s m args below meth c s₁ B hml hv
  obtain ⟨rfl, hP, hK, hN⟩ := hv
  have hx := B.exec
  have hb := B.bytes
  have hr := B.returns
  have hg := zW.law (atoms_spec (ws := (zW yX8_blurred cX8_blurred 4 (some .int))) B.pre)
  have hown : s.vm.findClass RX8 = some m.cls := findClass_of_methodNamed B.named
  have hlocks := B.notSynchronized
  have hpe0 := hI.1
  have hl := lv_entry ([.ref (ad 0), .int c0, .int v, .int n]) (n := 4) (Nat.le_of_ble_eq_true rfl)
  rw [lg_entry_eq]
  generalize (lg_sl ([.ref (ad 0), .int c0, .int v, .int n]) ++ List.replicate (4 - (lg_sl ([.ref (ad 0), .int c0, .int v, .int n])).length) Slot.unset).toArray = ls at hl ⊢
  have hl : lv_has ls 4 [(0, .ref (ad 0)), (1, .int c0), (2, .int v), (3, .int n)] := hl
  have rg_c0 := z_rng c0
  have rg_v := z_rng v
  have rg_n := z_rng n
  refine lv_iload_n hx hb dX8_blurred_0 rfl (lv_at hl 1 rfl) ?_
  refine zc_i (va_runS (As := [.int c0]) (rest := []) ⟨hx, hb, hml, hown, hg⟩ (k_X8_isColumn l g ad pe ct c0 hI) (va_cwS 1 hg (z_gS mm_404 mm_405 mm_108 mm_406) rfl rfl rfl (by decide +kernel) ⟨Nat.le_of_ble_eq_true rfl, Nat.le_of_ble_eq_true rfl⟩) (zR.pre [.int c0] hP hK hN) rfl rfl hl.1 rfl (lv_room (Nat.le_of_ble_eq_true rfl)) dX8_blurred_1 ⟨Nat.le_of_ble_eq_true rfl, Nat.le_of_ble_eq_true rfl⟩) (fun r1 hr1 => ?_)
  rcases hr1 with hr1 | hr1
  · skip
    obtain ⟨rfl, h2, h3⟩ := hr1
    have h2 : 0 ≤ c0.toInt := h2
    have h3 : c0.toInt ≤ 3 := h3
    refine lv_if_eq (tgt := 21) hx hb dX8_blurred_4 (by decide) (fun c4 => ?_) (fun c4 => ?_)
    · skip
      exact absurd c4 (by decide)
    · skip
      refine lv_iload_n hx hb dX8_blurred_7 rfl (lv_at hl 2 rfl) ?_
      refine zc_i (va_runS (As := [.int v]) (rest := []) ⟨hx, hb, hml, hown, hg⟩ (k_X8_isValue l g ad pe ct v hI) (va_cwS 1 hg (z_gS mm_431 mm_432 mm_108 mm_433) rfl rfl rfl (by decide +kernel) ⟨Nat.le_of_ble_eq_true rfl, Nat.le_of_ble_eq_true rfl⟩) (zR.pre [.int v] hP hK hN) rfl rfl hl.1 rfl (lv_room (Nat.le_of_ble_eq_true rfl)) dX8_blurred_8 ⟨Nat.le_of_ble_eq_true rfl, Nat.le_of_ble_eq_true rfl⟩) (fun r5 hr5 => ?_)
      rcases hr5 with hr5 | hr5
      · skip
        obtain ⟨rfl, h6, h7⟩ := hr5
        have h6 : 0 ≤ v.toInt := h6
        have h7 : v.toInt ≤ 15 := h7
        refine lv_if_eq (tgt := 21) hx hb dX8_blurred_11 (by decide) (fun c8 => ?_) (fun c8 => ?_)
        · skip
          exact absurd c8 (by decide)
        · skip
          refine lv_iload_n hx hb dX8_blurred_14 rfl (lv_at hl 3 rfl) ?_
          refine zc_i (va_runS (As := [.int n]) (rest := []) ⟨hx, hb, hml, hown, hg⟩ (k_X8_isLevel l g ad pe ct n hI) (va_cwS 1 hg (z_gS mm_529 mm_530 mm_108 mm_531) rfl rfl rfl (by decide +kernel) ⟨Nat.le_of_ble_eq_true rfl, Nat.le_of_ble_eq_true rfl⟩) (zR.pre [.int n] hP hK hN) rfl rfl hl.1 rfl (lv_room (Nat.le_of_ble_eq_true rfl)) dX8_blurred_15 ⟨Nat.le_of_ble_eq_true rfl, Nat.le_of_ble_eq_true rfl⟩) (fun r9 hr9 => ?_)
          rcases hr9 with hr9 | hr9
          · skip
            obtain ⟨rfl, h10, h11⟩ := hr9
            have h10 : 0 ≤ n.toInt := h10
            have h11 : n.toInt ≤ 4 := h11
            refine lv_if_ne (tgt := 23) hx hb dX8_blurred_18 (by decide) (fun c12 => ?_) (fun c12 => ?_)
            · skip
              refine lv_aload_n hx hb dX8_blurred_23 rfl (lv_at hl 0 rfl) ?_
              obtain ⟨bk15, dr14, h16, h17, h18, hs13⟩ := a8_0 hI
              refine va_get (D := g.1) (ci := 8) (v := .ref (ad 1)) (C := RX8) (T := TX8) (N := 13) hx hb hg inG8 hown hK hP 0 (zw_at (by omega) hs13) rfl 0 (by decide) (hg _ mm_360) (fun _ h9 => h9) rfl dX8_blurred_24 ?_
              refine lv_iload_n hx hb dX8_blurred_27 rfl (lv_at hl 1 rfl) ?_
              have hs19 := a8_1 hI
              refine va_aldq hx hb hK hP 1 4 (zw_at (by omega) hs19) rfl (z_in rfl (by omega) (by omega)) dX8_blurred_28 ?_
              rw [zF1_at (x := c0) (by omega) (by omega)]
              refine lv_iload_n hx hb dX8_blurred_29 rfl (lv_at hl 2 rfl) ?_
              refine lv_iload_n hx hb dX8_blurred_30 rfl (lv_at hl 3 rfl) ?_
              obtain ⟨we21, se22, h23, h24, hs20⟩ := a8_35 (kc := (0 + 35 + 5 * c0.toInt.toNat)) (by omega) hI
              refine zc_i (va_runV (As := [.int v, .int n]) (rest := []) ⟨hx, hb, hml, hown, hg⟩ (k_X3_raised l g ad pe ct (0 + 35 + 5 * c0.toInt.toNat) v n (by omega) hI) (cwV 2 hg (z_gV mm_532 mm_533 mm_534 mm_115 mm_535) rfl rfl rfl (by decide +kernel) ⟨Nat.le_of_ble_eq_true rfl, Nat.le_of_ble_eq_true rfl⟩) ⟨(zR.pre [.ref (ad (0 + 35 + 5 * c0.toInt.toNat)), .int v, .int n] hP hK hN).1, va_recv hK hP (ci := 3) (q0 := (0 + 35 + 5 * c0.toInt.toNat)) rfl (zw_at (by omega) hs20), (zR.pre [.ref (ad (0 + 35 + 5 * c0.toInt.toNat)), .int v, .int n] hP hK hN).2⟩ rfl rfl hl.1 rfl (lv_room (Nat.le_of_ble_eq_true rfl)) dX8_blurred_31 ⟨Nat.le_of_ble_eq_true rfl, Nat.le_of_ble_eq_true rfl⟩) (fun r25 hr25 => ?_)
              exact W.iret (v := r25) hx hb hr (fun t ht hW => ⟨r25, rfl, trivial, ht⟩) (fun q hq => by cases hq) dX8_blurred_34
            · skip
              exact absurd c12 (by decide)
          · skip
            obtain ⟨rfl, h26⟩ := hr9
            have h26 : ¬ (0 ≤ n.toInt ∧ n.toInt ≤ 4) := h26
            refine lv_if_ne (tgt := 23) hx hb dX8_blurred_18 (by decide) (fun c27 => ?_) (fun c27 => ?_)
            · skip
              exact absurd c27 (by decide)
            · skip
              refine lv_iconst (v := (-1)) hx hb dX8_blurred_21 (by decide) ?_
              have q28 : ((-1) : Int32).toInt = -1 := by decide
              exact W.iret (v := (-1)) hx hb hr (fun t ht hW => ⟨(-1), rfl, trivial, ht⟩) (fun q hq => by cases hq) dX8_blurred_22
      · skip
        obtain ⟨rfl, h29⟩ := hr5
        have h29 : ¬ (0 ≤ v.toInt ∧ v.toInt ≤ 15) := h29
        refine lv_if_eq (tgt := 21) hx hb dX8_blurred_11 (by decide) (fun c30 => ?_) (fun c30 => ?_)
        · skip
          refine lv_iconst (v := (-1)) hx hb dX8_blurred_21 (by decide) ?_
          have q31 : ((-1) : Int32).toInt = -1 := by decide
          exact W.iret (v := (-1)) hx hb hr (fun t ht hW => ⟨(-1), rfl, trivial, ht⟩) (fun q hq => by cases hq) dX8_blurred_22
        · skip
          exact absurd c30 (by decide)
  · skip
    obtain ⟨rfl, h32⟩ := hr1
    have h32 : ¬ (0 ≤ c0.toInt ∧ c0.toInt ≤ 3) := h32
    refine lv_if_eq (tgt := 21) hx hb dX8_blurred_4 (by decide) (fun c33 => ?_) (fun c33 => ?_)
    · skip
      refine lv_iconst (v := (-1)) hx hb dX8_blurred_21 (by decide) ?_
      have q34 : ((-1) : Int32).toInt = -1 := by decide
      exact W.iret (v := (-1)) hx hb hr (fun t ht hW => ⟨(-1), rfl, trivial, ht⟩) (fun q hq => by cases hq) dX8_blurred_22
    · skip
      exact absurd c33 (by decide)

set_option maxHeartbeats 4000000 in
set_option maxRecDepth 100000 in
theorem k_X8_size (l : Launch) (g : zG) (ad : Nat → Nat) (pe : Int32) (ct : Nat → va_E) (c0 : Int32) (nd : Int32) (hI : Inv8 g ad pe ct) : Met l yX8_size (zW yX8_size cX8_size 3 (some .int)) ({ frames := 1, cells := 0, slots := 0, locals := 22 }) (va_Pc [.ref (ad 0), .int c0, .int nd] (zR g (zw 126 ad ct))) (vp_Si (fun r : Int32 => (True))) 0 0 (fun _ => False) := by
  refine Met.ofW (cc := cX8_size) (maxL := 3) (ret := (some .int)) (by decide) rfl ?_
  intro p e s m args below meth c s₁ B hml hv
  obtain ⟨rfl, hP, hK, hN⟩ := hv
  have hx := B.exec
  have hb := B.bytes
  have hr := B.returns
  have hg := zW.law (atoms_spec (ws := (zW yX8_size cX8_size 3 (some .int))) B.pre)
  have hown : s.vm.findClass RX8 = some m.cls := findClass_of_methodNamed B.named
  have hlocks := B.notSynchronized
  have hpe0 := hI.1
  have hl := lv_entry ([.ref (ad 0), .int c0, .int nd]) (n := 3) (Nat.le_of_ble_eq_true rfl)
  rw [lg_entry_eq]
  generalize (lg_sl ([.ref (ad 0), .int c0, .int nd]) ++ List.replicate (3 - (lg_sl ([.ref (ad 0), .int c0, .int nd])).length) Slot.unset).toArray = ls at hl ⊢
  have hl : lv_has ls 3 [(0, .ref (ad 0)), (1, .int c0), (2, .int nd)] := hl
  have rg_c0 := z_rng c0
  have rg_nd := z_rng nd
  refine lv_iload_n hx hb dX8_size_0 rfl (lv_at hl 1 rfl) ?_
  refine zc_i (va_runS (As := [.int c0]) (rest := []) ⟨hx, hb, hml, hown, hg⟩ (k_X8_isColumn l g ad pe ct c0 hI) (va_cwS 1 hg (z_gS mm_404 mm_405 mm_108 mm_406) rfl rfl rfl (by decide +kernel) ⟨Nat.le_of_ble_eq_true rfl, Nat.le_of_ble_eq_true rfl⟩) (zR.pre [.int c0] hP hK hN) rfl rfl hl.1 rfl (lv_room (Nat.le_of_ble_eq_true rfl)) dX8_size_1 ⟨Nat.le_of_ble_eq_true rfl, Nat.le_of_ble_eq_true rfl⟩) (fun r1 hr1 => ?_)
  rcases hr1 with hr1 | hr1
  · skip
    obtain ⟨rfl, h2, h3⟩ := hr1
    have h2 : 0 ≤ c0.toInt := h2
    have h3 : c0.toInt ≤ 3 := h3
    refine lv_if_eq (tgt := 17) hx hb dX8_size_4 (by decide) (fun c4 => ?_) (fun c4 => ?_)
    · skip
      exact absurd c4 (by decide)
    · skip
      refine lv_iload_n hx hb dX8_size_7 rfl (lv_at hl 2 rfl) ?_
      refine lv_iconst (v := 0) hx hb dX8_size_8 (by decide) ?_
      refine lv_bipush (v := 32) hx hb dX8_size_9 (by decide) ?_
      refine zc_i (va_runS (As := [.int nd, .int 0, .int 32]) (rest := []) ⟨hx, hb, hml, hown, hg⟩ (k_X8_within l g ad pe ct nd (0 : Int32) (32 : Int32) hI) (va_cwS 3 hg (z_gS mm_407 mm_408 mm_108 mm_409) rfl rfl rfl (by decide +kernel) ⟨Nat.le_of_ble_eq_true rfl, Nat.le_of_ble_eq_true rfl⟩) (zR.pre [.int nd, .int 0, .int 32] hP hK hN) rfl rfl hl.1 rfl (lv_room (Nat.le_of_ble_eq_true rfl)) dX8_size_11 ⟨Nat.le_of_ble_eq_true rfl, Nat.le_of_ble_eq_true rfl⟩) (fun r5 hr5 => ?_)
      rcases hr5 with hr5 | hr5
      · skip
        obtain ⟨rfl, h6, h7⟩ := hr5
        have h6 : (0 : Int) ≤ nd.toInt := h6
        have h7 : nd.toInt ≤ (32 : Int) := h7
        refine lv_if_ne (tgt := 19) hx hb dX8_size_14 (by decide) (fun c8 => ?_) (fun c8 => ?_)
        · skip
          refine lv_aload_n hx hb dX8_size_19 rfl (lv_at hl 0 rfl) ?_
          obtain ⟨bk11, dr10, h12, h13, h14, hs9⟩ := a8_0 hI
          refine va_get (D := g.1) (ci := 8) (v := .ref (ad 1)) (C := RX8) (T := TX8) (N := 13) hx hb hg inG8 hown hK hP 0 (zw_at (by omega) hs9) rfl 0 (by decide) (hg _ mm_360) (fun _ h9 => h9) rfl dX8_size_20 ?_
          refine lv_iload_n hx hb dX8_size_23 rfl (lv_at hl 1 rfl) ?_
          have hs15 := a8_1 hI
          refine va_aldq hx hb hK hP 1 4 (zw_at (by omega) hs15) rfl (z_in rfl (by omega) (by omega)) dX8_size_24 ?_
          rw [zF1_at (x := c0) (by omega) (by omega)]
          refine lv_iload_n hx hb dX8_size_25 rfl (lv_at hl 2 rfl) ?_
          obtain ⟨we17, se18, h19, h20, hs16⟩ := a8_35 (kc := (0 + 35 + 5 * c0.toInt.toNat)) (by omega) hI
          refine zc_i (va_runV (As := [.int nd]) (rest := []) ⟨hx, hb, hml, hown, hg⟩ (k_X3_valuesBelow l g ad pe ct (0 + 35 + 5 * c0.toInt.toNat) nd (by omega) hI) (cwV 1 hg (z_gV mm_540 mm_541 mm_542 mm_115 mm_543) rfl rfl rfl (by decide +kernel) ⟨Nat.le_of_ble_eq_true rfl, Nat.le_of_ble_eq_true rfl⟩) ⟨(zR.pre [.ref (ad (0 + 35 + 5 * c0.toInt.toNat)), .int nd] hP hK hN).1, va_recv hK hP (ci := 3) (q0 := (0 + 35 + 5 * c0.toInt.toNat)) rfl (zw_at (by omega) hs16), (zR.pre [.ref (ad (0 + 35 + 5 * c0.toInt.toNat)), .int nd] hP hK hN).2⟩ rfl rfl hl.1 rfl (lv_room (Nat.le_of_ble_eq_true rfl)) dX8_size_26 ⟨Nat.le_of_ble_eq_true rfl, Nat.le_of_ble_eq_true rfl⟩) (fun r21 hr21 => ?_)
          exact W.iret (v := r21) hx hb hr (fun t ht hW => ⟨r21, rfl, trivial, ht⟩) (fun q hq => by cases hq) dX8_size_29
        · skip
          exact absurd c8 (by decide)
      · skip
        obtain ⟨rfl, h22⟩ := hr5
        have h22 : ¬ ((0 : Int) ≤ nd.toInt ∧ nd.toInt ≤ (32 : Int)) := h22
        refine lv_if_ne (tgt := 19) hx hb dX8_size_14 (by decide) (fun c23 => ?_) (fun c23 => ?_)
        · skip
          exact absurd c23 (by decide)
        · skip
          refine lv_iconst (v := (-1)) hx hb dX8_size_17 (by decide) ?_
          have q24 : ((-1) : Int32).toInt = -1 := by decide
          exact W.iret (v := (-1)) hx hb hr (fun t ht hW => ⟨(-1), rfl, trivial, ht⟩) (fun q hq => by cases hq) dX8_size_18
  · skip
    obtain ⟨rfl, h25⟩ := hr1
    have h25 : ¬ (0 ≤ c0.toInt ∧ c0.toInt ≤ 3) := h25
    refine lv_if_eq (tgt := 17) hx hb dX8_size_4 (by decide) (fun c26 => ?_) (fun c26 => ?_)
    · skip
      refine lv_iconst (v := (-1)) hx hb dX8_size_17 (by decide) ?_
      have q27 : ((-1) : Int32).toInt = -1 := by decide
      exact W.iret (v := (-1)) hx hb hr (fun t ht hW => ⟨(-1), rfl, trivial, ht⟩) (fun q hq => by cases hq) dX8_size_18
    · skip
      exact absurd c26 (by decide)

set_option maxHeartbeats 4000000 in
set_option maxRecDepth 100000 in
theorem k_X8_book (l : Launch) (g : zG) (sz : Nat) (ad : Nat → Nat) (pe : Int32) (ct : Nat → va_E) (n : Int32) (l0 : Int32) (l1 : Int32) (l2 : Int32) (l3 : Int32) (hI : Inv8 g ad pe ct) : Met l yX8_book (zW yX8_book cX8_book 9 (some .int)) ({ frames := 3, cells := 0, slots := 0, locals := 71 }) (va_Pc [.ref (ad 0), .int n, .int l0, .int l1, .int l2, .int l3] (zA g (zw 126 ad ct) sz)) (va_Qi (fun (r : Int32) (_ : Unit) => (True)) (fun _ t => ∃ ct2 : Nat → va_E, zP g (zw 126 ad ct2) t.heap ∧ va_D (va_A (zw 126 ad ct) sz) (zw 126 ad ct2) ∧ Inv8 g ad pe ct2) (va_A (zw 126 ad ct) sz)) 0 0 (va_A (zw 126 ad ct) sz) := by
  refine Met.ofW (cc := cX8_book) (maxL := 9) (ret := (some .int)) (by decide) rfl ?_
  intro p e s m args below meth c s₁ B hml hv
  obtain ⟨rfl, hsz, hP, hK, hD0, hN⟩ := hv
  have hx := B.exec
  have hb := B.bytes
  have hr := B.returns
  have hg := zW.law (atoms_spec (ws := (zW yX8_book cX8_book 9 (some .int))) B.pre)
  have hown : s.vm.findClass RX8 = some m.cls := findClass_of_methodNamed B.named
  have hlocks := B.notSynchronized
  have hpe0 := hI.1
  subst hsz
  have hD := hD0.self (sz := s.heap.size)
  generalize hAe : va_A (zw 126 ad ct) s.heap.size = A at hD ⊢
  have hA : ∀ q : Nat, s.heap.size ≤ q → A q := fun q h => by rw [← hAe]; exact Or.inr h
  have hS : va_S A s.heap s.heap [] := va_S.rf
  have hl := lv_entry ([.ref (ad 0), .int n, .int l0, .int l1, .int l2, .int l3]) (n := 9) (Nat.le_of_ble_eq_true rfl)
  rw [lg_entry_eq]
  generalize (lg_sl ([.ref (ad 0), .int n, .int l0, .int l1, .int l2, .int l3]) ++ List.replicate (9 - (lg_sl ([.ref (ad 0), .int n, .int l0, .int l1, .int l2, .int l3])).length) Slot.unset).toArray = ls at hl ⊢
  have hl : lv_has ls 9 [(0, .ref (ad 0)), (1, .int n), (2, .int l0), (3, .int l1), (4, .int l2), (5, .int l3)] := hl
  have hk0 : ct 0 = ct 0 := rfl
  obtain ⟨bk3, dr2, h4, h5, h6, hs1⟩ := a8_0 hI
  have rg_n := z_rng n
  have rg_l0 := z_rng l0
  have rg_l1 := z_rng l1
  have rg_l2 := z_rng l2
  have rg_l3 := z_rng l3
  refine lv_iload_n hx hb dX8_book_0 rfl (lv_at hl 1 rfl) ?_
  refine lv_iconst (v := 1) hx hb dX8_book_1 (by decide) ?_
  refine lv_bipush (v := 8) hx hb dX8_book_2 (by decide) ?_
  refine zc_i (va_runS (As := [.int n, .int 1, .int 8]) (rest := []) ⟨hx, hb, hml, hown, hg⟩ (k_X8_within l g ad pe ct n (1 : Int32) (8 : Int32) hI) (va_cwS 3 hg (z_gS mm_407 mm_408 mm_108 mm_409) rfl rfl rfl (by decide +kernel) ⟨Nat.le_of_ble_eq_true rfl, Nat.le_of_ble_eq_true rfl⟩) (zR.pre [.int n, .int 1, .int 8] hP hK hN) rfl rfl hl.1 rfl (lv_room (Nat.le_of_ble_eq_true rfl)) dX8_book_4 ⟨Nat.le_of_ble_eq_true rfl, Nat.le_of_ble_eq_true rfl⟩) (fun r7 hr7 => ?_)
  rcases hr7 with hr7 | hr7
  · skip
    obtain ⟨rfl, h8, h9⟩ := hr7
    have h8 : (1 : Int) ≤ n.toInt := h8
    have h9 : n.toInt ≤ (8 : Int) := h9
    refine lv_if_eq (tgt := 29) hx hb dX8_book_7 (by decide) (fun c10 => ?_) (fun c10 => ?_)
    · skip
      exact absurd c10 (by decide)
    · skip
      refine lv_aload_n hx hb dX8_book_10 rfl (lv_at hl 0 rfl) ?_
      refine va_get (D := g.1) (ci := 8) (v := .int bk3) (C := RX8) (T := TX8) (N := 13) hx hb hg inG8 hown hK hP 0 (zw_at (by omega) hs1) rfl 12 (by decide) (hg _ mm_372) (fun _ h9 => h9) rfl dX8_book_11 ?_
      refine lv_iconst (v := 4) hx hb dX8_book_14 (by decide) ?_
      refine lv_icmp_ge (tgt := 29) hx hb dX8_book_15 (by decide) (fun c11 => ?_) (fun c11 => ?_)
      · skip
        have c11 : 4 ≤ bk3.toInt := (z_le (by decide : (4 : Int32).toInt = 4) rfl).mp c11
        refine lv_iconst (v := (-1)) hx hb dX8_book_29 (by decide) ?_
        have q12 : ((-1) : Int32).toInt = -1 := by decide
        exact W.iret (v := (-1)) hx hb hr (fun t ht hW => ⟨⟨(-1), (), rfl, trivial, ct, by rw [ht]; exact hP, hD, hI⟩, hS.F ht⟩) hS.2.2 dX8_book_30
      · skip
        have c11 : ¬ (4 ≤ bk3.toInt) := fun q => c11 ((z_le (by decide : (4 : Int32).toInt = 4) rfl).mpr q)
        refine lv_aload_n hx hb dX8_book_18 rfl (lv_at hl 0 rfl) ?_
        refine va_get (D := g.1) (ci := 8) (v := .ref (ad 3)) (C := RX8) (T := TX8) (N := 13) hx hb hg inG8 hown hK hP 0 (zw_at (by omega) hs1) rfl 2 (by decide) (hg _ mm_362) (fun _ h9 => h9) rfl dX8_book_19 ?_
        obtain ⟨len14, h15, h16, hs13⟩ := a8_3 hI
        refine va_get (D := g.1) (ci := 7) (v := .int len14) (C := RX7) (T := TX7) (N := 2) hx hb hg inG7 hown hK hP 3 (zw_at (by omega) hs13) rfl 0 (by decide) (hg _ mm_137) (fun _ h9 => h9) rfl dX8_book_22 ?_
        refine lv_iload_n hx hb dX8_book_25 rfl (lv_at hl 1 rfl) ?_
        refine lv_icmp_ge (tgt := 31) hx hb dX8_book_26 (by decide) (fun c17 => ?_) (fun c17 => ?_)
        · skip
          have c17 : n.toInt ≤ len14.toInt := (z_le rfl rfl).mp c17
          refine lv_iload_n hx hb dX8_book_31 rfl (lv_at hl 2 rfl) ?_
          refine zc_i (va_runS (As := [.int l0]) (rest := []) ⟨hx, hb, hml, hown, hg⟩ (k_X8_isLevel l g ad pe ct l0 hI) (va_cwS 1 hg (z_gS mm_529 mm_530 mm_108 mm_531) rfl rfl rfl (by decide +kernel) ⟨Nat.le_of_ble_eq_true rfl, Nat.le_of_ble_eq_true rfl⟩) (zR.pre [.int l0] hP hK hN) rfl rfl hl.1 rfl (lv_room (Nat.le_of_ble_eq_true rfl)) dX8_book_32 ⟨Nat.le_of_ble_eq_true rfl, Nat.le_of_ble_eq_true rfl⟩) (fun r18 hr18 => ?_)
          rcases hr18 with hr18 | hr18
          · skip
            obtain ⟨rfl, h19, h20⟩ := hr18
            have h19 : 0 ≤ l0.toInt := h19
            have h20 : l0.toInt ≤ 4 := h20
            refine lv_if_eq (tgt := 61) hx hb dX8_book_35 (by decide) (fun c21 => ?_) (fun c21 => ?_)
            · skip
              exact absurd c21 (by decide)
            · skip
              refine lv_iload_n hx hb dX8_book_38 rfl (lv_at hl 3 rfl) ?_
              refine zc_i (va_runS (As := [.int l1]) (rest := []) ⟨hx, hb, hml, hown, hg⟩ (k_X8_isLevel l g ad pe ct l1 hI) (va_cwS 1 hg (z_gS mm_529 mm_530 mm_108 mm_531) rfl rfl rfl (by decide +kernel) ⟨Nat.le_of_ble_eq_true rfl, Nat.le_of_ble_eq_true rfl⟩) (zR.pre [.int l1] hP hK hN) rfl rfl hl.1 rfl (lv_room (Nat.le_of_ble_eq_true rfl)) dX8_book_39 ⟨Nat.le_of_ble_eq_true rfl, Nat.le_of_ble_eq_true rfl⟩) (fun r22 hr22 => ?_)
              rcases hr22 with hr22 | hr22
              · skip
                obtain ⟨rfl, h23, h24⟩ := hr22
                have h23 : 0 ≤ l1.toInt := h23
                have h24 : l1.toInt ≤ 4 := h24
                refine lv_if_eq (tgt := 61) hx hb dX8_book_42 (by decide) (fun c25 => ?_) (fun c25 => ?_)
                · skip
                  exact absurd c25 (by decide)
                · skip
                  refine lv_iload hx hb dX8_book_45 (lv_at hl 4 rfl) ?_
                  refine zc_i (va_runS (As := [.int l2]) (rest := []) ⟨hx, hb, hml, hown, hg⟩ (k_X8_isLevel l g ad pe ct l2 hI) (va_cwS 1 hg (z_gS mm_529 mm_530 mm_108 mm_531) rfl rfl rfl (by decide +kernel) ⟨Nat.le_of_ble_eq_true rfl, Nat.le_of_ble_eq_true rfl⟩) (zR.pre [.int l2] hP hK hN) rfl rfl hl.1 rfl (lv_room (Nat.le_of_ble_eq_true rfl)) dX8_book_47 ⟨Nat.le_of_ble_eq_true rfl, Nat.le_of_ble_eq_true rfl⟩) (fun r26 hr26 => ?_)
                  rcases hr26 with hr26 | hr26
                  · skip
                    obtain ⟨rfl, h27, h28⟩ := hr26
                    have h27 : 0 ≤ l2.toInt := h27
                    have h28 : l2.toInt ≤ 4 := h28
                    refine lv_if_eq (tgt := 61) hx hb dX8_book_50 (by decide) (fun c29 => ?_) (fun c29 => ?_)
                    · skip
                      exact absurd c29 (by decide)
                    · skip
                      refine lv_iload hx hb dX8_book_53 (lv_at hl 5 rfl) ?_
                      refine zc_i (va_runS (As := [.int l3]) (rest := []) ⟨hx, hb, hml, hown, hg⟩ (k_X8_isLevel l g ad pe ct l3 hI) (va_cwS 1 hg (z_gS mm_529 mm_530 mm_108 mm_531) rfl rfl rfl (by decide +kernel) ⟨Nat.le_of_ble_eq_true rfl, Nat.le_of_ble_eq_true rfl⟩) (zR.pre [.int l3] hP hK hN) rfl rfl hl.1 rfl (lv_room (Nat.le_of_ble_eq_true rfl)) dX8_book_55 ⟨Nat.le_of_ble_eq_true rfl, Nat.le_of_ble_eq_true rfl⟩) (fun r30 hr30 => ?_)
                      rcases hr30 with hr30 | hr30
                      · skip
                        obtain ⟨rfl, h31, h32⟩ := hr30
                        have h31 : 0 ≤ l3.toInt := h31
                        have h32 : l3.toInt ≤ 4 := h32
                        refine lv_if_ne (tgt := 63) hx hb dX8_book_58 (by decide) (fun c33 => ?_) (fun c33 => ?_)
                        · skip
                          refine lv_aload_n hx hb dX8_book_63 rfl (lv_at hl 0 rfl) ?_
                          refine lv_iload_n hx hb dX8_book_64 rfl (lv_at hl 1 rfl) ?_
                          refine zc_i (va_runV (As := [.int n]) (rest := []) ⟨hx, hb, hml, hown, hg⟩ (k_X8_tellsPeople l g ad pe ct n hI) (cwV 1 hg (z_gV mm_548 mm_550 mm_16 mm_108 mm_551) rfl rfl rfl (by decide +kernel) ⟨Nat.le_of_ble_eq_true rfl, Nat.le_of_ble_eq_true rfl⟩) ⟨(zR.pre [.ref (ad 0), .int n] hP hK hN).1, va_recv hK hP (ci := 8) (q0 := 0) rfl (zw_at (by omega) hs1), (zR.pre [.ref (ad 0), .int n] hP hK hN).2⟩ rfl rfl hl.1 rfl (lv_room (Nat.le_of_ble_eq_true rfl)) dX8_book_65 ⟨Nat.le_of_ble_eq_true rfl, Nat.le_of_ble_eq_true rfl⟩) (fun r34 hr34 => ?_)
                          rcases hr34 with hr34 | hr34
                          · skip
                            obtain rfl := hr34
                            refine lv_istore (lv' := [(6, .int 1), (0, .ref (ad 0)), (1, .int n), (2, .int l0), (3, .int l1), (4, .int l2), (5, .int l3)]) hx hb dX8_book_68 hl (by decide) rfl (fun ls hl => ?_)
                            refine lv_iload hx hb dX8_book_70 (lv_at hl 0 rfl) ?_
                            refine lv_if_eq (tgt := 159) hx hb dX8_book_72 (by decide) (fun c35 => ?_) (fun c35 => ?_)
                            · skip
                              exact absurd c35 (by decide)
                            · skip
                              refine lv_aload_n hx hb dX8_book_75 rfl (lv_at hl 1 rfl) ?_
                              refine va_get (D := g.1) (ci := 8) (v := .ref (ad 5)) (C := RX8) (T := TX8) (N := 13) hx hb hg inG8 hown hK hP 0 (zw_at (by omega) hs1) rfl 3 (by decide) (hg _ mm_363) (fun _ h9 => h9) rfl dX8_book_76 ?_
                              refine lv_aload_n hx hb dX8_book_79 rfl (lv_at hl 1 rfl) ?_
                              refine va_get (D := g.1) (ci := 8) (v := .int bk3) (C := RX8) (T := TX8) (N := 13) hx hb hg inG8 hown hK hP 0 (zw_at (by omega) hs1) rfl 12 (by decide) (hg _ mm_372) (fun _ h9 => h9) rfl dX8_book_80 ?_
                              have hs36 := a8_5 hI
                              refine va_aldq hx hb hK hP 5 5 (zw_at (by omega) hs36) rfl (z_in rfl (by omega) (by omega)) dX8_book_83 ?_
                              rw [zF5_at (x := bk3) (by omega) (by omega)]
                              refine lv_astore (lv' := [(7, .ref (ad (0 + 55 + 11 * bk3.toInt.toNat))), (6, .int 1), (0, .ref (ad 0)), (1, .int n), (2, .int l0), (3, .int l1), (4, .int l2), (5, .int l3)]) hx hb dX8_book_84 hl (by decide) rfl (fun ls hl => ?_)
                              refine lv_iconst (v := 0) hx hb dX8_book_86 (by decide) ?_
                              refine lv_istore (lv' := [(8, .int 0), (7, .ref (ad (0 + 55 + 11 * bk3.toInt.toNat))), (6, .int 1), (0, .ref (ad 0)), (1, .int n), (2, .int l0), (3, .int l1), (4, .int l2), (5, .int l3)]) hx hb dX8_book_87 hl (by decide) rfl (fun ls hl => ?_)
                              have loop89 : ∀ (n89 : Nat) (v8_89 : Int32) (ct37 : Nat → va_E) (H : Heap) (locs : List Loc) (ls : Array Slot), ((8 - v8_89.toInt : Int).toNat < n89) → (0 ≤ v8_89.toInt ∧ v8_89.toInt ≤ 8) → (ct37 0 = ct 0) → (Inv8 g ad pe ct37) → zP g (zw 126 ad ct37) H → va_D A (zw 126 ad ct37) → va_S A s.heap H locs → lv_has ls 9 [(8, .int v8_89), (7, .ref (ad (0 + 55 + 11 * bk3.toInt.toNat))), (6, .int 1), (0, .ref (ad 0)), (1, .int n), (2, .int l0), (3, .int l1), (4, .int l2), (5, .int l3)] → W p l e (headSpec (zW yX8_book cX8_book 9 (some .int)) ({ frames := 3, cells := 0, slots := 0, locals := 71 })).room s m ([.ref (ad 0), .int n, .int l0, .int l1, .int l2, .int l3] : List Value).toArray below meth c H locs 0 0 (MQ below (va_Qi (fun (r : Int32) (_ : Unit) => (True)) (fun _ t => ∃ ct2 : Nat → va_E, zP g (zw 126 ad ct2) t.heap ∧ va_D A (zw 126 ad ct2) ∧ Inv8 g ad pe ct2) A) ([.ref (ad 0), .int n, .int l0, .int l1, .int l2, .int l3] : List Value).toArray s 0 0 A) (F0 m 89 ls []) := by
                                intro n89
                                induction n89 with
                                | zero =>
                                  intro v8_89 ct37 H locs ls hn89 b8_89 hk0 hI hP hD hS hl
                                  exact absurd hn89 (Nat.not_lt_zero _)
                                | succ n89 ih89 =>
                                  intro v8_89 ct37 H locs ls hn89 b8_89 hk0 hI hP hD hS hl
                                  have hs38 : ct37 0 = .inr (8, [.ref (ad 1), .ref (ad 2), .ref (ad 3), .ref (ad 5), .ref (ad 6), .ref (ad 9), .ref (ad 10), .ref (ad 17), .ref (ad 21), .ref (ad 34), .ref (ad (99 + 3 * dr2)), .int pe, .int bk3]) := hk0.trans hs1
                                  refine lv_iload hx hb dX8_book_89 (lv_at hl 0 rfl) ?_
                                  refine lv_iload_n hx hb dX8_book_91 rfl (lv_at hl 4 rfl) ?_
                                  refine lv_icmp_ge (tgt := 115) hx hb dX8_book_92 (by decide) (fun c39 => ?_) (fun c39 => ?_)
                                  · skip
                                    have c39 : n.toInt ≤ v8_89.toInt := (z_le rfl rfl).mp c39
                                    refine lv_aload_n hx hb dX8_book_115 rfl (lv_at hl 3 rfl) ?_
                                    refine lv_aload hx hb dX8_book_116 (lv_at hl 1 rfl) ?_
                                    refine lv_iconst (v := 0) hx hb dX8_book_118 (by decide) ?_
                                    refine lv_iload_n hx hb dX8_book_119 rfl (lv_at hl 5 rfl) ?_
                                    have hFc := zw_free hD hS hA
                                    refine va_callv (va_runV (As := [.ref (ad (0 + 55 + 11 * bk3.toInt.toNat)), .int 0, .int l0]) (rest := []) ⟨hx, hb, hml, hown, hg⟩ (k_X8_fillColumn l g _ ad pe ct37 (0 + 55 + 11 * bk3.toInt.toNat) (0 : Int32) l0 (by omega) (by first | omega | decide) hI) (cwV 3 hg (z_gV mm_561 mm_563 mm_17 mm_108 mm_564) rfl rfl rfl (by decide +kernel) ⟨Nat.le_of_ble_eq_true rfl, Nat.le_of_ble_eq_true rfl⟩) ⟨(zA.pre [.ref (ad 0), .ref (ad (0 + 55 + 11 * bk3.toInt.toNat)), .int 0, .int l0] hP hK hD hN).1, va_recv hK hP (ci := 8) (q0 := 0) rfl (zw_at (by omega) hs38), (zA.pre [.ref (ad 0), .ref (ad (0 + 55 + 11 * bk3.toInt.toNat)), .int 0, .int l0] hP hK hD hN).2⟩ rfl rfl hl.1 rfl (lv_room (Nat.le_of_ble_eq_true rfl)) dX8_book_120 ⟨Nat.le_of_ble_eq_true rfl, Nat.le_of_ble_eq_true rfl⟩) hS (fun q _ h => hFc q h) hFc (fun _ t H1 locs ht hvm hr40 hB hz1 hk1 hS => ?_)
                                    obtain ⟨ct41, hP1, hD1, hI, hk42⟩ := hB
                                    rw [ht] at hP1
                                    have hD := hD1.weaken (fun _ _ _ h => hFc _ h)
                                    generalize H1 = H at hP1 hS ⊢
                                    have hP := hP1
                                    refine W.widen (k := 0) (n := 0) (Nat.le_refl _) (Nat.le_refl _) ?_
                                    have hs43 : ct41 0 = .inr (8, [.ref (ad 1), .ref (ad 2), .ref (ad 3), .ref (ad 5), .ref (ad 6), .ref (ad 9), .ref (ad 10), .ref (ad 17), .ref (ad 21), .ref (ad 34), .ref (ad (99 + 3 * dr2)), .int pe, .int bk3]) := hk42.trans hs38
                                    have hk0 : ct41 0 = ct 0 := hk42.trans hk0
                                    have hs44 : ct41 0 = .inr (8, [.ref (ad 1), .ref (ad 2), .ref (ad 3), .ref (ad 5), .ref (ad 6), .ref (ad 9), .ref (ad 10), .ref (ad 17), .ref (ad 21), .ref (ad 34), .ref (ad (99 + 3 * dr2)), .int pe, .int bk3]) := hk0.trans hs1
                                    refine lv_aload_n hx hb dX8_book_123 rfl (lv_at hl 3 rfl) ?_
                                    refine lv_aload hx hb dX8_book_124 (lv_at hl 1 rfl) ?_
                                    refine lv_iconst (v := 1) hx hb dX8_book_126 (by decide) ?_
                                    refine lv_iload_n hx hb dX8_book_127 rfl (lv_at hl 6 rfl) ?_
                                    have hFc := zw_free hD hS hA
                                    refine va_callv (va_runV (As := [.ref (ad (0 + 55 + 11 * bk3.toInt.toNat)), .int 1, .int l1]) (rest := []) ⟨hx, hb, hml, hown, hg⟩ (k_X8_fillColumn l g _ ad pe ct41 (0 + 55 + 11 * bk3.toInt.toNat) (1 : Int32) l1 (by omega) (by first | omega | decide) hI) (cwV 3 hg (z_gV mm_561 mm_563 mm_17 mm_108 mm_564) rfl rfl rfl (by decide +kernel) ⟨Nat.le_of_ble_eq_true rfl, Nat.le_of_ble_eq_true rfl⟩) ⟨(zA.pre [.ref (ad 0), .ref (ad (0 + 55 + 11 * bk3.toInt.toNat)), .int 1, .int l1] hP hK hD hN).1, va_recv hK hP (ci := 8) (q0 := 0) rfl (zw_at (by omega) hs44), (zA.pre [.ref (ad 0), .ref (ad (0 + 55 + 11 * bk3.toInt.toNat)), .int 1, .int l1] hP hK hD hN).2⟩ rfl rfl hl.1 rfl (lv_room (Nat.le_of_ble_eq_true rfl)) dX8_book_128 ⟨Nat.le_of_ble_eq_true rfl, Nat.le_of_ble_eq_true rfl⟩) hS (fun q _ h => hFc q h) hFc (fun _ t H1 locs ht hvm hr45 hB hz1 hk1 hS => ?_)
                                    obtain ⟨ct46, hP1, hD1, hI, hk47⟩ := hB
                                    rw [ht] at hP1
                                    have hD := hD1.weaken (fun _ _ _ h => hFc _ h)
                                    generalize H1 = H at hP1 hS ⊢
                                    have hP := hP1
                                    refine W.widen (k := 0) (n := 0) (Nat.le_refl _) (Nat.le_refl _) ?_
                                    have hs48 : ct46 0 = .inr (8, [.ref (ad 1), .ref (ad 2), .ref (ad 3), .ref (ad 5), .ref (ad 6), .ref (ad 9), .ref (ad 10), .ref (ad 17), .ref (ad 21), .ref (ad 34), .ref (ad (99 + 3 * dr2)), .int pe, .int bk3]) := hk47.trans hs44
                                    have hk0 : ct46 0 = ct 0 := hk47.trans hk0
                                    have hs49 : ct46 0 = .inr (8, [.ref (ad 1), .ref (ad 2), .ref (ad 3), .ref (ad 5), .ref (ad 6), .ref (ad 9), .ref (ad 10), .ref (ad 17), .ref (ad 21), .ref (ad 34), .ref (ad (99 + 3 * dr2)), .int pe, .int bk3]) := hk0.trans hs1
                                    refine lv_aload_n hx hb dX8_book_131 rfl (lv_at hl 3 rfl) ?_
                                    refine lv_aload hx hb dX8_book_132 (lv_at hl 1 rfl) ?_
                                    refine lv_iconst (v := 2) hx hb dX8_book_134 (by decide) ?_
                                    refine lv_iload hx hb dX8_book_135 (lv_at hl 7 rfl) ?_
                                    have hFc := zw_free hD hS hA
                                    refine va_callv (va_runV (As := [.ref (ad (0 + 55 + 11 * bk3.toInt.toNat)), .int 2, .int l2]) (rest := []) ⟨hx, hb, hml, hown, hg⟩ (k_X8_fillColumn l g _ ad pe ct46 (0 + 55 + 11 * bk3.toInt.toNat) (2 : Int32) l2 (by omega) (by first | omega | decide) hI) (cwV 3 hg (z_gV mm_561 mm_563 mm_17 mm_108 mm_564) rfl rfl rfl (by decide +kernel) ⟨Nat.le_of_ble_eq_true rfl, Nat.le_of_ble_eq_true rfl⟩) ⟨(zA.pre [.ref (ad 0), .ref (ad (0 + 55 + 11 * bk3.toInt.toNat)), .int 2, .int l2] hP hK hD hN).1, va_recv hK hP (ci := 8) (q0 := 0) rfl (zw_at (by omega) hs49), (zA.pre [.ref (ad 0), .ref (ad (0 + 55 + 11 * bk3.toInt.toNat)), .int 2, .int l2] hP hK hD hN).2⟩ rfl rfl hl.1 rfl (lv_room (Nat.le_of_ble_eq_true rfl)) dX8_book_137 ⟨Nat.le_of_ble_eq_true rfl, Nat.le_of_ble_eq_true rfl⟩) hS (fun q _ h => hFc q h) hFc (fun _ t H1 locs ht hvm hr50 hB hz1 hk1 hS => ?_)
                                    obtain ⟨ct51, hP1, hD1, hI, hk52⟩ := hB
                                    rw [ht] at hP1
                                    have hD := hD1.weaken (fun _ _ _ h => hFc _ h)
                                    generalize H1 = H at hP1 hS ⊢
                                    have hP := hP1
                                    refine W.widen (k := 0) (n := 0) (Nat.le_refl _) (Nat.le_refl _) ?_
                                    have hs53 : ct51 0 = .inr (8, [.ref (ad 1), .ref (ad 2), .ref (ad 3), .ref (ad 5), .ref (ad 6), .ref (ad 9), .ref (ad 10), .ref (ad 17), .ref (ad 21), .ref (ad 34), .ref (ad (99 + 3 * dr2)), .int pe, .int bk3]) := hk52.trans hs49
                                    have hk0 : ct51 0 = ct 0 := hk52.trans hk0
                                    have hs54 : ct51 0 = .inr (8, [.ref (ad 1), .ref (ad 2), .ref (ad 3), .ref (ad 5), .ref (ad 6), .ref (ad 9), .ref (ad 10), .ref (ad 17), .ref (ad 21), .ref (ad 34), .ref (ad (99 + 3 * dr2)), .int pe, .int bk3]) := hk0.trans hs1
                                    refine lv_aload_n hx hb dX8_book_140 rfl (lv_at hl 3 rfl) ?_
                                    refine lv_aload hx hb dX8_book_141 (lv_at hl 1 rfl) ?_
                                    refine lv_iconst (v := 3) hx hb dX8_book_143 (by decide) ?_
                                    refine lv_iload hx hb dX8_book_144 (lv_at hl 8 rfl) ?_
                                    have hFc := zw_free hD hS hA
                                    refine va_callv (va_runV (As := [.ref (ad (0 + 55 + 11 * bk3.toInt.toNat)), .int 3, .int l3]) (rest := []) ⟨hx, hb, hml, hown, hg⟩ (k_X8_fillColumn l g _ ad pe ct51 (0 + 55 + 11 * bk3.toInt.toNat) (3 : Int32) l3 (by omega) (by first | omega | decide) hI) (cwV 3 hg (z_gV mm_561 mm_563 mm_17 mm_108 mm_564) rfl rfl rfl (by decide +kernel) ⟨Nat.le_of_ble_eq_true rfl, Nat.le_of_ble_eq_true rfl⟩) ⟨(zA.pre [.ref (ad 0), .ref (ad (0 + 55 + 11 * bk3.toInt.toNat)), .int 3, .int l3] hP hK hD hN).1, va_recv hK hP (ci := 8) (q0 := 0) rfl (zw_at (by omega) hs54), (zA.pre [.ref (ad 0), .ref (ad (0 + 55 + 11 * bk3.toInt.toNat)), .int 3, .int l3] hP hK hD hN).2⟩ rfl rfl hl.1 rfl (lv_room (Nat.le_of_ble_eq_true rfl)) dX8_book_146 ⟨Nat.le_of_ble_eq_true rfl, Nat.le_of_ble_eq_true rfl⟩) hS (fun q _ h => hFc q h) hFc (fun _ t H1 locs ht hvm hr55 hB hz1 hk1 hS => ?_)
                                    obtain ⟨ct56, hP1, hD1, hI, hk57⟩ := hB
                                    rw [ht] at hP1
                                    have hD := hD1.weaken (fun _ _ _ h => hFc _ h)
                                    generalize H1 = H at hP1 hS ⊢
                                    have hP := hP1
                                    refine W.widen (k := 0) (n := 0) (Nat.le_refl _) (Nat.le_refl _) ?_
                                    have hs58 : ct56 0 = .inr (8, [.ref (ad 1), .ref (ad 2), .ref (ad 3), .ref (ad 5), .ref (ad 6), .ref (ad 9), .ref (ad 10), .ref (ad 17), .ref (ad 21), .ref (ad 34), .ref (ad (99 + 3 * dr2)), .int pe, .int bk3]) := hk57.trans hs54
                                    have hk0 : ct56 0 = ct 0 := hk57.trans hk0
                                    have hs59 : ct56 0 = .inr (8, [.ref (ad 1), .ref (ad 2), .ref (ad 3), .ref (ad 5), .ref (ad 6), .ref (ad 9), .ref (ad 10), .ref (ad 17), .ref (ad 21), .ref (ad 34), .ref (ad (99 + 3 * dr2)), .int pe, .int bk3]) := hk0.trans hs1
                                    refine lv_aload_n hx hb dX8_book_149 rfl (lv_at hl 3 rfl) ?_
                                    refine lv_dup hx hb dX8_book_150 rfl ?_
                                    refine va_get (D := g.1) (ci := 8) (v := .int bk3) (C := RX8) (T := TX8) (N := 13) hx hb hg inG8 hown hK hP 0 (zw_at (by omega) hs59) rfl 12 (by decide) (hg _ mm_372) (fun _ h9 => h9) rfl dX8_book_151 ?_
                                    refine lv_iconst (v := 1) hx hb dX8_book_154 (by decide) ?_
                                    refine lv_iadd hx hb dX8_book_155 ?_
                                    refine lv_topi (fun x60 ex60 => ?_)
                                    have tx60 : x60.toInt = bk3.toInt + 1 := by rw [ex60]; exact z_add rfl (by decide : (1 : Int32).toInt = 1) (by omega) (by omega)
                                    refine va_put (D := g.1) (ci := 8) (v := .int x60) (ty := .int) (C := RX8) (T := TX8) (N := 13) hx hb hg inG8 tyX8 tyX8_ok nmX8 hown hK hP hD hS 0 (zw_at (by omega) hs59) rfl 12 (by decide) (hg _ mm_372) (fun _ h9 => h9) rfl (by decide +kernel) rfl rfl (Nat.le_of_ble_eq_true rfl) dX8_book_156 (fun H locs hP hD hS => ?_)
                                    have hP : zP g ((zw 126 ad ct56).set 0 (ad 0, .inr (8, [.ref (ad 1), .ref (ad 2), .ref (ad 3), .ref (ad 5), .ref (ad 6), .ref (ad 9), .ref (ad 10), .ref (ad 17), .ref (ad 21), .ref (ad 34), .ref (ad (99 + 3 * dr2)), .int pe, .int x60]))) H := hP
                                    have hD : va_D A ((zw 126 ad ct56).set 0 (ad 0, .inr (8, [.ref (ad 1), .ref (ad 2), .ref (ad 3), .ref (ad 5), .ref (ad 6), .ref (ad 9), .ref (ad 10), .ref (ad 17), .ref (ad 21), .ref (ad 34), .ref (ad (99 + 3 * dr2)), .int pe, .int x60]))) := hD
                                    rw [zw_set (by omega)] at hP hD
                                    obtain ⟨ct61, ec62⟩ : ∃ z : Nat → va_E, z = va_up ct56 0 (.inr (8, [.ref (ad 1), .ref (ad 2), .ref (ad 3), .ref (ad 5), .ref (ad 6), .ref (ad 9), .ref (ad 10), .ref (ad 17), .ref (ad 21), .ref (ad 34), .ref (ad (99 + 3 * dr2)), .int pe, .int x60])) := ⟨_, rfl⟩
                                    rw [← ec62] at hP hD
                                    have hI : Inv8 g ad pe ct61 := by rw [ec62]; exact up8 hI (i8_0 ⟨(x60 : Int32), dr2, (by omega), (by first | omega | decide), (by first | omega | decide), rfl⟩)
                                    have hs63 : ct61 0 = .inr (8, [.ref (ad 1), .ref (ad 2), .ref (ad 3), .ref (ad 5), .ref (ad 6), .ref (ad 9), .ref (ad 10), .ref (ad 17), .ref (ad 21), .ref (ad 34), .ref (ad (99 + 3 * dr2)), .int pe, .int x60]) := by rw [ec62]; exact va_up_self _ _ _
                                    refine lv_aload_n hx hb dX8_book_159 rfl (lv_at hl 3 rfl) ?_
                                    refine va_get (D := g.1) (ci := 8) (v := .ref (ad 3)) (C := RX8) (T := TX8) (N := 13) hx hb hg inG8 hown hK hP 0 (zw_at (by omega) hs63) rfl 2 (by decide) (hg _ mm_362) (fun _ h9 => h9) rfl dX8_book_160 ?_
                                    obtain ⟨len65, h66, h67, hs64⟩ := a8_3 hI
                                    have hFc := zw_free hD hS hA
                                    refine va_callv (va_runV (As := []) (rest := []) ⟨hx, hb, hml, hown, hg⟩ (k_X7_clear l g _ ad pe ct61  hI) (cwV 0 hg (z_gV mm_575 mm_576 mm_577 mm_109 mm_578) rfl rfl rfl (by decide +kernel) ⟨Nat.le_of_ble_eq_true rfl, Nat.le_of_ble_eq_true rfl⟩) ⟨(zA.pre [.ref (ad 3)] hP hK hD hN).1, va_recv hK hP (ci := 7) (q0 := 3) rfl (zw_at (by omega) hs64), (zA.pre [.ref (ad 3)] hP hK hD hN).2⟩ rfl rfl hl.1 rfl (lv_room (Nat.le_of_ble_eq_true rfl)) dX8_book_163 ⟨Nat.le_of_ble_eq_true rfl, Nat.le_of_ble_eq_true rfl⟩) hS (fun q _ h => hFc q h) hFc (fun _ t H1 locs ht hvm hr68 hB hz1 hk1 hS => ?_)
                                    obtain ⟨ct69, hP1, hD1, hI, hk70⟩ := hB
                                    rw [ht] at hP1
                                    have hD := hD1.weaken (fun _ _ _ h => hFc _ h)
                                    generalize H1 = H at hP1 hS ⊢
                                    have hP := hP1
                                    refine W.widen (k := 0) (n := 0) (Nat.le_refl _) (Nat.le_refl _) ?_
                                    have hs71 : ct69 0 = .inr (8, [.ref (ad 1), .ref (ad 2), .ref (ad 3), .ref (ad 5), .ref (ad 6), .ref (ad 9), .ref (ad 10), .ref (ad 17), .ref (ad 21), .ref (ad 34), .ref (ad (99 + 3 * dr2)), .int pe, .int x60]) := hk70.trans hs63
                                    refine lv_iload hx hb dX8_book_166 (lv_at hl 2 rfl) ?_
                                    refine lv_if_eq (tgt := 180) hx hb dX8_book_168 (by decide) (fun c72 => ?_) (fun c72 => ?_)
                                    · skip
                                      exact absurd c72 (by decide)
                                    · skip
                                      refine lv_aload_n hx hb dX8_book_171 rfl (lv_at hl 3 rfl) ?_
                                      refine va_get (D := g.1) (ci := 8) (v := .int x60) (C := RX8) (T := TX8) (N := 13) hx hb hg inG8 hown hK hP 0 (zw_at (by omega) hs71) rfl 12 (by decide) (hg _ mm_372) (fun _ h9 => h9) rfl dX8_book_172 ?_
                                      refine lv_iconst (v := 1) hx hb dX8_book_175 (by decide) ?_
                                      refine lv_isub hx hb dX8_book_176 ?_
                                      refine lv_topi (fun x73 ex73 => ?_)
                                      have tx73 : x73.toInt = x60.toInt - 1 := by rw [ex73]; exact z_sub rfl (by decide : (1 : Int32).toInt = 1) (by omega) (by omega)
                                      refine lv_goto (tgt := 182) hx hb dX8_book_177 (by decide) ?_
                                      exact W.iret (v := x73) hx hb hr (fun t ht hW => ⟨⟨x73, (), rfl, trivial, ct69, by rw [ht]; exact hP, hD, hI⟩, hS.F ht⟩) hS.2.2 dX8_book_182
                                  · skip
                                    have c39 : ¬ (n.toInt ≤ v8_89.toInt) := fun q => c39 ((z_le rfl rfl).mpr q)
                                    refine lv_aload hx hb dX8_book_95 (lv_at hl 1 rfl) ?_
                                    refine lv_aload_n hx hb dX8_book_97 rfl (lv_at hl 3 rfl) ?_
                                    refine va_get (D := g.1) (ci := 8) (v := .ref (ad 3)) (C := RX8) (T := TX8) (N := 13) hx hb hg inG8 hown hK hP 0 (zw_at (by omega) hs38) rfl 2 (by decide) (hg _ mm_362) (fun _ h9 => h9) rfl dX8_book_98 ?_
                                    refine lv_iload hx hb dX8_book_101 (lv_at hl 0 rfl) ?_
                                    obtain ⟨len75, h76, h77, hs74⟩ := a8_3 hI
                                    refine zc_i (va_runV (As := [.int v8_89]) (rest := [.ref (ad (0 + 55 + 11 * bk3.toInt.toNat))]) ⟨hx, hb, hml, hown, hg⟩ (k_X7_byteAt l g ad pe ct37 v8_89 hI) (cwV 1 hg (z_gV mm_552 mm_553 mm_554 mm_109 mm_555) rfl rfl rfl (by decide +kernel) ⟨Nat.le_of_ble_eq_true rfl, Nat.le_of_ble_eq_true rfl⟩) ⟨(zR.pre [.ref (ad 3), .int v8_89] hP hK hN).1, va_recv hK hP (ci := 7) (q0 := 3) rfl (zw_at (by omega) hs74), (zR.pre [.ref (ad 3), .int v8_89] hP hK hN).2⟩ rfl rfl hl.1 rfl (lv_room (Nat.le_of_ble_eq_true rfl)) dX8_book_103 ⟨Nat.le_of_ble_eq_true rfl, Nat.le_of_ble_eq_true rfl⟩) (fun r78 hr78 => ?_)
                                    obtain ⟨lns80, liv81, shw82, h83, h84, h85, h86, hz87, hs79⟩ := a8_40 (kc := (0 + 55 + 11 * bk3.toInt.toNat)) (by omega) hI
                                    have bhz87 := z_b01 hz87
                                    have hFc := zw_free hD hS hA
                                    refine va_callv (va_runV (As := [.int r78]) (rest := []) ⟨hx, hb, hml, hown, hg⟩ (k_X2_add l g _ ad pe ct37 (0 + 55 + 11 * bk3.toInt.toNat) r78 (by omega) hI) (cwV 1 hg (z_gV mm_557 mm_558 mm_559 mm_116 mm_560) rfl rfl rfl (by decide +kernel) ⟨Nat.le_of_ble_eq_true rfl, Nat.le_of_ble_eq_true rfl⟩) ⟨(zA.pre [.ref (ad (0 + 55 + 11 * bk3.toInt.toNat)), .int r78] hP hK hD hN).1, va_recv hK hP (ci := 2) (q0 := (0 + 55 + 11 * bk3.toInt.toNat)) rfl (zw_at (by omega) hs79), (zA.pre [.ref (ad (0 + 55 + 11 * bk3.toInt.toNat)), .int r78] hP hK hD hN).2⟩ rfl rfl hl.1 rfl (lv_room (Nat.le_of_ble_eq_true rfl)) dX8_book_106 ⟨Nat.le_of_ble_eq_true rfl, Nat.le_of_ble_eq_true rfl⟩) hS (fun q _ h => hFc q h) hFc (fun _ t H1 locs ht hvm hr88 hB hz1 hk1 hS => ?_)
                                    obtain ⟨ct89, hP1, hD1, hI, hk90⟩ := hB
                                    rw [ht] at hP1
                                    have hD := hD1.weaken (fun _ _ _ h => hFc _ h)
                                    generalize H1 = H at hP1 hS ⊢
                                    have hP := hP1
                                    refine W.widen (k := 0) (n := 0) (Nat.le_refl _) (Nat.le_refl _) ?_
                                    have hs91 : ct89 0 = .inr (8, [.ref (ad 1), .ref (ad 2), .ref (ad 3), .ref (ad 5), .ref (ad 6), .ref (ad 9), .ref (ad 10), .ref (ad 17), .ref (ad 21), .ref (ad 34), .ref (ad (99 + 3 * dr2)), .int pe, .int bk3]) := hk90.trans hs38
                                    have hk0 : ct89 0 = ct 0 := hk90.trans hk0
                                    have hs92 : ct89 0 = .inr (8, [.ref (ad 1), .ref (ad 2), .ref (ad 3), .ref (ad 5), .ref (ad 6), .ref (ad 9), .ref (ad 10), .ref (ad 17), .ref (ad 21), .ref (ad 34), .ref (ad (99 + 3 * dr2)), .int pe, .int bk3]) := hk0.trans hs1
                                    obtain ⟨x93, ex93⟩ : ∃ y : Int32, y = v8_89 + 1 := ⟨_, rfl⟩
                                    have tx93 : x93.toInt = v8_89.toInt + 1 := by rw [ex93]; exact z_add rfl (by decide : (1 : Int32).toInt = 1) (by omega) (by omega)
                                    refine lv_iinc (v := x93) (lv' := [(8, .int x93), (7, .ref (ad (0 + 55 + 11 * bk3.toInt.toNat))), (6, .int 1), (0, .ref (ad 0)), (1, .int n), (2, .int l0), (3, .int l1), (4, .int l2), (5, .int l3)]) hx hb dX8_book_109 hl (k := 0) rfl (by rw [ex93]; rfl) (by decide) rfl (fun ls hl => ?_)
                                    refine lv_goto (tgt := 89) hx hb dX8_book_112 (by decide) ?_
                                    exact ih89 x93 ct89 _ _ ls (by omega) (by first | omega | decide) hk0 hI hP hD hS (lv_sub hl [0, 1, 2, 3, 4, 5, 6, 7, 8] rfl)
                              exact loop89 ((8 - (0 : Int32).toInt : Int).toNat + 1) (0 : Int32) ct _ _ ls (by omega) (by first | omega | decide) hk0 hI hP hD hS (lv_sub hl [0, 1, 2, 3, 4, 5, 6, 7, 8] rfl)
                          · skip
                            obtain rfl := hr34
                            refine lv_istore (lv' := [(6, .int 0), (0, .ref (ad 0)), (1, .int n), (2, .int l0), (3, .int l1), (4, .int l2), (5, .int l3)]) hx hb dX8_book_68 hl (by decide) rfl (fun ls hl => ?_)
                            refine lv_iload hx hb dX8_book_70 (lv_at hl 0 rfl) ?_
                            refine lv_if_eq (tgt := 159) hx hb dX8_book_72 (by decide) (fun c94 => ?_) (fun c94 => ?_)
                            · skip
                              refine lv_aload_n hx hb dX8_book_159 rfl (lv_at hl 1 rfl) ?_
                              refine va_get (D := g.1) (ci := 8) (v := .ref (ad 3)) (C := RX8) (T := TX8) (N := 13) hx hb hg inG8 hown hK hP 0 (zw_at (by omega) hs1) rfl 2 (by decide) (hg _ mm_362) (fun _ h9 => h9) rfl dX8_book_160 ?_
                              have hFc := zw_free hD hS hA
                              refine va_callv (va_runV (As := []) (rest := []) ⟨hx, hb, hml, hown, hg⟩ (k_X7_clear l g _ ad pe ct  hI) (cwV 0 hg (z_gV mm_575 mm_576 mm_577 mm_109 mm_578) rfl rfl rfl (by decide +kernel) ⟨Nat.le_of_ble_eq_true rfl, Nat.le_of_ble_eq_true rfl⟩) ⟨(zA.pre [.ref (ad 3)] hP hK hD hN).1, va_recv hK hP (ci := 7) (q0 := 3) rfl (zw_at (by omega) hs13), (zA.pre [.ref (ad 3)] hP hK hD hN).2⟩ rfl rfl hl.1 rfl (lv_room (Nat.le_of_ble_eq_true rfl)) dX8_book_163 ⟨Nat.le_of_ble_eq_true rfl, Nat.le_of_ble_eq_true rfl⟩) hS (fun q _ h => hFc q h) hFc (fun _ t H1 locs ht hvm hr95 hB hz1 hk1 hS => ?_)
                              obtain ⟨ct96, hP1, hD1, hI, hk97⟩ := hB
                              rw [ht] at hP1
                              have hD := hD1.weaken (fun _ _ _ h => hFc _ h)
                              generalize H1 = H at hP1 hS ⊢
                              have hP := hP1
                              refine W.widen (k := 0) (n := 0) (Nat.le_refl _) (Nat.le_refl _) ?_
                              have hs98 : ct96 0 = .inr (8, [.ref (ad 1), .ref (ad 2), .ref (ad 3), .ref (ad 5), .ref (ad 6), .ref (ad 9), .ref (ad 10), .ref (ad 17), .ref (ad 21), .ref (ad 34), .ref (ad (99 + 3 * dr2)), .int pe, .int bk3]) := hk97.trans hs1
                              have hk0 : ct96 0 = ct 0 := hk97.trans hk0
                              have hs99 : ct96 0 = .inr (8, [.ref (ad 1), .ref (ad 2), .ref (ad 3), .ref (ad 5), .ref (ad 6), .ref (ad 9), .ref (ad 10), .ref (ad 17), .ref (ad 21), .ref (ad 34), .ref (ad (99 + 3 * dr2)), .int pe, .int bk3]) := hk0.trans hs1
                              refine lv_iload hx hb dX8_book_166 (lv_at hl 0 rfl) ?_
                              refine lv_if_eq (tgt := 180) hx hb dX8_book_168 (by decide) (fun c100 => ?_) (fun c100 => ?_)
                              · skip
                                refine lv_bipush (v := (-2)) hx hb dX8_book_180 (by decide) ?_
                                have q101 : ((-2) : Int32).toInt = -2 := by decide
                                exact W.iret (v := (-2)) hx hb hr (fun t ht hW => ⟨⟨(-2), (), rfl, trivial, ct96, by rw [ht]; exact hP, hD, hI⟩, hS.F ht⟩) hS.2.2 dX8_book_182
                              · skip
                                exact absurd c100 (by decide)
                            · skip
                              exact absurd c94 (by decide)
                        · skip
                          exact absurd c33 (by decide)
                      · skip
                        obtain ⟨rfl, h102⟩ := hr30
                        have h102 : ¬ (0 ≤ l3.toInt ∧ l3.toInt ≤ 4) := h102
                        refine lv_if_ne (tgt := 63) hx hb dX8_book_58 (by decide) (fun c103 => ?_) (fun c103 => ?_)
                        · skip
                          exact absurd c103 (by decide)
                        · skip
                          refine lv_iconst (v := (-1)) hx hb dX8_book_61 (by decide) ?_
                          have q104 : ((-1) : Int32).toInt = -1 := by decide
                          exact W.iret (v := (-1)) hx hb hr (fun t ht hW => ⟨⟨(-1), (), rfl, trivial, ct, by rw [ht]; exact hP, hD, hI⟩, hS.F ht⟩) hS.2.2 dX8_book_62
                  · skip
                    obtain ⟨rfl, h105⟩ := hr26
                    have h105 : ¬ (0 ≤ l2.toInt ∧ l2.toInt ≤ 4) := h105
                    refine lv_if_eq (tgt := 61) hx hb dX8_book_50 (by decide) (fun c106 => ?_) (fun c106 => ?_)
                    · skip
                      refine lv_iconst (v := (-1)) hx hb dX8_book_61 (by decide) ?_
                      have q107 : ((-1) : Int32).toInt = -1 := by decide
                      exact W.iret (v := (-1)) hx hb hr (fun t ht hW => ⟨⟨(-1), (), rfl, trivial, ct, by rw [ht]; exact hP, hD, hI⟩, hS.F ht⟩) hS.2.2 dX8_book_62
                    · skip
                      exact absurd c106 (by decide)
              · skip
                obtain ⟨rfl, h108⟩ := hr22
                have h108 : ¬ (0 ≤ l1.toInt ∧ l1.toInt ≤ 4) := h108
                refine lv_if_eq (tgt := 61) hx hb dX8_book_42 (by decide) (fun c109 => ?_) (fun c109 => ?_)
                · skip
                  refine lv_iconst (v := (-1)) hx hb dX8_book_61 (by decide) ?_
                  have q110 : ((-1) : Int32).toInt = -1 := by decide
                  exact W.iret (v := (-1)) hx hb hr (fun t ht hW => ⟨⟨(-1), (), rfl, trivial, ct, by rw [ht]; exact hP, hD, hI⟩, hS.F ht⟩) hS.2.2 dX8_book_62
                · skip
                  exact absurd c109 (by decide)
          · skip
            obtain ⟨rfl, h111⟩ := hr18
            have h111 : ¬ (0 ≤ l0.toInt ∧ l0.toInt ≤ 4) := h111
            refine lv_if_eq (tgt := 61) hx hb dX8_book_35 (by decide) (fun c112 => ?_) (fun c112 => ?_)
            · skip
              refine lv_iconst (v := (-1)) hx hb dX8_book_61 (by decide) ?_
              have q113 : ((-1) : Int32).toInt = -1 := by decide
              exact W.iret (v := (-1)) hx hb hr (fun t ht hW => ⟨⟨(-1), (), rfl, trivial, ct, by rw [ht]; exact hP, hD, hI⟩, hS.F ht⟩) hS.2.2 dX8_book_62
            · skip
              exact absurd c112 (by decide)
        · skip
          have c17 : ¬ (n.toInt ≤ len14.toInt) := fun q => c17 ((z_le rfl rfl).mpr q)
          refine lv_iconst (v := (-1)) hx hb dX8_book_29 (by decide) ?_
          have q114 : ((-1) : Int32).toInt = -1 := by decide
          exact W.iret (v := (-1)) hx hb hr (fun t ht hW => ⟨⟨(-1), (), rfl, trivial, ct, by rw [ht]; exact hP, hD, hI⟩, hS.F ht⟩) hS.2.2 dX8_book_30
  · skip
    obtain ⟨rfl, h115⟩ := hr7
    have h115 : ¬ ((1 : Int) ≤ n.toInt ∧ n.toInt ≤ (8 : Int)) := h115
    refine lv_if_eq (tgt := 29) hx hb dX8_book_7 (by decide) (fun c116 => ?_) (fun c116 => ?_)
    · skip
      refine lv_iconst (v := (-1)) hx hb dX8_book_29 (by decide) ?_
      have q117 : ((-1) : Int32).toInt = -1 := by decide
      exact W.iret (v := (-1)) hx hb hr (fun t ht hW => ⟨⟨(-1), (), rfl, trivial, ct, by rw [ht]; exact hP, hD, hI⟩, hS.F ht⟩) hS.2.2 dX8_book_30
    · skip
      exact absurd c116 (by decide)

set_option maxHeartbeats 4000000 in
set_option maxRecDepth 100000 in
theorem k_X8_cut (l : Launch) (g : zG) (sz : Nat) (ad : Nat → Nat) (pe : Int32) (ct : Nat → va_E) (b : Int32) (i : Int32) (hI : Inv8 g ad pe ct) : Met l yX8_cut (zW yX8_cut cX8_cut 3 (some .boolean)) ({ frames := 3, cells := 0, slots := 0, locals := 66 }) (va_Pc [.ref (ad 0), .int b, .int i] (zA g (zw 126 ad ct) sz)) (va_Qi (fun (r : Int32) (_ : Unit) => (True)) (fun _ t => ∃ ct2 : Nat → va_E, zP g (zw 126 ad ct2) t.heap ∧ va_D (va_A (zw 126 ad ct) sz) (zw 126 ad ct2) ∧ Inv8 g ad pe ct2) (va_A (zw 126 ad ct) sz)) 0 0 (va_A (zw 126 ad ct) sz) := by
  refine Met.ofW (cc := cX8_cut) (maxL := 3) (ret := (some .boolean)) (by decide) rfl ?_
  intro p e s m args below meth c s₁ B hml hv
  obtain ⟨rfl, hsz, hP, hK, hD0, hN⟩ := hv
  have hx := B.exec
  have hb := B.bytes
  have hr := B.returns
  have hg := zW.law (atoms_spec (ws := (zW yX8_cut cX8_cut 3 (some .boolean))) B.pre)
  have hown : s.vm.findClass RX8 = some m.cls := findClass_of_methodNamed B.named
  have hlocks := B.notSynchronized
  have hpe0 := hI.1
  subst hsz
  have hD := hD0.self (sz := s.heap.size)
  generalize hAe : va_A (zw 126 ad ct) s.heap.size = A at hD ⊢
  have hA : ∀ q : Nat, s.heap.size ≤ q → A q := fun q h => by rw [← hAe]; exact Or.inr h
  have hS : va_S A s.heap s.heap [] := va_S.rf
  have hl := lv_entry ([.ref (ad 0), .int b, .int i]) (n := 3) (Nat.le_of_ble_eq_true rfl)
  rw [lg_entry_eq]
  generalize (lg_sl ([.ref (ad 0), .int b, .int i]) ++ List.replicate (3 - (lg_sl ([.ref (ad 0), .int b, .int i])).length) Slot.unset).toArray = ls at hl ⊢
  have hl : lv_has ls 3 [(0, .ref (ad 0)), (1, .int b), (2, .int i)] := hl
  have rg_b := z_rng b
  have rg_i := z_rng i
  refine lv_aload_n hx hb dX8_cut_0 rfl (lv_at hl 0 rfl) ?_
  refine lv_iload_n hx hb dX8_cut_1 rfl (lv_at hl 1 rfl) ?_
  refine lv_iload_n hx hb dX8_cut_2 rfl (lv_at hl 2 rfl) ?_
  obtain ⟨bk3, dr2, h4, h5, h6, hs1⟩ := a8_0 hI
  refine zc_i (va_runV (As := [.int b, .int i]) (rest := []) ⟨hx, hb, hml, hown, hg⟩ (k_X8_isLive l g ad pe ct b i hI) (cwV 2 hg (z_gV mm_583 mm_585 mm_18 mm_108 mm_586) rfl rfl rfl (by decide +kernel) ⟨Nat.le_of_ble_eq_true rfl, Nat.le_of_ble_eq_true rfl⟩) ⟨(zR.pre [.ref (ad 0), .int b, .int i] hP hK hN).1, va_recv hK hP (ci := 8) (q0 := 0) rfl (zw_at (by omega) hs1), (zR.pre [.ref (ad 0), .int b, .int i] hP hK hN).2⟩ rfl rfl hl.1 rfl (lv_room (Nat.le_of_ble_eq_true rfl)) dX8_cut_3 ⟨Nat.le_of_ble_eq_true rfl, Nat.le_of_ble_eq_true rfl⟩) (fun r7 hr7 => ?_)
  rcases hr7 with hr7 | hr7
  · skip
    obtain ⟨rfl, h8, h9⟩ := hr7
    have h8 : 0 ≤ b.toInt ∧ b.toInt ≤ 3 := h8
    have h9 : 0 ≤ i.toInt ∧ i.toInt ≤ 7 := h9
    refine lv_if_ne (tgt := 11) hx hb dX8_cut_6 (by decide) (fun c10 => ?_) (fun c10 => ?_)
    · skip
      refine lv_aload_n hx hb dX8_cut_11 rfl (lv_at hl 0 rfl) ?_
      refine va_get (D := g.1) (ci := 8) (v := .ref (ad 5)) (C := RX8) (T := TX8) (N := 13) hx hb hg inG8 hown hK hP 0 (zw_at (by omega) hs1) rfl 3 (by decide) (hg _ mm_363) (fun _ h9 => h9) rfl dX8_cut_12 ?_
      refine lv_iload_n hx hb dX8_cut_15 rfl (lv_at hl 1 rfl) ?_
      have hs11 := a8_5 hI
      refine va_aldq hx hb hK hP 5 5 (zw_at (by omega) hs11) rfl (z_in rfl (by omega) (by omega)) dX8_cut_16 ?_
      rw [zF5_at (x := b) (by omega) (by omega)]
      refine lv_dup hx hb dX8_cut_17 rfl ?_
      obtain ⟨lns13, liv14, shw15, h16, h17, h18, h19, hz20, hs12⟩ := a8_40 (kc := (0 + 55 + 11 * b.toInt.toNat)) (by omega) hI
      have bhz20 := z_b01 hz20
      refine va_get (D := g.1) (ci := 2) (v := .int liv14) (C := RX2) (T := TX2) (N := 5) hx hb hg inG2 hown hK hP (0 + 55 + 11 * b.toInt.toNat) (zw_at (by omega) hs12) rfl 1 (by decide) (hg _ mm_344) (fun _ h9 => h9) rfl dX8_cut_18 ?_
      refine lv_iconst (v := 1) hx hb dX8_cut_21 (by decide) ?_
      refine lv_iload_n hx hb dX8_cut_22 rfl (lv_at hl 2 rfl) ?_
      refine lv_ishl hx hb dX8_cut_23 ?_
      refine lv_topi (fun x21 ex21 => ?_)
      have tx21 := z_shl1 (y := i) rfl (by omega) (k := 7) (by decide) (by omega)
      rw [← ex21] at tx21
      refine lv_iconst (v := (-1)) hx hb dX8_cut_24 (by decide) ?_
      refine lv_ixor hx hb dX8_cut_25 ?_
      refine lv_topi (fun x22 ex22 => ?_)
      refine lv_iand hx hb dX8_cut_26 ?_
      refine lv_topi (fun x23 ex23 => ?_)
      have tx23 := z_andl (x := liv14) (y := x22) rfl (by omega)
      rw [← ex23] at tx23
      refine va_put (D := g.1) (ci := 2) (v := .int x23) (ty := .int) (C := RX2) (T := TX2) (N := 5) hx hb hg inG2 tyX2 tyX2_ok nmX2 hown hK hP hD hS (0 + 55 + 11 * b.toInt.toNat) (zw_at (by omega) hs12) rfl 1 (by decide) (hg _ mm_344) (fun _ h9 => h9) rfl (by decide +kernel) rfl rfl (Nat.le_of_ble_eq_true rfl) dX8_cut_27 (fun H locs hP hD hS => ?_)
      have hP : zP g ((zw 126 ad ct).set (0 + 55 + 11 * b.toInt.toNat) (ad (0 + 55 + 11 * b.toInt.toNat), .inr (2, [.int lns13, .int x23, .int shw15, .ref (ad ((0 + 55 + 11 * b.toInt.toNat) + 1)), .ref (ad ((0 + 55 + 11 * b.toInt.toNat) + 2))]))) H := hP
      have hD : va_D A ((zw 126 ad ct).set (0 + 55 + 11 * b.toInt.toNat) (ad (0 + 55 + 11 * b.toInt.toNat), .inr (2, [.int lns13, .int x23, .int shw15, .ref (ad ((0 + 55 + 11 * b.toInt.toNat) + 1)), .ref (ad ((0 + 55 + 11 * b.toInt.toNat) + 2))]))) := hD
      rw [zw_set (by omega)] at hP hD
      obtain ⟨ct24, ec25⟩ : ∃ z : Nat → va_E, z = va_up ct (0 + 55 + 11 * b.toInt.toNat) (.inr (2, [.int lns13, .int x23, .int shw15, .ref (ad ((0 + 55 + 11 * b.toInt.toNat) + 1)), .ref (ad ((0 + 55 + 11 * b.toInt.toNat) + 2))])) := ⟨_, rfl⟩
      rw [← ec25] at hP hD
      have hI : Inv8 g ad pe ct24 := by rw [ec25]; exact up8 hI (i8_40 (kc := (0 + 55 + 11 * b.toInt.toNat)) (by omega) ⟨(lns13 : Int32), (x23 : Int32), (shw15 : Int32), (by first | omega | decide), (by first | omega | decide), (by first | omega | decide), (by first | omega | decide), hz20, rfl⟩)
      have hs26 : ct24 0 = .inr (8, [.ref (ad 1), .ref (ad 2), .ref (ad 3), .ref (ad 5), .ref (ad 6), .ref (ad 9), .ref (ad 10), .ref (ad 17), .ref (ad 21), .ref (ad 34), .ref (ad (99 + 3 * dr2)), .int pe, .int bk3]) := by rw [ec25, va_up_ne _ _ (by omega)]; exact hs1
      have hs27 : ct24 5 = .inl (g.2 5, 4, .inr (.inr (.inr (.inr (zF5 ad 0))))) := by rw [ec25, va_up_ne _ _ (by omega)]; exact hs11
      have hs28 : ct24 (0 + 55 + 11 * b.toInt.toNat) = .inr (2, [.int lns13, .int x23, .int shw15, .ref (ad ((0 + 55 + 11 * b.toInt.toNat) + 1)), .ref (ad ((0 + 55 + 11 * b.toInt.toNat) + 2))]) := by rw [ec25]; exact va_up_self _ _ _
      refine lv_iconst (v := 1) hx hb dX8_cut_30 (by decide) ?_
      have q29 : (1 : Int32).toInt = 1 := by decide
      exact W.zret (v := 1) hx hb hr rfl (fun t ht hW => ⟨⟨1, (), rfl, trivial, ct24, by rw [ht]; exact hP, hD, hI⟩, hS.F ht⟩) hS.2.2 dX8_cut_31
    · skip
      exact absurd c10 (by decide)
  · skip
    obtain rfl := hr7
    refine lv_if_ne (tgt := 11) hx hb dX8_cut_6 (by decide) (fun c30 => ?_) (fun c30 => ?_)
    · skip
      exact absurd c30 (by decide)
    · skip
      refine lv_iconst (v := 0) hx hb dX8_cut_9 (by decide) ?_
      have q31 : (0 : Int32).toInt = 0 := by decide
      exact W.zret (v := 0) hx hb hr rfl (fun t ht hW => ⟨⟨0, (), rfl, trivial, ct, by rw [ht]; exact hP, hD, hI⟩, hS.F ht⟩) hS.2.2 dX8_cut_10
