set_option maxHeartbeats 4000000 in
set_option maxRecDepth 100000 in
theorem k_X8_tooFew (l : Launch) (g : zG) (sz : Nat) (ad : Nat → Nat) (pe : Int32) (ct : Nat → va_E) (b : Int32) (kn : Int32) (hI : Inv8 g ad pe ct) : Met l yX8_tooFew (zW yX8_tooFew cX8_tooFew 3 (some .int)) ({ frames := 5, cells := 0, slots := 0, locals := 117 }) (va_Pc [.ref (ad 0), .int b, .int kn] (zA g (zw 126 ad ct) sz)) (va_Qi (fun (r : Int32) (_ : Unit) => (True)) (fun _ t => ∃ ct2 : Nat → va_E, zP g (zw 126 ad ct2) t.heap ∧ va_D (va_A (zw 126 ad ct) sz) (zw 126 ad ct2) ∧ Inv8 g ad pe ct2) (va_A (zw 126 ad ct) sz)) 0 0 (va_A (zw 126 ad ct) sz) := by
  refine Met.ofW (cc := cX8_tooFew) (maxL := 3) (ret := (some .int)) (by decide) rfl ?_
  intro p e s m args below meth c s₁ B hml hv
  obtain ⟨rfl, hsz, hP, hK, hD0, hN⟩ := hv
  have hx := B.exec
  have hb := B.bytes
  have hr := B.returns
  have hg := zW.law (atoms_spec (ws := (zW yX8_tooFew cX8_tooFew 3 (some .int))) B.pre)
  have hown : s.vm.findClass RX8 = some m.cls := findClass_of_methodNamed B.named
  have hlocks := B.notSynchronized
  have hpe0 := hI.1
  subst hsz
  have hD := hD0.self (sz := s.heap.size)
  generalize hAe : va_A (zw 126 ad ct) s.heap.size = A at hD ⊢
  have hA : ∀ q : Nat, s.heap.size ≤ q → A q := fun q h => by rw [← hAe]; exact Or.inr h
  have hS : va_S A s.heap s.heap [] := va_S.rf
  have hl := lv_entry ([.ref (ad 0), .int b, .int kn]) (n := 3) (Nat.le_of_ble_eq_true rfl)
  rw [lg_entry_eq]
  generalize (lg_sl ([.ref (ad 0), .int b, .int kn]) ++ List.replicate (3 - (lg_sl ([.ref (ad 0), .int b, .int kn])).length) Slot.unset).toArray = ls at hl ⊢
  have hl : lv_has ls 3 [(0, .ref (ad 0)), (1, .int b), (2, .int kn)] := hl
  have rg_b := z_rng b
  have rg_kn := z_rng kn
  refine lv_aload_n hx hb dX8_tooFew_0 rfl (lv_at hl 0 rfl) ?_
  refine lv_iload_n hx hb dX8_tooFew_1 rfl (lv_at hl 1 rfl) ?_
  obtain ⟨bk3, dr2, h4, h5, h6, hs1⟩ := a8_0 hI
  refine zc_i (va_runV (As := [.int b]) (rest := []) ⟨hx, hb, hml, hown, hg⟩ (k_X8_isBook l g ad pe ct b hI) (cwV 1 hg (z_gV mm_591 mm_593 mm_20 mm_108 mm_594) rfl rfl rfl (by decide +kernel) ⟨Nat.le_of_ble_eq_true rfl, Nat.le_of_ble_eq_true rfl⟩) ⟨(zR.pre [.ref (ad 0), .int b] hP hK hN).1, va_recv hK hP (ci := 8) (q0 := 0) rfl (zw_at (by omega) hs1), (zR.pre [.ref (ad 0), .int b] hP hK hN).2⟩ rfl rfl hl.1 rfl (lv_room (Nat.le_of_ble_eq_true rfl)) dX8_tooFew_2 ⟨Nat.le_of_ble_eq_true rfl, Nat.le_of_ble_eq_true rfl⟩) (fun r7 hr7 => ?_)
  rcases hr7 with hr7 | hr7
  · skip
    obtain ⟨rfl, h8, h9⟩ := hr7
    have h8 : 0 ≤ b.toInt := h8
    have h9 : b.toInt ≤ 3 := h9
    refine lv_if_eq (tgt := 15) hx hb dX8_tooFew_5 (by decide) (fun c10 => ?_) (fun c10 => ?_)
    · skip
      exact absurd c10 (by decide)
    · skip
      refine lv_iload_n hx hb dX8_tooFew_8 rfl (lv_at hl 2 rfl) ?_
      refine zc_i (va_runS (As := [.int kn]) (rest := []) ⟨hx, hb, hml, hown, hg⟩ (k_X8_areGossips l g ad pe ct kn hI) (va_cwS 1 hg (z_gS mm_652 mm_653 mm_108 mm_654) rfl rfl rfl (by decide +kernel) ⟨Nat.le_of_ble_eq_true rfl, Nat.le_of_ble_eq_true rfl⟩) (zR.pre [.int kn] hP hK hN) rfl rfl hl.1 rfl (lv_room (Nat.le_of_ble_eq_true rfl)) dX8_tooFew_9 ⟨Nat.le_of_ble_eq_true rfl, Nat.le_of_ble_eq_true rfl⟩) (fun r11 hr11 => ?_)
      rcases hr11 with hr11 | hr11
      · skip
        obtain ⟨rfl, h12, h13⟩ := hr11
        have h12 : 0 ≤ kn.toInt := h12
        have h13 : kn.toInt ≤ 255 := h13
        refine lv_if_ne (tgt := 17) hx hb dX8_tooFew_12 (by decide) (fun c14 => ?_) (fun c14 => ?_)
        · skip
          refine lv_aload_n hx hb dX8_tooFew_17 rfl (lv_at hl 0 rfl) ?_
          refine lv_iload_n hx hb dX8_tooFew_18 rfl (lv_at hl 1 rfl) ?_
          refine lv_iload_n hx hb dX8_tooFew_19 rfl (lv_at hl 2 rfl) ?_
          have hFc := zw_free hD hS hA
          refine va_callv (va_runV (As := [.int b, .int kn]) (rest := []) ⟨hx, hb, hml, hown, hg⟩ (k_X8_fit l g _ ad pe ct b kn (by first | omega | decide) hI) (cwV 2 hg (z_gV mm_655 mm_657 mm_21 mm_108 mm_658) rfl rfl rfl (by decide +kernel) ⟨Nat.le_of_ble_eq_true rfl, Nat.le_of_ble_eq_true rfl⟩) ⟨(zA.pre [.ref (ad 0), .int b, .int kn] hP hK hD hN).1, va_recv hK hP (ci := 8) (q0 := 0) rfl (zw_at (by omega) hs1), (zA.pre [.ref (ad 0), .int b, .int kn] hP hK hD hN).2⟩ rfl rfl hl.1 rfl (lv_room (Nat.le_of_ble_eq_true rfl)) dX8_tooFew_20 ⟨Nat.le_of_ble_eq_true rfl, Nat.le_of_ble_eq_true rfl⟩) hS (fun q _ h => hFc q h) hFc (fun _ t H1 locs ht hvm hr15 hB hz1 hk1 hS => ?_)
          obtain ⟨ct16, hP1, hD1, hI⟩ := hB
          rw [ht] at hP1
          have hD := hD1.weaken (fun _ _ _ h => hFc _ h)
          generalize H1 = H at hP1 hS ⊢
          have hP := hP1
          refine W.widen (k := 0) (n := 0) (Nat.le_refl _) (Nat.le_refl _) ?_
          refine lv_aload_n hx hb dX8_tooFew_23 rfl (lv_at hl 0 rfl) ?_
          obtain ⟨bk19, dr18, h20, h21, h22, hs17⟩ := a8_0 hI
          refine va_get (D := g.1) (ci := 8) (v := .ref (ad 10)) (C := RX8) (T := TX8) (N := 13) hx hb hg inG8 hown hK hP 0 (zw_at (by omega) hs17) rfl 6 (by decide) (hg _ mm_366) (fun _ h9 => h9) rfl dX8_tooFew_24 ?_
          obtain ⟨lns24, liv25, lak26, fnd27, h28, h29, h30, h31, hs23⟩ := a8_10 hI
          have hFc := zw_free hD hS hA
          refine va_callv (va_runV (As := []) (rest := []) ⟨hx, hb, hml, hown, hg⟩ (k_X6_weigh l g _ ad pe ct16  hI) (cwV 0 hg (z_gV mm_720 mm_721 mm_722 mm_111 mm_723) rfl rfl rfl (by decide +kernel) ⟨Nat.le_of_ble_eq_true rfl, Nat.le_of_ble_eq_true rfl⟩) ⟨(zA.pre [.ref (ad 10)] hP hK hD hN).1, va_recv hK hP (ci := 6) (q0 := 10) rfl (zw_at (by omega) hs23), (zA.pre [.ref (ad 10)] hP hK hD hN).2⟩ rfl rfl hl.1 rfl (lv_room (Nat.le_of_ble_eq_true rfl)) dX8_tooFew_27 ⟨Nat.le_of_ble_eq_true rfl, Nat.le_of_ble_eq_true rfl⟩) hS (fun q _ h => hFc q h) hFc (fun _ t H1 locs ht hvm hr32 hB hz1 hk1 hS => ?_)
          obtain ⟨ct33, hP1, hD1, hI⟩ := hB
          rw [ht] at hP1
          have hD := hD1.weaken (fun _ _ _ h => hFc _ h)
          generalize H1 = H at hP1 hS ⊢
          have hP := hP1
          refine W.widen (k := 0) (n := 0) (Nat.le_refl _) (Nat.le_refl _) ?_
          refine lv_aload_n hx hb dX8_tooFew_30 rfl (lv_at hl 0 rfl) ?_
          obtain ⟨bk36, dr35, h37, h38, h39, hs34⟩ := a8_0 hI
          refine va_get (D := g.1) (ci := 8) (v := .ref (ad 10)) (C := RX8) (T := TX8) (N := 13) hx hb hg inG8 hown hK hP 0 (zw_at (by omega) hs34) rfl 6 (by decide) (hg _ mm_366) (fun _ h9 => h9) rfl dX8_tooFew_31 ?_
          obtain ⟨lns41, liv42, lak43, fnd44, h45, h46, h47, h48, hs40⟩ := a8_10 hI
          refine va_get (D := g.1) (ci := 6) (v := .int lak43) (C := RX6) (T := TX6) (N := 10) hx hb hg inG6 hown hK hP 10 (zw_at (by omega) hs40) rfl 2 (by decide) (hg _ mm_177) (fun _ h9 => h9) rfl dX8_tooFew_34 ?_
          exact W.iret (v := lak43) hx hb hr (fun t ht hW => ⟨⟨lak43, (), rfl, trivial, ct33, by rw [ht]; exact hP, hD, hI⟩, hS.F ht⟩) hS.2.2 dX8_tooFew_37
        · skip
          exact absurd c14 (by decide)
      · skip
        obtain ⟨rfl, h49⟩ := hr11
        have h49 : ¬ (0 ≤ kn.toInt ∧ kn.toInt ≤ 255) := h49
        refine lv_if_ne (tgt := 17) hx hb dX8_tooFew_12 (by decide) (fun c50 => ?_) (fun c50 => ?_)
        · skip
          exact absurd c50 (by decide)
        · skip
          refine lv_iconst (v := (-1)) hx hb dX8_tooFew_15 (by decide) ?_
          have q51 : ((-1) : Int32).toInt = -1 := by decide
          exact W.iret (v := (-1)) hx hb hr (fun t ht hW => ⟨⟨(-1), (), rfl, trivial, ct, by rw [ht]; exact hP, hD, hI⟩, hS.F ht⟩) hS.2.2 dX8_tooFew_16
  · skip
    obtain rfl := hr7
    refine lv_if_eq (tgt := 15) hx hb dX8_tooFew_5 (by decide) (fun c52 => ?_) (fun c52 => ?_)
    · skip
      refine lv_iconst (v := (-1)) hx hb dX8_tooFew_15 (by decide) ?_
      have q53 : ((-1) : Int32).toInt = -1 := by decide
      exact W.iret (v := (-1)) hx hb hr (fun t ht hW => ⟨⟨(-1), (), rfl, trivial, ct, by rw [ht]; exact hP, hD, hI⟩, hS.F ht⟩) hS.2.2 dX8_tooFew_16
    · skip
      exact absurd c52 (by decide)

set_option maxHeartbeats 4000000 in
set_option maxRecDepth 100000 in
theorem k_X8_steps (l : Launch) (g : zG) (sz : Nat) (ad : Nat → Nat) (pe : Int32) (ct : Nat → va_E) (b : Int32) (kn : Int32) (wh : Int32) (hI : Inv8 g ad pe ct) : Met l yX8_steps (zW yX8_steps cX8_steps 5 (some .int)) ({ frames := 5, cells := 0, slots := 0, locals := 117 }) (va_Pc [.ref (ad 0), .int b, .int kn, .int wh] (zA g (zw 126 ad ct) sz)) (va_Qi (fun (r : Int32) (_ : Unit) => (True)) (fun _ t => ∃ ct2 : Nat → va_E, zP g (zw 126 ad ct2) t.heap ∧ va_D (va_A (zw 126 ad ct) sz) (zw 126 ad ct2) ∧ Inv8 g ad pe ct2) (va_A (zw 126 ad ct) sz)) 0 0 (va_A (zw 126 ad ct) sz) := by
  refine Met.ofW (cc := cX8_steps) (maxL := 5) (ret := (some .int)) (by decide) rfl ?_
  intro p e s m args below meth c s₁ B hml hv
  obtain ⟨rfl, hsz, hP, hK, hD0, hN⟩ := hv
  have hx := B.exec
  have hb := B.bytes
  have hr := B.returns
  have hg := zW.law (atoms_spec (ws := (zW yX8_steps cX8_steps 5 (some .int))) B.pre)
  have hown : s.vm.findClass RX8 = some m.cls := findClass_of_methodNamed B.named
  have hlocks := B.notSynchronized
  have hpe0 := hI.1
  subst hsz
  have hD := hD0.self (sz := s.heap.size)
  generalize hAe : va_A (zw 126 ad ct) s.heap.size = A at hD ⊢
  have hA : ∀ q : Nat, s.heap.size ≤ q → A q := fun q h => by rw [← hAe]; exact Or.inr h
  have hS : va_S A s.heap s.heap [] := va_S.rf
  have hl := lv_entry ([.ref (ad 0), .int b, .int kn, .int wh]) (n := 5) (Nat.le_of_ble_eq_true rfl)
  rw [lg_entry_eq]
  generalize (lg_sl ([.ref (ad 0), .int b, .int kn, .int wh]) ++ List.replicate (5 - (lg_sl ([.ref (ad 0), .int b, .int kn, .int wh])).length) Slot.unset).toArray = ls at hl ⊢
  have hl : lv_has ls 5 [(0, .ref (ad 0)), (1, .int b), (2, .int kn), (3, .int wh)] := hl
  have rg_b := z_rng b
  have rg_kn := z_rng kn
  have rg_wh := z_rng wh
  refine lv_aload_n hx hb dX8_steps_0 rfl (lv_at hl 0 rfl) ?_
  refine lv_iload_n hx hb dX8_steps_1 rfl (lv_at hl 1 rfl) ?_
  obtain ⟨bk3, dr2, h4, h5, h6, hs1⟩ := a8_0 hI
  refine zc_i (va_runV (As := [.int b]) (rest := []) ⟨hx, hb, hml, hown, hg⟩ (k_X8_isBook l g ad pe ct b hI) (cwV 1 hg (z_gV mm_591 mm_593 mm_20 mm_108 mm_594) rfl rfl rfl (by decide +kernel) ⟨Nat.le_of_ble_eq_true rfl, Nat.le_of_ble_eq_true rfl⟩) ⟨(zR.pre [.ref (ad 0), .int b] hP hK hN).1, va_recv hK hP (ci := 8) (q0 := 0) rfl (zw_at (by omega) hs1), (zR.pre [.ref (ad 0), .int b] hP hK hN).2⟩ rfl rfl hl.1 rfl (lv_room (Nat.le_of_ble_eq_true rfl)) dX8_steps_2 ⟨Nat.le_of_ble_eq_true rfl, Nat.le_of_ble_eq_true rfl⟩) (fun r7 hr7 => ?_)
  rcases hr7 with hr7 | hr7
  · skip
    obtain ⟨rfl, h8, h9⟩ := hr7
    have h8 : 0 ≤ b.toInt := h8
    have h9 : b.toInt ≤ 3 := h9
    refine lv_if_eq (tgt := 15) hx hb dX8_steps_5 (by decide) (fun c10 => ?_) (fun c10 => ?_)
    · skip
      exact absurd c10 (by decide)
    · skip
      refine lv_iload_n hx hb dX8_steps_8 rfl (lv_at hl 2 rfl) ?_
      refine zc_i (va_runS (As := [.int kn]) (rest := []) ⟨hx, hb, hml, hown, hg⟩ (k_X8_areGossips l g ad pe ct kn hI) (va_cwS 1 hg (z_gS mm_652 mm_653 mm_108 mm_654) rfl rfl rfl (by decide +kernel) ⟨Nat.le_of_ble_eq_true rfl, Nat.le_of_ble_eq_true rfl⟩) (zR.pre [.int kn] hP hK hN) rfl rfl hl.1 rfl (lv_room (Nat.le_of_ble_eq_true rfl)) dX8_steps_9 ⟨Nat.le_of_ble_eq_true rfl, Nat.le_of_ble_eq_true rfl⟩) (fun r11 hr11 => ?_)
      rcases hr11 with hr11 | hr11
      · skip
        obtain ⟨rfl, h12, h13⟩ := hr11
        have h12 : 0 ≤ kn.toInt := h12
        have h13 : kn.toInt ≤ 255 := h13
        refine lv_if_ne (tgt := 17) hx hb dX8_steps_12 (by decide) (fun c14 => ?_) (fun c14 => ?_)
        · skip
          refine lv_iload_n hx hb dX8_steps_17 rfl (lv_at hl 3 rfl) ?_
          refine lv_iconst (v := (-1)) hx hb dX8_steps_18 (by decide) ?_
          refine lv_icmp_eq (tgt := 39) hx hb dX8_steps_19 (by decide) (fun c15 => ?_) (fun c15 => ?_)
          · skip
            have c15 : wh.toInt = (-1) := (z_eq rfl (by decide : ((-1) : Int32).toInt = (-1))).mp c15
            refine lv_iload_n hx hb dX8_steps_39 rfl (lv_at hl 3 rfl) ?_
            refine lv_iconst (v := 0) hx hb dX8_steps_40 (by decide) ?_
            refine lv_bipush (v := 7) hx hb dX8_steps_41 (by decide) ?_
            refine zc_i (va_runS (As := [.int wh, .int 0, .int 7]) (rest := []) ⟨hx, hb, hml, hown, hg⟩ (k_X8_within l g ad pe ct wh (0 : Int32) (7 : Int32) hI) (va_cwS 3 hg (z_gS mm_407 mm_408 mm_108 mm_409) rfl rfl rfl (by decide +kernel) ⟨Nat.le_of_ble_eq_true rfl, Nat.le_of_ble_eq_true rfl⟩) (zR.pre [.int wh, .int 0, .int 7] hP hK hN) rfl rfl hl.1 rfl (lv_room (Nat.le_of_ble_eq_true rfl)) dX8_steps_43 ⟨Nat.le_of_ble_eq_true rfl, Nat.le_of_ble_eq_true rfl⟩) (fun r16 hr16 => ?_)
            rcases hr16 with hr16 | hr16
            · skip
              obtain ⟨rfl, h17, h18⟩ := hr16
              have h17 : (0 : Int) ≤ wh.toInt := h17
              have h18 : wh.toInt ≤ (7 : Int) := h18
              exfalso
              omega
            · skip
              obtain ⟨rfl, h19⟩ := hr16
              have h19 : ¬ ((0 : Int) ≤ wh.toInt ∧ wh.toInt ≤ (7 : Int)) := h19
              refine lv_if_eq (tgt := 61) hx hb dX8_steps_46 (by decide) (fun c20 => ?_) (fun c20 => ?_)
              · skip
                refine lv_aload_n hx hb dX8_steps_61 rfl (lv_at hl 0 rfl) ?_
                refine lv_iload_n hx hb dX8_steps_62 rfl (lv_at hl 1 rfl) ?_
                refine lv_iload_n hx hb dX8_steps_63 rfl (lv_at hl 2 rfl) ?_
                have hFc := zw_free hD hS hA
                refine va_callv (va_runV (As := [.int b, .int kn]) (rest := []) ⟨hx, hb, hml, hown, hg⟩ (k_X8_fit l g _ ad pe ct b kn (by first | omega | decide) hI) (cwV 2 hg (z_gV mm_655 mm_657 mm_21 mm_108 mm_658) rfl rfl rfl (by decide +kernel) ⟨Nat.le_of_ble_eq_true rfl, Nat.le_of_ble_eq_true rfl⟩) ⟨(zA.pre [.ref (ad 0), .int b, .int kn] hP hK hD hN).1, va_recv hK hP (ci := 8) (q0 := 0) rfl (zw_at (by omega) hs1), (zA.pre [.ref (ad 0), .int b, .int kn] hP hK hD hN).2⟩ rfl rfl hl.1 rfl (lv_room (Nat.le_of_ble_eq_true rfl)) dX8_steps_64 ⟨Nat.le_of_ble_eq_true rfl, Nat.le_of_ble_eq_true rfl⟩) hS (fun q _ h => hFc q h) hFc (fun _ t H1 locs ht hvm hr21 hB hz1 hk1 hS => ?_)
                obtain ⟨ct22, hP1, hD1, hI⟩ := hB
                rw [ht] at hP1
                have hD := hD1.weaken (fun _ _ _ h => hFc _ h)
                generalize H1 = H at hP1 hS ⊢
                have hP := hP1
                refine W.widen (k := 0) (n := 0) (Nat.le_refl _) (Nat.le_refl _) ?_
                refine lv_aload_n hx hb dX8_steps_67 rfl (lv_at hl 0 rfl) ?_
                obtain ⟨bk25, dr24, h26, h27, h28, hs23⟩ := a8_0 hI
                refine va_get (D := g.1) (ci := 8) (v := .ref (ad 10)) (C := RX8) (T := TX8) (N := 13) hx hb hg inG8 hown hK hP 0 (zw_at (by omega) hs23) rfl 6 (by decide) (hg _ mm_366) (fun _ h9 => h9) rfl dX8_steps_68 ?_
                obtain ⟨lns30, liv31, lak32, fnd33, h34, h35, h36, h37, hs29⟩ := a8_10 hI
                have hFc := zw_free hD hS hA
                refine va_calli (va_runV (As := []) (rest := []) ⟨hx, hb, hml, hown, hg⟩ (k_X6_stepByStep l g _ ad pe ct22  hI) (cwV 0 hg (z_gV mm_755 mm_756 mm_757 mm_111 mm_758) rfl rfl rfl (by decide +kernel) ⟨Nat.le_of_ble_eq_true rfl, Nat.le_of_ble_eq_true rfl⟩) ⟨(zA.pre [.ref (ad 10)] hP hK hD hN).1, va_recv hK hP (ci := 6) (q0 := 10) rfl (zw_at (by omega) hs29), (zA.pre [.ref (ad 10)] hP hK hD hN).2⟩ rfl rfl hl.1 rfl (lv_room (Nat.le_of_ble_eq_true rfl)) dX8_steps_71 ⟨Nat.le_of_ble_eq_true rfl, Nat.le_of_ble_eq_true rfl⟩) hS (fun q _ h => hFc q h) hFc (fun r38 _ t H1 locs ht hvm hr38 hB hz1 hk1 hS => ?_)
                obtain ⟨ct39, hP1, hD1, hI⟩ := hB
                rw [ht] at hP1
                have hD := hD1.weaken (fun _ _ _ h => hFc _ h)
                generalize H1 = H at hP1 hS ⊢
                have hP := hP1
                refine W.widen (k := 0) (n := 0) (Nat.le_refl _) (Nat.le_refl _) ?_
                refine lv_istore (lv' := [(4, .int r38), (0, .ref (ad 0)), (1, .int b), (2, .int kn), (3, .int wh)]) hx hb dX8_steps_74 hl (by decide) rfl (fun ls hl => ?_)
                refine lv_iload_n hx hb dX8_steps_76 rfl (lv_at hl 4 rfl) ?_
                refine lv_iconst (v := (-1)) hx hb dX8_steps_77 (by decide) ?_
                refine lv_icmp_ne (tgt := 84) hx hb dX8_steps_78 (by decide) (fun c40 => ?_) (fun c40 => ?_)
                · skip
                  have c40 : ¬ (wh.toInt = (-1)) := fun q => c40 ((z_eq rfl (by decide : ((-1) : Int32).toInt = (-1))).mpr q)
                  refine lv_iload_n hx hb dX8_steps_84 rfl (lv_at hl 4 rfl) ?_
                  refine lv_bipush (v := 8) hx hb dX8_steps_85 (by decide) ?_
                  refine lv_icmp_ne (tgt := 100) hx hb dX8_steps_87 (by decide) (fun c41 => ?_) (fun c41 => ?_)
                  · skip
                    have c41 : ¬ (wh.toInt = 8) := fun q => c41 ((z_eq rfl (by decide : (8 : Int32).toInt = 8)).mpr q)
                    refine lv_aload_n hx hb dX8_steps_100 rfl (lv_at hl 1 rfl) ?_
                    obtain ⟨bk44, dr43, h45, h46, h47, hs42⟩ := a8_0 hI
                    refine va_get (D := g.1) (ci := 8) (v := .ref (ad 10)) (C := RX8) (T := TX8) (N := 13) hx hb hg inG8 hown hK hP 0 (zw_at (by omega) hs42) rfl 6 (by decide) (hg _ mm_366) (fun _ h9 => h9) rfl dX8_steps_101 ?_
                    refine lv_iload_n hx hb dX8_steps_104 rfl (lv_at hl 4 rfl) ?_
                    obtain ⟨lns49, liv50, lak51, fnd52, h53, h54, h55, h56, hs48⟩ := a8_10 hI
                    refine zc_i (va_runV (As := [.int wh]) (rest := []) ⟨hx, hb, hml, hown, hg⟩ (k_X6_left l g ad pe ct39 wh hI) (cwV 1 hg (z_gV mm_763 mm_764 mm_765 mm_111 mm_766) rfl rfl rfl (by decide +kernel) ⟨Nat.le_of_ble_eq_true rfl, Nat.le_of_ble_eq_true rfl⟩) ⟨(zR.pre [.ref (ad 10), .int wh] hP hK hN).1, va_recv hK hP (ci := 6) (q0 := 10) rfl (zw_at (by omega) hs48), (zR.pre [.ref (ad 10), .int wh] hP hK hN).2⟩ rfl rfl hl.1 rfl (lv_room (Nat.le_of_ble_eq_true rfl)) dX8_steps_105 ⟨Nat.le_of_ble_eq_true rfl, Nat.le_of_ble_eq_true rfl⟩) (fun r57 hr57 => ?_)
                    exact W.iret (v := r57) hx hb hr (fun t ht hW => ⟨⟨r57, (), rfl, trivial, ct39, by rw [ht]; exact hP, hD, hI⟩, hS.F ht⟩) hS.2.2 dX8_steps_108
                  · skip
                    have c41 : wh.toInt = 8 := (z_eq rfl (by decide : (8 : Int32).toInt = 8)).mp c41
                    exfalso
                    omega
                · skip
                  have c40 : wh.toInt = (-1) := (z_eq rfl (by decide : ((-1) : Int32).toInt = (-1))).mp c40
                  refine lv_iload hx hb dX8_steps_81 (lv_at hl 0 rfl) ?_
                  exact W.iret (v := r38) hx hb hr (fun t ht hW => ⟨⟨r38, (), rfl, trivial, ct39, by rw [ht]; exact hP, hD, hI⟩, hS.F ht⟩) hS.2.2 dX8_steps_83
              · skip
                exact absurd c20 (by decide)
          · skip
            have c15 : ¬ (wh.toInt = (-1)) := fun q => c15 ((z_eq rfl (by decide : ((-1) : Int32).toInt = (-1))).mpr q)
            refine lv_iload_n hx hb dX8_steps_22 rfl (lv_at hl 3 rfl) ?_
            refine lv_bipush (v := 8) hx hb dX8_steps_23 (by decide) ?_
            refine lv_icmp_eq (tgt := 39) hx hb dX8_steps_25 (by decide) (fun c58 => ?_) (fun c58 => ?_)
            · skip
              have c58 : wh.toInt = 8 := (z_eq rfl (by decide : (8 : Int32).toInt = 8)).mp c58
              refine lv_iload_n hx hb dX8_steps_39 rfl (lv_at hl 3 rfl) ?_
              refine lv_iconst (v := 0) hx hb dX8_steps_40 (by decide) ?_
              refine lv_bipush (v := 7) hx hb dX8_steps_41 (by decide) ?_
              refine zc_i (va_runS (As := [.int wh, .int 0, .int 7]) (rest := []) ⟨hx, hb, hml, hown, hg⟩ (k_X8_within l g ad pe ct wh (0 : Int32) (7 : Int32) hI) (va_cwS 3 hg (z_gS mm_407 mm_408 mm_108 mm_409) rfl rfl rfl (by decide +kernel) ⟨Nat.le_of_ble_eq_true rfl, Nat.le_of_ble_eq_true rfl⟩) (zR.pre [.int wh, .int 0, .int 7] hP hK hN) rfl rfl hl.1 rfl (lv_room (Nat.le_of_ble_eq_true rfl)) dX8_steps_43 ⟨Nat.le_of_ble_eq_true rfl, Nat.le_of_ble_eq_true rfl⟩) (fun r59 hr59 => ?_)
              rcases hr59 with hr59 | hr59
              · skip
                obtain ⟨rfl, h60, h61⟩ := hr59
                have h60 : (0 : Int) ≤ wh.toInt := h60
                have h61 : wh.toInt ≤ (7 : Int) := h61
                exfalso
                omega
              · skip
                obtain ⟨rfl, h62⟩ := hr59
                have h62 : ¬ ((0 : Int) ≤ wh.toInt ∧ wh.toInt ≤ (7 : Int)) := h62
                refine lv_if_eq (tgt := 61) hx hb dX8_steps_46 (by decide) (fun c63 => ?_) (fun c63 => ?_)
                · skip
                  refine lv_aload_n hx hb dX8_steps_61 rfl (lv_at hl 0 rfl) ?_
                  refine lv_iload_n hx hb dX8_steps_62 rfl (lv_at hl 1 rfl) ?_
                  refine lv_iload_n hx hb dX8_steps_63 rfl (lv_at hl 2 rfl) ?_
                  have hFc := zw_free hD hS hA
                  refine va_callv (va_runV (As := [.int b, .int kn]) (rest := []) ⟨hx, hb, hml, hown, hg⟩ (k_X8_fit l g _ ad pe ct b kn (by first | omega | decide) hI) (cwV 2 hg (z_gV mm_655 mm_657 mm_21 mm_108 mm_658) rfl rfl rfl (by decide +kernel) ⟨Nat.le_of_ble_eq_true rfl, Nat.le_of_ble_eq_true rfl⟩) ⟨(zA.pre [.ref (ad 0), .int b, .int kn] hP hK hD hN).1, va_recv hK hP (ci := 8) (q0 := 0) rfl (zw_at (by omega) hs1), (zA.pre [.ref (ad 0), .int b, .int kn] hP hK hD hN).2⟩ rfl rfl hl.1 rfl (lv_room (Nat.le_of_ble_eq_true rfl)) dX8_steps_64 ⟨Nat.le_of_ble_eq_true rfl, Nat.le_of_ble_eq_true rfl⟩) hS (fun q _ h => hFc q h) hFc (fun _ t H1 locs ht hvm hr64 hB hz1 hk1 hS => ?_)
                  obtain ⟨ct65, hP1, hD1, hI⟩ := hB
                  rw [ht] at hP1
                  have hD := hD1.weaken (fun _ _ _ h => hFc _ h)
                  generalize H1 = H at hP1 hS ⊢
                  have hP := hP1
                  refine W.widen (k := 0) (n := 0) (Nat.le_refl _) (Nat.le_refl _) ?_
                  refine lv_aload_n hx hb dX8_steps_67 rfl (lv_at hl 0 rfl) ?_
                  obtain ⟨bk68, dr67, h69, h70, h71, hs66⟩ := a8_0 hI
                  refine va_get (D := g.1) (ci := 8) (v := .ref (ad 10)) (C := RX8) (T := TX8) (N := 13) hx hb hg inG8 hown hK hP 0 (zw_at (by omega) hs66) rfl 6 (by decide) (hg _ mm_366) (fun _ h9 => h9) rfl dX8_steps_68 ?_
                  obtain ⟨lns73, liv74, lak75, fnd76, h77, h78, h79, h80, hs72⟩ := a8_10 hI
                  have hFc := zw_free hD hS hA
                  refine va_calli (va_runV (As := []) (rest := []) ⟨hx, hb, hml, hown, hg⟩ (k_X6_stepByStep l g _ ad pe ct65  hI) (cwV 0 hg (z_gV mm_755 mm_756 mm_757 mm_111 mm_758) rfl rfl rfl (by decide +kernel) ⟨Nat.le_of_ble_eq_true rfl, Nat.le_of_ble_eq_true rfl⟩) ⟨(zA.pre [.ref (ad 10)] hP hK hD hN).1, va_recv hK hP (ci := 6) (q0 := 10) rfl (zw_at (by omega) hs72), (zA.pre [.ref (ad 10)] hP hK hD hN).2⟩ rfl rfl hl.1 rfl (lv_room (Nat.le_of_ble_eq_true rfl)) dX8_steps_71 ⟨Nat.le_of_ble_eq_true rfl, Nat.le_of_ble_eq_true rfl⟩) hS (fun q _ h => hFc q h) hFc (fun r81 _ t H1 locs ht hvm hr81 hB hz1 hk1 hS => ?_)
                  obtain ⟨ct82, hP1, hD1, hI⟩ := hB
                  rw [ht] at hP1
                  have hD := hD1.weaken (fun _ _ _ h => hFc _ h)
                  generalize H1 = H at hP1 hS ⊢
                  have hP := hP1
                  refine W.widen (k := 0) (n := 0) (Nat.le_refl _) (Nat.le_refl _) ?_
                  refine lv_istore (lv' := [(4, .int r81), (0, .ref (ad 0)), (1, .int b), (2, .int kn), (3, .int wh)]) hx hb dX8_steps_74 hl (by decide) rfl (fun ls hl => ?_)
                  refine lv_iload_n hx hb dX8_steps_76 rfl (lv_at hl 4 rfl) ?_
                  refine lv_iconst (v := (-1)) hx hb dX8_steps_77 (by decide) ?_
                  refine lv_icmp_ne (tgt := 84) hx hb dX8_steps_78 (by decide) (fun c83 => ?_) (fun c83 => ?_)
                  · skip
                    have c83 : ¬ (wh.toInt = (-1)) := fun q => c83 ((z_eq rfl (by decide : ((-1) : Int32).toInt = (-1))).mpr q)
                    refine lv_iload_n hx hb dX8_steps_84 rfl (lv_at hl 4 rfl) ?_
                    refine lv_bipush (v := 8) hx hb dX8_steps_85 (by decide) ?_
                    refine lv_icmp_ne (tgt := 100) hx hb dX8_steps_87 (by decide) (fun c84 => ?_) (fun c84 => ?_)
                    · skip
                      have c84 : ¬ (wh.toInt = 8) := fun q => c84 ((z_eq rfl (by decide : (8 : Int32).toInt = 8)).mpr q)
                      refine lv_aload_n hx hb dX8_steps_100 rfl (lv_at hl 1 rfl) ?_
                      obtain ⟨bk87, dr86, h88, h89, h90, hs85⟩ := a8_0 hI
                      refine va_get (D := g.1) (ci := 8) (v := .ref (ad 10)) (C := RX8) (T := TX8) (N := 13) hx hb hg inG8 hown hK hP 0 (zw_at (by omega) hs85) rfl 6 (by decide) (hg _ mm_366) (fun _ h9 => h9) rfl dX8_steps_101 ?_
                      refine lv_iload_n hx hb dX8_steps_104 rfl (lv_at hl 4 rfl) ?_
                      obtain ⟨lns92, liv93, lak94, fnd95, h96, h97, h98, h99, hs91⟩ := a8_10 hI
                      refine zc_i (va_runV (As := [.int wh]) (rest := []) ⟨hx, hb, hml, hown, hg⟩ (k_X6_left l g ad pe ct82 wh hI) (cwV 1 hg (z_gV mm_763 mm_764 mm_765 mm_111 mm_766) rfl rfl rfl (by decide +kernel) ⟨Nat.le_of_ble_eq_true rfl, Nat.le_of_ble_eq_true rfl⟩) ⟨(zR.pre [.ref (ad 10), .int wh] hP hK hN).1, va_recv hK hP (ci := 6) (q0 := 10) rfl (zw_at (by omega) hs91), (zR.pre [.ref (ad 10), .int wh] hP hK hN).2⟩ rfl rfl hl.1 rfl (lv_room (Nat.le_of_ble_eq_true rfl)) dX8_steps_105 ⟨Nat.le_of_ble_eq_true rfl, Nat.le_of_ble_eq_true rfl⟩) (fun r100 hr100 => ?_)
                      exact W.iret (v := r100) hx hb hr (fun t ht hW => ⟨⟨r100, (), rfl, trivial, ct82, by rw [ht]; exact hP, hD, hI⟩, hS.F ht⟩) hS.2.2 dX8_steps_108
                    · skip
                      have c84 : wh.toInt = 8 := (z_eq rfl (by decide : (8 : Int32).toInt = 8)).mp c84
                      refine lv_aload_n hx hb dX8_steps_90 rfl (lv_at hl 1 rfl) ?_
                      obtain ⟨bk103, dr102, h104, h105, h106, hs101⟩ := a8_0 hI
                      refine va_get (D := g.1) (ci := 8) (v := .ref (ad 10)) (C := RX8) (T := TX8) (N := 13) hx hb hg inG8 hown hK hP 0 (zw_at (by omega) hs101) rfl 6 (by decide) (hg _ mm_366) (fun _ h9 => h9) rfl dX8_steps_91 ?_
                      obtain ⟨lns108, liv109, lak110, fnd111, h112, h113, h114, h115, hs107⟩ := a8_10 hI
                      refine va_get (D := g.1) (ci := 6) (v := .int fnd111) (C := RX6) (T := TX6) (N := 10) hx hb hg inG6 hown hK hP 10 (zw_at (by omega) hs107) rfl 3 (by decide) (hg _ mm_179) (fun _ h9 => h9) rfl dX8_steps_94 ?_
                      refine lv_goto (tgt := 108) hx hb dX8_steps_97 (by decide) ?_
                      exact W.iret (v := fnd111) hx hb hr (fun t ht hW => ⟨⟨fnd111, (), rfl, trivial, ct82, by rw [ht]; exact hP, hD, hI⟩, hS.F ht⟩) hS.2.2 dX8_steps_108
                  · skip
                    have c83 : wh.toInt = (-1) := (z_eq rfl (by decide : ((-1) : Int32).toInt = (-1))).mp c83
                    exfalso
                    omega
                · skip
                  exact absurd c63 (by decide)
            · skip
              have c58 : ¬ (wh.toInt = 8) := fun q => c58 ((z_eq rfl (by decide : (8 : Int32).toInt = 8)).mpr q)
              refine lv_aload_n hx hb dX8_steps_28 rfl (lv_at hl 0 rfl) ?_
              refine lv_iload_n hx hb dX8_steps_29 rfl (lv_at hl 1 rfl) ?_
              refine lv_iload_n hx hb dX8_steps_30 rfl (lv_at hl 3 rfl) ?_
              refine zc_i (va_runV (As := [.int b, .int wh]) (rest := []) ⟨hx, hb, hml, hown, hg⟩ (k_X8_isLine l g ad pe ct b wh hI) (cwV 2 hg (z_gV mm_587 mm_589 mm_19 mm_108 mm_590) rfl rfl rfl (by decide +kernel) ⟨Nat.le_of_ble_eq_true rfl, Nat.le_of_ble_eq_true rfl⟩) ⟨(zR.pre [.ref (ad 0), .int b, .int wh] hP hK hN).1, va_recv hK hP (ci := 8) (q0 := 0) rfl (zw_at (by omega) hs1), (zR.pre [.ref (ad 0), .int b, .int wh] hP hK hN).2⟩ rfl rfl hl.1 rfl (lv_room (Nat.le_of_ble_eq_true rfl)) dX8_steps_31 ⟨Nat.le_of_ble_eq_true rfl, Nat.le_of_ble_eq_true rfl⟩) (fun r116 hr116 => ?_)
              rcases hr116 with hr116 | hr116
              · skip
                obtain ⟨rfl, h117, h118⟩ := hr116
                have h117 : 0 ≤ b.toInt ∧ b.toInt ≤ 3 := h117
                have h118 : 0 ≤ wh.toInt ∧ wh.toInt ≤ 7 := h118
                refine lv_if_ne (tgt := 39) hx hb dX8_steps_34 (by decide) (fun c119 => ?_) (fun c119 => ?_)
                · skip
                  refine lv_iload_n hx hb dX8_steps_39 rfl (lv_at hl 3 rfl) ?_
                  refine lv_iconst (v := 0) hx hb dX8_steps_40 (by decide) ?_
                  refine lv_bipush (v := 7) hx hb dX8_steps_41 (by decide) ?_
                  refine zc_i (va_runS (As := [.int wh, .int 0, .int 7]) (rest := []) ⟨hx, hb, hml, hown, hg⟩ (k_X8_within l g ad pe ct wh (0 : Int32) (7 : Int32) hI) (va_cwS 3 hg (z_gS mm_407 mm_408 mm_108 mm_409) rfl rfl rfl (by decide +kernel) ⟨Nat.le_of_ble_eq_true rfl, Nat.le_of_ble_eq_true rfl⟩) (zR.pre [.int wh, .int 0, .int 7] hP hK hN) rfl rfl hl.1 rfl (lv_room (Nat.le_of_ble_eq_true rfl)) dX8_steps_43 ⟨Nat.le_of_ble_eq_true rfl, Nat.le_of_ble_eq_true rfl⟩) (fun r120 hr120 => ?_)
                  rcases hr120 with hr120 | hr120
                  · skip
                    obtain ⟨rfl, h121, h122⟩ := hr120
                    have h121 : (0 : Int) ≤ wh.toInt := h121
                    have h122 : wh.toInt ≤ (7 : Int) := h122
                    refine lv_if_eq (tgt := 61) hx hb dX8_steps_46 (by decide) (fun c123 => ?_) (fun c123 => ?_)
                    · skip
                      exact absurd c123 (by decide)
                    · skip
                      refine lv_aload_n hx hb dX8_steps_49 rfl (lv_at hl 0 rfl) ?_
                      refine lv_iload_n hx hb dX8_steps_50 rfl (lv_at hl 1 rfl) ?_
                      refine lv_iload_n hx hb dX8_steps_51 rfl (lv_at hl 3 rfl) ?_
                      refine zc_i (va_runV (As := [.int b, .int wh]) (rest := []) ⟨hx, hb, hml, hown, hg⟩ (k_X8_isLive l g ad pe ct b wh hI) (cwV 2 hg (z_gV mm_583 mm_585 mm_18 mm_108 mm_586) rfl rfl rfl (by decide +kernel) ⟨Nat.le_of_ble_eq_true rfl, Nat.le_of_ble_eq_true rfl⟩) ⟨(zR.pre [.ref (ad 0), .int b, .int wh] hP hK hN).1, va_recv hK hP (ci := 8) (q0 := 0) rfl (zw_at (by omega) hs1), (zR.pre [.ref (ad 0), .int b, .int wh] hP hK hN).2⟩ rfl rfl hl.1 rfl (lv_room (Nat.le_of_ble_eq_true rfl)) dX8_steps_52 ⟨Nat.le_of_ble_eq_true rfl, Nat.le_of_ble_eq_true rfl⟩) (fun r124 hr124 => ?_)
                      rcases hr124 with hr124 | hr124
                      · skip
                        obtain ⟨rfl, h125, h126⟩ := hr124
                        have h125 : 0 ≤ b.toInt ∧ b.toInt ≤ 3 := h125
                        have h126 : 0 ≤ wh.toInt ∧ wh.toInt ≤ 7 := h126
                        refine lv_if_ne (tgt := 61) hx hb dX8_steps_55 (by decide) (fun c127 => ?_) (fun c127 => ?_)
                        · skip
                          refine lv_aload_n hx hb dX8_steps_61 rfl (lv_at hl 0 rfl) ?_
                          refine lv_iload_n hx hb dX8_steps_62 rfl (lv_at hl 1 rfl) ?_
                          refine lv_iload_n hx hb dX8_steps_63 rfl (lv_at hl 2 rfl) ?_
                          have hFc := zw_free hD hS hA
                          refine va_callv (va_runV (As := [.int b, .int kn]) (rest := []) ⟨hx, hb, hml, hown, hg⟩ (k_X8_fit l g _ ad pe ct b kn (by first | omega | decide) hI) (cwV 2 hg (z_gV mm_655 mm_657 mm_21 mm_108 mm_658) rfl rfl rfl (by decide +kernel) ⟨Nat.le_of_ble_eq_true rfl, Nat.le_of_ble_eq_true rfl⟩) ⟨(zA.pre [.ref (ad 0), .int b, .int kn] hP hK hD hN).1, va_recv hK hP (ci := 8) (q0 := 0) rfl (zw_at (by omega) hs1), (zA.pre [.ref (ad 0), .int b, .int kn] hP hK hD hN).2⟩ rfl rfl hl.1 rfl (lv_room (Nat.le_of_ble_eq_true rfl)) dX8_steps_64 ⟨Nat.le_of_ble_eq_true rfl, Nat.le_of_ble_eq_true rfl⟩) hS (fun q _ h => hFc q h) hFc (fun _ t H1 locs ht hvm hr128 hB hz1 hk1 hS => ?_)
                          obtain ⟨ct129, hP1, hD1, hI⟩ := hB
                          rw [ht] at hP1
                          have hD := hD1.weaken (fun _ _ _ h => hFc _ h)
                          generalize H1 = H at hP1 hS ⊢
                          have hP := hP1
                          refine W.widen (k := 0) (n := 0) (Nat.le_refl _) (Nat.le_refl _) ?_
                          refine lv_aload_n hx hb dX8_steps_67 rfl (lv_at hl 0 rfl) ?_
                          obtain ⟨bk132, dr131, h133, h134, h135, hs130⟩ := a8_0 hI
                          refine va_get (D := g.1) (ci := 8) (v := .ref (ad 10)) (C := RX8) (T := TX8) (N := 13) hx hb hg inG8 hown hK hP 0 (zw_at (by omega) hs130) rfl 6 (by decide) (hg _ mm_366) (fun _ h9 => h9) rfl dX8_steps_68 ?_
                          obtain ⟨lns137, liv138, lak139, fnd140, h141, h142, h143, h144, hs136⟩ := a8_10 hI
                          have hFc := zw_free hD hS hA
                          refine va_calli (va_runV (As := []) (rest := []) ⟨hx, hb, hml, hown, hg⟩ (k_X6_stepByStep l g _ ad pe ct129  hI) (cwV 0 hg (z_gV mm_755 mm_756 mm_757 mm_111 mm_758) rfl rfl rfl (by decide +kernel) ⟨Nat.le_of_ble_eq_true rfl, Nat.le_of_ble_eq_true rfl⟩) ⟨(zA.pre [.ref (ad 10)] hP hK hD hN).1, va_recv hK hP (ci := 6) (q0 := 10) rfl (zw_at (by omega) hs136), (zA.pre [.ref (ad 10)] hP hK hD hN).2⟩ rfl rfl hl.1 rfl (lv_room (Nat.le_of_ble_eq_true rfl)) dX8_steps_71 ⟨Nat.le_of_ble_eq_true rfl, Nat.le_of_ble_eq_true rfl⟩) hS (fun q _ h => hFc q h) hFc (fun r145 _ t H1 locs ht hvm hr145 hB hz1 hk1 hS => ?_)
                          obtain ⟨ct146, hP1, hD1, hI⟩ := hB
                          rw [ht] at hP1
                          have hD := hD1.weaken (fun _ _ _ h => hFc _ h)
                          generalize H1 = H at hP1 hS ⊢
                          have hP := hP1
                          refine W.widen (k := 0) (n := 0) (Nat.le_refl _) (Nat.le_refl _) ?_
                          refine lv_istore (lv' := [(4, .int r145), (0, .ref (ad 0)), (1, .int b), (2, .int kn), (3, .int wh)]) hx hb dX8_steps_74 hl (by decide) rfl (fun ls hl => ?_)
                          refine lv_iload_n hx hb dX8_steps_76 rfl (lv_at hl 4 rfl) ?_
                          refine lv_iconst (v := (-1)) hx hb dX8_steps_77 (by decide) ?_
                          refine lv_icmp_ne (tgt := 84) hx hb dX8_steps_78 (by decide) (fun c147 => ?_) (fun c147 => ?_)
                          · skip
                            have c147 : ¬ (wh.toInt = (-1)) := fun q => c147 ((z_eq rfl (by decide : ((-1) : Int32).toInt = (-1))).mpr q)
                            refine lv_iload_n hx hb dX8_steps_84 rfl (lv_at hl 4 rfl) ?_
                            refine lv_bipush (v := 8) hx hb dX8_steps_85 (by decide) ?_
                            refine lv_icmp_ne (tgt := 100) hx hb dX8_steps_87 (by decide) (fun c148 => ?_) (fun c148 => ?_)
                            · skip
                              have c148 : ¬ (wh.toInt = 8) := fun q => c148 ((z_eq rfl (by decide : (8 : Int32).toInt = 8)).mpr q)
                              refine lv_aload_n hx hb dX8_steps_100 rfl (lv_at hl 1 rfl) ?_
                              obtain ⟨bk151, dr150, h152, h153, h154, hs149⟩ := a8_0 hI
                              refine va_get (D := g.1) (ci := 8) (v := .ref (ad 10)) (C := RX8) (T := TX8) (N := 13) hx hb hg inG8 hown hK hP 0 (zw_at (by omega) hs149) rfl 6 (by decide) (hg _ mm_366) (fun _ h9 => h9) rfl dX8_steps_101 ?_
                              refine lv_iload_n hx hb dX8_steps_104 rfl (lv_at hl 4 rfl) ?_
                              obtain ⟨lns156, liv157, lak158, fnd159, h160, h161, h162, h163, hs155⟩ := a8_10 hI
                              refine zc_i (va_runV (As := [.int wh]) (rest := []) ⟨hx, hb, hml, hown, hg⟩ (k_X6_left l g ad pe ct146 wh hI) (cwV 1 hg (z_gV mm_763 mm_764 mm_765 mm_111 mm_766) rfl rfl rfl (by decide +kernel) ⟨Nat.le_of_ble_eq_true rfl, Nat.le_of_ble_eq_true rfl⟩) ⟨(zR.pre [.ref (ad 10), .int wh] hP hK hN).1, va_recv hK hP (ci := 6) (q0 := 10) rfl (zw_at (by omega) hs155), (zR.pre [.ref (ad 10), .int wh] hP hK hN).2⟩ rfl rfl hl.1 rfl (lv_room (Nat.le_of_ble_eq_true rfl)) dX8_steps_105 ⟨Nat.le_of_ble_eq_true rfl, Nat.le_of_ble_eq_true rfl⟩) (fun r164 hr164 => ?_)
                              exact W.iret (v := r164) hx hb hr (fun t ht hW => ⟨⟨r164, (), rfl, trivial, ct146, by rw [ht]; exact hP, hD, hI⟩, hS.F ht⟩) hS.2.2 dX8_steps_108
                            · skip
                              have c148 : wh.toInt = 8 := (z_eq rfl (by decide : (8 : Int32).toInt = 8)).mp c148
                              exfalso
                              omega
                          · skip
                            have c147 : wh.toInt = (-1) := (z_eq rfl (by decide : ((-1) : Int32).toInt = (-1))).mp c147
                            exfalso
                            omega
                        · skip
                          exact absurd c127 (by decide)
                      · skip
                        obtain rfl := hr124
                        refine lv_if_ne (tgt := 61) hx hb dX8_steps_55 (by decide) (fun c165 => ?_) (fun c165 => ?_)
                        · skip
                          exact absurd c165 (by decide)
                        · skip
                          refine lv_bipush (v := (-2)) hx hb dX8_steps_58 (by decide) ?_
                          have q166 : ((-2) : Int32).toInt = -2 := by decide
                          exact W.iret (v := (-2)) hx hb hr (fun t ht hW => ⟨⟨(-2), (), rfl, trivial, ct, by rw [ht]; exact hP, hD, hI⟩, hS.F ht⟩) hS.2.2 dX8_steps_60
                  · skip
                    obtain ⟨rfl, h167⟩ := hr120
                    have h167 : ¬ ((0 : Int) ≤ wh.toInt ∧ wh.toInt ≤ (7 : Int)) := h167
                    exfalso
                    omega
                · skip
                  exact absurd c119 (by decide)
              · skip
                obtain rfl := hr116
                refine lv_if_ne (tgt := 39) hx hb dX8_steps_34 (by decide) (fun c168 => ?_) (fun c168 => ?_)
                · skip
                  exact absurd c168 (by decide)
                · skip
                  refine lv_iconst (v := (-1)) hx hb dX8_steps_37 (by decide) ?_
                  have q169 : ((-1) : Int32).toInt = -1 := by decide
                  exact W.iret (v := (-1)) hx hb hr (fun t ht hW => ⟨⟨(-1), (), rfl, trivial, ct, by rw [ht]; exact hP, hD, hI⟩, hS.F ht⟩) hS.2.2 dX8_steps_38
        · skip
          exact absurd c14 (by decide)
      · skip
        obtain ⟨rfl, h170⟩ := hr11
        have h170 : ¬ (0 ≤ kn.toInt ∧ kn.toInt ≤ 255) := h170
        refine lv_if_ne (tgt := 17) hx hb dX8_steps_12 (by decide) (fun c171 => ?_) (fun c171 => ?_)
        · skip
          exact absurd c171 (by decide)
        · skip
          refine lv_iconst (v := (-1)) hx hb dX8_steps_15 (by decide) ?_
          have q172 : ((-1) : Int32).toInt = -1 := by decide
          exact W.iret (v := (-1)) hx hb hr (fun t ht hW => ⟨⟨(-1), (), rfl, trivial, ct, by rw [ht]; exact hP, hD, hI⟩, hS.F ht⟩) hS.2.2 dX8_steps_16
  · skip
    obtain rfl := hr7
    refine lv_if_eq (tgt := 15) hx hb dX8_steps_5 (by decide) (fun c173 => ?_) (fun c173 => ?_)
    · skip
      refine lv_iconst (v := (-1)) hx hb dX8_steps_15 (by decide) ?_
      have q174 : ((-1) : Int32).toInt = -1 := by decide
      exact W.iret (v := (-1)) hx hb hr (fun t ht hW => ⟨⟨(-1), (), rfl, trivial, ct, by rw [ht]; exact hP, hD, hI⟩, hS.F ht⟩) hS.2.2 dX8_steps_16
    · skip
      exact absurd c173 (by decide)

set_option maxHeartbeats 4000000 in
set_option maxRecDepth 100000 in
theorem k_X8_safe (l : Launch) (g : zG) (sz : Nat) (ad : Nat → Nat) (pe : Int32) (ct : Nat → va_E) (b : Int32) (k : Int32) (kn : Int32) (hI : Inv8 g ad pe ct) : Met l yX8_safe (zW yX8_safe cX8_safe 4 (some .int)) ({ frames := 5, cells := 0, slots := 0, locals := 117 }) (va_Pc [.ref (ad 0), .int b, .int k, .int kn] (zA g (zw 126 ad ct) sz)) (va_Qi (fun (r : Int32) (_ : Unit) => (True)) (fun _ t => ∃ ct2 : Nat → va_E, zP g (zw 126 ad ct2) t.heap ∧ va_D (va_A (zw 126 ad ct) sz) (zw 126 ad ct2) ∧ Inv8 g ad pe ct2) (va_A (zw 126 ad ct) sz)) 0 0 (va_A (zw 126 ad ct) sz) := by
  refine Met.ofW (cc := cX8_safe) (maxL := 4) (ret := (some .int)) (by decide) rfl ?_
  intro p e s m args below meth c s₁ B hml hv
  obtain ⟨rfl, hsz, hP, hK, hD0, hN⟩ := hv
  have hx := B.exec
  have hb := B.bytes
  have hr := B.returns
  have hg := zW.law (atoms_spec (ws := (zW yX8_safe cX8_safe 4 (some .int))) B.pre)
  have hown : s.vm.findClass RX8 = some m.cls := findClass_of_methodNamed B.named
  have hlocks := B.notSynchronized
  have hpe0 := hI.1
  subst hsz
  have hD := hD0.self (sz := s.heap.size)
  generalize hAe : va_A (zw 126 ad ct) s.heap.size = A at hD ⊢
  have hA : ∀ q : Nat, s.heap.size ≤ q → A q := fun q h => by rw [← hAe]; exact Or.inr h
  have hS : va_S A s.heap s.heap [] := va_S.rf
  have hl := lv_entry ([.ref (ad 0), .int b, .int k, .int kn]) (n := 4) (Nat.le_of_ble_eq_true rfl)
  rw [lg_entry_eq]
  generalize (lg_sl ([.ref (ad 0), .int b, .int k, .int kn]) ++ List.replicate (4 - (lg_sl ([.ref (ad 0), .int b, .int k, .int kn])).length) Slot.unset).toArray = ls at hl ⊢
  have hl : lv_has ls 4 [(0, .ref (ad 0)), (1, .int b), (2, .int k), (3, .int kn)] := hl
  have rg_b := z_rng b
  have rg_k := z_rng k
  have rg_kn := z_rng kn
  refine lv_aload_n hx hb dX8_safe_0 rfl (lv_at hl 0 rfl) ?_
  refine lv_iload_n hx hb dX8_safe_1 rfl (lv_at hl 1 rfl) ?_
  obtain ⟨bk3, dr2, h4, h5, h6, hs1⟩ := a8_0 hI
  refine zc_i (va_runV (As := [.int b]) (rest := []) ⟨hx, hb, hml, hown, hg⟩ (k_X8_isBook l g ad pe ct b hI) (cwV 1 hg (z_gV mm_591 mm_593 mm_20 mm_108 mm_594) rfl rfl rfl (by decide +kernel) ⟨Nat.le_of_ble_eq_true rfl, Nat.le_of_ble_eq_true rfl⟩) ⟨(zR.pre [.ref (ad 0), .int b] hP hK hN).1, va_recv hK hP (ci := 8) (q0 := 0) rfl (zw_at (by omega) hs1), (zR.pre [.ref (ad 0), .int b] hP hK hN).2⟩ rfl rfl hl.1 rfl (lv_room (Nat.le_of_ble_eq_true rfl)) dX8_safe_2 ⟨Nat.le_of_ble_eq_true rfl, Nat.le_of_ble_eq_true rfl⟩) (fun r7 hr7 => ?_)
  rcases hr7 with hr7 | hr7
  · skip
    obtain ⟨rfl, h8, h9⟩ := hr7
    have h8 : 0 ≤ b.toInt := h8
    have h9 : b.toInt ≤ 3 := h9
    refine lv_if_eq (tgt := 22) hx hb dX8_safe_5 (by decide) (fun c10 => ?_) (fun c10 => ?_)
    · skip
      exact absurd c10 (by decide)
    · skip
      refine lv_iload_n hx hb dX8_safe_8 rfl (lv_at hl 2 rfl) ?_
      refine zc_i (va_runS (As := [.int k]) (rest := []) ⟨hx, hb, hml, hown, hg⟩ (k_X8_isBar l g ad pe ct k hI) (va_cwS 1 hg (z_gS mm_772 mm_773 mm_108 mm_774) rfl rfl rfl (by decide +kernel) ⟨Nat.le_of_ble_eq_true rfl, Nat.le_of_ble_eq_true rfl⟩) (zR.pre [.int k] hP hK hN) rfl rfl hl.1 rfl (lv_room (Nat.le_of_ble_eq_true rfl)) dX8_safe_9 ⟨Nat.le_of_ble_eq_true rfl, Nat.le_of_ble_eq_true rfl⟩) (fun r11 hr11 => ?_)
      rcases hr11 with hr11 | hr11
      · skip
        obtain ⟨rfl, h12, h13⟩ := hr11
        have h12 : 1 ≤ k.toInt := h12
        have h13 : k.toInt ≤ 16 := h13
        refine lv_if_eq (tgt := 22) hx hb dX8_safe_12 (by decide) (fun c14 => ?_) (fun c14 => ?_)
        · skip
          exact absurd c14 (by decide)
        · skip
          refine lv_iload_n hx hb dX8_safe_15 rfl (lv_at hl 3 rfl) ?_
          refine zc_i (va_runS (As := [.int kn]) (rest := []) ⟨hx, hb, hml, hown, hg⟩ (k_X8_areGossips l g ad pe ct kn hI) (va_cwS 1 hg (z_gS mm_652 mm_653 mm_108 mm_654) rfl rfl rfl (by decide +kernel) ⟨Nat.le_of_ble_eq_true rfl, Nat.le_of_ble_eq_true rfl⟩) (zR.pre [.int kn] hP hK hN) rfl rfl hl.1 rfl (lv_room (Nat.le_of_ble_eq_true rfl)) dX8_safe_16 ⟨Nat.le_of_ble_eq_true rfl, Nat.le_of_ble_eq_true rfl⟩) (fun r15 hr15 => ?_)
          rcases hr15 with hr15 | hr15
          · skip
            obtain ⟨rfl, h16, h17⟩ := hr15
            have h16 : 0 ≤ kn.toInt := h16
            have h17 : kn.toInt ≤ 255 := h17
            refine lv_if_ne (tgt := 24) hx hb dX8_safe_19 (by decide) (fun c18 => ?_) (fun c18 => ?_)
            · skip
              refine lv_aload_n hx hb dX8_safe_24 rfl (lv_at hl 0 rfl) ?_
              refine lv_iload_n hx hb dX8_safe_25 rfl (lv_at hl 1 rfl) ?_
              refine lv_iload_n hx hb dX8_safe_26 rfl (lv_at hl 3 rfl) ?_
              have hFc := zw_free hD hS hA
              refine va_callv (va_runV (As := [.int b, .int kn]) (rest := []) ⟨hx, hb, hml, hown, hg⟩ (k_X8_fit l g _ ad pe ct b kn (by first | omega | decide) hI) (cwV 2 hg (z_gV mm_655 mm_657 mm_21 mm_108 mm_658) rfl rfl rfl (by decide +kernel) ⟨Nat.le_of_ble_eq_true rfl, Nat.le_of_ble_eq_true rfl⟩) ⟨(zA.pre [.ref (ad 0), .int b, .int kn] hP hK hD hN).1, va_recv hK hP (ci := 8) (q0 := 0) rfl (zw_at (by omega) hs1), (zA.pre [.ref (ad 0), .int b, .int kn] hP hK hD hN).2⟩ rfl rfl hl.1 rfl (lv_room (Nat.le_of_ble_eq_true rfl)) dX8_safe_27 ⟨Nat.le_of_ble_eq_true rfl, Nat.le_of_ble_eq_true rfl⟩) hS (fun q _ h => hFc q h) hFc (fun _ t H1 locs ht hvm hr19 hB hz1 hk1 hS => ?_)
              obtain ⟨ct20, hP1, hD1, hI⟩ := hB
              rw [ht] at hP1
              have hD := hD1.weaken (fun _ _ _ h => hFc _ h)
              generalize H1 = H at hP1 hS ⊢
              have hP := hP1
              refine W.widen (k := 0) (n := 0) (Nat.le_refl _) (Nat.le_refl _) ?_
              refine lv_aload_n hx hb dX8_safe_30 rfl (lv_at hl 0 rfl) ?_
              refine lv_iload_n hx hb dX8_safe_31 rfl (lv_at hl 1 rfl) ?_
              refine lv_iload_n hx hb dX8_safe_32 rfl (lv_at hl 2 rfl) ?_
              obtain ⟨bk23, dr22, h24, h25, h26, hs21⟩ := a8_0 hI
              have hFc := zw_free hD hS hA
              refine va_calli (va_runV (As := [.int b, .int k]) (rest := []) ⟨hx, hb, hml, hown, hg⟩ (k_X8_safeLines l g _ ad pe ct20 b k (by first | omega | decide) hI) (cwV 2 hg (z_gV mm_775 mm_777 mm_31 mm_108 mm_778) rfl rfl rfl (by decide +kernel) ⟨Nat.le_of_ble_eq_true rfl, Nat.le_of_ble_eq_true rfl⟩) ⟨(zA.pre [.ref (ad 0), .int b, .int k] hP hK hD hN).1, va_recv hK hP (ci := 8) (q0 := 0) rfl (zw_at (by omega) hs21), (zA.pre [.ref (ad 0), .int b, .int k] hP hK hD hN).2⟩ rfl rfl hl.1 rfl (lv_room (Nat.le_of_ble_eq_true rfl)) dX8_safe_33 ⟨Nat.le_of_ble_eq_true rfl, Nat.le_of_ble_eq_true rfl⟩) hS (fun q _ h => hFc q h) hFc (fun r27 _ t H1 locs ht hvm hr27 hB hz1 hk1 hS => ?_)
              obtain ⟨ct28, hP1, hD1, hI⟩ := hB
              rw [ht] at hP1
              have hD := hD1.weaken (fun _ _ _ h => hFc _ h)
              generalize H1 = H at hP1 hS ⊢
              have hP := hP1
              refine W.widen (k := 0) (n := 0) (Nat.le_refl _) (Nat.le_refl _) ?_
              exact W.iret (v := r27) hx hb hr (fun t ht hW => ⟨⟨r27, (), rfl, trivial, ct28, by rw [ht]; exact hP, hD, hI⟩, hS.F ht⟩) hS.2.2 dX8_safe_36
            · skip
              exact absurd c18 (by decide)
          · skip
            obtain ⟨rfl, h29⟩ := hr15
            have h29 : ¬ (0 ≤ kn.toInt ∧ kn.toInt ≤ 255) := h29
            refine lv_if_ne (tgt := 24) hx hb dX8_safe_19 (by decide) (fun c30 => ?_) (fun c30 => ?_)
            · skip
              exact absurd c30 (by decide)
            · skip
              refine lv_iconst (v := (-1)) hx hb dX8_safe_22 (by decide) ?_
              have q31 : ((-1) : Int32).toInt = -1 := by decide
              exact W.iret (v := (-1)) hx hb hr (fun t ht hW => ⟨⟨(-1), (), rfl, trivial, ct, by rw [ht]; exact hP, hD, hI⟩, hS.F ht⟩) hS.2.2 dX8_safe_23
      · skip
        obtain ⟨rfl, h32⟩ := hr11
        have h32 : ¬ (1 ≤ k.toInt ∧ k.toInt ≤ 16) := h32
        refine lv_if_eq (tgt := 22) hx hb dX8_safe_12 (by decide) (fun c33 => ?_) (fun c33 => ?_)
        · skip
          refine lv_iconst (v := (-1)) hx hb dX8_safe_22 (by decide) ?_
          have q34 : ((-1) : Int32).toInt = -1 := by decide
          exact W.iret (v := (-1)) hx hb hr (fun t ht hW => ⟨⟨(-1), (), rfl, trivial, ct, by rw [ht]; exact hP, hD, hI⟩, hS.F ht⟩) hS.2.2 dX8_safe_23
        · skip
          exact absurd c33 (by decide)
  · skip
    obtain rfl := hr7
    refine lv_if_eq (tgt := 22) hx hb dX8_safe_5 (by decide) (fun c35 => ?_) (fun c35 => ?_)
    · skip
      refine lv_iconst (v := (-1)) hx hb dX8_safe_22 (by decide) ?_
      have q36 : ((-1) : Int32).toInt = -1 := by decide
      exact W.iret (v := (-1)) hx hb hr (fun t ht hW => ⟨⟨(-1), (), rfl, trivial, ct, by rw [ht]; exact hP, hD, hI⟩, hS.F ht⟩) hS.2.2 dX8_safe_23
    · skip
      exact absurd c35 (by decide)

set_option maxHeartbeats 4000000 in
set_option maxRecDepth 100000 in
theorem k_X8_fewest (l : Launch) (g : zG) (sz : Nat) (ad : Nat → Nat) (pe : Int32) (ct : Nat → va_E) (b : Int32) (i : Int32) (wh : Int32) (hI : Inv8 g ad pe ct) : Met l yX8_fewest (zW yX8_fewest cX8_fewest 5 (some .int)) ({ frames := 6, cells := 0, slots := 0, locals := 144 }) (va_Pc [.ref (ad 0), .int b, .int i, .int wh] (zA g (zw 126 ad ct) sz)) (va_Qi (fun (r : Int32) (_ : Unit) => (True)) (fun _ t => ∃ ct2 : Nat → va_E, zP g (zw 126 ad ct2) t.heap ∧ va_D (va_A (zw 126 ad ct) sz) (zw 126 ad ct2) ∧ Inv8 g ad pe ct2) (va_A (zw 126 ad ct) sz)) 0 0 (va_A (zw 126 ad ct) sz) := by
  refine Met.ofW (cc := cX8_fewest) (maxL := 5) (ret := (some .int)) (by decide) rfl ?_
  intro p e s m args below meth c s₁ B hml hv
  obtain ⟨rfl, hsz, hP, hK, hD0, hN⟩ := hv
  have hx := B.exec
  have hb := B.bytes
  have hr := B.returns
  have hg := zW.law (atoms_spec (ws := (zW yX8_fewest cX8_fewest 5 (some .int))) B.pre)
  have hown : s.vm.findClass RX8 = some m.cls := findClass_of_methodNamed B.named
  have hlocks := B.notSynchronized
  have hpe0 := hI.1
  subst hsz
  have hD := hD0.self (sz := s.heap.size)
  generalize hAe : va_A (zw 126 ad ct) s.heap.size = A at hD ⊢
  have hA : ∀ q : Nat, s.heap.size ≤ q → A q := fun q h => by rw [← hAe]; exact Or.inr h
  have hS : va_S A s.heap s.heap [] := va_S.rf
  have hl := lv_entry ([.ref (ad 0), .int b, .int i, .int wh]) (n := 5) (Nat.le_of_ble_eq_true rfl)
  rw [lg_entry_eq]
  generalize (lg_sl ([.ref (ad 0), .int b, .int i, .int wh]) ++ List.replicate (5 - (lg_sl ([.ref (ad 0), .int b, .int i, .int wh])).length) Slot.unset).toArray = ls at hl ⊢
  have hl : lv_has ls 5 [(0, .ref (ad 0)), (1, .int b), (2, .int i), (3, .int wh)] := hl
  have rg_b := z_rng b
  have rg_i := z_rng i
  have rg_wh := z_rng wh
  refine lv_aload_n hx hb dX8_fewest_0 rfl (lv_at hl 0 rfl) ?_
  refine lv_iload_n hx hb dX8_fewest_1 rfl (lv_at hl 1 rfl) ?_
  refine lv_iload_n hx hb dX8_fewest_2 rfl (lv_at hl 2 rfl) ?_
  obtain ⟨bk3, dr2, h4, h5, h6, hs1⟩ := a8_0 hI
  refine zc_i (va_runV (As := [.int b, .int i]) (rest := []) ⟨hx, hb, hml, hown, hg⟩ (k_X8_isLine l g ad pe ct b i hI) (cwV 2 hg (z_gV mm_587 mm_589 mm_19 mm_108 mm_590) rfl rfl rfl (by decide +kernel) ⟨Nat.le_of_ble_eq_true rfl, Nat.le_of_ble_eq_true rfl⟩) ⟨(zR.pre [.ref (ad 0), .int b, .int i] hP hK hN).1, va_recv hK hP (ci := 8) (q0 := 0) rfl (zw_at (by omega) hs1), (zR.pre [.ref (ad 0), .int b, .int i] hP hK hN).2⟩ rfl rfl hl.1 rfl (lv_room (Nat.le_of_ble_eq_true rfl)) dX8_fewest_3 ⟨Nat.le_of_ble_eq_true rfl, Nat.le_of_ble_eq_true rfl⟩) (fun r7 hr7 => ?_)
  rcases hr7 with hr7 | hr7
  · skip
    obtain ⟨rfl, h8, h9⟩ := hr7
    have h8 : 0 ≤ b.toInt ∧ b.toInt ≤ 3 := h8
    have h9 : 0 ≤ i.toInt ∧ i.toInt ≤ 7 := h9
    refine lv_if_eq (tgt := 18) hx hb dX8_fewest_6 (by decide) (fun c10 => ?_) (fun c10 => ?_)
    · skip
      exact absurd c10 (by decide)
    · skip
      refine lv_iload_n hx hb dX8_fewest_9 rfl (lv_at hl 3 rfl) ?_
      refine lv_iconst (v := 0) hx hb dX8_fewest_10 (by decide) ?_
      refine lv_iconst (v := 2) hx hb dX8_fewest_11 (by decide) ?_
      refine zc_i (va_runS (As := [.int wh, .int 0, .int 2]) (rest := []) ⟨hx, hb, hml, hown, hg⟩ (k_X8_within l g ad pe ct wh (0 : Int32) (2 : Int32) hI) (va_cwS 3 hg (z_gS mm_407 mm_408 mm_108 mm_409) rfl rfl rfl (by decide +kernel) ⟨Nat.le_of_ble_eq_true rfl, Nat.le_of_ble_eq_true rfl⟩) (zR.pre [.int wh, .int 0, .int 2] hP hK hN) rfl rfl hl.1 rfl (lv_room (Nat.le_of_ble_eq_true rfl)) dX8_fewest_12 ⟨Nat.le_of_ble_eq_true rfl, Nat.le_of_ble_eq_true rfl⟩) (fun r11 hr11 => ?_)
      rcases hr11 with hr11 | hr11
      · skip
        obtain ⟨rfl, h12, h13⟩ := hr11
        have h12 : (0 : Int) ≤ wh.toInt := h12
        have h13 : wh.toInt ≤ (2 : Int) := h13
        refine lv_if_ne (tgt := 20) hx hb dX8_fewest_15 (by decide) (fun c14 => ?_) (fun c14 => ?_)
        · skip
          refine lv_aload_n hx hb dX8_fewest_20 rfl (lv_at hl 0 rfl) ?_
          refine lv_iload_n hx hb dX8_fewest_21 rfl (lv_at hl 1 rfl) ?_
          refine lv_iload_n hx hb dX8_fewest_22 rfl (lv_at hl 2 rfl) ?_
          refine zc_i (va_runV (As := [.int b, .int i]) (rest := []) ⟨hx, hb, hml, hown, hg⟩ (k_X8_isLive l g ad pe ct b i hI) (cwV 2 hg (z_gV mm_583 mm_585 mm_18 mm_108 mm_586) rfl rfl rfl (by decide +kernel) ⟨Nat.le_of_ble_eq_true rfl, Nat.le_of_ble_eq_true rfl⟩) ⟨(zR.pre [.ref (ad 0), .int b, .int i] hP hK hN).1, va_recv hK hP (ci := 8) (q0 := 0) rfl (zw_at (by omega) hs1), (zR.pre [.ref (ad 0), .int b, .int i] hP hK hN).2⟩ rfl rfl hl.1 rfl (lv_room (Nat.le_of_ble_eq_true rfl)) dX8_fewest_23 ⟨Nat.le_of_ble_eq_true rfl, Nat.le_of_ble_eq_true rfl⟩) (fun r15 hr15 => ?_)
          rcases hr15 with hr15 | hr15
          · skip
            obtain ⟨rfl, h16, h17⟩ := hr15
            have h16 : 0 ≤ b.toInt ∧ b.toInt ≤ 3 := h16
            have h17 : 0 ≤ i.toInt ∧ i.toInt ≤ 7 := h17
            refine lv_if_ne (tgt := 32) hx hb dX8_fewest_26 (by decide) (fun c18 => ?_) (fun c18 => ?_)
            · skip
              refine lv_aload_n hx hb dX8_fewest_32 rfl (lv_at hl 0 rfl) ?_
              refine lv_iload_n hx hb dX8_fewest_33 rfl (lv_at hl 1 rfl) ?_
              refine lv_iload_n hx hb dX8_fewest_34 rfl (lv_at hl 2 rfl) ?_
              have hFc := zw_free hD hS hA
              refine va_calli (va_runV (As := [.int b, .int i]) (rest := []) ⟨hx, hb, hml, hown, hg⟩ (k_X8_fewestGossips l g _ ad pe ct b i (by first | omega | decide) (by first | omega | decide) hI) (cwV 2 hg (z_gV mm_786 mm_788 mm_32 mm_108 mm_789) rfl rfl rfl (by decide +kernel) ⟨Nat.le_of_ble_eq_true rfl, Nat.le_of_ble_eq_true rfl⟩) ⟨(zA.pre [.ref (ad 0), .int b, .int i] hP hK hD hN).1, va_recv hK hP (ci := 8) (q0 := 0) rfl (zw_at (by omega) hs1), (zA.pre [.ref (ad 0), .int b, .int i] hP hK hD hN).2⟩ rfl rfl hl.1 rfl (lv_room (Nat.le_of_ble_eq_true rfl)) dX8_fewest_35 ⟨Nat.le_of_ble_eq_true rfl, Nat.le_of_ble_eq_true rfl⟩) hS (fun q _ h => hFc q h) hFc (fun r19 _ t H1 locs ht hvm hr19 hB hz1 hk1 hS => ?_)
              obtain ⟨ct20, hP1, hD1, hI⟩ := hB
              rw [ht] at hP1
              have hD := hD1.weaken (fun _ _ _ h => hFc _ h)
              generalize H1 = H at hP1 hS ⊢
              have hP := hP1
              refine W.widen (k := 0) (n := 0) (Nat.le_refl _) (Nat.le_refl _) ?_
              refine lv_istore (lv' := [(4, .int r19), (0, .ref (ad 0)), (1, .int b), (2, .int i), (3, .int wh)]) hx hb dX8_fewest_38 hl (by decide) rfl (fun ls hl => ?_)
              refine lv_iload hx hb dX8_fewest_40 (lv_at hl 0 rfl) ?_
              refine lv_iconst (v := (-1)) hx hb dX8_fewest_42 (by decide) ?_
              refine lv_icmp_ne (tgt := 49) hx hb dX8_fewest_43 (by decide) (fun c21 => ?_) (fun c21 => ?_)
              · skip
                have c21 : ¬ (r19.toInt = (-1)) := fun q => c21 ((z_eq rfl (by decide : ((-1) : Int32).toInt = (-1))).mpr q)
                refine lv_iload_n hx hb dX8_fewest_49 rfl (lv_at hl 4 rfl) ?_
                refine lv_if_ne (tgt := 59) hx hb dX8_fewest_50 (by decide) (fun c22 => ?_) (fun c22 => ?_)
                · skip
                  have c22 : ¬ (wh.toInt = 0) := fun q => c22 ((z_eq rfl (by decide : (0 : Int32).toInt = 0)).mpr q)
                  refine lv_iload_n hx hb dX8_fewest_59 rfl (lv_at hl 4 rfl) ?_
                  refine lv_iconst (v := 1) hx hb dX8_fewest_60 (by decide) ?_
                  refine lv_icmp_ne (tgt := 69) hx hb dX8_fewest_61 (by decide) (fun c23 => ?_) (fun c23 => ?_)
                  · skip
                    have c23 : ¬ (wh.toInt = 1) := fun q => c23 ((z_eq rfl (by decide : (1 : Int32).toInt = 1)).mpr q)
                    refine lv_aload_n hx hb dX8_fewest_69 rfl (lv_at hl 1 rfl) ?_
                    refine lv_iload_n hx hb dX8_fewest_70 rfl (lv_at hl 2 rfl) ?_
                    refine lv_iload_n hx hb dX8_fewest_71 rfl (lv_at hl 3 rfl) ?_
                    refine lv_iload hx hb dX8_fewest_72 (lv_at hl 0 rfl) ?_
                    obtain ⟨bk26, dr25, h27, h28, h29, hs24⟩ := a8_0 hI
                    have hFc := zw_free hD hS hA
                    refine va_calli (va_runV (As := [.int b, .int i, .int r19]) (rest := []) ⟨hx, hb, hml, hown, hg⟩ (k_X8_mayLaid l g _ ad pe ct20 b i r19 (by first | omega | decide) (by first | omega | decide) hI) (cwV 3 hg (z_gV mm_790 mm_792 mm_33 mm_108 mm_793) rfl rfl rfl (by decide +kernel) ⟨Nat.le_of_ble_eq_true rfl, Nat.le_of_ble_eq_true rfl⟩) ⟨(zA.pre [.ref (ad 0), .int b, .int i, .int r19] hP hK hD hN).1, va_recv hK hP (ci := 8) (q0 := 0) rfl (zw_at (by omega) hs24), (zA.pre [.ref (ad 0), .int b, .int i, .int r19] hP hK hD hN).2⟩ rfl rfl hl.1 rfl (lv_room (Nat.le_of_ble_eq_true rfl)) dX8_fewest_74 ⟨Nat.le_of_ble_eq_true rfl, Nat.le_of_ble_eq_true rfl⟩) hS (fun q _ h => hFc q h) hFc (fun r30 _ t H1 locs ht hvm hr30 hB hz1 hk1 hS => ?_)
                    obtain ⟨ct31, hP1, hD1, hI⟩ := hB
                    rw [ht] at hP1
                    have hD := hD1.weaken (fun _ _ _ h => hFc _ h)
                    generalize H1 = H at hP1 hS ⊢
                    have hP := hP1
                    refine W.widen (k := 0) (n := 0) (Nat.le_refl _) (Nat.le_refl _) ?_
                    obtain ⟨hr30_0, hr30_1⟩ := hr30
                    have hr30_0 : 0 ≤ r30.toInt := hr30_0
                    have hr30_1 : r30.toInt ≤ 65535 := hr30_1
                    refine zc_i (va_runS (As := [.int r30]) (rest := []) ⟨hx, hb, hml, hown, hg⟩ (k_low16 l g ad pe ct31 r30 (by first | omega | decide) hI) (va_cwS 1 hg (z_gS mm_794 mm_745 mm_108 mm_746) rfl rfl rfl (by decide +kernel) ⟨Nat.le_of_ble_eq_true rfl, Nat.le_of_ble_eq_true rfl⟩) (zR.pre [.int r30] hP hK hN) rfl rfl hl.1 rfl (lv_room (Nat.le_of_ble_eq_true rfl)) dX8_fewest_77 ⟨Nat.le_of_ble_eq_true rfl, Nat.le_of_ble_eq_true rfl⟩) (fun r32 hr32 => ?_)
                    obtain ⟨hr32_0, hr32_1⟩ := hr32
                    have hr32_0 : -1 ≤ r32.toInt := hr32_0
                    have hr32_1 : r32.toInt ≤ 15 := hr32_1
                    exact W.iret (v := r32) hx hb hr (fun t ht hW => ⟨⟨r32, (), rfl, trivial, ct31, by rw [ht]; exact hP, hD, hI⟩, hS.F ht⟩) hS.2.2 dX8_fewest_80
                  · skip
                    have c23 : wh.toInt = 1 := (z_eq rfl (by decide : (1 : Int32).toInt = 1)).mp c23
                    refine lv_iload hx hb dX8_fewest_64 (lv_at hl 0 rfl) ?_
                    refine lv_goto (tgt := 80) hx hb dX8_fewest_66 (by decide) ?_
                    exact W.iret (v := r19) hx hb hr (fun t ht hW => ⟨⟨r19, (), rfl, trivial, ct20, by rw [ht]; exact hP, hD, hI⟩, hS.F ht⟩) hS.2.2 dX8_fewest_80
                · skip
                  have c22 : wh.toInt = 0 := (z_eq rfl (by decide : (0 : Int32).toInt = 0)).mp c22
                  refine lv_iload hx hb dX8_fewest_53 (lv_at hl 0 rfl) ?_
                  refine zc_i (va_runS (As := [.int r19]) (rest := []) ⟨hx, hb, hml, hown, hg⟩ (k_J6_bitCount_0f7a4 l g ad pe ct20 r19 hI) (va_cwS 1 hg (z_gS mm_734 mm_729 mm_119 mm_730) rfl rfl rfl (by decide +kernel) ⟨Nat.le_of_ble_eq_true rfl, Nat.le_of_ble_eq_true rfl⟩) (zR.pre [.int r19] hP hK hN) rfl rfl hl.1 rfl (lv_room (Nat.le_of_ble_eq_true rfl)) dX8_fewest_55 ⟨Nat.le_of_ble_eq_true rfl, Nat.le_of_ble_eq_true rfl⟩) (fun r33 hr33 => ?_)
                  obtain ⟨hr33_0, hr33_1⟩ := hr33
                  have hr33_0 : 0 ≤ r33.toInt := hr33_0
                  have hr33_1 : r33.toInt ≤ 63 := hr33_1
                  exact W.iret (v := r33) hx hb hr (fun t ht hW => ⟨⟨r33, (), rfl, trivial, ct20, by rw [ht]; exact hP, hD, hI⟩, hS.F ht⟩) hS.2.2 dX8_fewest_58
              · skip
                have c21 : r19.toInt = (-1) := (z_eq rfl (by decide : ((-1) : Int32).toInt = (-1))).mp c21
                refine lv_bipush (v := (-2)) hx hb dX8_fewest_46 (by decide) ?_
                have q34 : ((-2) : Int32).toInt = -2 := by decide
                exact W.iret (v := (-2)) hx hb hr (fun t ht hW => ⟨⟨(-2), (), rfl, trivial, ct20, by rw [ht]; exact hP, hD, hI⟩, hS.F ht⟩) hS.2.2 dX8_fewest_48
            · skip
              exact absurd c18 (by decide)
          · skip
            obtain rfl := hr15
            refine lv_if_ne (tgt := 32) hx hb dX8_fewest_26 (by decide) (fun c35 => ?_) (fun c35 => ?_)
            · skip
              exact absurd c35 (by decide)
            · skip
              refine lv_bipush (v := (-2)) hx hb dX8_fewest_29 (by decide) ?_
              have q36 : ((-2) : Int32).toInt = -2 := by decide
              exact W.iret (v := (-2)) hx hb hr (fun t ht hW => ⟨⟨(-2), (), rfl, trivial, ct, by rw [ht]; exact hP, hD, hI⟩, hS.F ht⟩) hS.2.2 dX8_fewest_31
        · skip
          exact absurd c14 (by decide)
      · skip
        obtain ⟨rfl, h37⟩ := hr11
        have h37 : ¬ ((0 : Int) ≤ wh.toInt ∧ wh.toInt ≤ (2 : Int)) := h37
        refine lv_if_ne (tgt := 20) hx hb dX8_fewest_15 (by decide) (fun c38 => ?_) (fun c38 => ?_)
        · skip
          exact absurd c38 (by decide)
        · skip
          refine lv_iconst (v := (-1)) hx hb dX8_fewest_18 (by decide) ?_
          have q39 : ((-1) : Int32).toInt = -1 := by decide
          exact W.iret (v := (-1)) hx hb hr (fun t ht hW => ⟨⟨(-1), (), rfl, trivial, ct, by rw [ht]; exact hP, hD, hI⟩, hS.F ht⟩) hS.2.2 dX8_fewest_19
  · skip
    obtain rfl := hr7
    refine lv_if_eq (tgt := 18) hx hb dX8_fewest_6 (by decide) (fun c40 => ?_) (fun c40 => ?_)
    · skip
      refine lv_iconst (v := (-1)) hx hb dX8_fewest_18 (by decide) ?_
      have q41 : ((-1) : Int32).toInt = -1 := by decide
      exact W.iret (v := (-1)) hx hb hr (fun t ht hW => ⟨⟨(-1), (), rfl, trivial, ct, by rw [ht]; exact hP, hD, hI⟩, hS.F ht⟩) hS.2.2 dX8_fewest_19
    · skip
      exact absurd c40 (by decide)

set_option maxHeartbeats 4000000 in
set_option maxRecDepth 100000 in
theorem k_X8_blurring (l : Launch) (g : zG) (sz : Nat) (ad : Nat → Nat) (pe : Int32) (ct : Nat → va_E) (n : Int32) (k : Int32) (pr : Int32) (wh : Int32) (hI : Inv8 g ad pe ct) : Met l yX8_blurring (zW yX8_blurring cX8_blurring 6 (some .int)) ({ frames := 5, cells := 0, slots := 0, locals := 116 }) (va_Pc [.ref (ad 0), .int n, .int k, .int pr, .int wh] (zA g (zw 126 ad ct) sz)) (va_Qi (fun (r : Int32) (_ : Unit) => (True)) (fun _ t => ∃ ct2 : Nat → va_E, zP g (zw 126 ad ct2) t.heap ∧ va_D (va_A (zw 126 ad ct) sz) (zw 126 ad ct2) ∧ Inv8 g ad pe ct2) (va_A (zw 126 ad ct) sz)) 0 0 (va_A (zw 126 ad ct) sz) := by
  refine Met.ofW (cc := cX8_blurring) (maxL := 6) (ret := (some .int)) (by decide) rfl ?_
  intro p e s m args below meth c s₁ B hml hv
  obtain ⟨rfl, hsz, hP, hK, hD0, hN⟩ := hv
  have hx := B.exec
  have hb := B.bytes
  have hr := B.returns
  have hg := zW.law (atoms_spec (ws := (zW yX8_blurring cX8_blurring 6 (some .int))) B.pre)
  have hown : s.vm.findClass RX8 = some m.cls := findClass_of_methodNamed B.named
  have hlocks := B.notSynchronized
  have hpe0 := hI.1
  subst hsz
  have hD := hD0.self (sz := s.heap.size)
  generalize hAe : va_A (zw 126 ad ct) s.heap.size = A at hD ⊢
  have hA : ∀ q : Nat, s.heap.size ≤ q → A q := fun q h => by rw [← hAe]; exact Or.inr h
  have hS : va_S A s.heap s.heap [] := va_S.rf
  have hl := lv_entry ([.ref (ad 0), .int n, .int k, .int pr, .int wh]) (n := 6) (Nat.le_of_ble_eq_true rfl)
  rw [lg_entry_eq]
  generalize (lg_sl ([.ref (ad 0), .int n, .int k, .int pr, .int wh]) ++ List.replicate (6 - (lg_sl ([.ref (ad 0), .int n, .int k, .int pr, .int wh])).length) Slot.unset).toArray = ls at hl ⊢
  have hl : lv_has ls 6 [(0, .ref (ad 0)), (1, .int n), (2, .int k), (3, .int pr), (4, .int wh)] := hl
  have rg_n := z_rng n
  have rg_k := z_rng k
  have rg_pr := z_rng pr
  have rg_wh := z_rng wh
  refine lv_iload_n hx hb dX8_blurring_0 rfl (lv_at hl 1 rfl) ?_
  refine lv_iconst (v := 1) hx hb dX8_blurring_1 (by decide) ?_
  refine lv_bipush (v := 8) hx hb dX8_blurring_2 (by decide) ?_
  refine zc_i (va_runS (As := [.int n, .int 1, .int 8]) (rest := []) ⟨hx, hb, hml, hown, hg⟩ (k_X8_within l g ad pe ct n (1 : Int32) (8 : Int32) hI) (va_cwS 3 hg (z_gS mm_407 mm_408 mm_108 mm_409) rfl rfl rfl (by decide +kernel) ⟨Nat.le_of_ble_eq_true rfl, Nat.le_of_ble_eq_true rfl⟩) (zR.pre [.int n, .int 1, .int 8] hP hK hN) rfl rfl hl.1 rfl (lv_room (Nat.le_of_ble_eq_true rfl)) dX8_blurring_4 ⟨Nat.le_of_ble_eq_true rfl, Nat.le_of_ble_eq_true rfl⟩) (fun r1 hr1 => ?_)
  rcases hr1 with hr1 | hr1
  · skip
    obtain ⟨rfl, h2, h3⟩ := hr1
    have h2 : (1 : Int) ≤ n.toInt := h2
    have h3 : n.toInt ≤ (8 : Int) := h3
    refine lv_if_eq (tgt := 28) hx hb dX8_blurring_7 (by decide) (fun c4 => ?_) (fun c4 => ?_)
    · skip
      exact absurd c4 (by decide)
    · skip
      refine lv_iload_n hx hb dX8_blurring_10 rfl (lv_at hl 2 rfl) ?_
      refine zc_i (va_runS (As := [.int k]) (rest := []) ⟨hx, hb, hml, hown, hg⟩ (k_X8_isBar l g ad pe ct k hI) (va_cwS 1 hg (z_gS mm_772 mm_773 mm_108 mm_774) rfl rfl rfl (by decide +kernel) ⟨Nat.le_of_ble_eq_true rfl, Nat.le_of_ble_eq_true rfl⟩) (zR.pre [.int k] hP hK hN) rfl rfl hl.1 rfl (lv_room (Nat.le_of_ble_eq_true rfl)) dX8_blurring_11 ⟨Nat.le_of_ble_eq_true rfl, Nat.le_of_ble_eq_true rfl⟩) (fun r5 hr5 => ?_)
      rcases hr5 with hr5 | hr5
      · skip
        obtain ⟨rfl, h6, h7⟩ := hr5
        have h6 : 1 ≤ k.toInt := h6
        have h7 : k.toInt ≤ 16 := h7
        refine lv_if_eq (tgt := 28) hx hb dX8_blurring_14 (by decide) (fun c8 => ?_) (fun c8 => ?_)
        · skip
          exact absurd c8 (by decide)
        · skip
          refine lv_iload_n hx hb dX8_blurring_17 rfl (lv_at hl 3 rfl) ?_
          refine lv_iconst (v := 0) hx hb dX8_blurring_18 (by decide) ?_
          refine lv_sipush (v := 9999) hx hb dX8_blurring_19 (by decide) ?_
          refine zc_i (va_runS (As := [.int pr, .int 0, .int 9999]) (rest := []) ⟨hx, hb, hml, hown, hg⟩ (k_X8_within l g ad pe ct pr (0 : Int32) (9999 : Int32) hI) (va_cwS 3 hg (z_gS mm_407 mm_408 mm_108 mm_409) rfl rfl rfl (by decide +kernel) ⟨Nat.le_of_ble_eq_true rfl, Nat.le_of_ble_eq_true rfl⟩) (zR.pre [.int pr, .int 0, .int 9999] hP hK hN) rfl rfl hl.1 rfl (lv_room (Nat.le_of_ble_eq_true rfl)) dX8_blurring_22 ⟨Nat.le_of_ble_eq_true rfl, Nat.le_of_ble_eq_true rfl⟩) (fun r9 hr9 => ?_)
          rcases hr9 with hr9 | hr9
          · skip
            obtain ⟨rfl, h10, h11⟩ := hr9
            have h10 : (0 : Int) ≤ pr.toInt := h10
            have h11 : pr.toInt ≤ (9999 : Int) := h11
            refine lv_if_ne (tgt := 31) hx hb dX8_blurring_25 (by decide) (fun c12 => ?_) (fun c12 => ?_)
            · skip
              refine lv_iload hx hb dX8_blurring_31 (lv_at hl 4 rfl) ?_
              refine lv_iconst (v := (-1)) hx hb dX8_blurring_33 (by decide) ?_
              refine lv_iconst (v := 4) hx hb dX8_blurring_34 (by decide) ?_
              refine zc_i (va_runS (As := [.int wh, .int (-1), .int 4]) (rest := []) ⟨hx, hb, hml, hown, hg⟩ (k_X8_within l g ad pe ct wh (-1 : Int32) (4 : Int32) hI) (va_cwS 3 hg (z_gS mm_407 mm_408 mm_108 mm_409) rfl rfl rfl (by decide +kernel) ⟨Nat.le_of_ble_eq_true rfl, Nat.le_of_ble_eq_true rfl⟩) (zR.pre [.int wh, .int (-1), .int 4] hP hK hN) rfl rfl hl.1 rfl (lv_room (Nat.le_of_ble_eq_true rfl)) dX8_blurring_35 ⟨Nat.le_of_ble_eq_true rfl, Nat.le_of_ble_eq_true rfl⟩) (fun r13 hr13 => ?_)
              rcases hr13 with hr13 | hr13
              · skip
                obtain ⟨rfl, h14, h15⟩ := hr13
                have h14 : (-1 : Int) ≤ wh.toInt := h14
                have h15 : wh.toInt ≤ (4 : Int) := h15
                refine lv_if_eq (tgt := 52) hx hb dX8_blurring_38 (by decide) (fun c16 => ?_) (fun c16 => ?_)
                · skip
                  exact absurd c16 (by decide)
                · skip
                  refine lv_aload_n hx hb dX8_blurring_41 rfl (lv_at hl 0 rfl) ?_
                  obtain ⟨bk19, dr18, h20, h21, h22, hs17⟩ := a8_0 hI
                  refine va_get (D := g.1) (ci := 8) (v := .ref (ad 3)) (C := RX8) (T := TX8) (N := 13) hx hb hg inG8 hown hK hP 0 (zw_at (by omega) hs17) rfl 2 (by decide) (hg _ mm_362) (fun _ h9 => h9) rfl dX8_blurring_42 ?_
                  obtain ⟨len24, h25, h26, hs23⟩ := a8_3 hI
                  refine va_get (D := g.1) (ci := 7) (v := .int len24) (C := RX7) (T := TX7) (N := 2) hx hb hg inG7 hown hK hP 3 (zw_at (by omega) hs23) rfl 0 (by decide) (hg _ mm_137) (fun _ h9 => h9) rfl dX8_blurring_45 ?_
                  refine lv_iload_n hx hb dX8_blurring_48 rfl (lv_at hl 1 rfl) ?_
                  refine lv_icmp_ge (tgt := 55) hx hb dX8_blurring_49 (by decide) (fun c27 => ?_) (fun c27 => ?_)
                  · skip
                    have c27 : n.toInt ≤ len24.toInt := (z_le rfl rfl).mp c27
                    refine lv_aload_n hx hb dX8_blurring_55 rfl (lv_at hl 0 rfl) ?_
                    refine lv_iload_n hx hb dX8_blurring_56 rfl (lv_at hl 1 rfl) ?_
                    refine zc_i (va_runV (As := [.int n]) (rest := []) ⟨hx, hb, hml, hown, hg⟩ (k_X8_tellsPeople l g ad pe ct n hI) (cwV 1 hg (z_gV mm_548 mm_550 mm_16 mm_108 mm_551) rfl rfl rfl (by decide +kernel) ⟨Nat.le_of_ble_eq_true rfl, Nat.le_of_ble_eq_true rfl⟩) ⟨(zR.pre [.ref (ad 0), .int n] hP hK hN).1, va_recv hK hP (ci := 8) (q0 := 0) rfl (zw_at (by omega) hs17), (zR.pre [.ref (ad 0), .int n] hP hK hN).2⟩ rfl rfl hl.1 rfl (lv_room (Nat.le_of_ble_eq_true rfl)) dX8_blurring_57 ⟨Nat.le_of_ble_eq_true rfl, Nat.le_of_ble_eq_true rfl⟩) (fun r28 hr28 => ?_)
                    rcases hr28 with hr28 | hr28
                    · skip
                      obtain rfl := hr28
                      refine lv_istore (lv' := [(5, .int 1), (0, .ref (ad 0)), (1, .int n), (2, .int k), (3, .int pr), (4, .int wh)]) hx hb dX8_blurring_60 hl (by decide) rfl (fun ls hl => ?_)
                      refine lv_iload hx hb dX8_blurring_62 (lv_at hl 0 rfl) ?_
                      refine lv_if_eq (tgt := 82) hx hb dX8_blurring_64 (by decide) (fun c29 => ?_) (fun c29 => ?_)
                      · skip
                        exact absurd c29 (by decide)
                      · skip
                        refine lv_aload_n hx hb dX8_blurring_67 rfl (lv_at hl 1 rfl) ?_
                        refine lv_iload_n hx hb dX8_blurring_68 rfl (lv_at hl 2 rfl) ?_
                        have hFc := zw_free hD hS hA
                        refine va_callv (va_runV (As := [.int n]) (rest := []) ⟨hx, hb, hml, hown, hg⟩ (k_X8_prepareBlurs l g _ ad pe ct n hI) (cwV 1 hg (z_gV mm_853 mm_855 mm_42 mm_108 mm_856) rfl rfl rfl (by decide +kernel) ⟨Nat.le_of_ble_eq_true rfl, Nat.le_of_ble_eq_true rfl⟩) ⟨(zA.pre [.ref (ad 0), .int n] hP hK hD hN).1, va_recv hK hP (ci := 8) (q0 := 0) rfl (zw_at (by omega) hs17), (zA.pre [.ref (ad 0), .int n] hP hK hD hN).2⟩ rfl rfl hl.1 rfl (lv_room (Nat.le_of_ble_eq_true rfl)) dX8_blurring_69 ⟨Nat.le_of_ble_eq_true rfl, Nat.le_of_ble_eq_true rfl⟩) hS (fun q _ h => hFc q h) hFc (fun _ t H1 locs ht hvm hr30 hB hz1 hk1 hS => ?_)
                        obtain ⟨ct31, hP1, hD1, hI⟩ := hB
                        rw [ht] at hP1
                        have hD := hD1.weaken (fun _ _ _ h => hFc _ h)
                        generalize H1 = H at hP1 hS ⊢
                        have hP := hP1
                        refine W.widen (k := 0) (n := 0) (Nat.le_refl _) (Nat.le_refl _) ?_
                        refine lv_aload_n hx hb dX8_blurring_72 rfl (lv_at hl 1 rfl) ?_
                        obtain ⟨bk34, dr33, h35, h36, h37, hs32⟩ := a8_0 hI
                        refine va_get (D := g.1) (ci := 8) (v := .ref (ad 21)) (C := RX8) (T := TX8) (N := 13) hx hb hg inG8 hown hK hP 0 (zw_at (by omega) hs32) rfl 8 (by decide) (hg _ mm_368) (fun _ h9 => h9) rfl dX8_blurring_73 ?_
                        refine lv_iload_n hx hb dX8_blurring_76 rfl (lv_at hl 2 rfl) ?_
                        refine lv_iload_n hx hb dX8_blurring_77 rfl (lv_at hl 3 rfl) ?_
                        refine lv_iload_n hx hb dX8_blurring_78 rfl (lv_at hl 4 rfl) ?_
                        obtain ⟨lst39, lrw40, lct41, h42, h43, hs38⟩ := a8_21 hI
                        have hFc := zw_free hD hS hA
                        refine va_callv (va_runV (As := [.int n, .int k, .int pr]) (rest := []) ⟨hx, hb, hml, hown, hg⟩ (k_X1_find l g _ ad pe ct31 n k pr hI) (cwV 3 hg (z_gV mm_883 mm_884 mm_885 mm_113 mm_886) rfl rfl rfl (by decide +kernel) ⟨Nat.le_of_ble_eq_true rfl, Nat.le_of_ble_eq_true rfl⟩) ⟨(zA.pre [.ref (ad 21), .int n, .int k, .int pr] hP hK hD hN).1, va_recv hK hP (ci := 1) (q0 := 21) rfl (zw_at (by omega) hs38), (zA.pre [.ref (ad 21), .int n, .int k, .int pr] hP hK hD hN).2⟩ rfl rfl hl.1 rfl (lv_room (Nat.le_of_ble_eq_true rfl)) dX8_blurring_79 ⟨Nat.le_of_ble_eq_true rfl, Nat.le_of_ble_eq_true rfl⟩) hS (fun q _ h => hFc q h) hFc (fun _ t H1 locs ht hvm hr44 hB hz1 hk1 hS => ?_)
                        obtain ⟨ct45, hP1, hD1, hI⟩ := hB
                        rw [ht] at hP1
                        have hD := hD1.weaken (fun _ _ _ h => hFc _ h)
                        generalize H1 = H at hP1 hS ⊢
                        have hP := hP1
                        refine W.widen (k := 0) (n := 0) (Nat.le_refl _) (Nat.le_refl _) ?_
                        refine lv_aload_n hx hb dX8_blurring_82 rfl (lv_at hl 1 rfl) ?_
                        obtain ⟨bk48, dr47, h49, h50, h51, hs46⟩ := a8_0 hI
                        refine va_get (D := g.1) (ci := 8) (v := .ref (ad 3)) (C := RX8) (T := TX8) (N := 13) hx hb hg inG8 hown hK hP 0 (zw_at (by omega) hs46) rfl 2 (by decide) (hg _ mm_362) (fun _ h9 => h9) rfl dX8_blurring_83 ?_
                        obtain ⟨len53, h54, h55, hs52⟩ := a8_3 hI
                        have hFc := zw_free hD hS hA
                        refine va_callv (va_runV (As := []) (rest := []) ⟨hx, hb, hml, hown, hg⟩ (k_X7_clear l g _ ad pe ct45  hI) (cwV 0 hg (z_gV mm_575 mm_576 mm_577 mm_109 mm_578) rfl rfl rfl (by decide +kernel) ⟨Nat.le_of_ble_eq_true rfl, Nat.le_of_ble_eq_true rfl⟩) ⟨(zA.pre [.ref (ad 3)] hP hK hD hN).1, va_recv hK hP (ci := 7) (q0 := 3) rfl (zw_at (by omega) hs52), (zA.pre [.ref (ad 3)] hP hK hD hN).2⟩ rfl rfl hl.1 rfl (lv_room (Nat.le_of_ble_eq_true rfl)) dX8_blurring_86 ⟨Nat.le_of_ble_eq_true rfl, Nat.le_of_ble_eq_true rfl⟩) hS (fun q _ h => hFc q h) hFc (fun _ t H1 locs ht hvm hr56 hB hz1 hk1 hS => ?_)
                        obtain ⟨ct57, hP1, hD1, hI, hk58⟩ := hB
                        rw [ht] at hP1
                        have hD := hD1.weaken (fun _ _ _ h => hFc _ h)
                        generalize H1 = H at hP1 hS ⊢
                        have hP := hP1
                        refine W.widen (k := 0) (n := 0) (Nat.le_refl _) (Nat.le_refl _) ?_
                        have hs59 : ct57 0 = .inr (8, [.ref (ad 1), .ref (ad 2), .ref (ad 3), .ref (ad 5), .ref (ad 6), .ref (ad 9), .ref (ad 10), .ref (ad 17), .ref (ad 21), .ref (ad 34), .ref (ad (99 + 3 * dr47)), .int pe, .int bk48]) := hk58.trans hs46
                        refine lv_iload hx hb dX8_blurring_89 (lv_at hl 0 rfl) ?_
                        refine lv_if_ne (tgt := 97) hx hb dX8_blurring_91 (by decide) (fun c60 => ?_) (fun c60 => ?_)
                        · skip
                          refine lv_iload hx hb dX8_blurring_97 (lv_at hl 5 rfl) ?_
                          refine lv_iconst (v := (-1)) hx hb dX8_blurring_99 (by decide) ?_
                          refine lv_icmp_ne (tgt := 111) hx hb dX8_blurring_100 (by decide) (fun c61 => ?_) (fun c61 => ?_)
                          · skip
                            have c61 : ¬ (wh.toInt = (-1)) := fun q => c61 ((z_eq rfl (by decide : ((-1) : Int32).toInt = (-1))).mpr q)
                            refine lv_iload hx hb dX8_blurring_111 (lv_at hl 5 rfl) ?_
                            refine lv_iconst (v := 4) hx hb dX8_blurring_113 (by decide) ?_
                            refine lv_icmp_ne (tgt := 127) hx hb dX8_blurring_114 (by decide) (fun c62 => ?_) (fun c62 => ?_)
                            · skip
                              have c62 : ¬ (wh.toInt = 4) := fun q => c62 ((z_eq rfl (by decide : (4 : Int32).toInt = 4)).mpr q)
                              refine lv_aload_n hx hb dX8_blurring_127 rfl (lv_at hl 1 rfl) ?_
                              refine va_get (D := g.1) (ci := 8) (v := .ref (ad 21)) (C := RX8) (T := TX8) (N := 13) hx hb hg inG8 hown hK hP 0 (zw_at (by omega) hs59) rfl 8 (by decide) (hg _ mm_368) (fun _ h9 => h9) rfl dX8_blurring_128 ?_
                              obtain ⟨lst64, lrw65, lct66, h67, h68, hs63⟩ := a8_21 hI
                              refine va_get (D := g.1) (ci := 1) (v := .int lrw65) (C := RX1) (T := TX1) (N := 7) hx hb hg inG1 hown hK hP 21 (zw_at (by omega) hs63) rfl 1 (by decide) (hg _ mm_244) (fun _ h9 => h9) rfl dX8_blurring_131 ?_
                              refine lv_iload hx hb dX8_blurring_134 (lv_at hl 5 rfl) ?_
                              refine zc_i (va_runS (As := [.int lrw65, .int wh]) (rest := []) ⟨hx, hb, hml, hown, hg⟩ (k_X1_level l g ad pe ct57 lrw65 wh (by first | omega | decide) hI) (va_cwS 2 hg (z_gS mm_904 mm_888 mm_113 mm_889) rfl rfl rfl (by decide +kernel) ⟨Nat.le_of_ble_eq_true rfl, Nat.le_of_ble_eq_true rfl⟩) (zR.pre [.int lrw65, .int wh] hP hK hN) rfl rfl hl.1 rfl (lv_room (Nat.le_of_ble_eq_true rfl)) dX8_blurring_136 ⟨Nat.le_of_ble_eq_true rfl, Nat.le_of_ble_eq_true rfl⟩) (fun r69 hr69 => ?_)
                              obtain ⟨hr69_0, hr69_1⟩ := hr69
                              have hr69_0 : 0 ≤ r69.toInt := hr69_0
                              have hr69_1 : r69.toInt ≤ 4 := hr69_1
                              exact W.iret (v := r69) hx hb hr (fun t ht hW => ⟨⟨r69, (), rfl, trivial, ct57, by rw [ht]; exact hP, hD, hI⟩, hS.F ht⟩) hS.2.2 dX8_blurring_139
                            · skip
                              have c62 : wh.toInt = 4 := (z_eq rfl (by decide : (4 : Int32).toInt = 4)).mp c62
                              refine lv_aload_n hx hb dX8_blurring_117 rfl (lv_at hl 1 rfl) ?_
                              refine va_get (D := g.1) (ci := 8) (v := .ref (ad 21)) (C := RX8) (T := TX8) (N := 13) hx hb hg inG8 hown hK hP 0 (zw_at (by omega) hs59) rfl 8 (by decide) (hg _ mm_368) (fun _ h9 => h9) rfl dX8_blurring_118 ?_
                              obtain ⟨lst71, lrw72, lct73, h74, h75, hs70⟩ := a8_21 hI
                              refine va_get (D := g.1) (ci := 1) (v := .int lct73) (C := RX1) (T := TX1) (N := 7) hx hb hg inG1 hown hK hP 21 (zw_at (by omega) hs70) rfl 2 (by decide) (hg _ mm_246) (fun _ h9 => h9) rfl dX8_blurring_121 ?_
                              refine lv_goto (tgt := 139) hx hb dX8_blurring_124 (by decide) ?_
                              exact W.iret (v := lct73) hx hb hr (fun t ht hW => ⟨⟨lct73, (), rfl, trivial, ct57, by rw [ht]; exact hP, hD, hI⟩, hS.F ht⟩) hS.2.2 dX8_blurring_139
                          · skip
                            have c61 : wh.toInt = (-1) := (z_eq rfl (by decide : ((-1) : Int32).toInt = (-1))).mp c61
                            refine lv_aload_n hx hb dX8_blurring_103 rfl (lv_at hl 1 rfl) ?_
                            refine va_get (D := g.1) (ci := 8) (v := .ref (ad 21)) (C := RX8) (T := TX8) (N := 13) hx hb hg inG8 hown hK hP 0 (zw_at (by omega) hs59) rfl 8 (by decide) (hg _ mm_368) (fun _ h9 => h9) rfl dX8_blurring_104 ?_
                            obtain ⟨lst77, lrw78, lct79, h80, h81, hs76⟩ := a8_21 hI
                            refine va_get (D := g.1) (ci := 1) (v := .int lst77) (C := RX1) (T := TX1) (N := 7) hx hb hg inG1 hown hK hP 21 (zw_at (by omega) hs76) rfl 0 (by decide) (hg _ mm_242) (fun _ h9 => h9) rfl dX8_blurring_107 ?_
                            exact W.iret (v := lst77) hx hb hr (fun t ht hW => ⟨⟨lst77, (), rfl, trivial, ct57, by rw [ht]; exact hP, hD, hI⟩, hS.F ht⟩) hS.2.2 dX8_blurring_110
                        · skip
                          exact absurd c60 (by decide)
                    · skip
                      obtain rfl := hr28
                      refine lv_istore (lv' := [(5, .int 0), (0, .ref (ad 0)), (1, .int n), (2, .int k), (3, .int pr), (4, .int wh)]) hx hb dX8_blurring_60 hl (by decide) rfl (fun ls hl => ?_)
                      refine lv_iload hx hb dX8_blurring_62 (lv_at hl 0 rfl) ?_
                      refine lv_if_eq (tgt := 82) hx hb dX8_blurring_64 (by decide) (fun c82 => ?_) (fun c82 => ?_)
                      · skip
                        refine lv_aload_n hx hb dX8_blurring_82 rfl (lv_at hl 1 rfl) ?_
                        refine va_get (D := g.1) (ci := 8) (v := .ref (ad 3)) (C := RX8) (T := TX8) (N := 13) hx hb hg inG8 hown hK hP 0 (zw_at (by omega) hs17) rfl 2 (by decide) (hg _ mm_362) (fun _ h9 => h9) rfl dX8_blurring_83 ?_
                        have hFc := zw_free hD hS hA
                        refine va_callv (va_runV (As := []) (rest := []) ⟨hx, hb, hml, hown, hg⟩ (k_X7_clear l g _ ad pe ct  hI) (cwV 0 hg (z_gV mm_575 mm_576 mm_577 mm_109 mm_578) rfl rfl rfl (by decide +kernel) ⟨Nat.le_of_ble_eq_true rfl, Nat.le_of_ble_eq_true rfl⟩) ⟨(zA.pre [.ref (ad 3)] hP hK hD hN).1, va_recv hK hP (ci := 7) (q0 := 3) rfl (zw_at (by omega) hs23), (zA.pre [.ref (ad 3)] hP hK hD hN).2⟩ rfl rfl hl.1 rfl (lv_room (Nat.le_of_ble_eq_true rfl)) dX8_blurring_86 ⟨Nat.le_of_ble_eq_true rfl, Nat.le_of_ble_eq_true rfl⟩) hS (fun q _ h => hFc q h) hFc (fun _ t H1 locs ht hvm hr83 hB hz1 hk1 hS => ?_)
                        obtain ⟨ct84, hP1, hD1, hI, hk85⟩ := hB
                        rw [ht] at hP1
                        have hD := hD1.weaken (fun _ _ _ h => hFc _ h)
                        generalize H1 = H at hP1 hS ⊢
                        have hP := hP1
                        refine W.widen (k := 0) (n := 0) (Nat.le_refl _) (Nat.le_refl _) ?_
                        have hs86 : ct84 0 = .inr (8, [.ref (ad 1), .ref (ad 2), .ref (ad 3), .ref (ad 5), .ref (ad 6), .ref (ad 9), .ref (ad 10), .ref (ad 17), .ref (ad 21), .ref (ad 34), .ref (ad (99 + 3 * dr18)), .int pe, .int bk19]) := hk85.trans hs17
                        refine lv_iload hx hb dX8_blurring_89 (lv_at hl 0 rfl) ?_
                        refine lv_if_ne (tgt := 97) hx hb dX8_blurring_91 (by decide) (fun c87 => ?_) (fun c87 => ?_)
                        · skip
                          exact absurd c87 (by decide)
                        · skip
                          refine lv_bipush (v := (-2)) hx hb dX8_blurring_94 (by decide) ?_
                          have q88 : ((-2) : Int32).toInt = -2 := by decide
                          exact W.iret (v := (-2)) hx hb hr (fun t ht hW => ⟨⟨(-2), (), rfl, trivial, ct84, by rw [ht]; exact hP, hD, hI⟩, hS.F ht⟩) hS.2.2 dX8_blurring_96
                      · skip
                        exact absurd c82 (by decide)
                  · skip
                    have c27 : ¬ (n.toInt ≤ len24.toInt) := fun q => c27 ((z_le rfl rfl).mpr q)
                    refine lv_bipush (v := (-3)) hx hb dX8_blurring_52 (by decide) ?_
                    have q89 : ((-3) : Int32).toInt = -3 := by decide
                    exact W.iret (v := (-3)) hx hb hr (fun t ht hW => ⟨⟨(-3), (), rfl, trivial, ct, by rw [ht]; exact hP, hD, hI⟩, hS.F ht⟩) hS.2.2 dX8_blurring_54
              · skip
                obtain ⟨rfl, h90⟩ := hr13
                have h90 : ¬ ((-1 : Int) ≤ wh.toInt ∧ wh.toInt ≤ (4 : Int)) := h90
                refine lv_if_eq (tgt := 52) hx hb dX8_blurring_38 (by decide) (fun c91 => ?_) (fun c91 => ?_)
                · skip
                  refine lv_bipush (v := (-3)) hx hb dX8_blurring_52 (by decide) ?_
                  have q92 : ((-3) : Int32).toInt = -3 := by decide
                  exact W.iret (v := (-3)) hx hb hr (fun t ht hW => ⟨⟨(-3), (), rfl, trivial, ct, by rw [ht]; exact hP, hD, hI⟩, hS.F ht⟩) hS.2.2 dX8_blurring_54
                · skip
                  exact absurd c91 (by decide)
            · skip
              exact absurd c12 (by decide)
          · skip
            obtain ⟨rfl, h93⟩ := hr9
            have h93 : ¬ ((0 : Int) ≤ pr.toInt ∧ pr.toInt ≤ (9999 : Int)) := h93
            refine lv_if_ne (tgt := 31) hx hb dX8_blurring_25 (by decide) (fun c94 => ?_) (fun c94 => ?_)
            · skip
              exact absurd c94 (by decide)
            · skip
              refine lv_bipush (v := (-3)) hx hb dX8_blurring_28 (by decide) ?_
              have q95 : ((-3) : Int32).toInt = -3 := by decide
              exact W.iret (v := (-3)) hx hb hr (fun t ht hW => ⟨⟨(-3), (), rfl, trivial, ct, by rw [ht]; exact hP, hD, hI⟩, hS.F ht⟩) hS.2.2 dX8_blurring_30
      · skip
        obtain ⟨rfl, h96⟩ := hr5
        have h96 : ¬ (1 ≤ k.toInt ∧ k.toInt ≤ 16) := h96
        refine lv_if_eq (tgt := 28) hx hb dX8_blurring_14 (by decide) (fun c97 => ?_) (fun c97 => ?_)
        · skip
          refine lv_bipush (v := (-3)) hx hb dX8_blurring_28 (by decide) ?_
          have q98 : ((-3) : Int32).toInt = -3 := by decide
          exact W.iret (v := (-3)) hx hb hr (fun t ht hW => ⟨⟨(-3), (), rfl, trivial, ct, by rw [ht]; exact hP, hD, hI⟩, hS.F ht⟩) hS.2.2 dX8_blurring_30
        · skip
          exact absurd c97 (by decide)
  · skip
    obtain ⟨rfl, h99⟩ := hr1
    have h99 : ¬ ((1 : Int) ≤ n.toInt ∧ n.toInt ≤ (8 : Int)) := h99
    refine lv_if_eq (tgt := 28) hx hb dX8_blurring_7 (by decide) (fun c100 => ?_) (fun c100 => ?_)
    · skip
      refine lv_bipush (v := (-3)) hx hb dX8_blurring_28 (by decide) ?_
      have q101 : ((-3) : Int32).toInt = -3 := by decide
      exact W.iret (v := (-3)) hx hb hr (fun t ht hW => ⟨⟨(-3), (), rfl, trivial, ct, by rw [ht]; exact hP, hD, hI⟩, hS.F ht⟩) hS.2.2 dX8_blurring_30
    · skip
      exact absurd c100 (by decide)

set_option maxHeartbeats 4000000 in
set_option maxRecDepth 100000 in
theorem k_X8_safeIfSwapped (l : Launch) (g : zG) (sz : Nat) (ad : Nat → Nat) (pe : Int32) (ct : Nat → va_E) (b : Int32) (k : Int32) (i : Int32) (j : Int32) (c0 : Int32) (hl_b : 0 ≤ b.toInt ∧ b.toInt ≤ 3) (hI : Inv8 g ad pe ct) : Met l yX8_safeIfSwapped (zW yX8_safeIfSwapped cX8_safeIfSwapped 7 (some .int)) ({ frames := 4, cells := 0, slots := 0, locals := 95 }) (va_Pc [.ref (ad 0), .int b, .int k, .int i, .int j, .int c0] (zA g (zw 126 ad ct) sz)) (va_Qi (fun (r : Int32) (_ : Unit) => (True)) (fun _ t => ∃ ct2 : Nat → va_E, zP g (zw 126 ad ct2) t.heap ∧ va_D (va_A (zw 126 ad ct) sz) (zw 126 ad ct2) ∧ Inv8 g ad pe ct2) (va_A (zw 126 ad ct) sz)) 0 0 (va_A (zw 126 ad ct) sz) := by
  refine Met.ofW (cc := cX8_safeIfSwapped) (maxL := 7) (ret := (some .int)) (by decide) rfl ?_
  intro p e s m args below meth c s₁ B hml hv
  obtain ⟨rfl, hsz, hP, hK, hD0, hN⟩ := hv
  have hx := B.exec
  have hb := B.bytes
  have hr := B.returns
  have hg := zW.law (atoms_spec (ws := (zW yX8_safeIfSwapped cX8_safeIfSwapped 7 (some .int))) B.pre)
  have hown : s.vm.findClass RX8 = some m.cls := findClass_of_methodNamed B.named
  have hlocks := B.notSynchronized
  have hpe0 := hI.1
  subst hsz
  have hD := hD0.self (sz := s.heap.size)
  generalize hAe : va_A (zw 126 ad ct) s.heap.size = A at hD ⊢
  have hA : ∀ q : Nat, s.heap.size ≤ q → A q := fun q h => by rw [← hAe]; exact Or.inr h
  have hS : va_S A s.heap s.heap [] := va_S.rf
  have hl := lv_entry ([.ref (ad 0), .int b, .int k, .int i, .int j, .int c0]) (n := 7) (Nat.le_of_ble_eq_true rfl)
  rw [lg_entry_eq]
  generalize (lg_sl ([.ref (ad 0), .int b, .int k, .int i, .int j, .int c0]) ++ List.replicate (7 - (lg_sl ([.ref (ad 0), .int b, .int k, .int i, .int j, .int c0])).length) Slot.unset).toArray = ls at hl ⊢
  have hl : lv_has ls 7 [(0, .ref (ad 0)), (1, .int b), (2, .int k), (3, .int i), (4, .int j), (5, .int c0)] := hl
  have rg_k := z_rng k
  have rg_i := z_rng i
  have rg_j := z_rng j
  have rg_c0 := z_rng c0
  refine lv_aload_n hx hb dX8_safeIfSwapped_0 rfl (lv_at hl 0 rfl) ?_
  refine lv_iload_n hx hb dX8_safeIfSwapped_1 rfl (lv_at hl 1 rfl) ?_
  refine lv_iload_n hx hb dX8_safeIfSwapped_2 rfl (lv_at hl 3 rfl) ?_
  refine lv_iload hx hb dX8_safeIfSwapped_3 (lv_at hl 4 rfl) ?_
  refine lv_iload hx hb dX8_safeIfSwapped_5 (lv_at hl 5 rfl) ?_
  obtain ⟨bk3, dr2, h4, h5, h6, hs1⟩ := a8_0 hI
  have hFc := zw_free hD hS hA
  refine va_calli (va_runV (As := [.int b, .int i, .int j, .int c0]) (rest := []) ⟨hx, hb, hml, hown, hg⟩ (k_X8_swap l g _ ad pe ct b i j c0 hI) (cwV 4 hg (z_gV mm_913 mm_596 mm_597 mm_108 mm_598) rfl rfl rfl (by decide +kernel) ⟨Nat.le_of_ble_eq_true rfl, Nat.le_of_ble_eq_true rfl⟩) ⟨(zA.pre [.ref (ad 0), .int b, .int i, .int j, .int c0] hP hK hD hN).1, va_recv hK hP (ci := 8) (q0 := 0) rfl (zw_at (by omega) hs1), (zA.pre [.ref (ad 0), .int b, .int i, .int j, .int c0] hP hK hD hN).2⟩ rfl rfl hl.1 rfl (lv_room (Nat.le_of_ble_eq_true rfl)) dX8_safeIfSwapped_7 ⟨Nat.le_of_ble_eq_true rfl, Nat.le_of_ble_eq_true rfl⟩) hS (fun q _ h => hFc q h) hFc (fun r7 _ t H1 locs ht hvm hr7 hB hz1 hk1 hS => ?_)
  obtain ⟨ct8, hP1, hD1, hI⟩ := hB
  rw [ht] at hP1
  have hD := hD1.weaken (fun _ _ _ h => hFc _ h)
  generalize H1 = H at hP1 hS ⊢
  have hP := hP1
  refine W.widen (k := 0) (n := 0) (Nat.le_refl _) (Nat.le_refl _) ?_
  rcases hr7 with hr7 | hr7
  · skip
    obtain rfl := hr7
    refine lv_if_ne (tgt := 15) hx hb dX8_safeIfSwapped_10 (by decide) (fun c9 => ?_) (fun c9 => ?_)
    · skip
      refine lv_aload_n hx hb dX8_safeIfSwapped_15 rfl (lv_at hl 0 rfl) ?_
      refine lv_iload_n hx hb dX8_safeIfSwapped_16 rfl (lv_at hl 1 rfl) ?_
      refine lv_iconst (v := 0) hx hb dX8_safeIfSwapped_17 (by decide) ?_
      obtain ⟨bk12, dr11, h13, h14, h15, hs10⟩ := a8_0 hI
      have hFc := zw_free hD hS hA
      refine va_callv (va_runV (As := [.int b, .int 0]) (rest := []) ⟨hx, hb, hml, hown, hg⟩ (k_X8_fitLaid l g _ ad pe ct8 b (0 : Int32) (by first | omega | decide) hI) (cwV 2 hg (z_gV mm_675 mm_677 mm_25 mm_108 mm_678) rfl rfl rfl (by decide +kernel) ⟨Nat.le_of_ble_eq_true rfl, Nat.le_of_ble_eq_true rfl⟩) ⟨(zA.pre [.ref (ad 0), .int b, .int 0] hP hK hD hN).1, va_recv hK hP (ci := 8) (q0 := 0) rfl (zw_at (by omega) hs10), (zA.pre [.ref (ad 0), .int b, .int 0] hP hK hD hN).2⟩ rfl rfl hl.1 rfl (lv_room (Nat.le_of_ble_eq_true rfl)) dX8_safeIfSwapped_18 ⟨Nat.le_of_ble_eq_true rfl, Nat.le_of_ble_eq_true rfl⟩) hS (fun q _ h => hFc q h) hFc (fun _ t H1 locs ht hvm hr16 hB hz1 hk1 hS => ?_)
      obtain ⟨ct17, hP1, hD1, hI⟩ := hB
      rw [ht] at hP1
      have hD := hD1.weaken (fun _ _ _ h => hFc _ h)
      generalize H1 = H at hP1 hS ⊢
      have hP := hP1
      refine W.widen (k := 0) (n := 0) (Nat.le_refl _) (Nat.le_refl _) ?_
      refine lv_aload_n hx hb dX8_safeIfSwapped_21 rfl (lv_at hl 0 rfl) ?_
      refine lv_iload_n hx hb dX8_safeIfSwapped_22 rfl (lv_at hl 1 rfl) ?_
      refine lv_iload_n hx hb dX8_safeIfSwapped_23 rfl (lv_at hl 2 rfl) ?_
      obtain ⟨bk20, dr19, h21, h22, h23, hs18⟩ := a8_0 hI
      have hFc := zw_free hD hS hA
      refine va_calli (va_runV (As := [.int b, .int k]) (rest := []) ⟨hx, hb, hml, hown, hg⟩ (k_X8_safeLines l g _ ad pe ct17 b k (by first | omega | decide) hI) (cwV 2 hg (z_gV mm_775 mm_777 mm_31 mm_108 mm_778) rfl rfl rfl (by decide +kernel) ⟨Nat.le_of_ble_eq_true rfl, Nat.le_of_ble_eq_true rfl⟩) ⟨(zA.pre [.ref (ad 0), .int b, .int k] hP hK hD hN).1, va_recv hK hP (ci := 8) (q0 := 0) rfl (zw_at (by omega) hs18), (zA.pre [.ref (ad 0), .int b, .int k] hP hK hD hN).2⟩ rfl rfl hl.1 rfl (lv_room (Nat.le_of_ble_eq_true rfl)) dX8_safeIfSwapped_24 ⟨Nat.le_of_ble_eq_true rfl, Nat.le_of_ble_eq_true rfl⟩) hS (fun q _ h => hFc q h) hFc (fun r24 _ t H1 locs ht hvm hr24 hB hz1 hk1 hS => ?_)
      obtain ⟨ct25, hP1, hD1, hI⟩ := hB
      rw [ht] at hP1
      have hD := hD1.weaken (fun _ _ _ h => hFc _ h)
      generalize H1 = H at hP1 hS ⊢
      have hP := hP1
      refine W.widen (k := 0) (n := 0) (Nat.le_refl _) (Nat.le_refl _) ?_
      refine zc_i (va_runS (As := [.int r24]) (rest := []) ⟨hx, hb, hml, hown, hg⟩ (k_J6_bitCount_0f7a4 l g ad pe ct25 r24 hI) (va_cwS 1 hg (z_gS mm_734 mm_729 mm_119 mm_730) rfl rfl rfl (by decide +kernel) ⟨Nat.le_of_ble_eq_true rfl, Nat.le_of_ble_eq_true rfl⟩) (zR.pre [.int r24] hP hK hN) rfl rfl hl.1 rfl (lv_room (Nat.le_of_ble_eq_true rfl)) dX8_safeIfSwapped_27 ⟨Nat.le_of_ble_eq_true rfl, Nat.le_of_ble_eq_true rfl⟩) (fun r26 hr26 => ?_)
      obtain ⟨hr26_0, hr26_1⟩ := hr26
      have hr26_0 : 0 ≤ r26.toInt := hr26_0
      have hr26_1 : r26.toInt ≤ 63 := hr26_1
      refine lv_istore (lv' := [(6, .int r26), (0, .ref (ad 0)), (1, .int b), (2, .int k), (3, .int i), (4, .int j), (5, .int c0)]) hx hb dX8_safeIfSwapped_30 hl (by decide) rfl (fun ls hl => ?_)
      refine lv_aload_n hx hb dX8_safeIfSwapped_32 rfl (lv_at hl 1 rfl) ?_
      obtain ⟨bk29, dr28, h30, h31, h32, hs27⟩ := a8_0 hI
      refine va_get (D := g.1) (ci := 8) (v := .ref (ad 5)) (C := RX8) (T := TX8) (N := 13) hx hb hg inG8 hown hK hP 0 (zw_at (by omega) hs27) rfl 3 (by decide) (hg _ mm_363) (fun _ h9 => h9) rfl dX8_safeIfSwapped_33 ?_
      refine lv_iload_n hx hb dX8_safeIfSwapped_36 rfl (lv_at hl 2 rfl) ?_
      have hs33 := a8_5 hI
      refine va_aldq hx hb hK hP 5 5 (zw_at (by omega) hs33) rfl (z_in rfl (by omega) (by omega)) dX8_safeIfSwapped_37 ?_
      rw [zF5_at (x := b) (by omega) (by omega)]
      refine lv_iload_n hx hb dX8_safeIfSwapped_38 rfl (lv_at hl 4 rfl) ?_
      refine lv_iload hx hb dX8_safeIfSwapped_39 (lv_at hl 5 rfl) ?_
      refine lv_iload hx hb dX8_safeIfSwapped_41 (lv_at hl 6 rfl) ?_
      obtain ⟨lns35, liv36, shw37, h38, h39, h40, h41, hz42, hs34⟩ := a8_40 (kc := (0 + 55 + 11 * b.toInt.toNat)) (by omega) hI
      have bhz42 := z_b01 hz42
      have hFc := zw_free hD hS hA
      refine va_callv (va_runV (As := [.int i, .int j, .int c0]) (rest := []) ⟨hx, hb, hml, hown, hg⟩ (k_X2_exchange l g _ ad pe ct25 (0 + 55 + 11 * b.toInt.toNat) i j c0 (by omega) hI) (cwV 3 hg (z_gV mm_603 mm_604 mm_605 mm_116 mm_606) rfl rfl rfl (by decide +kernel) ⟨Nat.le_of_ble_eq_true rfl, Nat.le_of_ble_eq_true rfl⟩) ⟨(zA.pre [.ref (ad (0 + 55 + 11 * b.toInt.toNat)), .int i, .int j, .int c0] hP hK hD hN).1, va_recv hK hP (ci := 2) (q0 := (0 + 55 + 11 * b.toInt.toNat)) rfl (zw_at (by omega) hs34), (zA.pre [.ref (ad (0 + 55 + 11 * b.toInt.toNat)), .int i, .int j, .int c0] hP hK hD hN).2⟩ rfl rfl hl.1 rfl (lv_room (Nat.le_of_ble_eq_true rfl)) dX8_safeIfSwapped_43 ⟨Nat.le_of_ble_eq_true rfl, Nat.le_of_ble_eq_true rfl⟩) hS (fun q _ h => hFc q h) hFc (fun _ t H1 locs ht hvm hr43 hB hz1 hk1 hS => ?_)
      obtain ⟨ct44, hP1, hD1, hI⟩ := hB
      rw [ht] at hP1
      have hD := hD1.weaken (fun _ _ _ h => hFc _ h)
      generalize H1 = H at hP1 hS ⊢
      have hP := hP1
      refine W.widen (k := 0) (n := 0) (Nat.le_refl _) (Nat.le_refl _) ?_
      refine lv_iload hx hb dX8_safeIfSwapped_46 (lv_at hl 0 rfl) ?_
      exact W.iret (v := r26) hx hb hr (fun t ht hW => ⟨⟨r26, (), rfl, trivial, ct44, by rw [ht]; exact hP, hD, hI⟩, hS.F ht⟩) hS.2.2 dX8_safeIfSwapped_48
    · skip
      exact absurd c9 (by decide)
  · skip
    obtain rfl := hr7
    refine lv_if_ne (tgt := 15) hx hb dX8_safeIfSwapped_10 (by decide) (fun c45 => ?_) (fun c45 => ?_)
    · skip
      exact absurd c45 (by decide)
    · skip
      refine lv_iconst (v := (-1)) hx hb dX8_safeIfSwapped_13 (by decide) ?_
      have q46 : ((-1) : Int32).toInt = -1 := by decide
      exact W.iret (v := (-1)) hx hb hr (fun t ht hW => ⟨⟨(-1), (), rfl, trivial, ct8, by rw [ht]; exact hP, hD, hI⟩, hS.F ht⟩) hS.2.2 dX8_safeIfSwapped_14
