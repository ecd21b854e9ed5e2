set_option maxHeartbeats 4000000 in
set_option maxRecDepth 100000 in
theorem k_X4_factor_6 (l : Launch) (g : zG) (sz : Nat) (ad : Nat → Nat) (pe : Int32) (ct : Nat → va_E) (kg : Nat) (ask : Int32) (hf_kg : 99 ≤ kg ∧ kg < 126 ∧ (kg - 99) % 3 = 0) (hI : Inv8 g ad pe ct) : Met l yX4_factor (zW yX4_factor cX4_factor 5 (some .int)) ({ frames := 2, cells := 0, slots := 0, locals := 43 }) (va_Pc [.ref (ad kg), .int 6, .int ask] (zA g (zw 126 ad ct) sz)) (va_Qi (fun (r : Int32) (_ : Unit) => (True)) (fun _ t => ∃ ct2 : Nat → va_E, zP g (zw 126 ad ct2) t.heap ∧ va_D (va_A (zw 126 ad ct) sz) (zw 126 ad ct2) ∧ Inv8 g ad pe ct2) (va_A (zw 126 ad ct) sz)) 0 0 (va_A (zw 126 ad ct) sz) := by
  refine Met.ofW (cc := cX4_factor) (maxL := 5) (ret := (some .int)) (by decide) rfl ?_
  intro p e s m args below meth c s₁ B hml hv
  obtain ⟨rfl, hsz, hP, hK, hD0, hN⟩ := hv
  have hx := B.exec
  have hb := B.bytes
  have hr := B.returns
  have hg := zW.law (atoms_spec (ws := (zW yX4_factor cX4_factor 5 (some .int))) B.pre)
  have hown : s.vm.findClass RX4 = some m.cls := findClass_of_methodNamed B.named
  have hlocks := B.notSynchronized
  have hpe0 := hI.1
  subst hsz
  have hD := hD0.self (sz := s.heap.size)
  generalize hAe : va_A (zw 126 ad ct) s.heap.size = A at hD ⊢
  have hA : ∀ q : Nat, s.heap.size ≤ q → A q := fun q h => by rw [← hAe]; exact Or.inr h
  have hS : va_S A s.heap s.heap [] := va_S.rf
  have hl := lv_entry ([.ref (ad kg), .int 6, .int ask]) (n := 5) (Nat.le_of_ble_eq_true rfl)
  rw [lg_entry_eq]
  generalize (lg_sl ([.ref (ad kg), .int 6, .int ask]) ++ List.replicate (5 - (lg_sl ([.ref (ad kg), .int 6, .int ask])).length) Slot.unset).toArray = ls at hl ⊢
  have hl : lv_has ls 5 [(0, .ref (ad kg)), (1, .int 6), (2, .int ask)] := hl
  have rg_ask := z_rng ask
  refine lv_aload_n hx hb dX4_factor_0 rfl (lv_at hl 0 rfl) ?_
  obtain ⟨tld2, ofb3, hol4, flt5, fla6, ofl7, len8, atx9, ref10, hz11, h12, h13, h14, h15, hz16, hs1⟩ := a8_44 (kc := kg) (by omega) hI
  have bhz11 := z_b01 hz11
  have bhz16 := z_b01 hz16
  refine zc_i (va_runV (As := []) (rest := []) ⟨hx, hb, hml, hown, hg⟩ (k_X4_nextp l g ad pe ct kg tld2 ofb3 hol4 flt5 fla6 ofl7 len8 atx9 ref10 (by omega) hI hs1) (cwV 0 hg (z_gV mm_475 mm_477 mm_8 mm_114 mm_478) rfl rfl rfl (by decide +kernel) ⟨Nat.le_of_ble_eq_true rfl, Nat.le_of_ble_eq_true rfl⟩) ⟨(zR.pre [.ref (ad kg)] hP hK hN).1, va_recv hK hP (ci := 4) (q0 := kg) rfl (zw_at (by omega) hs1), (zR.pre [.ref (ad kg)] hP hK hN).2⟩ rfl rfl hl.1 rfl (lv_room (Nat.le_of_ble_eq_true rfl)) dX4_factor_1 ⟨Nat.le_of_ble_eq_true rfl, Nat.le_of_ble_eq_true rfl⟩) (fun r17 hr17 => ?_)
  have h18 := hr17
  have h18 : nxp r17 atx9 := h18
  refine lv_istore_n (lv' := [(3, .int r17), (0, .ref (ad kg)), (1, .int 6), (2, .int ask)]) hx hb dX4_factor_4 rfl hl (by decide) rfl (fun ls hl => ?_)
  refine lv_iload_n hx hb dX4_factor_5 rfl (lv_at hl 0 rfl) ?_
  refine lv_bipush (v := 91) hx hb dX4_factor_6 (by decide) ?_
  refine lv_icmp_ne (tgt := 42) hx hb dX4_factor_8 (by decide) (fun c19 => ?_) (fun c19 => ?_)
  · skip
    have c19 : ¬ (r17.toInt = 91) := fun q => c19 ((z_eq rfl (by decide : (91 : Int32).toInt = 91)).mpr q)
    refine lv_iload_n hx hb dX4_factor_42 rfl (lv_at hl 0 rfl) ?_
    refine zc_i (va_runS (As := [.int r17]) (rest := []) ⟨hx, hb, hml, hown, hg⟩ (k_X4_isDigit l g ad pe ct r17 hI) (va_cwS 1 hg (z_gS mm_503 mm_504 mm_114 mm_505) rfl rfl rfl (by decide +kernel) ⟨Nat.le_of_ble_eq_true rfl, Nat.le_of_ble_eq_true rfl⟩) (zR.pre [.int r17] hP hK hN) rfl rfl hl.1 rfl (lv_room (Nat.le_of_ble_eq_true rfl)) dX4_factor_43 ⟨Nat.le_of_ble_eq_true rfl, Nat.le_of_ble_eq_true rfl⟩) (fun r20 hr20 => ?_)
    rcases hr20 with hr20 | hr20
    · skip
      obtain ⟨rfl, h21, h22⟩ := hr20
      have h21 : 48 ≤ r17.toInt := h21
      have h22 : r17.toInt ≤ 57 := h22
      refine lv_if_eq (tgt := 54) hx hb dX4_factor_46 (by decide) (fun c23 => ?_) (fun c23 => ?_)
      · skip
        exact absurd c23 (by decide)
      · skip
        refine lv_aload_n hx hb dX4_factor_49 rfl (lv_at hl 1 rfl) ?_
        have hFc := zw_free hD hS hA
        refine va_calli (va_runV (As := []) (rest := []) ⟨hx, hb, hml, hown, hg⟩ (k_X4_numeral l g _ ad pe ct kg (by omega) hI) (cwV 0 hg (z_gV mm_506 mm_508 mm_15 mm_114 mm_509) rfl rfl rfl (by decide +kernel) ⟨Nat.le_of_ble_eq_true rfl, Nat.le_of_ble_eq_true rfl⟩) ⟨(zA.pre [.ref (ad kg)] hP hK hD hN).1, va_recv hK hP (ci := 4) (q0 := kg) rfl (zw_at (by omega) hs1), (zA.pre [.ref (ad kg)] hP hK hD hN).2⟩ rfl rfl hl.1 rfl (lv_room (Nat.le_of_ble_eq_true rfl)) dX4_factor_50 ⟨Nat.le_of_ble_eq_true rfl, Nat.le_of_ble_eq_true rfl⟩) hS (fun q _ h => hFc q h) hFc (fun r24 _ t H1 locs ht hvm hr24 hB hz1 hk1 hS => ?_)
        obtain ⟨ct25, hP1, hD1, hI⟩ := hB
        rw [ht] at hP1
        have hD := hD1.weaken (fun _ _ _ h => hFc _ h)
        generalize H1 = H at hP1 hS ⊢
        have hP := hP1
        refine W.widen (k := 0) (n := 0) (Nat.le_refl _) (Nat.le_refl _) ?_
        exact W.iret (v := r24) hx hb hr (fun t ht hW => ⟨⟨r24, (), rfl, trivial, ct25, by rw [ht]; exact hP, hD, hI⟩, hS.F ht⟩) hS.2.2 dX4_factor_53
    · skip
      obtain ⟨rfl, h26⟩ := hr20
      have h26 : ¬ (48 ≤ r17.toInt ∧ r17.toInt ≤ 57) := h26
      refine lv_if_eq (tgt := 54) hx hb dX4_factor_46 (by decide) (fun c27 => ?_) (fun c27 => ?_)
      · skip
        refine lv_iload_n hx hb dX4_factor_54 rfl (lv_at hl 0 rfl) ?_
        refine zc_i (va_runS (As := [.int r17]) (rest := []) ⟨hx, hb, hml, hown, hg⟩ (k_X4_letterOf l g ad pe ct r17 hI) (va_cwS 1 hg (z_gS mm_510 mm_511 mm_114 mm_512) rfl rfl rfl (by decide +kernel) ⟨Nat.le_of_ble_eq_true rfl, Nat.le_of_ble_eq_true rfl⟩) (zR.pre [.int r17] hP hK hN) rfl rfl hl.1 rfl (lv_room (Nat.le_of_ble_eq_true rfl)) dX4_factor_55 ⟨Nat.le_of_ble_eq_true rfl, Nat.le_of_ble_eq_true rfl⟩) (fun r28 hr28 => ?_)
        obtain ⟨h29, h30, h31⟩ := hr28
        have h29 : -1 ≤ r28.toInt := h29
        have h30 : r28.toInt ≤ 6 := h30
        have h31 : r28.toInt = -1 ∨ 97 ≤ r17.toInt := h31
        refine lv_istore (lv' := [(4, .int r28), (3, .int r17), (0, .ref (ad kg)), (1, .int 6), (2, .int ask)]) hx hb dX4_factor_58 hl (by decide) rfl (fun ls hl => ?_)
        refine lv_iload hx hb dX4_factor_60 (lv_at hl 0 rfl) ?_
        refine lv_if_lt (tgt := 75) hx hb dX4_factor_62 (by decide) (fun c32 => ?_) (fun c32 => ?_)
        · skip
          have c32 : r28.toInt < 0 := (z_lt rfl (by decide : (0 : Int32).toInt = 0)).mp c32
          refine lv_aload_n hx hb dX4_factor_75 rfl (lv_at hl 2 rfl) ?_
          refine lv_iconst (v := 1) hx hb dX4_factor_76 (by decide) ?_
          have hFc := zw_free hD hS hA
          refine va_callv (va_runV (As := [.int 1]) (rest := []) ⟨hx, hb, hml, hown, hg⟩ (k_X4_fail l g _ ad pe ct kg (1 : Int32) (by omega) hI) (cwV 1 hg (z_gV mm_483 mm_485 mm_10 mm_114 mm_486) rfl rfl rfl (by decide +kernel) ⟨Nat.le_of_ble_eq_true rfl, Nat.le_of_ble_eq_true rfl⟩) ⟨(zA.pre [.ref (ad kg), .int 1] hP hK hD hN).1, va_recv hK hP (ci := 4) (q0 := kg) rfl (zw_at (by omega) hs1), (zA.pre [.ref (ad kg), .int 1] hP hK hD hN).2⟩ rfl rfl hl.1 rfl (lv_room (Nat.le_of_ble_eq_true rfl)) dX4_factor_77 ⟨Nat.le_of_ble_eq_true rfl, Nat.le_of_ble_eq_true rfl⟩) hS (fun q _ h => hFc q h) hFc (fun _ t H1 locs ht hvm hr33 hB hz1 hk1 hS => ?_)
          obtain ⟨ct34, hP1, hD1, hI⟩ := hB
          rw [ht] at hP1
          have hD := hD1.weaken (fun _ _ _ h => hFc _ h)
          generalize H1 = H at hP1 hS ⊢
          have hP := hP1
          refine W.widen (k := 0) (n := 0) (Nat.le_refl _) (Nat.le_refl _) ?_
          refine lv_iconst (v := 0) hx hb dX4_factor_80 (by decide) ?_
          have q35 : (0 : Int32).toInt = 0 := by decide
          exact W.iret (v := 0) hx hb hr (fun t ht hW => ⟨⟨0, (), rfl, trivial, ct34, by rw [ht]; exact hP, hD, hI⟩, hS.F ht⟩) hS.2.2 dX4_factor_81
        · skip
          have c32 : ¬ (r28.toInt < 0) := fun q => c32 ((z_lt rfl (by decide : (0 : Int32).toInt = 0)).mpr q)
          refine lv_iload hx hb dX4_factor_65 (lv_at hl 0 rfl) ?_
          refine lv_aload_n hx hb dX4_factor_67 rfl (lv_at hl 2 rfl) ?_
          refine va_get (D := g.1) (ci := 4) (v := .ref (ad (kg + 1))) (C := RX4) (T := TX4) (N := 11) hx hb hg inG4 hown hK hP kg (zw_at (by omega) hs1) rfl 6 (by decide) (hg _ mm_282) (fun _ h9 => h9) rfl dX4_factor_68 ?_
          obtain ⟨f37, hs36⟩ := a8_45 (kc := kg) (by omega) hI
          refine va_alen hx hb hK hP (kg + 1) 0 (zw_at (by omega) hs36) (ty := .int) rfl (v := 7) (show Int32.ofNat 7 = (7 : Int32) from by decide) dX4_factor_71 ?_
          refine lv_icmp_lt (tgt := 82) hx hb dX4_factor_72 (by decide) (fun c38 => ?_) (fun c38 => ?_)
          · skip
            have c38 : r28.toInt < 7 := (z_lt rfl (by decide : (7 : Int32).toInt = 7)).mp c38
            refine lv_aload_n hx hb dX4_factor_82 rfl (lv_at hl 2 rfl) ?_
            refine lv_dup hx hb dX4_factor_83 rfl ?_
            refine va_get (D := g.1) (ci := 4) (v := .int atx9) (C := RX4) (T := TX4) (N := 11) hx hb hg inG4 hown hK hP kg (zw_at (by omega) hs1) rfl 9 (by decide) (hg _ mm_285) (fun _ h9 => h9) rfl dX4_factor_84 ?_
            refine lv_iconst (v := 1) hx hb dX4_factor_87 (by decide) ?_
            refine lv_iadd hx hb dX4_factor_88 ?_
            refine lv_topi (fun x39 ex39 => ?_)
            have tx39 : x39.toInt = atx9.toInt + 1 := by rw [ex39]; exact z_add rfl (by decide : (1 : Int32).toInt = 1) (by omega) (by omega)
            have hat39 : atx9.toInt ≤ 99 := by first | exact nxp_use h18 (by omega)
            refine va_put (D := g.1) (ci := 4) (v := .int x39) (ty := .int) (C := RX4) (T := TX4) (N := 11) hx hb hg inG4 tyX4 tyX4_ok nmX4 hown hK hP hD hS kg (zw_at (by omega) hs1) rfl 9 (by decide) (hg _ mm_285) (fun _ h9 => h9) rfl (by decide +kernel) rfl rfl (Nat.le_of_ble_eq_true rfl) dX4_factor_89 (fun H locs hP hD hS => ?_)
            have hP : zP g ((zw 126 ad ct).set kg (ad kg, .inr (4, [.int tld2, .int ofb3, .int hol4, .int flt5, .int fla6, .int ofl7, .ref (ad (kg + 1)), .ref (ad (kg + 2)), .int len8, .int x39, .int ref10]))) H := hP
            have hD : va_D A ((zw 126 ad ct).set kg (ad kg, .inr (4, [.int tld2, .int ofb3, .int hol4, .int flt5, .int fla6, .int ofl7, .ref (ad (kg + 1)), .ref (ad (kg + 2)), .int len8, .int x39, .int ref10]))) := hD
            rw [zw_set (by omega)] at hP hD
            obtain ⟨ct40, ec41⟩ : ∃ z : Nat → va_E, z = va_up ct kg (.inr (4, [.int tld2, .int ofb3, .int hol4, .int flt5, .int fla6, .int ofl7, .ref (ad (kg + 1)), .ref (ad (kg + 2)), .int len8, .int x39, .int ref10])) := ⟨_, rfl⟩
            rw [← ec41] at hP hD
            have hI : Inv8 g ad pe ct40 := by rw [ec41]; exact up8 hI (i8_44 (kc := kg) (by omega) ⟨(tld2 : Int32), (ofb3 : Int32), (hol4 : Int32), (flt5 : Int32), (fla6 : Int32), (ofl7 : Int32), (len8 : Int32), (x39 : Int32), (ref10 : Int32), hz11, (by first | omega | decide), (by first | omega | decide), (by first | omega | decide), (by first | omega | decide), hz16, rfl⟩)
            have hs42 : ct40 (kg + 1) = .inl (g.2 0, 7, .inl f37) := by rw [ec41, va_up_ne _ _ (by omega)]; exact hs36
            have hs43 : ct40 kg = .inr (4, [.int tld2, .int ofb3, .int hol4, .int flt5, .int fla6, .int ofl7, .ref (ad (kg + 1)), .ref (ad (kg + 2)), .int len8, .int x39, .int ref10]) := by rw [ec41]; exact va_up_self _ _ _
            refine lv_aload_n hx hb dX4_factor_92 rfl (lv_at hl 2 rfl) ?_
            refine va_get (D := g.1) (ci := 4) (v := .ref (ad (kg + 1))) (C := RX4) (T := TX4) (N := 11) hx hb hg inG4 hown hK hP kg (zw_at (by omega) hs43) rfl 6 (by decide) (hg _ mm_282) (fun _ h9 => h9) rfl dX4_factor_93 ?_
            refine lv_iload hx hb dX4_factor_96 (lv_at hl 0 rfl) ?_
            refine va_iald hx hb hK hP (kg + 1) 0 (zw_at (by omega) hs42) rfl (z_in rfl (by omega) (by omega)) dX4_factor_98 ?_
            refine lv_topi (fun y44 ey44 => ?_)
            exact W.iret (v := y44) hx hb hr (fun t ht hW => ⟨⟨y44, (), rfl, trivial, ct40, by rw [ht]; exact hP, hD, hI⟩, hS.F ht⟩) hS.2.2 dX4_factor_99
          · skip
            have c38 : ¬ (r28.toInt < 7) := fun q => c38 ((z_lt rfl (by decide : (7 : Int32).toInt = 7)).mpr q)
            refine lv_aload_n hx hb dX4_factor_75 rfl (lv_at hl 2 rfl) ?_
            refine lv_iconst (v := 1) hx hb dX4_factor_76 (by decide) ?_
            have hFc := zw_free hD hS hA
            refine va_callv (va_runV (As := [.int 1]) (rest := []) ⟨hx, hb, hml, hown, hg⟩ (k_X4_fail l g _ ad pe ct kg (1 : Int32) (by omega) hI) (cwV 1 hg (z_gV mm_483 mm_485 mm_10 mm_114 mm_486) rfl rfl rfl (by decide +kernel) ⟨Nat.le_of_ble_eq_true rfl, Nat.le_of_ble_eq_true rfl⟩) ⟨(zA.pre [.ref (ad kg), .int 1] hP hK hD hN).1, va_recv hK hP (ci := 4) (q0 := kg) rfl (zw_at (by omega) hs1), (zA.pre [.ref (ad kg), .int 1] hP hK hD hN).2⟩ rfl rfl hl.1 rfl (lv_room (Nat.le_of_ble_eq_true rfl)) dX4_factor_77 ⟨Nat.le_of_ble_eq_true rfl, Nat.le_of_ble_eq_true rfl⟩) hS (fun q _ h => hFc q h) hFc (fun _ t H1 locs ht hvm hr45 hB hz1 hk1 hS => ?_)
            obtain ⟨ct46, hP1, hD1, hI⟩ := hB
            rw [ht] at hP1
            have hD := hD1.weaken (fun _ _ _ h => hFc _ h)
            generalize H1 = H at hP1 hS ⊢
            have hP := hP1
            refine W.widen (k := 0) (n := 0) (Nat.le_refl _) (Nat.le_refl _) ?_
            refine lv_iconst (v := 0) hx hb dX4_factor_80 (by decide) ?_
            have q47 : (0 : Int32).toInt = 0 := by decide
            exact W.iret (v := 0) hx hb hr (fun t ht hW => ⟨⟨0, (), rfl, trivial, ct46, by rw [ht]; exact hP, hD, hI⟩, hS.F ht⟩) hS.2.2 dX4_factor_81
      · skip
        exact absurd c27 (by decide)
  · skip
    have c19 : r17.toInt = 91 := (z_eq rfl (by decide : (91 : Int32).toInt = 91)).mp c19
    refine lv_aload_n hx hb dX4_factor_11 rfl (lv_at hl 1 rfl) ?_
    refine lv_iload_n hx hb dX4_factor_12 rfl (lv_at hl 2 rfl) ?_
    have hFc := zw_free hD hS hA
    refine va_calli (va_runV (As := [.int 6]) (rest := []) ⟨hx, hb, hml, hown, hg⟩ (k_X4_opens l g _ ad pe ct kg (6 : Int32) tld2 ofb3 hol4 flt5 fla6 ofl7 len8 atx9 ref10 (by omega) hI hs1 (by first | exact nxp_use h18 (by omega) | omega)) (cwV 1 hg (z_gV mm_479 mm_481 mm_9 mm_114 mm_482) rfl rfl rfl (by decide +kernel) ⟨Nat.le_of_ble_eq_true rfl, Nat.le_of_ble_eq_true rfl⟩) ⟨(zA.pre [.ref (ad kg), .int 6] hP hK hD hN).1, va_recv hK hP (ci := 4) (q0 := kg) rfl (zw_at (by omega) hs1), (zA.pre [.ref (ad kg), .int 6] hP hK hD hN).2⟩ rfl rfl hl.1 rfl (lv_room (Nat.le_of_ble_eq_true rfl)) dX4_factor_13 ⟨Nat.le_of_ble_eq_true rfl, Nat.le_of_ble_eq_true rfl⟩) hS (fun q _ h => hFc q h) hFc (fun r48 _ t H1 locs ht hvm hr48 hB hz1 hk1 hS => ?_)
    obtain ⟨ct49, hP1, hD1, hI⟩ := hB
    rw [ht] at hP1
    have hD := hD1.weaken (fun _ _ _ h => hFc _ h)
    generalize H1 = H at hP1 hS ⊢
    have hP := hP1
    refine W.widen (k := 0) (n := 0) (Nat.le_refl _) (Nat.le_refl _) ?_
    rcases hr48 with hr48 | hr48
    · skip
      obtain ⟨rfl, h50⟩ := hr48
      have h50 : (6 : Int) < 6 := h50
      exfalso
      omega
    · skip
      obtain rfl := hr48
      refine lv_if_eq (tgt := 30) hx hb dX4_factor_16 (by decide) (fun c51 => ?_) (fun c51 => ?_)
      · skip
        refine lv_iconst (v := 0) hx hb dX4_factor_30 (by decide) ?_
        refine lv_istore (lv' := [(4, .int 0), (3, .int r17), (0, .ref (ad kg)), (1, .int 6), (2, .int ask)]) hx hb dX4_factor_31 hl (by decide) rfl (fun ls hl => ?_)
        refine lv_aload_n hx hb dX4_factor_33 rfl (lv_at hl 2 rfl) ?_
        refine lv_bipush (v := 93) hx hb dX4_factor_34 (by decide) ?_
        obtain ⟨tld53, ofb54, hol55, flt56, fla57, ofl58, len59, atx60, ref61, hz62, h63, h64, h65, h66, hz67, hs52⟩ := a8_44 (kc := kg) (by omega) hI
        have bhz62 := z_b01 hz62
        have bhz67 := z_b01 hz67
        have hFc := zw_free hD hS hA
        refine va_callv (va_runV (As := [.int 93]) (rest := []) ⟨hx, hb, hml, hown, hg⟩ (k_X4_expect l g _ ad pe ct49 kg (93 : Int32) (by omega) (by first | omega | decide) hI) (cwV 1 hg (z_gV mm_487 mm_489 mm_11 mm_114 mm_490) rfl rfl rfl (by decide +kernel) ⟨Nat.le_of_ble_eq_true rfl, Nat.le_of_ble_eq_true rfl⟩) ⟨(zA.pre [.ref (ad kg), .int 93] hP hK hD hN).1, va_recv hK hP (ci := 4) (q0 := kg) rfl (zw_at (by omega) hs52), (zA.pre [.ref (ad kg), .int 93] hP hK hD hN).2⟩ rfl rfl hl.1 rfl (lv_room (Nat.le_of_ble_eq_true rfl)) dX4_factor_36 ⟨Nat.le_of_ble_eq_true rfl, Nat.le_of_ble_eq_true rfl⟩) hS (fun q _ h => hFc q h) hFc (fun _ t H1 locs ht hvm hr68 hB hz1 hk1 hS => ?_)
        obtain ⟨ct69, hP1, hD1, hI⟩ := hB
        rw [ht] at hP1
        have hD := hD1.weaken (fun _ _ _ h => hFc _ h)
        generalize H1 = H at hP1 hS ⊢
        have hP := hP1
        refine W.widen (k := 0) (n := 0) (Nat.le_refl _) (Nat.le_refl _) ?_
        refine lv_iload hx hb dX4_factor_39 (lv_at hl 0 rfl) ?_
        have q70 : (0 : Int32).toInt = 0 := by decide
        exact W.iret (v := 0) hx hb hr (fun t ht hW => ⟨⟨0, (), rfl, trivial, ct69, by rw [ht]; exact hP, hD, hI⟩, hS.F ht⟩) hS.2.2 dX4_factor_41
      · skip
        exact absurd c51 (by decide)
