set_option maxHeartbeats 4000000 in
set_option maxRecDepth 100000 in
theorem k_X4_factor_2 (l : Launch) (g : zG) (sz : Nat) (ad : Nat → Nat) (pe : Int32) (ct : Nat → va_E) (kg : Nat) (ask : Int32) (hf_kg : 99 ≤ kg ∧ kg < 126 ∧ (kg - 99) % 3 = 0) (hI : Inv8 g ad pe ct) : Met l yX4_factor (zW yX4_factor cX4_factor 5 (some .int)) ({ frames := 14, cells := 0, slots := 0, locals := 347 }) (va_Pc [.ref (ad kg), .int 2, .int ask] (zA g (zw 126 ad ct) sz)) (va_Qi (fun (r : Int32) (_ : Unit) => (True)) (fun _ t => ∃ ct2 : Nat → va_E, zP g (zw 126 ad ct2) t.heap ∧ va_D (va_A (zw 126 ad ct) sz) (zw 126 ad ct2) ∧ Inv8 g ad pe ct2) (va_A (zw 126 ad ct) sz)) 0 0 (va_A (zw 126 ad ct) sz) := by
  refine Met.ofW (cc := cX4_factor) (maxL := 5) (ret := (some .int)) (by decide) rfl ?_
  intro p e s m args below meth c s₁ B hml hv
  obtain ⟨rfl, hsz, hP, hK, hD0, hN⟩ := hv
  have hx := B.exec
  have hb := B.bytes
  have hr := B.returns
  have hg := zW.law (atoms_spec (ws := (zW yX4_factor cX4_factor 5 (some .int))) B.pre)
  have hown : s.vm.findClass RX4 = some m.cls := findClass_of_methodNamed B.named
  have hlocks := B.notSynchronized
  have hpe0 := hI.1
  subst hsz
  have hD := hD0.self (sz := s.heap.size)
  generalize hAe : va_A (zw 126 ad ct) s.heap.size = A at hD ⊢
  have hA : ∀ q : Nat, s.heap.size ≤ q → A q := fun q h => by rw [← hAe]; exact Or.inr h
  have hS : va_S A s.heap s.heap [] := va_S.rf
  have hl := lv_entry ([.ref (ad kg), .int 2, .int ask]) (n := 5) (Nat.le_of_ble_eq_true rfl)
  rw [lg_entry_eq]
  generalize (lg_sl ([.ref (ad kg), .int 2, .int ask]) ++ List.replicate (5 - (lg_sl ([.ref (ad kg), .int 2, .int ask])).length) Slot.unset).toArray = ls at hl ⊢
  have hl : lv_has ls 5 [(0, .ref (ad kg)), (1, .int 2), (2, .int ask)] := hl
  have rg_ask := z_rng ask
  refine lv_aload_n hx hb dX4_factor_0 rfl (lv_at hl 0 rfl) ?_
  obtain ⟨tld2, ofb3, hol4, flt5, fla6, ofl7, len8, atx9, ref10, hz11, h12, h13, h14, h15, hz16, hs1⟩ := a8_44 (kc := kg) (by omega) hI
  have bhz11 := z_b01 hz11
  have bhz16 := z_b01 hz16
  refine zc_i (va_runV (As := []) (rest := []) ⟨hx, hb, hml, hown, hg⟩ (k_X4_next l g ad pe ct kg tld2 ofb3 hol4 flt5 fla6 ofl7 len8 atx9 ref10 (by omega) hI hs1) (cwV 0 hg (z_gV mm_475 mm_477 mm_8 mm_114 mm_478) rfl rfl rfl (by decide +kernel) ⟨Nat.le_of_ble_eq_true rfl, Nat.le_of_ble_eq_true rfl⟩) ⟨(zR.pre [.ref (ad kg)] hP hK hN).1, va_recv hK hP (ci := 4) (q0 := kg) rfl (zw_at (by omega) hs1), (zR.pre [.ref (ad kg)] hP hK hN).2⟩ rfl rfl hl.1 rfl (lv_room (Nat.le_of_ble_eq_true rfl)) dX4_factor_1 ⟨Nat.le_of_ble_eq_true rfl, Nat.le_of_ble_eq_true rfl⟩) (fun r17 hr17 => ?_)
  have h18 := hr17
  have h18 : r17.toInt = -1 ∨ atx9.toInt ≤ 99 := h18
  refine lv_istore_n (lv' := [(3, .int r17), (0, .ref (ad kg)), (1, .int 2), (2, .int ask)]) hx hb dX4_factor_4 rfl hl (by decide) rfl (fun ls hl => ?_)
  refine lv_iload_n hx hb dX4_factor_5 rfl (lv_at hl 0 rfl) ?_
  refine lv_bipush (v := 91) hx hb dX4_factor_6 (by decide) ?_
  refine lv_icmp_ne (tgt := 42) hx hb dX4_factor_8 (by decide) (fun c19 => ?_) (fun c19 => ?_)
  · skip
    have c19 : ¬ (r17.toInt = 91) := fun q => c19 ((z_eq rfl (by decide : (91 : Int32).toInt = 91)).mpr q)
    refine lv_iload_n hx hb dX4_factor_42 rfl (lv_at hl 0 rfl) ?_
    refine zc_i (va_runS (As := [.int r17]) (rest := []) ⟨hx, hb, hml, hown, hg⟩ (k_X4_isDigit l g ad pe ct r17 hI) (va_cwS 1 hg (z_gS mm_503 mm_504 mm_114 mm_505) rfl rfl rfl (by decide +kernel) ⟨Nat.le_of_ble_eq_true rfl, Nat.le_of_ble_eq_true rfl⟩) (zR.pre [.int r17] hP hK hN) rfl rfl hl.1 rfl (lv_room (Nat.le_of_ble_eq_true rfl)) dX4_factor_43 ⟨Nat.le_of_ble_eq_true rfl, Nat.le_of_ble_eq_true rfl⟩) (fun r20 hr20 => ?_)
    rcases hr20 with hr20 | hr20
    · skip
      obtain ⟨rfl, h21, h22⟩ := hr20
      have h21 : 48 ≤ r17.toInt := h21
      have h22 : r17.toInt ≤ 57 := h22
      refine lv_if_eq (tgt := 54) hx hb dX4_factor_46 (by decide) (fun c23 => ?_) (fun c23 => ?_)
      · skip
        exact absurd c23 (by decide)
      · skip
        refine lv_aload_n hx hb dX4_factor_49 rfl (lv_at hl 1 rfl) ?_
        have hFc := zw_free hD hS hA
        refine va_calli (va_runV (As := []) (rest := []) ⟨hx, hb, hml, hown, hg⟩ (k_X4_numeral l g _ ad pe ct kg (by omega) hI) (cwV 0 hg (z_gV mm_506 mm_508 mm_15 mm_114 mm_509) rfl rfl rfl (by decide +kernel) ⟨Nat.le_of_ble_eq_true rfl, Nat.le_of_ble_eq_true rfl⟩) ⟨(zA.pre [.ref (ad kg)] hP hK hD hN).1, va_recv hK hP (ci := 4) (q0 := kg) rfl (zw_at (by omega) hs1), (zA.pre [.ref (ad kg)] hP hK hD hN).2⟩ rfl rfl hl.1 rfl (lv_room (Nat.le_of_ble_eq_true rfl)) dX4_factor_50 ⟨Nat.le_of_ble_eq_true rfl, Nat.le_of_ble_eq_true rfl⟩) hS (fun q _ h => hFc q h) hFc (fun r24 _ t H1 locs ht hvm hr24 hB hz1 hk1 hS => ?_)
        obtain ⟨ct25, hP1, hD1, hI⟩ := hB
        rw [ht] at hP1
        have hD := hD1.weaken (fun _ _ _ h => hFc _ h)
        generalize H1 = H at hP1 hS ⊢
        have hP := hP1
        refine W.widen (k := 0) (n := 0) (Nat.le_refl _) (Nat.le_refl _) ?_
        exact W.iret (v := r24) hx hb hr (fun t ht hW => ⟨⟨r24, (), rfl, trivial, ct25, by rw [ht]; exact hP, hD, hI⟩, hS.F ht⟩) hS.2.2 dX4_factor_53
    · skip
      obtain ⟨rfl, h26⟩ := hr20
      have h26 : ¬ (48 ≤ r17.toInt ∧ r17.toInt ≤ 57) := h26
      refine lv_if_eq (tgt := 54) hx hb dX4_factor_46 (by decide) (fun c27 => ?_) (fun c27 => ?_)
      · skip
        refine lv_iload_n hx hb dX4_factor_54 rfl (lv_at hl 0 rfl) ?_
        refine zc_i (va_runS (As := [.int r17]) (rest := []) ⟨hx, hb, hml, hown, hg⟩ (k_X4_letterOf l g ad pe ct r17 hI) (va_cwS 1 hg (z_gS mm_510 mm_511 mm_114 mm_512) rfl rfl rfl (by decide +kernel) ⟨Nat.le_of_ble_eq_true rfl, Nat.le_of_ble_eq_true rfl⟩) (zR.pre [.int r17] hP hK hN) rfl rfl hl.1 rfl (lv_room (Nat.le_of_ble_eq_true rfl)) dX4_factor_55 ⟨Nat.le_of_ble_eq_true rfl, Nat.le_of_ble_eq_true rfl⟩) (fun r28 hr28 => ?_)
        obtain ⟨h29, h30, h31⟩ := hr28
        have h29 : -1 ≤ r28.toInt := h29
        have h30 : r28.toInt ≤ 6 := h30
        have h31 : r28.toInt = -1 ∨ 97 ≤ r17.toInt := h31
        refine lv_istore (lv' := [(4, .int r28), (3, .int r17), (0, .ref (ad kg)), (1, .int 2), (2, .int ask)]) hx hb dX4_factor_58 hl (by decide) rfl (fun ls hl => ?_)
        refine lv_iload hx hb dX4_factor_60 (lv_at hl 0 rfl) ?_
        refine lv_if_lt (tgt := 75) hx hb dX4_factor_62 (by decide) (fun c32 => ?_) (fun c32 => ?_)
        · skip
          have c32 : r28.toInt < 0 := (z_lt rfl (by decide : (0 : Int32).toInt = 0)).mp c32
          refine lv_aload_n hx hb dX4_factor_75 rfl (lv_at hl 2 rfl) ?_
          refine lv_iconst (v := 1) hx hb dX4_factor_76 (by decide) ?_
          have hFc := zw_free hD hS hA
          refine va_callv (va_runV (As := [.int 1]) (rest := []) ⟨hx, hb, hml, hown, hg⟩ (k_X4_fail l g _ ad pe ct kg (1 : Int32) (by omega) hI) (cwV 1 hg (z_gV mm_483 mm_485 mm_10 mm_114 mm_486) rfl rfl rfl (by decide +kernel) ⟨Nat.le_of_ble_eq_true rfl, Nat.le_of_ble_eq_true rfl⟩) ⟨(zA.pre [.ref (ad kg), .int 1] hP hK hD hN).1, va_recv hK hP (ci := 4) (q0 := kg) rfl (zw_at (by omega) hs1), (zA.pre [.ref (ad kg), .int 1] hP hK hD hN).2⟩ rfl rfl hl.1 rfl (lv_room (Nat.le_of_ble_eq_true rfl)) dX4_factor_77 ⟨Nat.le_of_ble_eq_true rfl, Nat.le_of_ble_eq_true rfl⟩) hS (fun q _ h => hFc q h) hFc (fun _ t H1 locs ht hvm hr33 hB hz1 hk1 hS => ?_)
          obtain ⟨ct34, hP1, hD1, hI⟩ := hB
          rw [ht] at hP1
          have hD := hD1.weaken (fun _ _ _ h => hFc _ h)
          generalize H1 = H at hP1 hS ⊢
          have hP := hP1
          refine W.widen (k := 0) (n := 0) (Nat.le_refl _) (Nat.le_refl _) ?_
          refine lv_iconst (v := 0) hx hb dX4_factor_80 (by decide) ?_
          have q35 : (0 : Int32).toInt = 0 := by decide
          exact W.iret (v := 0) hx hb hr (fun t ht hW => ⟨⟨0, (), rfl, trivial, ct34, by rw [ht]; exact hP, hD, hI⟩, hS.F ht⟩) hS.2.2 dX4_factor_81
        · skip
          have c32 : ¬ (r28.toInt < 0) := fun q => c32 ((z_lt rfl (by decide : (0 : Int32).toInt = 0)).mpr q)
          refine lv_iload hx hb dX4_factor_65 (lv_at hl 0 rfl) ?_
          refine lv_aload_n hx hb dX4_factor_67 rfl (lv_at hl 2 rfl) ?_
          refine va_get (D := g.1) (ci := 4) (v := .ref (ad (kg + 1))) (C := RX4) (T := TX4) (N := 11) hx hb hg inG4 hown hK hP kg (zw_at (by omega) hs1) rfl 6 (by decide) (hg _ mm_282) (fun _ h9 => h9) rfl dX4_factor_68 ?_
          obtain ⟨f37, hs36⟩ := a8_45 (kc := kg) (by omega) hI
          refine va_alen hx hb hK hP (kg + 1) 0 (zw_at (by omega) hs36) (ty := .int) rfl (v := 7) (by decide) dX4_factor_71 ?_
          refine lv_icmp_lt (tgt := 82) hx hb dX4_factor_72 (by decide) (fun c38 => ?_) (fun c38 => ?_)
          · skip
            have c38 : r28.toInt < 7 := (z_lt rfl (by decide : (7 : Int32).toInt = 7)).mp c38
            refine lv_aload_n hx hb dX4_factor_82 rfl (lv_at hl 2 rfl) ?_
            refine lv_dup hx hb dX4_factor_83 rfl ?_
            refine va_get (D := g.1) (ci := 4) (v := .int atx9) (C := RX4) (T := TX4) (N := 11) hx hb hg inG4 hown hK hP kg (zw_at (by omega) hs1) rfl 9 (by decide) (hg _ mm_285) (fun _ h9 => h9) rfl dX4_factor_84 ?_
            refine lv_iconst (v := 1) hx hb dX4_factor_87 (by decide) ?_
            refine lv_iadd hx hb dX4_factor_88 ?_
            refine lv_topi (fun x39 ex39 => ?_)
            have tx39 : x39.toInt = atx9.toInt + 1 := by rw [ex39]; exact z_add rfl (by decide : (1 : Int32).toInt = 1) (by omega) (by omega)
            refine va_put (D := g.1) (ci := 4) (v := .int x39) (ty := .int) (C := RX4) (T := TX4) (N := 11) hx hb hg inG4 tyX4 tyX4_ok nmX4 hown hK hP hD hS kg (zw_at (by omega) hs1) rfl 9 (by decide) (hg _ mm_285) (fun _ h9 => h9) rfl (by decide +kernel) rfl rfl (Nat.le_of_ble_eq_true rfl) dX4_factor_89 (fun H locs hP hD hS => ?_)
            have hP : zP g ((zw 126 ad ct).set kg (ad kg, .inr (4, [.int tld2, .int ofb3, .int hol4, .int flt5, .int fla6, .int ofl7, .ref (ad (kg + 1)), .ref (ad (kg + 2)), .int len8, .int x39, .int ref10]))) H := hP
            have hD : va_D A ((zw 126 ad ct).set kg (ad kg, .inr (4, [.int tld2, .int ofb3, .int hol4, .int flt5, .int fla6, .int ofl7, .ref (ad (kg + 1)), .ref (ad (kg + 2)), .int len8, .int x39, .int ref10]))) := hD
            rw [zw_set (by omega)] at hP hD
            obtain ⟨ct40, ec41⟩ : ∃ z : Nat → va_E, z = va_up ct kg (.inr (4, [.int tld2, .int ofb3, .int hol4, .int flt5, .int fla6, .int ofl7, .ref (ad (kg + 1)), .ref (ad (kg + 2)), .int len8, .int x39, .int ref10])) := ⟨_, rfl⟩
            rw [← ec41] at hP hD
            have hI : Inv8 g ad pe ct40 := by rw [ec41]; exact up8 hI (i8_44 (kc := kg) (by omega) ⟨(tld2 : Int32), (ofb3 : Int32), (hol4 : Int32), (flt5 : Int32), (fla6 : Int32), (ofl7 : Int32), (len8 : Int32), (x39 : Int32), (ref10 : Int32), hz11, (by first | omega | decide), (by first | omega | decide), (by first | omega | decide), (by first | omega | decide), hz16, rfl⟩)
            have hs42 : ct40 (kg + 1) = .inl (g.2 0, 7, .inl f37) := by rw [ec41, va_up_ne _ _ (by omega)]; exact hs36
            have hs43 : ct40 kg = .inr (4, [.int tld2, .int ofb3, .int hol4, .int flt5, .int fla6, .int ofl7, .ref (ad (kg + 1)), .ref (ad (kg + 2)), .int len8, .int x39, .int ref10]) := by rw [ec41]; exact va_up_self _ _ _
            refine lv_aload_n hx hb dX4_factor_92 rfl (lv_at hl 2 rfl) ?_
            refine va_get (D := g.1) (ci := 4) (v := .ref (ad (kg + 1))) (C := RX4) (T := TX4) (N := 11) hx hb hg inG4 hown hK hP kg (zw_at (by omega) hs43) rfl 6 (by decide) (hg _ mm_282) (fun _ h9 => h9) rfl dX4_factor_93 ?_
            refine lv_iload hx hb dX4_factor_96 (lv_at hl 0 rfl) ?_
            refine va_iald hx hb hK hP (kg + 1) 0 (zw_at (by omega) hs42) rfl (z_in rfl (by omega) (by omega)) dX4_factor_98 ?_
            refine lv_topi (fun y44 ey44 => ?_)
            exact W.iret (v := y44) hx hb hr (fun t ht hW => ⟨⟨y44, (), rfl, trivial, ct40, by rw [ht]; exact hP, hD, hI⟩, hS.F ht⟩) hS.2.2 dX4_factor_99
          · skip
            have c38 : ¬ (r28.toInt < 7) := fun q => c38 ((z_lt rfl (by decide : (7 : Int32).toInt = 7)).mpr q)
            refine lv_aload_n hx hb dX4_factor_75 rfl (lv_at hl 2 rfl) ?_
            refine lv_iconst (v := 1) hx hb dX4_factor_76 (by decide) ?_
            have hFc := zw_free hD hS hA
            refine va_callv (va_runV (As := [.int 1]) (rest := []) ⟨hx, hb, hml, hown, hg⟩ (k_X4_fail l g _ ad pe ct kg (1 : Int32) (by omega) hI) (cwV 1 hg (z_gV mm_483 mm_485 mm_10 mm_114 mm_486) rfl rfl rfl (by decide +kernel) ⟨Nat.le_of_ble_eq_true rfl, Nat.le_of_ble_eq_true rfl⟩) ⟨(zA.pre [.ref (ad kg), .int 1] hP hK hD hN).1, va_recv hK hP (ci := 4) (q0 := kg) rfl (zw_at (by omega) hs1), (zA.pre [.ref (ad kg), .int 1] hP hK hD hN).2⟩ rfl rfl hl.1 rfl (lv_room (Nat.le_of_ble_eq_true rfl)) dX4_factor_77 ⟨Nat.le_of_ble_eq_true rfl, Nat.le_of_ble_eq_true rfl⟩) hS (fun q _ h => hFc q h) hFc (fun _ t H1 locs ht hvm hr45 hB hz1 hk1 hS => ?_)
            obtain ⟨ct46, hP1, hD1, hI⟩ := hB
            rw [ht] at hP1
            have hD := hD1.weaken (fun _ _ _ h => hFc _ h)
            generalize H1 = H at hP1 hS ⊢
            have hP := hP1
            refine W.widen (k := 0) (n := 0) (Nat.le_refl _) (Nat.le_refl _) ?_
            refine lv_iconst (v := 0) hx hb dX4_factor_80 (by decide) ?_
            have q47 : (0 : Int32).toInt = 0 := by decide
            exact W.iret (v := 0) hx hb hr (fun t ht hW => ⟨⟨0, (), rfl, trivial, ct46, by rw [ht]; exact hP, hD, hI⟩, hS.F ht⟩) hS.2.2 dX4_factor_81
      · skip
        exact absurd c27 (by decide)
  · skip
    have c19 : r17.toInt = 91 := (z_eq rfl (by decide : (91 : Int32).toInt = 91)).mp c19
    refine lv_aload_n hx hb dX4_factor_11 rfl (lv_at hl 1 rfl) ?_
    refine lv_iload_n hx hb dX4_factor_12 rfl (lv_at hl 2 rfl) ?_
    have hFc := zw_free hD hS hA
    refine va_calli (va_runV (As := [.int 2]) (rest := []) ⟨hx, hb, hml, hown, hg⟩ (k_X4_opens l g _ ad pe ct kg (2 : Int32) tld2 ofb3 hol4 flt5 fla6 ofl7 len8 atx9 ref10 (by omega) hI hs1 (by first | omega | assumption | decide)) (cwV 1 hg (z_gV mm_479 mm_481 mm_9 mm_114 mm_482) rfl rfl rfl (by decide +kernel) ⟨Nat.le_of_ble_eq_true rfl, Nat.le_of_ble_eq_true rfl⟩) ⟨(zA.pre [.ref (ad kg), .int 2] hP hK hD hN).1, va_recv hK hP (ci := 4) (q0 := kg) rfl (zw_at (by omega) hs1), (zA.pre [.ref (ad kg), .int 2] hP hK hD hN).2⟩ rfl rfl hl.1 rfl (lv_room (Nat.le_of_ble_eq_true rfl)) dX4_factor_13 ⟨Nat.le_of_ble_eq_true rfl, Nat.le_of_ble_eq_true rfl⟩) hS (fun q _ h => hFc q h) hFc (fun r48 _ t H1 locs ht hvm hr48 hB hz1 hk1 hS => ?_)
    obtain ⟨ct49, hP1, hD1, hI⟩ := hB
    rw [ht] at hP1
    have hD := hD1.weaken (fun _ _ _ h => hFc _ h)
    generalize H1 = H at hP1 hS ⊢
    have hP := hP1
    refine W.widen (k := 0) (n := 0) (Nat.le_refl _) (Nat.le_refl _) ?_
    rcases hr48 with hr48 | hr48
    · skip
      obtain ⟨rfl, h50⟩ := hr48
      have h50 : (2 : Int) < 6 := h50
      refine lv_if_eq (tgt := 30) hx hb dX4_factor_16 (by decide) (fun c51 => ?_) (fun c51 => ?_)
      · skip
        exact absurd c51 (by decide)
      · skip
        refine lv_aload_n hx hb dX4_factor_19 rfl (lv_at hl 1 rfl) ?_
        refine lv_iload_n hx hb dX4_factor_20 rfl (lv_at hl 2 rfl) ?_
        refine lv_iconst (v := 1) hx hb dX4_factor_21 (by decide) ?_
        refine lv_iadd hx hb dX4_factor_22 ?_
        refine lv_topi (fun x52 ex52 => ?_)
        obtain rfl : x52 = 3 := ex52.trans (by decide)
        refine lv_iload_n hx hb dX4_factor_23 rfl (lv_at hl 3 rfl) ?_
        obtain ⟨tld54, ofb55, hol56, flt57, fla58, ofl59, len60, atx61, ref62, hz63, h64, h65, h66, h67, hz68, hs53⟩ := a8_44 (kc := kg) (by omega) hI
        have bhz63 := z_b01 hz63
        have bhz68 := z_b01 hz68
        have hFc := zw_free hD hS hA
        refine va_calli (va_runV (As := [.int 3, .int ask]) (rest := []) ⟨hx, hb, hml, hown, hg⟩ (k_X4_sum_3 l g _ ad pe ct49 kg ask (by omega) hI) (cwV 2 hg (z_gV mm_491 mm_493 mm_12 mm_114 mm_494) rfl rfl rfl (by decide +kernel) ⟨Nat.le_of_ble_eq_true rfl, Nat.le_of_ble_eq_true rfl⟩) ⟨(zA.pre [.ref (ad kg), .int 3, .int ask] hP hK hD hN).1, va_recv hK hP (ci := 4) (q0 := kg) rfl (zw_at (by omega) hs53), (zA.pre [.ref (ad kg), .int 3, .int ask] hP hK hD hN).2⟩ rfl rfl hl.1 rfl (lv_room (Nat.le_of_ble_eq_true rfl)) dX4_factor_24 ⟨Nat.le_of_ble_eq_true rfl, Nat.le_of_ble_eq_true rfl⟩) hS (fun q _ h => hFc q h) hFc (fun r69 _ t H1 locs ht hvm hr69 hB hz1 hk1 hS => ?_)
        obtain ⟨ct70, hP1, hD1, hI⟩ := hB
        rw [ht] at hP1
        have hD := hD1.weaken (fun _ _ _ h => hFc _ h)
        generalize H1 = H at hP1 hS ⊢
        have hP := hP1
        refine W.widen (k := 0) (n := 0) (Nat.le_refl _) (Nat.le_refl _) ?_
        refine lv_goto (tgt := 31) hx hb dX4_factor_27 (by decide) ?_
        refine lv_istore (lv' := [(4, .int r69), (3, .int r17), (0, .ref (ad kg)), (1, .int 2), (2, .int ask)]) hx hb dX4_factor_31 hl (by decide) rfl (fun ls hl => ?_)
        refine lv_aload_n hx hb dX4_factor_33 rfl (lv_at hl 2 rfl) ?_
        refine lv_bipush (v := 93) hx hb dX4_factor_34 (by decide) ?_
        obtain ⟨tld72, ofb73, hol74, flt75, fla76, ofl77, len78, atx79, ref80, hz81, h82, h83, h84, h85, hz86, hs71⟩ := a8_44 (kc := kg) (by omega) hI
        have bhz81 := z_b01 hz81
        have bhz86 := z_b01 hz86
        have hFc := zw_free hD hS hA
        refine va_callv (va_runV (As := [.int 93]) (rest := []) ⟨hx, hb, hml, hown, hg⟩ (k_X4_expect l g _ ad pe ct70 kg (93 : Int32) (by omega) (by first | omega | decide) hI) (cwV 1 hg (z_gV mm_487 mm_489 mm_11 mm_114 mm_490) rfl rfl rfl (by decide +kernel) ⟨Nat.le_of_ble_eq_true rfl, Nat.le_of_ble_eq_true rfl⟩) ⟨(zA.pre [.ref (ad kg), .int 93] hP hK hD hN).1, va_recv hK hP (ci := 4) (q0 := kg) rfl (zw_at (by omega) hs71), (zA.pre [.ref (ad kg), .int 93] hP hK hD hN).2⟩ rfl rfl hl.1 rfl (lv_room (Nat.le_of_ble_eq_true rfl)) dX4_factor_36 ⟨Nat.le_of_ble_eq_true rfl, Nat.le_of_ble_eq_true rfl⟩) hS (fun q _ h => hFc q h) hFc (fun _ t H1 locs ht hvm hr87 hB hz1 hk1 hS => ?_)
        obtain ⟨ct88, hP1, hD1, hI⟩ := hB
        rw [ht] at hP1
        have hD := hD1.weaken (fun _ _ _ h => hFc _ h)
        generalize H1 = H at hP1 hS ⊢
        have hP := hP1
        refine W.widen (k := 0) (n := 0) (Nat.le_refl _) (Nat.le_refl _) ?_
        refine lv_iload hx hb dX4_factor_39 (lv_at hl 0 rfl) ?_
        exact W.iret (v := r69) hx hb hr (fun t ht hW => ⟨⟨r69, (), rfl, trivial, ct88, by rw [ht]; exact hP, hD, hI⟩, hS.F ht⟩) hS.2.2 dX4_factor_41
    · skip
      obtain rfl := hr48
      refine lv_if_eq (tgt := 30) hx hb dX4_factor_16 (by decide) (fun c89 => ?_) (fun c89 => ?_)
      · skip
        refine lv_iconst (v := 0) hx hb dX4_factor_30 (by decide) ?_
        refine lv_istore (lv' := [(4, .int 0), (3, .int r17), (0, .ref (ad kg)), (1, .int 2), (2, .int ask)]) hx hb dX4_factor_31 hl (by decide) rfl (fun ls hl => ?_)
        refine lv_aload_n hx hb dX4_factor_33 rfl (lv_at hl 2 rfl) ?_
        refine lv_bipush (v := 93) hx hb dX4_factor_34 (by decide) ?_
        obtain ⟨tld91, ofb92, hol93, flt94, fla95, ofl96, len97, atx98, ref99, hz100, h101, h102, h103, h104, hz105, hs90⟩ := a8_44 (kc := kg) (by omega) hI
        have bhz100 := z_b01 hz100
        have bhz105 := z_b01 hz105
        have hFc := zw_free hD hS hA
        refine va_callv (va_runV (As := [.int 93]) (rest := []) ⟨hx, hb, hml, hown, hg⟩ (k_X4_expect l g _ ad pe ct49 kg (93 : Int32) (by omega) (by first | omega | decide) hI) (cwV 1 hg (z_gV mm_487 mm_489 mm_11 mm_114 mm_490) rfl rfl rfl (by decide +kernel) ⟨Nat.le_of_ble_eq_true rfl, Nat.le_of_ble_eq_true rfl⟩) ⟨(zA.pre [.ref (ad kg), .int 93] hP hK hD hN).1, va_recv hK hP (ci := 4) (q0 := kg) rfl (zw_at (by omega) hs90), (zA.pre [.ref (ad kg), .int 93] hP hK hD hN).2⟩ rfl rfl hl.1 rfl (lv_room (Nat.le_of_ble_eq_true rfl)) dX4_factor_36 ⟨Nat.le_of_ble_eq_true rfl, Nat.le_of_ble_eq_true rfl⟩) hS (fun q _ h => hFc q h) hFc (fun _ t H1 locs ht hvm hr106 hB hz1 hk1 hS => ?_)
        obtain ⟨ct107, hP1, hD1, hI⟩ := hB
        rw [ht] at hP1
        have hD := hD1.weaken (fun _ _ _ h => hFc _ h)
        generalize H1 = H at hP1 hS ⊢
        have hP := hP1
        refine W.widen (k := 0) (n := 0) (Nat.le_refl _) (Nat.le_refl _) ?_
        refine lv_iload hx hb dX4_factor_39 (lv_at hl 0 rfl) ?_
        have q108 : (0 : Int32).toInt = 0 := by decide
        exact W.iret (v := 0) hx hb hr (fun t ht hW => ⟨⟨0, (), rfl, trivial, ct107, by rw [ht]; exact hP, hD, hI⟩, hS.F ht⟩) hS.2.2 dX4_factor_41
      · skip
        exact absurd c89 (by decide)

set_option maxHeartbeats 4000000 in
set_option maxRecDepth 100000 in
theorem k_X4_product_2 (l : Launch) (g : zG) (sz : Nat) (ad : Nat → Nat) (pe : Int32) (ct : Nat → va_E) (kg : Nat) (ask : Int32) (hf_kg : 99 ≤ kg ∧ kg < 126 ∧ (kg - 99) % 3 = 0) (hI : Inv8 g ad pe ct) : Met l yX4_product (zW yX4_product cX4_product 7 (some .int)) ({ frames := 15, cells := 0, slots := 0, locals := 371 }) (va_Pc [.ref (ad kg), .int 2, .int ask] (zA g (zw 126 ad ct) sz)) (va_Qi (fun (r : Int32) (_ : Unit) => (True)) (fun _ t => ∃ ct2 : Nat → va_E, zP g (zw 126 ad ct2) t.heap ∧ va_D (va_A (zw 126 ad ct) sz) (zw 126 ad ct2) ∧ Inv8 g ad pe ct2) (va_A (zw 126 ad ct) sz)) 0 0 (va_A (zw 126 ad ct) sz) := by
  refine Met.ofW (cc := cX4_product) (maxL := 7) (ret := (some .int)) (by decide) rfl ?_
  intro p e s m args below meth c s₁ B hml hv
  obtain ⟨rfl, hsz, hP, hK, hD0, hN⟩ := hv
  have hx := B.exec
  have hb := B.bytes
  have hr := B.returns
  have hg := zW.law (atoms_spec (ws := (zW yX4_product cX4_product 7 (some .int))) B.pre)
  have hown : s.vm.findClass RX4 = some m.cls := findClass_of_methodNamed B.named
  have hlocks := B.notSynchronized
  have hpe0 := hI.1
  subst hsz
  have hD := hD0.self (sz := s.heap.size)
  generalize hAe : va_A (zw 126 ad ct) s.heap.size = A at hD ⊢
  have hA : ∀ q : Nat, s.heap.size ≤ q → A q := fun q h => by rw [← hAe]; exact Or.inr h
  have hS : va_S A s.heap s.heap [] := va_S.rf
  have hl := lv_entry ([.ref (ad kg), .int 2, .int ask]) (n := 7) (Nat.le_of_ble_eq_true rfl)
  rw [lg_entry_eq]
  generalize (lg_sl ([.ref (ad kg), .int 2, .int ask]) ++ List.replicate (7 - (lg_sl ([.ref (ad kg), .int 2, .int ask])).length) Slot.unset).toArray = ls at hl ⊢
  have hl : lv_has ls 7 [(0, .ref (ad kg)), (1, .int 2), (2, .int ask)] := hl
  have rg_ask := z_rng ask
  refine lv_aload_n hx hb dX4_product_0 rfl (lv_at hl 0 rfl) ?_
  refine lv_iload_n hx hb dX4_product_1 rfl (lv_at hl 1 rfl) ?_
  refine lv_iload_n hx hb dX4_product_2 rfl (lv_at hl 2 rfl) ?_
  obtain ⟨tld2, ofb3, hol4, flt5, fla6, ofl7, len8, atx9, ref10, hz11, h12, h13, h14, h15, hz16, hs1⟩ := a8_44 (kc := kg) (by omega) hI
  have bhz11 := z_b01 hz11
  have bhz16 := z_b01 hz16
  have hFc := zw_free hD hS hA
  refine va_calli (va_runV (As := [.int 2, .int ask]) (rest := []) ⟨hx, hb, hml, hown, hg⟩ (k_X4_factor_2 l g _ ad pe ct kg ask (by omega) hI) (cwV 2 hg (z_gV mm_499 mm_501 mm_14 mm_114 mm_502) rfl rfl rfl (by decide +kernel) ⟨Nat.le_of_ble_eq_true rfl, Nat.le_of_ble_eq_true rfl⟩) ⟨(zA.pre [.ref (ad kg), .int 2, .int ask] hP hK hD hN).1, va_recv hK hP (ci := 4) (q0 := kg) rfl (zw_at (by omega) hs1), (zA.pre [.ref (ad kg), .int 2, .int ask] hP hK hD hN).2⟩ rfl rfl hl.1 rfl (lv_room (Nat.le_of_ble_eq_true rfl)) dX4_product_3 ⟨Nat.le_of_ble_eq_true rfl, Nat.le_of_ble_eq_true rfl⟩) hS (fun q _ h => hFc q h) hFc (fun r17 _ t H1 locs ht hvm hr17 hB hz1 hk1 hS => ?_)
  obtain ⟨ct18, hP1, hD1, hI⟩ := hB
  rw [ht] at hP1
  have hD := hD1.weaken (fun _ _ _ h => hFc _ h)
  generalize H1 = H at hP1 hS ⊢
  have hP := hP1
  refine W.widen (k := 0) (n := 0) (Nat.le_refl _) (Nat.le_refl _) ?_
  refine lv_istore_n (lv' := [(3, .int r17), (0, .ref (ad kg)), (1, .int 2), (2, .int ask)]) hx hb dX4_product_6 rfl hl (by decide) rfl (fun ls hl => ?_)
  refine lv_iconst (v := 0) hx hb dX4_product_7 (by decide) ?_
  refine lv_istore (lv' := [(4, .int 0), (3, .int r17), (0, .ref (ad kg)), (1, .int 2), (2, .int ask)]) hx hb dX4_product_8 hl (by decide) rfl (fun ls hl => ?_)
  have loop10 : ∀ (n10 : Nat) (v4_10 : Int32) (v3_10 : Int32) (ct19 : Nat → va_E) (H : Heap) (locs : List Loc) (ls : Array Slot), ((100 - v4_10.toInt : Int).toNat < n10) → (0 ≤ v4_10.toInt ∧ v4_10.toInt ≤ 100) → (Inv8 g ad pe ct19) → zP g (zw 126 ad ct19) H → va_D A (zw 126 ad ct19) → va_S A s.heap H locs → lv_has ls 7 [(4, .int v4_10), (3, .int v3_10), (0, .ref (ad kg)), (1, .int 2), (2, .int ask)] → W p l e (headSpec (zW yX4_product cX4_product 7 (some .int)) ({ frames := 15, cells := 0, slots := 0, locals := 371 })).room s m ([.ref (ad kg), .int 2, .int ask] : List Value).toArray below meth c H locs 0 0 (MQ below (va_Qi (fun (r : Int32) (_ : Unit) => (True)) (fun _ t => ∃ ct2 : Nat → va_E, zP g (zw 126 ad ct2) t.heap ∧ va_D A (zw 126 ad ct2) ∧ Inv8 g ad pe ct2) A) ([.ref (ad kg), .int 2, .int ask] : List Value).toArray s 0 0 A) (F0 m 10 ls []) := by
    intro n10
    induction n10 with
    | zero =>
      intro v4_10 v3_10 ct19 H locs ls hn10 b4_10 hI hP hD hS hl
      exact absurd hn10 (Nat.not_lt_zero _)
    | succ n10 ih10 =>
      intro v4_10 v3_10 ct19 H locs ls hn10 b4_10 hI hP hD hS hl
      refine lv_iload hx hb dX4_product_10 (lv_at hl 0 rfl) ?_
      refine lv_bipush (v := 100) hx hb dX4_product_12 (by decide) ?_
      refine lv_icmp_ge (tgt := 136) hx hb dX4_product_14 (by decide) (fun c20 => ?_) (fun c20 => ?_)
      · skip
        have c20 : 100 ≤ v4_10.toInt := (z_le (by decide : (100 : Int32).toInt = 100) rfl).mp c20
        refine lv_iload_n hx hb dX4_product_136 rfl (lv_at hl 1 rfl) ?_
        exact W.iret (v := v3_10) hx hb hr (fun t ht hW => ⟨⟨v3_10, (), rfl, trivial, ct19, by rw [ht]; exact hP, hD, hI⟩, hS.F ht⟩) hS.2.2 dX4_product_137
      · skip
        have c20 : ¬ (100 ≤ v4_10.toInt) := fun q => c20 ((z_le (by decide : (100 : Int32).toInt = 100) rfl).mpr q)
        refine lv_aload_n hx hb dX4_product_17 rfl (lv_at hl 2 rfl) ?_
        obtain ⟨tld22, ofb23, hol24, flt25, fla26, ofl27, len28, atx29, ref30, hz31, h32, h33, h34, h35, hz36, hs21⟩ := a8_44 (kc := kg) (by omega) hI
        have bhz31 := z_b01 hz31
        have bhz36 := z_b01 hz36
        refine zc_i (va_runV (As := []) (rest := []) ⟨hx, hb, hml, hown, hg⟩ (k_X4_next l g ad pe ct19 kg tld22 ofb23 hol24 flt25 fla26 ofl27 len28 atx29 ref30 (by omega) hI hs21) (cwV 0 hg (z_gV mm_475 mm_477 mm_8 mm_114 mm_478) rfl rfl rfl (by decide +kernel) ⟨Nat.le_of_ble_eq_true rfl, Nat.le_of_ble_eq_true rfl⟩) ⟨(zR.pre [.ref (ad kg)] hP hK hN).1, va_recv hK hP (ci := 4) (q0 := kg) rfl (zw_at (by omega) hs21), (zR.pre [.ref (ad kg)] hP hK hN).2⟩ rfl rfl hl.1 rfl (lv_room (Nat.le_of_ble_eq_true rfl)) dX4_product_18 ⟨Nat.le_of_ble_eq_true rfl, Nat.le_of_ble_eq_true rfl⟩) (fun r37 hr37 => ?_)
        have h38 := hr37
        have h38 : r37.toInt = -1 ∨ atx29.toInt ≤ 99 := h38
        refine lv_bipush (v := 42) hx hb dX4_product_21 (by decide) ?_
        refine lv_icmp_eq (tgt := 44) hx hb dX4_product_23 (by decide) (fun c39 => ?_) (fun c39 => ?_)
        · skip
          have c39 : r37.toInt = 42 := (z_eq rfl (by decide : (42 : Int32).toInt = 42)).mp c39
          refine lv_aload_n hx hb dX4_product_44 rfl (lv_at hl 2 rfl) ?_
          refine zc_i (va_runV (As := []) (rest := []) ⟨hx, hb, hml, hown, hg⟩ (k_X4_next l g ad pe ct19 kg tld22 ofb23 hol24 flt25 fla26 ofl27 len28 atx29 ref30 (by omega) hI hs21) (cwV 0 hg (z_gV mm_475 mm_477 mm_8 mm_114 mm_478) rfl rfl rfl (by decide +kernel) ⟨Nat.le_of_ble_eq_true rfl, Nat.le_of_ble_eq_true rfl⟩) ⟨(zR.pre [.ref (ad kg)] hP hK hN).1, va_recv hK hP (ci := 4) (q0 := kg) rfl (zw_at (by omega) hs21), (zR.pre [.ref (ad kg)] hP hK hN).2⟩ rfl rfl hl.1 rfl (lv_room (Nat.le_of_ble_eq_true rfl)) dX4_product_45 ⟨Nat.le_of_ble_eq_true rfl, Nat.le_of_ble_eq_true rfl⟩) (fun r40 hr40 => ?_)
          have h41 := hr40
          have h41 : r40.toInt = -1 ∨ atx29.toInt ≤ 99 := h41
          refine lv_istore (lv' := [(5, .int r40), (4, .int v4_10), (3, .int v3_10), (0, .ref (ad kg)), (1, .int 2), (2, .int ask)]) hx hb dX4_product_48 hl (by decide) rfl (fun ls hl => ?_)
          refine lv_aload_n hx hb dX4_product_50 rfl (lv_at hl 3 rfl) ?_
          refine lv_dup hx hb dX4_product_51 rfl ?_
          refine va_get (D := g.1) (ci := 4) (v := .int atx29) (C := RX4) (T := TX4) (N := 11) hx hb hg inG4 hown hK hP kg (zw_at (by omega) hs21) rfl 9 (by decide) (hg _ mm_285) (fun _ h9 => h9) rfl dX4_product_52 ?_
          refine lv_iconst (v := 1) hx hb dX4_product_55 (by decide) ?_
          refine lv_iadd hx hb dX4_product_56 ?_
          refine lv_topi (fun x42 ex42 => ?_)
          have tx42 : x42.toInt = atx29.toInt + 1 := by rw [ex42]; exact z_add rfl (by decide : (1 : Int32).toInt = 1) (by omega) (by omega)
          refine va_put (D := g.1) (ci := 4) (v := .int x42) (ty := .int) (C := RX4) (T := TX4) (N := 11) hx hb hg inG4 tyX4 tyX4_ok nmX4 hown hK hP hD hS kg (zw_at (by omega) hs21) rfl 9 (by decide) (hg _ mm_285) (fun _ h9 => h9) rfl (by decide +kernel) rfl rfl (Nat.le_of_ble_eq_true rfl) dX4_product_57 (fun H locs hP hD hS => ?_)
          have hP : zP g ((zw 126 ad ct19).set kg (ad kg, .inr (4, [.int tld22, .int ofb23, .int hol24, .int flt25, .int fla26, .int ofl27, .ref (ad (kg + 1)), .ref (ad (kg + 2)), .int len28, .int x42, .int ref30]))) H := hP
          have hD : va_D A ((zw 126 ad ct19).set kg (ad kg, .inr (4, [.int tld22, .int ofb23, .int hol24, .int flt25, .int fla26, .int ofl27, .ref (ad (kg + 1)), .ref (ad (kg + 2)), .int len28, .int x42, .int ref30]))) := hD
          rw [zw_set (by omega)] at hP hD
          obtain ⟨ct43, ec44⟩ : ∃ z : Nat → va_E, z = va_up ct19 kg (.inr (4, [.int tld22, .int ofb23, .int hol24, .int flt25, .int fla26, .int ofl27, .ref (ad (kg + 1)), .ref (ad (kg + 2)), .int len28, .int x42, .int ref30])) := ⟨_, rfl⟩
          rw [← ec44] at hP hD
          have hI : Inv8 g ad pe ct43 := by rw [ec44]; exact up8 hI (i8_44 (kc := kg) (by omega) ⟨(tld22 : Int32), (ofb23 : Int32), (hol24 : Int32), (flt25 : Int32), (fla26 : Int32), (ofl27 : Int32), (len28 : Int32), (x42 : Int32), (ref30 : Int32), hz31, (by first | omega | decide), (by first | omega | decide), (by first | omega | decide), (by first | omega | decide), hz36, rfl⟩)
          have hs45 : ct43 kg = .inr (4, [.int tld22, .int ofb23, .int hol24, .int flt25, .int fla26, .int ofl27, .ref (ad (kg + 1)), .ref (ad (kg + 2)), .int len28, .int x42, .int ref30]) := by rw [ec44]; exact va_up_self _ _ _
          refine lv_aload_n hx hb dX4_product_60 rfl (lv_at hl 3 rfl) ?_
          refine lv_iload_n hx hb dX4_product_61 rfl (lv_at hl 4 rfl) ?_
          refine lv_iload_n hx hb dX4_product_62 rfl (lv_at hl 5 rfl) ?_
          have hFc := zw_free hD hS hA
          refine va_calli (va_runV (As := [.int 2, .int ask]) (rest := []) ⟨hx, hb, hml, hown, hg⟩ (k_X4_factor_2 l g _ ad pe ct43 kg ask (by omega) hI) (cwV 2 hg (z_gV mm_499 mm_501 mm_14 mm_114 mm_502) rfl rfl rfl (by decide +kernel) ⟨Nat.le_of_ble_eq_true rfl, Nat.le_of_ble_eq_true rfl⟩) ⟨(zA.pre [.ref (ad kg), .int 2, .int ask] hP hK hD hN).1, va_recv hK hP (ci := 4) (q0 := kg) rfl (zw_at (by omega) hs45), (zA.pre [.ref (ad kg), .int 2, .int ask] hP hK hD hN).2⟩ rfl rfl hl.1 rfl (lv_room (Nat.le_of_ble_eq_true rfl)) dX4_product_63 ⟨Nat.le_of_ble_eq_true rfl, Nat.le_of_ble_eq_true rfl⟩) hS (fun q _ h => hFc q h) hFc (fun r46 _ t H1 locs ht hvm hr46 hB hz1 hk1 hS => ?_)
          obtain ⟨ct47, hP1, hD1, hI⟩ := hB
          rw [ht] at hP1
          have hD := hD1.weaken (fun _ _ _ h => hFc _ h)
          generalize H1 = H at hP1 hS ⊢
          have hP := hP1
          refine W.widen (k := 0) (n := 0) (Nat.le_refl _) (Nat.le_refl _) ?_
          refine lv_istore (lv' := [(6, .int r46), (5, .int r40), (4, .int v4_10), (3, .int v3_10), (0, .ref (ad kg)), (1, .int 2), (2, .int ask)]) hx hb dX4_product_66 hl (by decide) rfl (fun ls hl => ?_)
          refine lv_iload hx hb dX4_product_68 (lv_at hl 1 rfl) ?_
          refine lv_bipush (v := 42) hx hb dX4_product_70 (by decide) ?_
          refine lv_icmp_ne (tgt := 83) hx hb dX4_product_72 (by decide) (fun c48 => ?_) (fun c48 => ?_)
          · skip
            have c48 : ¬ (r40.toInt = 42) := fun q => c48 ((z_eq rfl (by decide : (42 : Int32).toInt = 42)).mpr q)
            refine lv_iload hx hb dX4_product_83 (lv_at hl 0 rfl) ?_
            refine lv_if_ne (tgt := 111) hx hb dX4_product_85 (by decide) (fun c49 => ?_) (fun c49 => ?_)
            · skip
              have c49 : ¬ (r46.toInt = 0) := fun q => c49 ((z_eq rfl (by decide : (0 : Int32).toInt = 0)).mpr q)
              refine lv_iload hx hb dX4_product_111 (lv_at hl 1 rfl) ?_
              refine lv_bipush (v := 47) hx hb dX4_product_113 (by decide) ?_
              refine lv_icmp_ne (tgt := 125) hx hb dX4_product_115 (by decide) (fun c50 => ?_) (fun c50 => ?_)
              · skip
                have c50 : ¬ (r40.toInt = 47) := fun q => c50 ((z_eq rfl (by decide : (47 : Int32).toInt = 47)).mpr q)
                refine lv_iload_n hx hb dX4_product_125 rfl (lv_at hl 3 rfl) ?_
                refine lv_iload hx hb dX4_product_126 (lv_at hl 0 rfl) ?_
                refine lv_irem hx hb dX4_product_128 (z_nz (by omega)) ?_
                refine lv_topi (fun x51 ex51 => ?_)
                refine lv_istore_n (lv' := [(3, .int x51), (6, .int r46), (5, .int r40), (4, .int v4_10), (0, .ref (ad kg)), (1, .int 2), (2, .int ask)]) hx hb dX4_product_129 rfl hl (by decide) rfl (fun ls hl => ?_)
                obtain ⟨x52, ex52⟩ : ∃ y : Int32, y = v4_10 + 1 := ⟨_, rfl⟩
                have tx52 : x52.toInt = v4_10.toInt + 1 := by rw [ex52]; exact z_add rfl (by decide : (1 : Int32).toInt = 1) (by omega) (by omega)
                refine lv_iinc (v := x52) (lv' := [(4, .int x52), (3, .int x51), (6, .int r46), (5, .int r40), (0, .ref (ad kg)), (1, .int 2), (2, .int ask)]) hx hb dX4_product_130 hl (k := 3) rfl (by rw [ex52]; rfl) (by decide) rfl (fun ls hl => ?_)
                refine lv_goto (tgt := 10) hx hb dX4_product_133 (by decide) ?_
                exact ih10 x52 x51 ct47 _ _ ls (by omega) (by first | omega | decide) hI hP hD hS (lv_sub hl [0, 1, 4, 5, 6] rfl)
              · skip
                have c50 : r40.toInt = 47 := (z_eq rfl (by decide : (47 : Int32).toInt = 47)).mp c50
                refine lv_iload_n hx hb dX4_product_118 rfl (lv_at hl 3 rfl) ?_
                refine lv_iload hx hb dX4_product_119 (lv_at hl 0 rfl) ?_
                refine lv_idiv hx hb dX4_product_121 (z_nz (by omega)) ?_
                refine lv_topi (fun x53 ex53 => ?_)
                refine lv_goto (tgt := 129) hx hb dX4_product_122 (by decide) ?_
                refine lv_istore_n (lv' := [(3, .int x53), (6, .int r46), (5, .int r40), (4, .int v4_10), (0, .ref (ad kg)), (1, .int 2), (2, .int ask)]) hx hb dX4_product_129 rfl hl (by decide) rfl (fun ls hl => ?_)
                obtain ⟨x54, ex54⟩ : ∃ y : Int32, y = v4_10 + 1 := ⟨_, rfl⟩
                have tx54 : x54.toInt = v4_10.toInt + 1 := by rw [ex54]; exact z_add rfl (by decide : (1 : Int32).toInt = 1) (by omega) (by omega)
                refine lv_iinc (v := x54) (lv' := [(4, .int x54), (3, .int x53), (6, .int r46), (5, .int r40), (0, .ref (ad kg)), (1, .int 2), (2, .int ask)]) hx hb dX4_product_130 hl (k := 3) rfl (by rw [ex54]; rfl) (by decide) rfl (fun ls hl => ?_)
                refine lv_goto (tgt := 10) hx hb dX4_product_133 (by decide) ?_
                exact ih10 x54 x53 ct47 _ _ ls (by omega) (by first | omega | decide) hI hP hD hS (lv_sub hl [0, 1, 4, 5, 6] rfl)
            · skip
              have c49 : r46.toInt = 0 := (z_eq rfl (by decide : (0 : Int32).toInt = 0)).mp c49
              refine lv_aload_n hx hb dX4_product_88 rfl (lv_at hl 4 rfl) ?_
              refine lv_aload_n hx hb dX4_product_89 rfl (lv_at hl 4 rfl) ?_
              obtain ⟨tld56, ofb57, hol58, flt59, fla60, ofl61, len62, atx63, ref64, hz65, h66, h67, h68, h69, hz70, hs55⟩ := a8_44 (kc := kg) (by omega) hI
              have bhz65 := z_b01 hz65
              have bhz70 := z_b01 hz70
              refine va_get (D := g.1) (ci := 4) (v := .int ref64) (C := RX4) (T := TX4) (N := 11) hx hb hg inG4 hown hK hP kg (zw_at (by omega) hs55) rfl 10 (by decide) (hg _ mm_286) (fun _ h9 => h9) rfl dX4_product_90 ?_
              refine lv_if_ne (tgt := 100) hx hb dX4_product_93 (by decide) (fun c71 => ?_) (fun c71 => ?_)
              · skip
                have c71 : ¬ (ref64.toInt = 0) := fun q => c71 ((z_eq rfl (by decide : (0 : Int32).toInt = 0)).mpr q)
                refine lv_iconst (v := 1) hx hb dX4_product_100 (by decide) ?_
                refine lv_goto (tgt := 105) hx hb dX4_product_101 (by decide) ?_
                refine va_put (D := g.1) (ci := 4) (v := .int 1) (ty := .boolean) (C := RX4) (T := TX4) (N := 11) hx hb hg inG4 tyX4 tyX4_ok nmX4 hown hK hP hD hS kg (zw_at (by omega) hs55) rfl 10 (by decide) (hg _ mm_286) (fun _ h9 => h9) rfl (by decide +kernel) rfl rfl (Nat.le_of_ble_eq_true rfl) dX4_product_105 (fun H locs hP hD hS => ?_)
                have hP : zP g ((zw 126 ad ct47).set kg (ad kg, .inr (4, [.int tld56, .int ofb57, .int hol58, .int flt59, .int fla60, .int ofl61, .ref (ad (kg + 1)), .ref (ad (kg + 2)), .int len62, .int atx63, .int 1]))) H := hP
                have hD : va_D A ((zw 126 ad ct47).set kg (ad kg, .inr (4, [.int tld56, .int ofb57, .int hol58, .int flt59, .int fla60, .int ofl61, .ref (ad (kg + 1)), .ref (ad (kg + 2)), .int len62, .int atx63, .int 1]))) := hD
                rw [zw_set (by omega)] at hP hD
                obtain ⟨ct72, ec73⟩ : ∃ z : Nat → va_E, z = va_up ct47 kg (.inr (4, [.int tld56, .int ofb57, .int hol58, .int flt59, .int fla60, .int ofl61, .ref (ad (kg + 1)), .ref (ad (kg + 2)), .int len62, .int atx63, .int 1])) := ⟨_, rfl⟩
                rw [← ec73] at hP hD
                have hI : Inv8 g ad pe ct72 := by rw [ec73]; exact up8 hI (i8_44 (kc := kg) (by omega) ⟨(tld56 : Int32), (ofb57 : Int32), (hol58 : Int32), (flt59 : Int32), (fla60 : Int32), (ofl61 : Int32), (len62 : Int32), (atx63 : Int32), (1 : Int32), hz65, (by first | omega | decide), (by first | omega | decide), (by first | omega | decide), (by first | omega | decide), (Or.inr rfl), rfl⟩)
                have hs74 : ct72 kg = .inr (4, [.int tld56, .int ofb57, .int hol58, .int flt59, .int fla60, .int ofl61, .ref (ad (kg + 1)), .ref (ad (kg + 2)), .int len62, .int atx63, .int 1]) := by rw [ec73]; exact va_up_self _ _ _
                refine lv_goto (tgt := 130) hx hb dX4_product_108 (by decide) ?_
                obtain ⟨x75, ex75⟩ : ∃ y : Int32, y = v4_10 + 1 := ⟨_, rfl⟩
                have tx75 : x75.toInt = v4_10.toInt + 1 := by rw [ex75]; exact z_add rfl (by decide : (1 : Int32).toInt = 1) (by omega) (by omega)
                refine lv_iinc (v := x75) (lv' := [(4, .int x75), (6, .int r46), (5, .int r40), (3, .int v3_10), (0, .ref (ad kg)), (1, .int 2), (2, .int ask)]) hx hb dX4_product_130 hl (k := 2) rfl (by rw [ex75]; rfl) (by decide) rfl (fun ls hl => ?_)
                refine lv_goto (tgt := 10) hx hb dX4_product_133 (by decide) ?_
                exact ih10 x75 v3_10 ct72 _ _ ls (by omega) (by first | omega | decide) hI hP hD hS (lv_sub hl [0, 3, 4, 5, 6] rfl)
              · skip
                have c71 : ref64.toInt = 0 := (z_eq rfl (by decide : (0 : Int32).toInt = 0)).mp c71
                refine lv_iload_n hx hb dX4_product_96 rfl (lv_at hl 6 rfl) ?_
                refine lv_if_eq (tgt := 104) hx hb dX4_product_97 (by decide) (fun c76 => ?_) (fun c76 => ?_)
                · skip
                  have c76 : ask.toInt = 0 := (z_eq rfl (by decide : (0 : Int32).toInt = 0)).mp c76
                  refine lv_iconst (v := 0) hx hb dX4_product_104 (by decide) ?_
                  refine va_put (D := g.1) (ci := 4) (v := .int 0) (ty := .boolean) (C := RX4) (T := TX4) (N := 11) hx hb hg inG4 tyX4 tyX4_ok nmX4 hown hK hP hD hS kg (zw_at (by omega) hs55) rfl 10 (by decide) (hg _ mm_286) (fun _ h9 => h9) rfl (by decide +kernel) rfl rfl (Nat.le_of_ble_eq_true rfl) dX4_product_105 (fun H locs hP hD hS => ?_)
                  have hP : zP g ((zw 126 ad ct47).set kg (ad kg, .inr (4, [.int tld56, .int ofb57, .int hol58, .int flt59, .int fla60, .int ofl61, .ref (ad (kg + 1)), .ref (ad (kg + 2)), .int len62, .int atx63, .int 0]))) H := hP
                  have hD : va_D A ((zw 126 ad ct47).set kg (ad kg, .inr (4, [.int tld56, .int ofb57, .int hol58, .int flt59, .int fla60, .int ofl61, .ref (ad (kg + 1)), .ref (ad (kg + 2)), .int len62, .int atx63, .int 0]))) := hD
                  rw [zw_set (by omega)] at hP hD
                  obtain ⟨ct77, ec78⟩ : ∃ z : Nat → va_E, z = va_up ct47 kg (.inr (4, [.int tld56, .int ofb57, .int hol58, .int flt59, .int fla60, .int ofl61, .ref (ad (kg + 1)), .ref (ad (kg + 2)), .int len62, .int atx63, .int 0])) := ⟨_, rfl⟩
                  rw [← ec78] at hP hD
                  have hI : Inv8 g ad pe ct77 := by rw [ec78]; exact up8 hI (i8_44 (kc := kg) (by omega) ⟨(tld56 : Int32), (ofb57 : Int32), (hol58 : Int32), (flt59 : Int32), (fla60 : Int32), (ofl61 : Int32), (len62 : Int32), (atx63 : Int32), (0 : Int32), hz65, (by first | omega | decide), (by first | omega | decide), (by first | omega | decide), (by first | omega | decide), (Or.inl rfl), rfl⟩)
                  have hs79 : ct77 kg = .inr (4, [.int tld56, .int ofb57, .int hol58, .int flt59, .int fla60, .int ofl61, .ref (ad (kg + 1)), .ref (ad (kg + 2)), .int len62, .int atx63, .int 0]) := by rw [ec78]; exact va_up_self _ _ _
                  refine lv_goto (tgt := 130) hx hb dX4_product_108 (by decide) ?_
                  obtain ⟨x80, ex80⟩ : ∃ y : Int32, y = v4_10 + 1 := ⟨_, rfl⟩
                  have tx80 : x80.toInt = v4_10.toInt + 1 := by rw [ex80]; exact z_add rfl (by decide : (1 : Int32).toInt = 1) (by omega) (by omega)
                  refine lv_iinc (v := x80) (lv' := [(4, .int x80), (6, .int r46), (5, .int r40), (3, .int v3_10), (0, .ref (ad kg)), (1, .int 2), (2, .int ask)]) hx hb dX4_product_130 hl (k := 2) rfl (by rw [ex80]; rfl) (by decide) rfl (fun ls hl => ?_)
                  refine lv_goto (tgt := 10) hx hb dX4_product_133 (by decide) ?_
                  exact ih10 x80 v3_10 ct77 _ _ ls (by omega) (by first | omega | decide) hI hP hD hS (lv_sub hl [0, 3, 4, 5, 6] rfl)
                · skip
                  have c76 : ¬ (ask.toInt = 0) := fun q => c76 ((z_eq rfl (by decide : (0 : Int32).toInt = 0)).mpr q)
                  refine lv_iconst (v := 1) hx hb dX4_product_100 (by decide) ?_
                  refine lv_goto (tgt := 105) hx hb dX4_product_101 (by decide) ?_
                  refine va_put (D := g.1) (ci := 4) (v := .int 1) (ty := .boolean) (C := RX4) (T := TX4) (N := 11) hx hb hg inG4 tyX4 tyX4_ok nmX4 hown hK hP hD hS kg (zw_at (by omega) hs55) rfl 10 (by decide) (hg _ mm_286) (fun _ h9 => h9) rfl (by decide +kernel) rfl rfl (Nat.le_of_ble_eq_true rfl) dX4_product_105 (fun H locs hP hD hS => ?_)
                  have hP : zP g ((zw 126 ad ct47).set kg (ad kg, .inr (4, [.int tld56, .int ofb57, .int hol58, .int flt59, .int fla60, .int ofl61, .ref (ad (kg + 1)), .ref (ad (kg + 2)), .int len62, .int atx63, .int 1]))) H := hP
                  have hD : va_D A ((zw 126 ad ct47).set kg (ad kg, .inr (4, [.int tld56, .int ofb57, .int hol58, .int flt59, .int fla60, .int ofl61, .ref (ad (kg + 1)), .ref (ad (kg + 2)), .int len62, .int atx63, .int 1]))) := hD
                  rw [zw_set (by omega)] at hP hD
                  obtain ⟨ct81, ec82⟩ : ∃ z : Nat → va_E, z = va_up ct47 kg (.inr (4, [.int tld56, .int ofb57, .int hol58, .int flt59, .int fla60, .int ofl61, .ref (ad (kg + 1)), .ref (ad (kg + 2)), .int len62, .int atx63, .int 1])) := ⟨_, rfl⟩
                  rw [← ec82] at hP hD
                  have hI : Inv8 g ad pe ct81 := by rw [ec82]; exact up8 hI (i8_44 (kc := kg) (by omega) ⟨(tld56 : Int32), (ofb57 : Int32), (hol58 : Int32), (flt59 : Int32), (fla60 : Int32), (ofl61 : Int32), (len62 : Int32), (atx63 : Int32), (1 : Int32), hz65, (by first | omega | decide), (by first | omega | decide), (by first | omega | decide), (by first | omega | decide), (Or.inr rfl), rfl⟩)
                  have hs83 : ct81 kg = .inr (4, [.int tld56, .int ofb57, .int hol58, .int flt59, .int fla60, .int ofl61, .ref (ad (kg + 1)), .ref (ad (kg + 2)), .int len62, .int atx63, .int 1]) := by rw [ec82]; exact va_up_self _ _ _
                  refine lv_goto (tgt := 130) hx hb dX4_product_108 (by decide) ?_
                  obtain ⟨x84, ex84⟩ : ∃ y : Int32, y = v4_10 + 1 := ⟨_, rfl⟩
                  have tx84 : x84.toInt = v4_10.toInt + 1 := by rw [ex84]; exact z_add rfl (by decide : (1 : Int32).toInt = 1) (by omega) (by omega)
                  refine lv_iinc (v := x84) (lv' := [(4, .int x84), (6, .int r46), (5, .int r40), (3, .int v3_10), (0, .ref (ad kg)), (1, .int 2), (2, .int ask)]) hx hb dX4_product_130 hl (k := 2) rfl (by rw [ex84]; rfl) (by decide) rfl (fun ls hl => ?_)
                  refine lv_goto (tgt := 10) hx hb dX4_product_133 (by decide) ?_
                  exact ih10 x84 v3_10 ct81 _ _ ls (by omega) (by first | omega | decide) hI hP hD hS (lv_sub hl [0, 3, 4, 5, 6] rfl)
          · skip
            have c48 : r40.toInt = 42 := (z_eq rfl (by decide : (42 : Int32).toInt = 42)).mp c48
            refine lv_iload_n hx hb dX4_product_75 rfl (lv_at hl 3 rfl) ?_
            refine lv_iload hx hb dX4_product_76 (lv_at hl 0 rfl) ?_
            refine lv_imul hx hb dX4_product_78 ?_
            refine lv_topi (fun x85 ex85 => ?_)
            refine lv_istore_n (lv' := [(3, .int x85), (6, .int r46), (5, .int r40), (4, .int v4_10), (0, .ref (ad kg)), (1, .int 2), (2, .int ask)]) hx hb dX4_product_79 rfl hl (by decide) rfl (fun ls hl => ?_)
            refine lv_goto (tgt := 130) hx hb dX4_product_80 (by decide) ?_
            obtain ⟨x86, ex86⟩ : ∃ y : Int32, y = v4_10 + 1 := ⟨_, rfl⟩
            have tx86 : x86.toInt = v4_10.toInt + 1 := by rw [ex86]; exact z_add rfl (by decide : (1 : Int32).toInt = 1) (by omega) (by omega)
            refine lv_iinc (v := x86) (lv' := [(4, .int x86), (3, .int x85), (6, .int r46), (5, .int r40), (0, .ref (ad kg)), (1, .int 2), (2, .int ask)]) hx hb dX4_product_130 hl (k := 3) rfl (by rw [ex86]; rfl) (by decide) rfl (fun ls hl => ?_)
            refine lv_goto (tgt := 10) hx hb dX4_product_133 (by decide) ?_
            exact ih10 x86 x85 ct47 _ _ ls (by omega) (by first | omega | decide) hI hP hD hS (lv_sub hl [0, 1, 4, 5, 6] rfl)
        · skip
          have c39 : ¬ (r37.toInt = 42) := fun q => c39 ((z_eq rfl (by decide : (42 : Int32).toInt = 42)).mpr q)
          refine lv_aload_n hx hb dX4_product_26 rfl (lv_at hl 2 rfl) ?_
          refine zc_i (va_runV (As := []) (rest := []) ⟨hx, hb, hml, hown, hg⟩ (k_X4_next l g ad pe ct19 kg tld22 ofb23 hol24 flt25 fla26 ofl27 len28 atx29 ref30 (by omega) hI hs21) (cwV 0 hg (z_gV mm_475 mm_477 mm_8 mm_114 mm_478) rfl rfl rfl (by decide +kernel) ⟨Nat.le_of_ble_eq_true rfl, Nat.le_of_ble_eq_true rfl⟩) ⟨(zR.pre [.ref (ad kg)] hP hK hN).1, va_recv hK hP (ci := 4) (q0 := kg) rfl (zw_at (by omega) hs21), (zR.pre [.ref (ad kg)] hP hK hN).2⟩ rfl rfl hl.1 rfl (lv_room (Nat.le_of_ble_eq_true rfl)) dX4_product_27 ⟨Nat.le_of_ble_eq_true rfl, Nat.le_of_ble_eq_true rfl⟩) (fun r87 hr87 => ?_)
          have h88 := hr87
          have h88 : r87.toInt = -1 ∨ atx29.toInt ≤ 99 := h88
          refine lv_bipush (v := 47) hx hb dX4_product_30 (by decide) ?_
          refine lv_icmp_eq (tgt := 44) hx hb dX4_product_32 (by decide) (fun c89 => ?_) (fun c89 => ?_)
          · skip
            have c89 : r87.toInt = 47 := (z_eq rfl (by decide : (47 : Int32).toInt = 47)).mp c89
            refine lv_aload_n hx hb dX4_product_44 rfl (lv_at hl 2 rfl) ?_
            refine zc_i (va_runV (As := []) (rest := []) ⟨hx, hb, hml, hown, hg⟩ (k_X4_next l g ad pe ct19 kg tld22 ofb23 hol24 flt25 fla26 ofl27 len28 atx29 ref30 (by omega) hI hs21) (cwV 0 hg (z_gV mm_475 mm_477 mm_8 mm_114 mm_478) rfl rfl rfl (by decide +kernel) ⟨Nat.le_of_ble_eq_true rfl, Nat.le_of_ble_eq_true rfl⟩) ⟨(zR.pre [.ref (ad kg)] hP hK hN).1, va_recv hK hP (ci := 4) (q0 := kg) rfl (zw_at (by omega) hs21), (zR.pre [.ref (ad kg)] hP hK hN).2⟩ rfl rfl hl.1 rfl (lv_room (Nat.le_of_ble_eq_true rfl)) dX4_product_45 ⟨Nat.le_of_ble_eq_true rfl, Nat.le_of_ble_eq_true rfl⟩) (fun r90 hr90 => ?_)
            have h91 := hr90
            have h91 : r90.toInt = -1 ∨ atx29.toInt ≤ 99 := h91
            refine lv_istore (lv' := [(5, .int r90), (4, .int v4_10), (3, .int v3_10), (0, .ref (ad kg)), (1, .int 2), (2, .int ask)]) hx hb dX4_product_48 hl (by decide) rfl (fun ls hl => ?_)
            refine lv_aload_n hx hb dX4_product_50 rfl (lv_at hl 3 rfl) ?_
            refine lv_dup hx hb dX4_product_51 rfl ?_
            refine va_get (D := g.1) (ci := 4) (v := .int atx29) (C := RX4) (T := TX4) (N := 11) hx hb hg inG4 hown hK hP kg (zw_at (by omega) hs21) rfl 9 (by decide) (hg _ mm_285) (fun _ h9 => h9) rfl dX4_product_52 ?_
            refine lv_iconst (v := 1) hx hb dX4_product_55 (by decide) ?_
            refine lv_iadd hx hb dX4_product_56 ?_
            refine lv_topi (fun x92 ex92 => ?_)
            have tx92 : x92.toInt = atx29.toInt + 1 := by rw [ex92]; exact z_add rfl (by decide : (1 : Int32).toInt = 1) (by omega) (by omega)
            refine va_put (D := g.1) (ci := 4) (v := .int x92) (ty := .int) (C := RX4) (T := TX4) (N := 11) hx hb hg inG4 tyX4 tyX4_ok nmX4 hown hK hP hD hS kg (zw_at (by omega) hs21) rfl 9 (by decide) (hg _ mm_285) (fun _ h9 => h9) rfl (by decide +kernel) rfl rfl (Nat.le_of_ble_eq_true rfl) dX4_product_57 (fun H locs hP hD hS => ?_)
            have hP : zP g ((zw 126 ad ct19).set kg (ad kg, .inr (4, [.int tld22, .int ofb23, .int hol24, .int flt25, .int fla26, .int ofl27, .ref (ad (kg + 1)), .ref (ad (kg + 2)), .int len28, .int x92, .int ref30]))) H := hP
            have hD : va_D A ((zw 126 ad ct19).set kg (ad kg, .inr (4, [.int tld22, .int ofb23, .int hol24, .int flt25, .int fla26, .int ofl27, .ref (ad (kg + 1)), .ref (ad (kg + 2)), .int len28, .int x92, .int ref30]))) := hD
            rw [zw_set (by omega)] at hP hD
            obtain ⟨ct93, ec94⟩ : ∃ z : Nat → va_E, z = va_up ct19 kg (.inr (4, [.int tld22, .int ofb23, .int hol24, .int flt25, .int fla26, .int ofl27, .ref (ad (kg + 1)), .ref (ad (kg + 2)), .int len28, .int x92, .int ref30])) := ⟨_, rfl⟩
            rw [← ec94] at hP hD
            have hI : Inv8 g ad pe ct93 := by rw [ec94]; exact up8 hI (i8_44 (kc := kg) (by omega) ⟨(tld22 : Int32), (ofb23 : Int32), (hol24 : Int32), (flt25 : Int32), (fla26 : Int32), (ofl27 : Int32), (len28 : Int32), (x92 : Int32), (ref30 : Int32), hz31, (by first | omega | decide), (by first | omega | decide), (by first | omega | decide), (by first | omega | decide), hz36, rfl⟩)
            have hs95 : ct93 kg = .inr (4, [.int tld22, .int ofb23, .int hol24, .int flt25, .int fla26, .int ofl27, .ref (ad (kg + 1)), .ref (ad (kg + 2)), .int len28, .int x92, .int ref30]) := by rw [ec94]; exact va_up_self _ _ _
            refine lv_aload_n hx hb dX4_product_60 rfl (lv_at hl 3 rfl) ?_
            refine lv_iload_n hx hb dX4_product_61 rfl (lv_at hl 4 rfl) ?_
            refine lv_iload_n hx hb dX4_product_62 rfl (lv_at hl 5 rfl) ?_
            have hFc := zw_free hD hS hA
            refine va_calli (va_runV (As := [.int 2, .int ask]) (rest := []) ⟨hx, hb, hml, hown, hg⟩ (k_X4_factor_2 l g _ ad pe ct93 kg ask (by omega) hI) (cwV 2 hg (z_gV mm_499 mm_501 mm_14 mm_114 mm_502) rfl rfl rfl (by decide +kernel) ⟨Nat.le_of_ble_eq_true rfl, Nat.le_of_ble_eq_true rfl⟩) ⟨(zA.pre [.ref (ad kg), .int 2, .int ask] hP hK hD hN).1, va_recv hK hP (ci := 4) (q0 := kg) rfl (zw_at (by omega) hs95), (zA.pre [.ref (ad kg), .int 2, .int ask] hP hK hD hN).2⟩ rfl rfl hl.1 rfl (lv_room (Nat.le_of_ble_eq_true rfl)) dX4_product_63 ⟨Nat.le_of_ble_eq_true rfl, Nat.le_of_ble_eq_true rfl⟩) hS (fun q _ h => hFc q h) hFc (fun r96 _ t H1 locs ht hvm hr96 hB hz1 hk1 hS => ?_)
            obtain ⟨ct97, hP1, hD1, hI⟩ := hB
            rw [ht] at hP1
            have hD := hD1.weaken (fun _ _ _ h => hFc _ h)
            generalize H1 = H at hP1 hS ⊢
            have hP := hP1
            refine W.widen (k := 0) (n := 0) (Nat.le_refl _) (Nat.le_refl _) ?_
            refine lv_istore (lv' := [(6, .int r96), (5, .int r90), (4, .int v4_10), (3, .int v3_10), (0, .ref (ad kg)), (1, .int 2), (2, .int ask)]) hx hb dX4_product_66 hl (by decide) rfl (fun ls hl => ?_)
            refine lv_iload hx hb dX4_product_68 (lv_at hl 1 rfl) ?_
            refine lv_bipush (v := 42) hx hb dX4_product_70 (by decide) ?_
            refine lv_icmp_ne (tgt := 83) hx hb dX4_product_72 (by decide) (fun c98 => ?_) (fun c98 => ?_)
            · skip
              have c98 : ¬ (r90.toInt = 42) := fun q => c98 ((z_eq rfl (by decide : (42 : Int32).toInt = 42)).mpr q)
              refine lv_iload hx hb dX4_product_83 (lv_at hl 0 rfl) ?_
              refine lv_if_ne (tgt := 111) hx hb dX4_product_85 (by decide) (fun c99 => ?_) (fun c99 => ?_)
              · skip
                have c99 : ¬ (r96.toInt = 0) := fun q => c99 ((z_eq rfl (by decide : (0 : Int32).toInt = 0)).mpr q)
                refine lv_iload hx hb dX4_product_111 (lv_at hl 1 rfl) ?_
                refine lv_bipush (v := 47) hx hb dX4_product_113 (by decide) ?_
                refine lv_icmp_ne (tgt := 125) hx hb dX4_product_115 (by decide) (fun c100 => ?_) (fun c100 => ?_)
                · skip
                  have c100 : ¬ (r90.toInt = 47) := fun q => c100 ((z_eq rfl (by decide : (47 : Int32).toInt = 47)).mpr q)
                  refine lv_iload_n hx hb dX4_product_125 rfl (lv_at hl 3 rfl) ?_
                  refine lv_iload hx hb dX4_product_126 (lv_at hl 0 rfl) ?_
                  refine lv_irem hx hb dX4_product_128 (z_nz (by omega)) ?_
                  refine lv_topi (fun x101 ex101 => ?_)
                  refine lv_istore_n (lv' := [(3, .int x101), (6, .int r96), (5, .int r90), (4, .int v4_10), (0, .ref (ad kg)), (1, .int 2), (2, .int ask)]) hx hb dX4_product_129 rfl hl (by decide) rfl (fun ls hl => ?_)
                  obtain ⟨x102, ex102⟩ : ∃ y : Int32, y = v4_10 + 1 := ⟨_, rfl⟩
                  have tx102 : x102.toInt = v4_10.toInt + 1 := by rw [ex102]; exact z_add rfl (by decide : (1 : Int32).toInt = 1) (by omega) (by omega)
                  refine lv_iinc (v := x102) (lv' := [(4, .int x102), (3, .int x101), (6, .int r96), (5, .int r90), (0, .ref (ad kg)), (1, .int 2), (2, .int ask)]) hx hb dX4_product_130 hl (k := 3) rfl (by rw [ex102]; rfl) (by decide) rfl (fun ls hl => ?_)
                  refine lv_goto (tgt := 10) hx hb dX4_product_133 (by decide) ?_
                  exact ih10 x102 x101 ct97 _ _ ls (by omega) (by first | omega | decide) hI hP hD hS (lv_sub hl [0, 1, 4, 5, 6] rfl)
                · skip
                  have c100 : r90.toInt = 47 := (z_eq rfl (by decide : (47 : Int32).toInt = 47)).mp c100
                  refine lv_iload_n hx hb dX4_product_118 rfl (lv_at hl 3 rfl) ?_
                  refine lv_iload hx hb dX4_product_119 (lv_at hl 0 rfl) ?_
                  refine lv_idiv hx hb dX4_product_121 (z_nz (by omega)) ?_
                  refine lv_topi (fun x103 ex103 => ?_)
                  refine lv_goto (tgt := 129) hx hb dX4_product_122 (by decide) ?_
                  refine lv_istore_n (lv' := [(3, .int x103), (6, .int r96), (5, .int r90), (4, .int v4_10), (0, .ref (ad kg)), (1, .int 2), (2, .int ask)]) hx hb dX4_product_129 rfl hl (by decide) rfl (fun ls hl => ?_)
                  obtain ⟨x104, ex104⟩ : ∃ y : Int32, y = v4_10 + 1 := ⟨_, rfl⟩
                  have tx104 : x104.toInt = v4_10.toInt + 1 := by rw [ex104]; exact z_add rfl (by decide : (1 : Int32).toInt = 1) (by omega) (by omega)
                  refine lv_iinc (v := x104) (lv' := [(4, .int x104), (3, .int x103), (6, .int r96), (5, .int r90), (0, .ref (ad kg)), (1, .int 2), (2, .int ask)]) hx hb dX4_product_130 hl (k := 3) rfl (by rw [ex104]; rfl) (by decide) rfl (fun ls hl => ?_)
                  refine lv_goto (tgt := 10) hx hb dX4_product_133 (by decide) ?_
                  exact ih10 x104 x103 ct97 _ _ ls (by omega) (by first | omega | decide) hI hP hD hS (lv_sub hl [0, 1, 4, 5, 6] rfl)
              · skip
                have c99 : r96.toInt = 0 := (z_eq rfl (by decide : (0 : Int32).toInt = 0)).mp c99
                refine lv_aload_n hx hb dX4_product_88 rfl (lv_at hl 4 rfl) ?_
                refine lv_aload_n hx hb dX4_product_89 rfl (lv_at hl 4 rfl) ?_
                obtain ⟨tld106, ofb107, hol108, flt109, fla110, ofl111, len112, atx113, ref114, hz115, h116, h117, h118, h119, hz120, hs105⟩ := a8_44 (kc := kg) (by omega) hI
                have bhz115 := z_b01 hz115
                have bhz120 := z_b01 hz120
                refine va_get (D := g.1) (ci := 4) (v := .int ref114) (C := RX4) (T := TX4) (N := 11) hx hb hg inG4 hown hK hP kg (zw_at (by omega) hs105) rfl 10 (by decide) (hg _ mm_286) (fun _ h9 => h9) rfl dX4_product_90 ?_
                refine lv_if_ne (tgt := 100) hx hb dX4_product_93 (by decide) (fun c121 => ?_) (fun c121 => ?_)
                · skip
                  have c121 : ¬ (ref114.toInt = 0) := fun q => c121 ((z_eq rfl (by decide : (0 : Int32).toInt = 0)).mpr q)
                  refine lv_iconst (v := 1) hx hb dX4_product_100 (by decide) ?_
                  refine lv_goto (tgt := 105) hx hb dX4_product_101 (by decide) ?_
                  refine va_put (D := g.1) (ci := 4) (v := .int 1) (ty := .boolean) (C := RX4) (T := TX4) (N := 11) hx hb hg inG4 tyX4 tyX4_ok nmX4 hown hK hP hD hS kg (zw_at (by omega) hs105) rfl 10 (by decide) (hg _ mm_286) (fun _ h9 => h9) rfl (by decide +kernel) rfl rfl (Nat.le_of_ble_eq_true rfl) dX4_product_105 (fun H locs hP hD hS => ?_)
                  have hP : zP g ((zw 126 ad ct97).set kg (ad kg, .inr (4, [.int tld106, .int ofb107, .int hol108, .int flt109, .int fla110, .int ofl111, .ref (ad (kg + 1)), .ref (ad (kg + 2)), .int len112, .int atx113, .int 1]))) H := hP
                  have hD : va_D A ((zw 126 ad ct97).set kg (ad kg, .inr (4, [.int tld106, .int ofb107, .int hol108, .int flt109, .int fla110, .int ofl111, .ref (ad (kg + 1)), .ref (ad (kg + 2)), .int len112, .int atx113, .int 1]))) := hD
                  rw [zw_set (by omega)] at hP hD
                  obtain ⟨ct122, ec123⟩ : ∃ z : Nat → va_E, z = va_up ct97 kg (.inr (4, [.int tld106, .int ofb107, .int hol108, .int flt109, .int fla110, .int ofl111, .ref (ad (kg + 1)), .ref (ad (kg + 2)), .int len112, .int atx113, .int 1])) := ⟨_, rfl⟩
                  rw [← ec123] at hP hD
                  have hI : Inv8 g ad pe ct122 := by rw [ec123]; exact up8 hI (i8_44 (kc := kg) (by omega) ⟨(tld106 : Int32), (ofb107 : Int32), (hol108 : Int32), (flt109 : Int32), (fla110 : Int32), (ofl111 : Int32), (len112 : Int32), (atx113 : Int32), (1 : Int32), hz115, (by first | omega | decide), (by first | omega | decide), (by first | omega | decide), (by first | omega | decide), (Or.inr rfl), rfl⟩)
                  have hs124 : ct122 kg = .inr (4, [.int tld106, .int ofb107, .int hol108, .int flt109, .int fla110, .int ofl111, .ref (ad (kg + 1)), .ref (ad (kg + 2)), .int len112, .int atx113, .int 1]) := by rw [ec123]; exact va_up_self _ _ _
                  refine lv_goto (tgt := 130) hx hb dX4_product_108 (by decide) ?_
                  obtain ⟨x125, ex125⟩ : ∃ y : Int32, y = v4_10 + 1 := ⟨_, rfl⟩
                  have tx125 : x125.toInt = v4_10.toInt + 1 := by rw [ex125]; exact z_add rfl (by decide : (1 : Int32).toInt = 1) (by omega) (by omega)
                  refine lv_iinc (v := x125) (lv' := [(4, .int x125), (6, .int r96), (5, .int r90), (3, .int v3_10), (0, .ref (ad kg)), (1, .int 2), (2, .int ask)]) hx hb dX4_product_130 hl (k := 2) rfl (by rw [ex125]; rfl) (by decide) rfl (fun ls hl => ?_)
                  refine lv_goto (tgt := 10) hx hb dX4_product_133 (by decide) ?_
                  exact ih10 x125 v3_10 ct122 _ _ ls (by omega) (by first | omega | decide) hI hP hD hS (lv_sub hl [0, 3, 4, 5, 6] rfl)
                · skip
                  have c121 : ref114.toInt = 0 := (z_eq rfl (by decide : (0 : Int32).toInt = 0)).mp c121
                  refine lv_iload_n hx hb dX4_product_96 rfl (lv_at hl 6 rfl) ?_
                  refine lv_if_eq (tgt := 104) hx hb dX4_product_97 (by decide) (fun c126 => ?_) (fun c126 => ?_)
                  · skip
                    have c126 : ask.toInt = 0 := (z_eq rfl (by decide : (0 : Int32).toInt = 0)).mp c126
                    refine lv_iconst (v := 0) hx hb dX4_product_104 (by decide) ?_
                    refine va_put (D := g.1) (ci := 4) (v := .int 0) (ty := .boolean) (C := RX4) (T := TX4) (N := 11) hx hb hg inG4 tyX4 tyX4_ok nmX4 hown hK hP hD hS kg (zw_at (by omega) hs105) rfl 10 (by decide) (hg _ mm_286) (fun _ h9 => h9) rfl (by decide +kernel) rfl rfl (Nat.le_of_ble_eq_true rfl) dX4_product_105 (fun H locs hP hD hS => ?_)
                    have hP : zP g ((zw 126 ad ct97).set kg (ad kg, .inr (4, [.int tld106, .int ofb107, .int hol108, .int flt109, .int fla110, .int ofl111, .ref (ad (kg + 1)), .ref (ad (kg + 2)), .int len112, .int atx113, .int 0]))) H := hP
                    have hD : va_D A ((zw 126 ad ct97).set kg (ad kg, .inr (4, [.int tld106, .int ofb107, .int hol108, .int flt109, .int fla110, .int ofl111, .ref (ad (kg + 1)), .ref (ad (kg + 2)), .int len112, .int atx113, .int 0]))) := hD
                    rw [zw_set (by omega)] at hP hD
                    obtain ⟨ct127, ec128⟩ : ∃ z : Nat → va_E, z = va_up ct97 kg (.inr (4, [.int tld106, .int ofb107, .int hol108, .int flt109, .int fla110, .int ofl111, .ref (ad (kg + 1)), .ref (ad (kg + 2)), .int len112, .int atx113, .int 0])) := ⟨_, rfl⟩
                    rw [← ec128] at hP hD
                    have hI : Inv8 g ad pe ct127 := by rw [ec128]; exact up8 hI (i8_44 (kc := kg) (by omega) ⟨(tld106 : Int32), (ofb107 : Int32), (hol108 : Int32), (flt109 : Int32), (fla110 : Int32), (ofl111 : Int32), (len112 : Int32), (atx113 : Int32), (0 : Int32), hz115, (by first | omega | decide), (by first | omega | decide), (by first | omega | decide), (by first | omega | decide), (Or.inl rfl), rfl⟩)
                    have hs129 : ct127 kg = .inr (4, [.int tld106, .int ofb107, .int hol108, .int flt109, .int fla110, .int ofl111, .ref (ad (kg + 1)), .ref (ad (kg + 2)), .int len112, .int atx113, .int 0]) := by rw [ec128]; exact va_up_self _ _ _
                    refine lv_goto (tgt := 130) hx hb dX4_product_108 (by decide) ?_
                    obtain ⟨x130, ex130⟩ : ∃ y : Int32, y = v4_10 + 1 := ⟨_, rfl⟩
                    have tx130 : x130.toInt = v4_10.toInt + 1 := by rw [ex130]; exact z_add rfl (by decide : (1 : Int32).toInt = 1) (by omega) (by omega)
                    refine lv_iinc (v := x130) (lv' := [(4, .int x130), (6, .int r96), (5, .int r90), (3, .int v3_10), (0, .ref (ad kg)), (1, .int 2), (2, .int ask)]) hx hb dX4_product_130 hl (k := 2) rfl (by rw [ex130]; rfl) (by decide) rfl (fun ls hl => ?_)
                    refine lv_goto (tgt := 10) hx hb dX4_product_133 (by decide) ?_
                    exact ih10 x130 v3_10 ct127 _ _ ls (by omega) (by first | omega | decide) hI hP hD hS (lv_sub hl [0, 3, 4, 5, 6] rfl)
                  · skip
                    have c126 : ¬ (ask.toInt = 0) := fun q => c126 ((z_eq rfl (by decide : (0 : Int32).toInt = 0)).mpr q)
                    refine lv_iconst (v := 1) hx hb dX4_product_100 (by decide) ?_
                    refine lv_goto (tgt := 105) hx hb dX4_product_101 (by decide) ?_
                    refine va_put (D := g.1) (ci := 4) (v := .int 1) (ty := .boolean) (C := RX4) (T := TX4) (N := 11) hx hb hg inG4 tyX4 tyX4_ok nmX4 hown hK hP hD hS kg (zw_at (by omega) hs105) rfl 10 (by decide) (hg _ mm_286) (fun _ h9 => h9) rfl (by decide +kernel) rfl rfl (Nat.le_of_ble_eq_true rfl) dX4_product_105 (fun H locs hP hD hS => ?_)
                    have hP : zP g ((zw 126 ad ct97).set kg (ad kg, .inr (4, [.int tld106, .int ofb107, .int hol108, .int flt109, .int fla110, .int ofl111, .ref (ad (kg + 1)), .ref (ad (kg + 2)), .int len112, .int atx113, .int 1]))) H := hP
                    have hD : va_D A ((zw 126 ad ct97).set kg (ad kg, .inr (4, [.int tld106, .int ofb107, .int hol108, .int flt109, .int fla110, .int ofl111, .ref (ad (kg + 1)), .ref (ad (kg + 2)), .int len112, .int atx113, .int 1]))) := hD
                    rw [zw_set (by omega)] at hP hD
                    obtain ⟨ct131, ec132⟩ : ∃ z : Nat → va_E, z = va_up ct97 kg (.inr (4, [.int tld106, .int ofb107, .int hol108, .int flt109, .int fla110, .int ofl111, .ref (ad (kg + 1)), .ref (ad (kg + 2)), .int len112, .int atx113, .int 1])) := ⟨_, rfl⟩
                    rw [← ec132] at hP hD
                    have hI : Inv8 g ad pe ct131 := by rw [ec132]; exact up8 hI (i8_44 (kc := kg) (by omega) ⟨(tld106 : Int32), (ofb107 : Int32), (hol108 : Int32), (flt109 : Int32), (fla110 : Int32), (ofl111 : Int32), (len112 : Int32), (atx113 : Int32), (1 : Int32), hz115, (by first | omega | decide), (by first | omega | decide), (by first | omega | decide), (by first | omega | decide), (Or.inr rfl), rfl⟩)
                    have hs133 : ct131 kg = .inr (4, [.int tld106, .int ofb107, .int hol108, .int flt109, .int fla110, .int ofl111, .ref (ad (kg + 1)), .ref (ad (kg + 2)), .int len112, .int atx113, .int 1]) := by rw [ec132]; exact va_up_self _ _ _
                    refine lv_goto (tgt := 130) hx hb dX4_product_108 (by decide) ?_
                    obtain ⟨x134, ex134⟩ : ∃ y : Int32, y = v4_10 + 1 := ⟨_, rfl⟩
                    have tx134 : x134.toInt = v4_10.toInt + 1 := by rw [ex134]; exact z_add rfl (by decide : (1 : Int32).toInt = 1) (by omega) (by omega)
                    refine lv_iinc (v := x134) (lv' := [(4, .int x134), (6, .int r96), (5, .int r90), (3, .int v3_10), (0, .ref (ad kg)), (1, .int 2), (2, .int ask)]) hx hb dX4_product_130 hl (k := 2) rfl (by rw [ex134]; rfl) (by decide) rfl (fun ls hl => ?_)
                    refine lv_goto (tgt := 10) hx hb dX4_product_133 (by decide) ?_
                    exact ih10 x134 v3_10 ct131 _ _ ls (by omega) (by first | omega | decide) hI hP hD hS (lv_sub hl [0, 3, 4, 5, 6] rfl)
            · skip
              have c98 : r90.toInt = 42 := (z_eq rfl (by decide : (42 : Int32).toInt = 42)).mp c98
              refine lv_iload_n hx hb dX4_product_75 rfl (lv_at hl 3 rfl) ?_
              refine lv_iload hx hb dX4_product_76 (lv_at hl 0 rfl) ?_
              refine lv_imul hx hb dX4_product_78 ?_
              refine lv_topi (fun x135 ex135 => ?_)
              refine lv_istore_n (lv' := [(3, .int x135), (6, .int r96), (5, .int r90), (4, .int v4_10), (0, .ref (ad kg)), (1, .int 2), (2, .int ask)]) hx hb dX4_product_79 rfl hl (by decide) rfl (fun ls hl => ?_)
              refine lv_goto (tgt := 130) hx hb dX4_product_80 (by decide) ?_
              obtain ⟨x136, ex136⟩ : ∃ y : Int32, y = v4_10 + 1 := ⟨_, rfl⟩
              have tx136 : x136.toInt = v4_10.toInt + 1 := by rw [ex136]; exact z_add rfl (by decide : (1 : Int32).toInt = 1) (by omega) (by omega)
              refine lv_iinc (v := x136) (lv' := [(4, .int x136), (3, .int x135), (6, .int r96), (5, .int r90), (0, .ref (ad kg)), (1, .int 2), (2, .int ask)]) hx hb dX4_product_130 hl (k := 3) rfl (by rw [ex136]; rfl) (by decide) rfl (fun ls hl => ?_)
              refine lv_goto (tgt := 10) hx hb dX4_product_133 (by decide) ?_
              exact ih10 x136 x135 ct97 _ _ ls (by omega) (by first | omega | decide) hI hP hD hS (lv_sub hl [0, 1, 4, 5, 6] rfl)
          · skip
            have c89 : ¬ (r87.toInt = 47) := fun q => c89 ((z_eq rfl (by decide : (47 : Int32).toInt = 47)).mpr q)
            refine lv_aload_n hx hb dX4_product_35 rfl (lv_at hl 2 rfl) ?_
            refine zc_i (va_runV (As := []) (rest := []) ⟨hx, hb, hml, hown, hg⟩ (k_X4_next l g ad pe ct19 kg tld22 ofb23 hol24 flt25 fla26 ofl27 len28 atx29 ref30 (by omega) hI hs21) (cwV 0 hg (z_gV mm_475 mm_477 mm_8 mm_114 mm_478) rfl rfl rfl (by decide +kernel) ⟨Nat.le_of_ble_eq_true rfl, Nat.le_of_ble_eq_true rfl⟩) ⟨(zR.pre [.ref (ad kg)] hP hK hN).1, va_recv hK hP (ci := 4) (q0 := kg) rfl (zw_at (by omega) hs21), (zR.pre [.ref (ad kg)] hP hK hN).2⟩ rfl rfl hl.1 rfl (lv_room (Nat.le_of_ble_eq_true rfl)) dX4_product_36 ⟨Nat.le_of_ble_eq_true rfl, Nat.le_of_ble_eq_true rfl⟩) (fun r137 hr137 => ?_)
            have h138 := hr137
            have h138 : r137.toInt = -1 ∨ atx29.toInt ≤ 99 := h138
            refine lv_bipush (v := 37) hx hb dX4_product_39 (by decide) ?_
            refine lv_icmp_ne (tgt := 136) hx hb dX4_product_41 (by decide) (fun c139 => ?_) (fun c139 => ?_)
            · skip
              have c139 : ¬ (r137.toInt = 37) := fun q => c139 ((z_eq rfl (by decide : (37 : Int32).toInt = 37)).mpr q)
              refine lv_iload_n hx hb dX4_product_136 rfl (lv_at hl 1 rfl) ?_
              exact W.iret (v := v3_10) hx hb hr (fun t ht hW => ⟨⟨v3_10, (), rfl, trivial, ct19, by rw [ht]; exact hP, hD, hI⟩, hS.F ht⟩) hS.2.2 dX4_product_137
            · skip
              have c139 : r137.toInt = 37 := (z_eq rfl (by decide : (37 : Int32).toInt = 37)).mp c139
              refine lv_aload_n hx hb dX4_product_44 rfl (lv_at hl 2 rfl) ?_
              refine zc_i (va_runV (As := []) (rest := []) ⟨hx, hb, hml, hown, hg⟩ (k_X4_next l g ad pe ct19 kg tld22 ofb23 hol24 flt25 fla26 ofl27 len28 atx29 ref30 (by omega) hI hs21) (cwV 0 hg (z_gV mm_475 mm_477 mm_8 mm_114 mm_478) rfl rfl rfl (by decide +kernel) ⟨Nat.le_of_ble_eq_true rfl, Nat.le_of_ble_eq_true rfl⟩) ⟨(zR.pre [.ref (ad kg)] hP hK hN).1, va_recv hK hP (ci := 4) (q0 := kg) rfl (zw_at (by omega) hs21), (zR.pre [.ref (ad kg)] hP hK hN).2⟩ rfl rfl hl.1 rfl (lv_room (Nat.le_of_ble_eq_true rfl)) dX4_product_45 ⟨Nat.le_of_ble_eq_true rfl, Nat.le_of_ble_eq_true rfl⟩) (fun r140 hr140 => ?_)
              have h141 := hr140
              have h141 : r140.toInt = -1 ∨ atx29.toInt ≤ 99 := h141
              refine lv_istore (lv' := [(5, .int r140), (4, .int v4_10), (3, .int v3_10), (0, .ref (ad kg)), (1, .int 2), (2, .int ask)]) hx hb dX4_product_48 hl (by decide) rfl (fun ls hl => ?_)
              refine lv_aload_n hx hb dX4_product_50 rfl (lv_at hl 3 rfl) ?_
              refine lv_dup hx hb dX4_product_51 rfl ?_
              refine va_get (D := g.1) (ci := 4) (v := .int atx29) (C := RX4) (T := TX4) (N := 11) hx hb hg inG4 hown hK hP kg (zw_at (by omega) hs21) rfl 9 (by decide) (hg _ mm_285) (fun _ h9 => h9) rfl dX4_product_52 ?_
              refine lv_iconst (v := 1) hx hb dX4_product_55 (by decide) ?_
              refine lv_iadd hx hb dX4_product_56 ?_
              refine lv_topi (fun x142 ex142 => ?_)
              have tx142 : x142.toInt = atx29.toInt + 1 := by rw [ex142]; exact z_add rfl (by decide : (1 : Int32).toInt = 1) (by omega) (by omega)
              refine va_put (D := g.1) (ci := 4) (v := .int x142) (ty := .int) (C := RX4) (T := TX4) (N := 11) hx hb hg inG4 tyX4 tyX4_ok nmX4 hown hK hP hD hS kg (zw_at (by omega) hs21) rfl 9 (by decide) (hg _ mm_285) (fun _ h9 => h9) rfl (by decide +kernel) rfl rfl (Nat.le_of_ble_eq_true rfl) dX4_product_57 (fun H locs hP hD hS => ?_)
              have hP : zP g ((zw 126 ad ct19).set kg (ad kg, .inr (4, [.int tld22, .int ofb23, .int hol24, .int flt25, .int fla26, .int ofl27, .ref (ad (kg + 1)), .ref (ad (kg + 2)), .int len28, .int x142, .int ref30]))) H := hP
              have hD : va_D A ((zw 126 ad ct19).set kg (ad kg, .inr (4, [.int tld22, .int ofb23, .int hol24, .int flt25, .int fla26, .int ofl27, .ref (ad (kg + 1)), .ref (ad (kg + 2)), .int len28, .int x142, .int ref30]))) := hD
              rw [zw_set (by omega)] at hP hD
              obtain ⟨ct143, ec144⟩ : ∃ z : Nat → va_E, z = va_up ct19 kg (.inr (4, [.int tld22, .int ofb23, .int hol24, .int flt25, .int fla26, .int ofl27, .ref (ad (kg + 1)), .ref (ad (kg + 2)), .int len28, .int x142, .int ref30])) := ⟨_, rfl⟩
              rw [← ec144] at hP hD
              have hI : Inv8 g ad pe ct143 := by rw [ec144]; exact up8 hI (i8_44 (kc := kg) (by omega) ⟨(tld22 : Int32), (ofb23 : Int32), (hol24 : Int32), (flt25 : Int32), (fla26 : Int32), (ofl27 : Int32), (len28 : Int32), (x142 : Int32), (ref30 : Int32), hz31, (by first | omega | decide), (by first | omega | decide), (by first | omega | decide), (by first | omega | decide), hz36, rfl⟩)
              have hs145 : ct143 kg = .inr (4, [.int tld22, .int ofb23, .int hol24, .int flt25, .int fla26, .int ofl27, .ref (ad (kg + 1)), .ref (ad (kg + 2)), .int len28, .int x142, .int ref30]) := by rw [ec144]; exact va_up_self _ _ _
              refine lv_aload_n hx hb dX4_product_60 rfl (lv_at hl 3 rfl) ?_
              refine lv_iload_n hx hb dX4_product_61 rfl (lv_at hl 4 rfl) ?_
              refine lv_iload_n hx hb dX4_product_62 rfl (lv_at hl 5 rfl) ?_
              have hFc := zw_free hD hS hA
              refine va_calli (va_runV (As := [.int 2, .int ask]) (rest := []) ⟨hx, hb, hml, hown, hg⟩ (k_X4_factor_2 l g _ ad pe ct143 kg ask (by omega) hI) (cwV 2 hg (z_gV mm_499 mm_501 mm_14 mm_114 mm_502) rfl rfl rfl (by decide +kernel) ⟨Nat.le_of_ble_eq_true rfl, Nat.le_of_ble_eq_true rfl⟩) ⟨(zA.pre [.ref (ad kg), .int 2, .int ask] hP hK hD hN).1, va_recv hK hP (ci := 4) (q0 := kg) rfl (zw_at (by omega) hs145), (zA.pre [.ref (ad kg), .int 2, .int ask] hP hK hD hN).2⟩ rfl rfl hl.1 rfl (lv_room (Nat.le_of_ble_eq_true rfl)) dX4_product_63 ⟨Nat.le_of_ble_eq_true rfl, Nat.le_of_ble_eq_true rfl⟩) hS (fun q _ h => hFc q h) hFc (fun r146 _ t H1 locs ht hvm hr146 hB hz1 hk1 hS => ?_)
              obtain ⟨ct147, hP1, hD1, hI⟩ := hB
              rw [ht] at hP1
              have hD := hD1.weaken (fun _ _ _ h => hFc _ h)
              generalize H1 = H at hP1 hS ⊢
              have hP := hP1
              refine W.widen (k := 0) (n := 0) (Nat.le_refl _) (Nat.le_refl _) ?_
              refine lv_istore (lv' := [(6, .int r146), (5, .int r140), (4, .int v4_10), (3, .int v3_10), (0, .ref (ad kg)), (1, .int 2), (2, .int ask)]) hx hb dX4_product_66 hl (by decide) rfl (fun ls hl => ?_)
              refine lv_iload hx hb dX4_product_68 (lv_at hl 1 rfl) ?_
              refine lv_bipush (v := 42) hx hb dX4_product_70 (by decide) ?_
              refine lv_icmp_ne (tgt := 83) hx hb dX4_product_72 (by decide) (fun c148 => ?_) (fun c148 => ?_)
              · skip
                have c148 : ¬ (r140.toInt = 42) := fun q => c148 ((z_eq rfl (by decide : (42 : Int32).toInt = 42)).mpr q)
                refine lv_iload hx hb dX4_product_83 (lv_at hl 0 rfl) ?_
                refine lv_if_ne (tgt := 111) hx hb dX4_product_85 (by decide) (fun c149 => ?_) (fun c149 => ?_)
                · skip
                  have c149 : ¬ (r146.toInt = 0) := fun q => c149 ((z_eq rfl (by decide : (0 : Int32).toInt = 0)).mpr q)
                  refine lv_iload hx hb dX4_product_111 (lv_at hl 1 rfl) ?_
                  refine lv_bipush (v := 47) hx hb dX4_product_113 (by decide) ?_
                  refine lv_icmp_ne (tgt := 125) hx hb dX4_product_115 (by decide) (fun c150 => ?_) (fun c150 => ?_)
                  · skip
                    have c150 : ¬ (r140.toInt = 47) := fun q => c150 ((z_eq rfl (by decide : (47 : Int32).toInt = 47)).mpr q)
                    refine lv_iload_n hx hb dX4_product_125 rfl (lv_at hl 3 rfl) ?_
                    refine lv_iload hx hb dX4_product_126 (lv_at hl 0 rfl) ?_
                    refine lv_irem hx hb dX4_product_128 (z_nz (by omega)) ?_
                    refine lv_topi (fun x151 ex151 => ?_)
                    refine lv_istore_n (lv' := [(3, .int x151), (6, .int r146), (5, .int r140), (4, .int v4_10), (0, .ref (ad kg)), (1, .int 2), (2, .int ask)]) hx hb dX4_product_129 rfl hl (by decide) rfl (fun ls hl => ?_)
                    obtain ⟨x152, ex152⟩ : ∃ y : Int32, y = v4_10 + 1 := ⟨_, rfl⟩
                    have tx152 : x152.toInt = v4_10.toInt + 1 := by rw [ex152]; exact z_add rfl (by decide : (1 : Int32).toInt = 1) (by omega) (by omega)
                    refine lv_iinc (v := x152) (lv' := [(4, .int x152), (3, .int x151), (6, .int r146), (5, .int r140), (0, .ref (ad kg)), (1, .int 2), (2, .int ask)]) hx hb dX4_product_130 hl (k := 3) rfl (by rw [ex152]; rfl) (by decide) rfl (fun ls hl => ?_)
                    refine lv_goto (tgt := 10) hx hb dX4_product_133 (by decide) ?_
                    exact ih10 x152 x151 ct147 _ _ ls (by omega) (by first | omega | decide) hI hP hD hS (lv_sub hl [0, 1, 4, 5, 6] rfl)
                  · skip
                    have c150 : r140.toInt = 47 := (z_eq rfl (by decide : (47 : Int32).toInt = 47)).mp c150
                    refine lv_iload_n hx hb dX4_product_118 rfl (lv_at hl 3 rfl) ?_
                    refine lv_iload hx hb dX4_product_119 (lv_at hl 0 rfl) ?_
                    refine lv_idiv hx hb dX4_product_121 (z_nz (by omega)) ?_
                    refine lv_topi (fun x153 ex153 => ?_)
                    refine lv_goto (tgt := 129) hx hb dX4_product_122 (by decide) ?_
                    refine lv_istore_n (lv' := [(3, .int x153), (6, .int r146), (5, .int r140), (4, .int v4_10), (0, .ref (ad kg)), (1, .int 2), (2, .int ask)]) hx hb dX4_product_129 rfl hl (by decide) rfl (fun ls hl => ?_)
                    obtain ⟨x154, ex154⟩ : ∃ y : Int32, y = v4_10 + 1 := ⟨_, rfl⟩
                    have tx154 : x154.toInt = v4_10.toInt + 1 := by rw [ex154]; exact z_add rfl (by decide : (1 : Int32).toInt = 1) (by omega) (by omega)
                    refine lv_iinc (v := x154) (lv' := [(4, .int x154), (3, .int x153), (6, .int r146), (5, .int r140), (0, .ref (ad kg)), (1, .int 2), (2, .int ask)]) hx hb dX4_product_130 hl (k := 3) rfl (by rw [ex154]; rfl) (by decide) rfl (fun ls hl => ?_)
                    refine lv_goto (tgt := 10) hx hb dX4_product_133 (by decide) ?_
                    exact ih10 x154 x153 ct147 _ _ ls (by omega) (by first | omega | decide) hI hP hD hS (lv_sub hl [0, 1, 4, 5, 6] rfl)
                · skip
                  have c149 : r146.toInt = 0 := (z_eq rfl (by decide : (0 : Int32).toInt = 0)).mp c149
                  refine lv_aload_n hx hb dX4_product_88 rfl (lv_at hl 4 rfl) ?_
                  refine lv_aload_n hx hb dX4_product_89 rfl (lv_at hl 4 rfl) ?_
                  obtain ⟨tld156, ofb157, hol158, flt159, fla160, ofl161, len162, atx163, ref164, hz165, h166, h167, h168, h169, hz170, hs155⟩ := a8_44 (kc := kg) (by omega) hI
                  have bhz165 := z_b01 hz165
                  have bhz170 := z_b01 hz170
                  refine va_get (D := g.1) (ci := 4) (v := .int ref164) (C := RX4) (T := TX4) (N := 11) hx hb hg inG4 hown hK hP kg (zw_at (by omega) hs155) rfl 10 (by decide) (hg _ mm_286) (fun _ h9 => h9) rfl dX4_product_90 ?_
                  refine lv_if_ne (tgt := 100) hx hb dX4_product_93 (by decide) (fun c171 => ?_) (fun c171 => ?_)
                  · skip
                    have c171 : ¬ (ref164.toInt = 0) := fun q => c171 ((z_eq rfl (by decide : (0 : Int32).toInt = 0)).mpr q)
                    refine lv_iconst (v := 1) hx hb dX4_product_100 (by decide) ?_
                    refine lv_goto (tgt := 105) hx hb dX4_product_101 (by decide) ?_
                    refine va_put (D := g.1) (ci := 4) (v := .int 1) (ty := .boolean) (C := RX4) (T := TX4) (N := 11) hx hb hg inG4 tyX4 tyX4_ok nmX4 hown hK hP hD hS kg (zw_at (by omega) hs155) rfl 10 (by decide) (hg _ mm_286) (fun _ h9 => h9) rfl (by decide +kernel) rfl rfl (Nat.le_of_ble_eq_true rfl) dX4_product_105 (fun H locs hP hD hS => ?_)
                    have hP : zP g ((zw 126 ad ct147).set kg (ad kg, .inr (4, [.int tld156, .int ofb157, .int hol158, .int flt159, .int fla160, .int ofl161, .ref (ad (kg + 1)), .ref (ad (kg + 2)), .int len162, .int atx163, .int 1]))) H := hP
                    have hD : va_D A ((zw 126 ad ct147).set kg (ad kg, .inr (4, [.int tld156, .int ofb157, .int hol158, .int flt159, .int fla160, .int ofl161, .ref (ad (kg + 1)), .ref (ad (kg + 2)), .int len162, .int atx163, .int 1]))) := hD
                    rw [zw_set (by omega)] at hP hD
                    obtain ⟨ct172, ec173⟩ : ∃ z : Nat → va_E, z = va_up ct147 kg (.inr (4, [.int tld156, .int ofb157, .int hol158, .int flt159, .int fla160, .int ofl161, .ref (ad (kg + 1)), .ref (ad (kg + 2)), .int len162, .int atx163, .int 1])) := ⟨_, rfl⟩
                    rw [← ec173] at hP hD
                    have hI : Inv8 g ad pe ct172 := by rw [ec173]; exact up8 hI (i8_44 (kc := kg) (by omega) ⟨(tld156 : Int32), (ofb157 : Int32), (hol158 : Int32), (flt159 : Int32), (fla160 : Int32), (ofl161 : Int32), (len162 : Int32), (atx163 : Int32), (1 : Int32), hz165, (by first | omega | decide), (by first | omega | decide), (by first | omega | decide), (by first | omega | decide), (Or.inr rfl), rfl⟩)
                    have hs174 : ct172 kg = .inr (4, [.int tld156, .int ofb157, .int hol158, .int flt159, .int fla160, .int ofl161, .ref (ad (kg + 1)), .ref (ad (kg + 2)), .int len162, .int atx163, .int 1]) := by rw [ec173]; exact va_up_self _ _ _
                    refine lv_goto (tgt := 130) hx hb dX4_product_108 (by decide) ?_
                    obtain ⟨x175, ex175⟩ : ∃ y : Int32, y = v4_10 + 1 := ⟨_, rfl⟩
                    have tx175 : x175.toInt = v4_10.toInt + 1 := by rw [ex175]; exact z_add rfl (by decide : (1 : Int32).toInt = 1) (by omega) (by omega)
                    refine lv_iinc (v := x175) (lv' := [(4, .int x175), (6, .int r146), (5, .int r140), (3, .int v3_10), (0, .ref (ad kg)), (1, .int 2), (2, .int ask)]) hx hb dX4_product_130 hl (k := 2) rfl (by rw [ex175]; rfl) (by decide) rfl (fun ls hl => ?_)
                    refine lv_goto (tgt := 10) hx hb dX4_product_133 (by decide) ?_
                    exact ih10 x175 v3_10 ct172 _ _ ls (by omega) (by first | omega | decide) hI hP hD hS (lv_sub hl [0, 3, 4, 5, 6] rfl)
                  · skip
                    have c171 : ref164.toInt = 0 := (z_eq rfl (by decide : (0 : Int32).toInt = 0)).mp c171
                    refine lv_iload_n hx hb dX4_product_96 rfl (lv_at hl 6 rfl) ?_
                    refine lv_if_eq (tgt := 104) hx hb dX4_product_97 (by decide) (fun c176 => ?_) (fun c176 => ?_)
                    · skip
                      have c176 : ask.toInt = 0 := (z_eq rfl (by decide : (0 : Int32).toInt = 0)).mp c176
                      refine lv_iconst (v := 0) hx hb dX4_product_104 (by decide) ?_
                      refine va_put (D := g.1) (ci := 4) (v := .int 0) (ty := .boolean) (C := RX4) (T := TX4) (N := 11) hx hb hg inG4 tyX4 tyX4_ok nmX4 hown hK hP hD hS kg (zw_at (by omega) hs155) rfl 10 (by decide) (hg _ mm_286) (fun _ h9 => h9) rfl (by decide +kernel) rfl rfl (Nat.le_of_ble_eq_true rfl) dX4_product_105 (fun H locs hP hD hS => ?_)
                      have hP : zP g ((zw 126 ad ct147).set kg (ad kg, .inr (4, [.int tld156, .int ofb157, .int hol158, .int flt159, .int fla160, .int ofl161, .ref (ad (kg + 1)), .ref (ad (kg + 2)), .int len162, .int atx163, .int 0]))) H := hP
                      have hD : va_D A ((zw 126 ad ct147).set kg (ad kg, .inr (4, [.int tld156, .int ofb157, .int hol158, .int flt159, .int fla160, .int ofl161, .ref (ad (kg + 1)), .ref (ad (kg + 2)), .int len162, .int atx163, .int 0]))) := hD
                      rw [zw_set (by omega)] at hP hD
                      obtain ⟨ct177, ec178⟩ : ∃ z : Nat → va_E, z = va_up ct147 kg (.inr (4, [.int tld156, .int ofb157, .int hol158, .int flt159, .int fla160, .int ofl161, .ref (ad (kg + 1)), .ref (ad (kg + 2)), .int len162, .int atx163, .int 0])) := ⟨_, rfl⟩
                      rw [← ec178] at hP hD
                      have hI : Inv8 g ad pe ct177 := by rw [ec178]; exact up8 hI (i8_44 (kc := kg) (by omega) ⟨(tld156 : Int32), (ofb157 : Int32), (hol158 : Int32), (flt159 : Int32), (fla160 : Int32), (ofl161 : Int32), (len162 : Int32), (atx163 : Int32), (0 : Int32), hz165, (by first | omega | decide), (by first | omega | decide), (by first | omega | decide), (by first | omega | decide), (Or.inl rfl), rfl⟩)
                      have hs179 : ct177 kg = .inr (4, [.int tld156, .int ofb157, .int hol158, .int flt159, .int fla160, .int ofl161, .ref (ad (kg + 1)), .ref (ad (kg + 2)), .int len162, .int atx163, .int 0]) := by rw [ec178]; exact va_up_self _ _ _
                      refine lv_goto (tgt := 130) hx hb dX4_product_108 (by decide) ?_
                      obtain ⟨x180, ex180⟩ : ∃ y : Int32, y = v4_10 + 1 := ⟨_, rfl⟩
                      have tx180 : x180.toInt = v4_10.toInt + 1 := by rw [ex180]; exact z_add rfl (by decide : (1 : Int32).toInt = 1) (by omega) (by omega)
                      refine lv_iinc (v := x180) (lv' := [(4, .int x180), (6, .int r146), (5, .int r140), (3, .int v3_10), (0, .ref (ad kg)), (1, .int 2), (2, .int ask)]) hx hb dX4_product_130 hl (k := 2) rfl (by rw [ex180]; rfl) (by decide) rfl (fun ls hl => ?_)
                      refine lv_goto (tgt := 10) hx hb dX4_product_133 (by decide) ?_
                      exact ih10 x180 v3_10 ct177 _ _ ls (by omega) (by first | omega | decide) hI hP hD hS (lv_sub hl [0, 3, 4, 5, 6] rfl)
                    · skip
                      have c176 : ¬ (ask.toInt = 0) := fun q => c176 ((z_eq rfl (by decide : (0 : Int32).toInt = 0)).mpr q)
                      refine lv_iconst (v := 1) hx hb dX4_product_100 (by decide) ?_
                      refine lv_goto (tgt := 105) hx hb dX4_product_101 (by decide) ?_
                      refine va_put (D := g.1) (ci := 4) (v := .int 1) (ty := .boolean) (C := RX4) (T := TX4) (N := 11) hx hb hg inG4 tyX4 tyX4_ok nmX4 hown hK hP hD hS kg (zw_at (by omega) hs155) rfl 10 (by decide) (hg _ mm_286) (fun _ h9 => h9) rfl (by decide +kernel) rfl rfl (Nat.le_of_ble_eq_true rfl) dX4_product_105 (fun H locs hP hD hS => ?_)
                      have hP : zP g ((zw 126 ad ct147).set kg (ad kg, .inr (4, [.int tld156, .int ofb157, .int hol158, .int flt159, .int fla160, .int ofl161, .ref (ad (kg + 1)), .ref (ad (kg + 2)), .int len162, .int atx163, .int 1]))) H := hP
                      have hD : va_D A ((zw 126 ad ct147).set kg (ad kg, .inr (4, [.int tld156, .int ofb157, .int hol158, .int flt159, .int fla160, .int ofl161, .ref (ad (kg + 1)), .ref (ad (kg + 2)), .int len162, .int atx163, .int 1]))) := hD
                      rw [zw_set (by omega)] at hP hD
                      obtain ⟨ct181, ec182⟩ : ∃ z : Nat → va_E, z = va_up ct147 kg (.inr (4, [.int tld156, .int ofb157, .int hol158, .int flt159, .int fla160, .int ofl161, .ref (ad (kg + 1)), .ref (ad (kg + 2)), .int len162, .int atx163, .int 1])) := ⟨_, rfl⟩
                      rw [← ec182] at hP hD
                      have hI : Inv8 g ad pe ct181 := by rw [ec182]; exact up8 hI (i8_44 (kc := kg) (by omega) ⟨(tld156 : Int32), (ofb157 : Int32), (hol158 : Int32), (flt159 : Int32), (fla160 : Int32), (ofl161 : Int32), (len162 : Int32), (atx163 : Int32), (1 : Int32), hz165, (by first | omega | decide), (by first | omega | decide), (by first | omega | decide), (by first | omega | decide), (Or.inr rfl), rfl⟩)
                      have hs183 : ct181 kg = .inr (4, [.int tld156, .int ofb157, .int hol158, .int flt159, .int fla160, .int ofl161, .ref (ad (kg + 1)), .ref (ad (kg + 2)), .int len162, .int atx163, .int 1]) := by rw [ec182]; exact va_up_self _ _ _
                      refine lv_goto (tgt := 130) hx hb dX4_product_108 (by decide) ?_
                      obtain ⟨x184, ex184⟩ : ∃ y : Int32, y = v4_10 + 1 := ⟨_, rfl⟩
                      have tx184 : x184.toInt = v4_10.toInt + 1 := by rw [ex184]; exact z_add rfl (by decide : (1 : Int32).toInt = 1) (by omega) (by omega)
                      refine lv_iinc (v := x184) (lv' := [(4, .int x184), (6, .int r146), (5, .int r140), (3, .int v3_10), (0, .ref (ad kg)), (1, .int 2), (2, .int ask)]) hx hb dX4_product_130 hl (k := 2) rfl (by rw [ex184]; rfl) (by decide) rfl (fun ls hl => ?_)
                      refine lv_goto (tgt := 10) hx hb dX4_product_133 (by decide) ?_
                      exact ih10 x184 v3_10 ct181 _ _ ls (by omega) (by first | omega | decide) hI hP hD hS (lv_sub hl [0, 3, 4, 5, 6] rfl)
              · skip
                have c148 : r140.toInt = 42 := (z_eq rfl (by decide : (42 : Int32).toInt = 42)).mp c148
                refine lv_iload_n hx hb dX4_product_75 rfl (lv_at hl 3 rfl) ?_
                refine lv_iload hx hb dX4_product_76 (lv_at hl 0 rfl) ?_
                refine lv_imul hx hb dX4_product_78 ?_
                refine lv_topi (fun x185 ex185 => ?_)
                refine lv_istore_n (lv' := [(3, .int x185), (6, .int r146), (5, .int r140), (4, .int v4_10), (0, .ref (ad kg)), (1, .int 2), (2, .int ask)]) hx hb dX4_product_79 rfl hl (by decide) rfl (fun ls hl => ?_)
                refine lv_goto (tgt := 130) hx hb dX4_product_80 (by decide) ?_
                obtain ⟨x186, ex186⟩ : ∃ y : Int32, y = v4_10 + 1 := ⟨_, rfl⟩
                have tx186 : x186.toInt = v4_10.toInt + 1 := by rw [ex186]; exact z_add rfl (by decide : (1 : Int32).toInt = 1) (by omega) (by omega)
                refine lv_iinc (v := x186) (lv' := [(4, .int x186), (3, .int x185), (6, .int r146), (5, .int r140), (0, .ref (ad kg)), (1, .int 2), (2, .int ask)]) hx hb dX4_product_130 hl (k := 3) rfl (by rw [ex186]; rfl) (by decide) rfl (fun ls hl => ?_)
                refine lv_goto (tgt := 10) hx hb dX4_product_133 (by decide) ?_
                exact ih10 x186 x185 ct147 _ _ ls (by omega) (by first | omega | decide) hI hP hD hS (lv_sub hl [0, 1, 4, 5, 6] rfl)
  exact loop10 ((100 - (0 : Int32).toInt : Int).toNat + 1) (0 : Int32) r17 ct18 _ _ ls (by omega) (by first | omega | decide) hI hP hD hS (lv_sub hl [0, 1, 2, 3, 4] rfl)

set_option maxHeartbeats 4000000 in
set_option maxRecDepth 100000 in
theorem k_X4_sum_2 (l : Launch) (g : zG) (sz : Nat) (ad : Nat → Nat) (pe : Int32) (ct : Nat → va_E) (kg : Nat) (ask : Int32) (hf_kg : 99 ≤ kg ∧ kg < 126 ∧ (kg - 99) % 3 = 0) (hI : Inv8 g ad pe ct) : Met l yX4_sum (zW yX4_sum cX4_sum 7 (some .int)) ({ frames := 16, cells := 0, slots := 0, locals := 397 }) (va_Pc [.ref (ad kg), .int 2, .int ask] (zA g (zw 126 ad ct) sz)) (va_Qi (fun (r : Int32) (_ : Unit) => (True)) (fun _ t => ∃ ct2 : Nat → va_E, zP g (zw 126 ad ct2) t.heap ∧ va_D (va_A (zw 126 ad ct) sz) (zw 126 ad ct2) ∧ Inv8 g ad pe ct2) (va_A (zw 126 ad ct) sz)) 0 0 (va_A (zw 126 ad ct) sz) := by
  refine Met.ofW (cc := cX4_sum) (maxL := 7) (ret := (some .int)) (by decide) rfl ?_
  intro p e s m args below meth c s₁ B hml hv
  obtain ⟨rfl, hsz, hP, hK, hD0, hN⟩ := hv
  have hx := B.exec
  have hb := B.bytes
  have hr := B.returns
  have hg := zW.law (atoms_spec (ws := (zW yX4_sum cX4_sum 7 (some .int))) B.pre)
  have hown : s.vm.findClass RX4 = some m.cls := findClass_of_methodNamed B.named
  have hlocks := B.notSynchronized
  have hpe0 := hI.1
  subst hsz
  have hD := hD0.self (sz := s.heap.size)
  generalize hAe : va_A (zw 126 ad ct) s.heap.size = A at hD ⊢
  have hA : ∀ q : Nat, s.heap.size ≤ q → A q := fun q h => by rw [← hAe]; exact Or.inr h
  have hS : va_S A s.heap s.heap [] := va_S.rf
  have hl := lv_entry ([.ref (ad kg), .int 2, .int ask]) (n := 7) (Nat.le_of_ble_eq_true rfl)
  rw [lg_entry_eq]
  generalize (lg_sl ([.ref (ad kg), .int 2, .int ask]) ++ List.replicate (7 - (lg_sl ([.ref (ad kg), .int 2, .int ask])).length) Slot.unset).toArray = ls at hl ⊢
  have hl : lv_has ls 7 [(0, .ref (ad kg)), (1, .int 2), (2, .int ask)] := hl
  have rg_ask := z_rng ask
  refine lv_aload_n hx hb dX4_sum_0 rfl (lv_at hl 0 rfl) ?_
  refine lv_iload_n hx hb dX4_sum_1 rfl (lv_at hl 1 rfl) ?_
  refine lv_iload_n hx hb dX4_sum_2 rfl (lv_at hl 2 rfl) ?_
  obtain ⟨tld2, ofb3, hol4, flt5, fla6, ofl7, len8, atx9, ref10, hz11, h12, h13, h14, h15, hz16, hs1⟩ := a8_44 (kc := kg) (by omega) hI
  have bhz11 := z_b01 hz11
  have bhz16 := z_b01 hz16
  have hFc := zw_free hD hS hA
  refine va_calli (va_runV (As := [.int 2, .int ask]) (rest := []) ⟨hx, hb, hml, hown, hg⟩ (k_X4_product_2 l g _ ad pe ct kg ask (by omega) hI) (cwV 2 hg (z_gV mm_495 mm_497 mm_13 mm_114 mm_498) rfl rfl rfl (by decide +kernel) ⟨Nat.le_of_ble_eq_true rfl, Nat.le_of_ble_eq_true rfl⟩) ⟨(zA.pre [.ref (ad kg), .int 2, .int ask] hP hK hD hN).1, va_recv hK hP (ci := 4) (q0 := kg) rfl (zw_at (by omega) hs1), (zA.pre [.ref (ad kg), .int 2, .int ask] hP hK hD hN).2⟩ rfl rfl hl.1 rfl (lv_room (Nat.le_of_ble_eq_true rfl)) dX4_sum_3 ⟨Nat.le_of_ble_eq_true rfl, Nat.le_of_ble_eq_true rfl⟩) hS (fun q _ h => hFc q h) hFc (fun r17 _ t H1 locs ht hvm hr17 hB hz1 hk1 hS => ?_)
  obtain ⟨ct18, hP1, hD1, hI⟩ := hB
  rw [ht] at hP1
  have hD := hD1.weaken (fun _ _ _ h => hFc _ h)
  generalize H1 = H at hP1 hS ⊢
  have hP := hP1
  refine W.widen (k := 0) (n := 0) (Nat.le_refl _) (Nat.le_refl _) ?_
  refine lv_istore_n (lv' := [(3, .int r17), (0, .ref (ad kg)), (1, .int 2), (2, .int ask)]) hx hb dX4_sum_6 rfl hl (by decide) rfl (fun ls hl => ?_)
  refine lv_iconst (v := 0) hx hb dX4_sum_7 (by decide) ?_
  refine lv_istore (lv' := [(4, .int 0), (3, .int r17), (0, .ref (ad kg)), (1, .int 2), (2, .int ask)]) hx hb dX4_sum_8 hl (by decide) rfl (fun ls hl => ?_)
  have loop10 : ∀ (n10 : Nat) (v4_10 : Int32) (v3_10 : Int32) (ct19 : Nat → va_E) (H : Heap) (locs : List Loc) (ls : Array Slot), ((100 - v4_10.toInt : Int).toNat < n10) → (0 ≤ v4_10.toInt ∧ v4_10.toInt ≤ 100) → (Inv8 g ad pe ct19) → zP g (zw 126 ad ct19) H → va_D A (zw 126 ad ct19) → va_S A s.heap H locs → lv_has ls 7 [(4, .int v4_10), (3, .int v3_10), (0, .ref (ad kg)), (1, .int 2), (2, .int ask)] → W p l e (headSpec (zW yX4_sum cX4_sum 7 (some .int)) ({ frames := 16, cells := 0, slots := 0, locals := 397 })).room s m ([.ref (ad kg), .int 2, .int ask] : List Value).toArray below meth c H locs 0 0 (MQ below (va_Qi (fun (r : Int32) (_ : Unit) => (True)) (fun _ t => ∃ ct2 : Nat → va_E, zP g (zw 126 ad ct2) t.heap ∧ va_D A (zw 126 ad ct2) ∧ Inv8 g ad pe ct2) A) ([.ref (ad kg), .int 2, .int ask] : List Value).toArray s 0 0 A) (F0 m 10 ls []) := by
    intro n10
    induction n10 with
    | zero =>
      intro v4_10 v3_10 ct19 H locs ls hn10 b4_10 hI hP hD hS hl
      exact absurd hn10 (Nat.not_lt_zero _)
    | succ n10 ih10 =>
      intro v4_10 v3_10 ct19 H locs ls hn10 b4_10 hI hP hD hS hl
      refine lv_iload hx hb dX4_sum_10 (lv_at hl 0 rfl) ?_
      refine lv_bipush (v := 100) hx hb dX4_sum_12 (by decide) ?_
      refine lv_icmp_ge (tgt := 84) hx hb dX4_sum_14 (by decide) (fun c20 => ?_) (fun c20 => ?_)
      · skip
        have c20 : 100 ≤ v4_10.toInt := (z_le (by decide : (100 : Int32).toInt = 100) rfl).mp c20
        refine lv_iload_n hx hb dX4_sum_84 rfl (lv_at hl 1 rfl) ?_
        exact W.iret (v := v3_10) hx hb hr (fun t ht hW => ⟨⟨v3_10, (), rfl, trivial, ct19, by rw [ht]; exact hP, hD, hI⟩, hS.F ht⟩) hS.2.2 dX4_sum_85
      · skip
        have c20 : ¬ (100 ≤ v4_10.toInt) := fun q => c20 ((z_le (by decide : (100 : Int32).toInt = 100) rfl).mpr q)
        refine lv_aload_n hx hb dX4_sum_17 rfl (lv_at hl 2 rfl) ?_
        obtain ⟨tld22, ofb23, hol24, flt25, fla26, ofl27, len28, atx29, ref30, hz31, h32, h33, h34, h35, hz36, hs21⟩ := a8_44 (kc := kg) (by omega) hI
        have bhz31 := z_b01 hz31
        have bhz36 := z_b01 hz36
        refine zc_i (va_runV (As := []) (rest := []) ⟨hx, hb, hml, hown, hg⟩ (k_X4_next l g ad pe ct19 kg tld22 ofb23 hol24 flt25 fla26 ofl27 len28 atx29 ref30 (by omega) hI hs21) (cwV 0 hg (z_gV mm_475 mm_477 mm_8 mm_114 mm_478) rfl rfl rfl (by decide +kernel) ⟨Nat.le_of_ble_eq_true rfl, Nat.le_of_ble_eq_true rfl⟩) ⟨(zR.pre [.ref (ad kg)] hP hK hN).1, va_recv hK hP (ci := 4) (q0 := kg) rfl (zw_at (by omega) hs21), (zR.pre [.ref (ad kg)] hP hK hN).2⟩ rfl rfl hl.1 rfl (lv_room (Nat.le_of_ble_eq_true rfl)) dX4_sum_18 ⟨Nat.le_of_ble_eq_true rfl, Nat.le_of_ble_eq_true rfl⟩) (fun r37 hr37 => ?_)
        have h38 := hr37
        have h38 : r37.toInt = -1 ∨ atx29.toInt ≤ 99 := h38
        refine lv_bipush (v := 43) hx hb dX4_sum_21 (by decide) ?_
        refine lv_icmp_eq (tgt := 35) hx hb dX4_sum_23 (by decide) (fun c39 => ?_) (fun c39 => ?_)
        · skip
          have c39 : r37.toInt = 43 := (z_eq rfl (by decide : (43 : Int32).toInt = 43)).mp c39
          refine lv_aload_n hx hb dX4_sum_35 rfl (lv_at hl 2 rfl) ?_
          refine zc_i (va_runV (As := []) (rest := []) ⟨hx, hb, hml, hown, hg⟩ (k_X4_next l g ad pe ct19 kg tld22 ofb23 hol24 flt25 fla26 ofl27 len28 atx29 ref30 (by omega) hI hs21) (cwV 0 hg (z_gV mm_475 mm_477 mm_8 mm_114 mm_478) rfl rfl rfl (by decide +kernel) ⟨Nat.le_of_ble_eq_true rfl, Nat.le_of_ble_eq_true rfl⟩) ⟨(zR.pre [.ref (ad kg)] hP hK hN).1, va_recv hK hP (ci := 4) (q0 := kg) rfl (zw_at (by omega) hs21), (zR.pre [.ref (ad kg)] hP hK hN).2⟩ rfl rfl hl.1 rfl (lv_room (Nat.le_of_ble_eq_true rfl)) dX4_sum_36 ⟨Nat.le_of_ble_eq_true rfl, Nat.le_of_ble_eq_true rfl⟩) (fun r40 hr40 => ?_)
          have h41 := hr40
          have h41 : r40.toInt = -1 ∨ atx29.toInt ≤ 99 := h41
          refine lv_istore (lv' := [(5, .int r40), (4, .int v4_10), (3, .int v3_10), (0, .ref (ad kg)), (1, .int 2), (2, .int ask)]) hx hb dX4_sum_39 hl (by decide) rfl (fun ls hl => ?_)
          refine lv_aload_n hx hb dX4_sum_41 rfl (lv_at hl 3 rfl) ?_
          refine lv_dup hx hb dX4_sum_42 rfl ?_
          refine va_get (D := g.1) (ci := 4) (v := .int atx29) (C := RX4) (T := TX4) (N := 11) hx hb hg inG4 hown hK hP kg (zw_at (by omega) hs21) rfl 9 (by decide) (hg _ mm_285) (fun _ h9 => h9) rfl dX4_sum_43 ?_
          refine lv_iconst (v := 1) hx hb dX4_sum_46 (by decide) ?_
          refine lv_iadd hx hb dX4_sum_47 ?_
          refine lv_topi (fun x42 ex42 => ?_)
          have tx42 : x42.toInt = atx29.toInt + 1 := by rw [ex42]; exact z_add rfl (by decide : (1 : Int32).toInt = 1) (by omega) (by omega)
          refine va_put (D := g.1) (ci := 4) (v := .int x42) (ty := .int) (C := RX4) (T := TX4) (N := 11) hx hb hg inG4 tyX4 tyX4_ok nmX4 hown hK hP hD hS kg (zw_at (by omega) hs21) rfl 9 (by decide) (hg _ mm_285) (fun _ h9 => h9) rfl (by decide +kernel) rfl rfl (Nat.le_of_ble_eq_true rfl) dX4_sum_48 (fun H locs hP hD hS => ?_)
          have hP : zP g ((zw 126 ad ct19).set kg (ad kg, .inr (4, [.int tld22, .int ofb23, .int hol24, .int flt25, .int fla26, .int ofl27, .ref (ad (kg + 1)), .ref (ad (kg + 2)), .int len28, .int x42, .int ref30]))) H := hP
          have hD : va_D A ((zw 126 ad ct19).set kg (ad kg, .inr (4, [.int tld22, .int ofb23, .int hol24, .int flt25, .int fla26, .int ofl27, .ref (ad (kg + 1)), .ref (ad (kg + 2)), .int len28, .int x42, .int ref30]))) := hD
          rw [zw_set (by omega)] at hP hD
          obtain ⟨ct43, ec44⟩ : ∃ z : Nat → va_E, z = va_up ct19 kg (.inr (4, [.int tld22, .int ofb23, .int hol24, .int flt25, .int fla26, .int ofl27, .ref (ad (kg + 1)), .ref (ad (kg + 2)), .int len28, .int x42, .int ref30])) := ⟨_, rfl⟩
          rw [← ec44] at hP hD
          have hI : Inv8 g ad pe ct43 := by rw [ec44]; exact up8 hI (i8_44 (kc := kg) (by omega) ⟨(tld22 : Int32), (ofb23 : Int32), (hol24 : Int32), (flt25 : Int32), (fla26 : Int32), (ofl27 : Int32), (len28 : Int32), (x42 : Int32), (ref30 : Int32), hz31, (by first | omega | decide), (by first | omega | decide), (by first | omega | decide), (by first | omega | decide), hz36, rfl⟩)
          have hs45 : ct43 kg = .inr (4, [.int tld22, .int ofb23, .int hol24, .int flt25, .int fla26, .int ofl27, .ref (ad (kg + 1)), .ref (ad (kg + 2)), .int len28, .int x42, .int ref30]) := by rw [ec44]; exact va_up_self _ _ _
          refine lv_aload_n hx hb dX4_sum_51 rfl (lv_at hl 3 rfl) ?_
          refine lv_iload_n hx hb dX4_sum_52 rfl (lv_at hl 4 rfl) ?_
          refine lv_iload_n hx hb dX4_sum_53 rfl (lv_at hl 5 rfl) ?_
          have hFc := zw_free hD hS hA
          refine va_calli (va_runV (As := [.int 2, .int ask]) (rest := []) ⟨hx, hb, hml, hown, hg⟩ (k_X4_product_2 l g _ ad pe ct43 kg ask (by omega) hI) (cwV 2 hg (z_gV mm_495 mm_497 mm_13 mm_114 mm_498) rfl rfl rfl (by decide +kernel) ⟨Nat.le_of_ble_eq_true rfl, Nat.le_of_ble_eq_true rfl⟩) ⟨(zA.pre [.ref (ad kg), .int 2, .int ask] hP hK hD hN).1, va_recv hK hP (ci := 4) (q0 := kg) rfl (zw_at (by omega) hs45), (zA.pre [.ref (ad kg), .int 2, .int ask] hP hK hD hN).2⟩ rfl rfl hl.1 rfl (lv_room (Nat.le_of_ble_eq_true rfl)) dX4_sum_54 ⟨Nat.le_of_ble_eq_true rfl, Nat.le_of_ble_eq_true rfl⟩) hS (fun q _ h => hFc q h) hFc (fun r46 _ t H1 locs ht hvm hr46 hB hz1 hk1 hS => ?_)
          obtain ⟨ct47, hP1, hD1, hI⟩ := hB
          rw [ht] at hP1
          have hD := hD1.weaken (fun _ _ _ h => hFc _ h)
          generalize H1 = H at hP1 hS ⊢
          have hP := hP1
          refine W.widen (k := 0) (n := 0) (Nat.le_refl _) (Nat.le_refl _) ?_
          refine lv_istore (lv' := [(6, .int r46), (5, .int r40), (4, .int v4_10), (3, .int v3_10), (0, .ref (ad kg)), (1, .int 2), (2, .int ask)]) hx hb dX4_sum_57 hl (by decide) rfl (fun ls hl => ?_)
          refine lv_iload hx hb dX4_sum_59 (lv_at hl 1 rfl) ?_
          refine lv_bipush (v := 43) hx hb dX4_sum_61 (by decide) ?_
          refine lv_icmp_ne (tgt := 73) hx hb dX4_sum_63 (by decide) (fun c48 => ?_) (fun c48 => ?_)
          · skip
            have c48 : ¬ (r40.toInt = 43) := fun q => c48 ((z_eq rfl (by decide : (43 : Int32).toInt = 43)).mpr q)
            refine lv_iload_n hx hb dX4_sum_73 rfl (lv_at hl 3 rfl) ?_
            refine lv_iload hx hb dX4_sum_74 (lv_at hl 0 rfl) ?_
            refine lv_isub hx hb dX4_sum_76 ?_
            refine lv_topi (fun x49 ex49 => ?_)
            refine lv_istore_n (lv' := [(3, .int x49), (6, .int r46), (5, .int r40), (4, .int v4_10), (0, .ref (ad kg)), (1, .int 2), (2, .int ask)]) hx hb dX4_sum_77 rfl hl (by decide) rfl (fun ls hl => ?_)
            obtain ⟨x50, ex50⟩ : ∃ y : Int32, y = v4_10 + 1 := ⟨_, rfl⟩
            have tx50 : x50.toInt = v4_10.toInt + 1 := by rw [ex50]; exact z_add rfl (by decide : (1 : Int32).toInt = 1) (by omega) (by omega)
            refine lv_iinc (v := x50) (lv' := [(4, .int x50), (3, .int x49), (6, .int r46), (5, .int r40), (0, .ref (ad kg)), (1, .int 2), (2, .int ask)]) hx hb dX4_sum_78 hl (k := 3) rfl (by rw [ex50]; rfl) (by decide) rfl (fun ls hl => ?_)
            refine lv_goto (tgt := 10) hx hb dX4_sum_81 (by decide) ?_
            exact ih10 x50 x49 ct47 _ _ ls (by omega) (by first | omega | decide) hI hP hD hS (lv_sub hl [0, 1, 4, 5, 6] rfl)
          · skip
            have c48 : r40.toInt = 43 := (z_eq rfl (by decide : (43 : Int32).toInt = 43)).mp c48
            refine lv_iload_n hx hb dX4_sum_66 rfl (lv_at hl 3 rfl) ?_
            refine lv_iload hx hb dX4_sum_67 (lv_at hl 0 rfl) ?_
            refine lv_iadd hx hb dX4_sum_69 ?_
            refine lv_topi (fun x51 ex51 => ?_)
            refine lv_goto (tgt := 77) hx hb dX4_sum_70 (by decide) ?_
            refine lv_istore_n (lv' := [(3, .int x51), (6, .int r46), (5, .int r40), (4, .int v4_10), (0, .ref (ad kg)), (1, .int 2), (2, .int ask)]) hx hb dX4_sum_77 rfl hl (by decide) rfl (fun ls hl => ?_)
            obtain ⟨x52, ex52⟩ : ∃ y : Int32, y = v4_10 + 1 := ⟨_, rfl⟩
            have tx52 : x52.toInt = v4_10.toInt + 1 := by rw [ex52]; exact z_add rfl (by decide : (1 : Int32).toInt = 1) (by omega) (by omega)
            refine lv_iinc (v := x52) (lv' := [(4, .int x52), (3, .int x51), (6, .int r46), (5, .int r40), (0, .ref (ad kg)), (1, .int 2), (2, .int ask)]) hx hb dX4_sum_78 hl (k := 3) rfl (by rw [ex52]; rfl) (by decide) rfl (fun ls hl => ?_)
            refine lv_goto (tgt := 10) hx hb dX4_sum_81 (by decide) ?_
            exact ih10 x52 x51 ct47 _ _ ls (by omega) (by first | omega | decide) hI hP hD hS (lv_sub hl [0, 1, 4, 5, 6] rfl)
        · skip
          have c39 : ¬ (r37.toInt = 43) := fun q => c39 ((z_eq rfl (by decide : (43 : Int32).toInt = 43)).mpr q)
          refine lv_aload_n hx hb dX4_sum_26 rfl (lv_at hl 2 rfl) ?_
          refine zc_i (va_runV (As := []) (rest := []) ⟨hx, hb, hml, hown, hg⟩ (k_X4_next l g ad pe ct19 kg tld22 ofb23 hol24 flt25 fla26 ofl27 len28 atx29 ref30 (by omega) hI hs21) (cwV 0 hg (z_gV mm_475 mm_477 mm_8 mm_114 mm_478) rfl rfl rfl (by decide +kernel) ⟨Nat.le_of_ble_eq_true rfl, Nat.le_of_ble_eq_true rfl⟩) ⟨(zR.pre [.ref (ad kg)] hP hK hN).1, va_recv hK hP (ci := 4) (q0 := kg) rfl (zw_at (by omega) hs21), (zR.pre [.ref (ad kg)] hP hK hN).2⟩ rfl rfl hl.1 rfl (lv_room (Nat.le_of_ble_eq_true rfl)) dX4_sum_27 ⟨Nat.le_of_ble_eq_true rfl, Nat.le_of_ble_eq_true rfl⟩) (fun r53 hr53 => ?_)
          have h54 := hr53
          have h54 : r53.toInt = -1 ∨ atx29.toInt ≤ 99 := h54
          refine lv_bipush (v := 45) hx hb dX4_sum_30 (by decide) ?_
          refine lv_icmp_ne (tgt := 84) hx hb dX4_sum_32 (by decide) (fun c55 => ?_) (fun c55 => ?_)
          · skip
            have c55 : ¬ (r53.toInt = 45) := fun q => c55 ((z_eq rfl (by decide : (45 : Int32).toInt = 45)).mpr q)
            refine lv_iload_n hx hb dX4_sum_84 rfl (lv_at hl 1 rfl) ?_
            exact W.iret (v := v3_10) hx hb hr (fun t ht hW => ⟨⟨v3_10, (), rfl, trivial, ct19, by rw [ht]; exact hP, hD, hI⟩, hS.F ht⟩) hS.2.2 dX4_sum_85
          · skip
            have c55 : r53.toInt = 45 := (z_eq rfl (by decide : (45 : Int32).toInt = 45)).mp c55
            refine lv_aload_n hx hb dX4_sum_35 rfl (lv_at hl 2 rfl) ?_
            refine zc_i (va_runV (As := []) (rest := []) ⟨hx, hb, hml, hown, hg⟩ (k_X4_next l g ad pe ct19 kg tld22 ofb23 hol24 flt25 fla26 ofl27 len28 atx29 ref30 (by omega) hI hs21) (cwV 0 hg (z_gV mm_475 mm_477 mm_8 mm_114 mm_478) rfl rfl rfl (by decide +kernel) ⟨Nat.le_of_ble_eq_true rfl, Nat.le_of_ble_eq_true rfl⟩) ⟨(zR.pre [.ref (ad kg)] hP hK hN).1, va_recv hK hP (ci := 4) (q0 := kg) rfl (zw_at (by omega) hs21), (zR.pre [.ref (ad kg)] hP hK hN).2⟩ rfl rfl hl.1 rfl (lv_room (Nat.le_of_ble_eq_true rfl)) dX4_sum_36 ⟨Nat.le_of_ble_eq_true rfl, Nat.le_of_ble_eq_true rfl⟩) (fun r56 hr56 => ?_)
            have h57 := hr56
            have h57 : r56.toInt = -1 ∨ atx29.toInt ≤ 99 := h57
            refine lv_istore (lv' := [(5, .int r56), (4, .int v4_10), (3, .int v3_10), (0, .ref (ad kg)), (1, .int 2), (2, .int ask)]) hx hb dX4_sum_39 hl (by decide) rfl (fun ls hl => ?_)
            refine lv_aload_n hx hb dX4_sum_41 rfl (lv_at hl 3 rfl) ?_
            refine lv_dup hx hb dX4_sum_42 rfl ?_
            refine va_get (D := g.1) (ci := 4) (v := .int atx29) (C := RX4) (T := TX4) (N := 11) hx hb hg inG4 hown hK hP kg (zw_at (by omega) hs21) rfl 9 (by decide) (hg _ mm_285) (fun _ h9 => h9) rfl dX4_sum_43 ?_
            refine lv_iconst (v := 1) hx hb dX4_sum_46 (by decide) ?_
            refine lv_iadd hx hb dX4_sum_47 ?_
            refine lv_topi (fun x58 ex58 => ?_)
            have tx58 : x58.toInt = atx29.toInt + 1 := by rw [ex58]; exact z_add rfl (by decide : (1 : Int32).toInt = 1) (by omega) (by omega)
            refine va_put (D := g.1) (ci := 4) (v := .int x58) (ty := .int) (C := RX4) (T := TX4) (N := 11) hx hb hg inG4 tyX4 tyX4_ok nmX4 hown hK hP hD hS kg (zw_at (by omega) hs21) rfl 9 (by decide) (hg _ mm_285) (fun _ h9 => h9) rfl (by decide +kernel) rfl rfl (Nat.le_of_ble_eq_true rfl) dX4_sum_48 (fun H locs hP hD hS => ?_)
            have hP : zP g ((zw 126 ad ct19).set kg (ad kg, .inr (4, [.int tld22, .int ofb23, .int hol24, .int flt25, .int fla26, .int ofl27, .ref (ad (kg + 1)), .ref (ad (kg + 2)), .int len28, .int x58, .int ref30]))) H := hP
            have hD : va_D A ((zw 126 ad ct19).set kg (ad kg, .inr (4, [.int tld22, .int ofb23, .int hol24, .int flt25, .int fla26, .int ofl27, .ref (ad (kg + 1)), .ref (ad (kg + 2)), .int len28, .int x58, .int ref30]))) := hD
            rw [zw_set (by omega)] at hP hD
            obtain ⟨ct59, ec60⟩ : ∃ z : Nat → va_E, z = va_up ct19 kg (.inr (4, [.int tld22, .int ofb23, .int hol24, .int flt25, .int fla26, .int ofl27, .ref (ad (kg + 1)), .ref (ad (kg + 2)), .int len28, .int x58, .int ref30])) := ⟨_, rfl⟩
            rw [← ec60] at hP hD
            have hI : Inv8 g ad pe ct59 := by rw [ec60]; exact up8 hI (i8_44 (kc := kg) (by omega) ⟨(tld22 : Int32), (ofb23 : Int32), (hol24 : Int32), (flt25 : Int32), (fla26 : Int32), (ofl27 : Int32), (len28 : Int32), (x58 : Int32), (ref30 : Int32), hz31, (by first | omega | decide), (by first | omega | decide), (by first | omega | decide), (by first | omega | decide), hz36, rfl⟩)
            have hs61 : ct59 kg = .inr (4, [.int tld22, .int ofb23, .int hol24, .int flt25, .int fla26, .int ofl27, .ref (ad (kg + 1)), .ref (ad (kg + 2)), .int len28, .int x58, .int ref30]) := by rw [ec60]; exact va_up_self _ _ _
            refine lv_aload_n hx hb dX4_sum_51 rfl (lv_at hl 3 rfl) ?_
            refine lv_iload_n hx hb dX4_sum_52 rfl (lv_at hl 4 rfl) ?_
            refine lv_iload_n hx hb dX4_sum_53 rfl (lv_at hl 5 rfl) ?_
            have hFc := zw_free hD hS hA
            refine va_calli (va_runV (As := [.int 2, .int ask]) (rest := []) ⟨hx, hb, hml, hown, hg⟩ (k_X4_product_2 l g _ ad pe ct59 kg ask (by omega) hI) (cwV 2 hg (z_gV mm_495 mm_497 mm_13 mm_114 mm_498) rfl rfl rfl (by decide +kernel) ⟨Nat.le_of_ble_eq_true rfl, Nat.le_of_ble_eq_true rfl⟩) ⟨(zA.pre [.ref (ad kg), .int 2, .int ask] hP hK hD hN).1, va_recv hK hP (ci := 4) (q0 := kg) rfl (zw_at (by omega) hs61), (zA.pre [.ref (ad kg), .int 2, .int ask] hP hK hD hN).2⟩ rfl rfl hl.1 rfl (lv_room (Nat.le_of_ble_eq_true rfl)) dX4_sum_54 ⟨Nat.le_of_ble_eq_true rfl, Nat.le_of_ble_eq_true rfl⟩) hS (fun q _ h => hFc q h) hFc (fun r62 _ t H1 locs ht hvm hr62 hB hz1 hk1 hS => ?_)
            obtain ⟨ct63, hP1, hD1, hI⟩ := hB
            rw [ht] at hP1
            have hD := hD1.weaken (fun _ _ _ h => hFc _ h)
            generalize H1 = H at hP1 hS ⊢
            have hP := hP1
            refine W.widen (k := 0) (n := 0) (Nat.le_refl _) (Nat.le_refl _) ?_
            refine lv_istore (lv' := [(6, .int r62), (5, .int r56), (4, .int v4_10), (3, .int v3_10), (0, .ref (ad kg)), (1, .int 2), (2, .int ask)]) hx hb dX4_sum_57 hl (by decide) rfl (fun ls hl => ?_)
            refine lv_iload hx hb dX4_sum_59 (lv_at hl 1 rfl) ?_
            refine lv_bipush (v := 43) hx hb dX4_sum_61 (by decide) ?_
            refine lv_icmp_ne (tgt := 73) hx hb dX4_sum_63 (by decide) (fun c64 => ?_) (fun c64 => ?_)
            · skip
              have c64 : ¬ (r56.toInt = 43) := fun q => c64 ((z_eq rfl (by decide : (43 : Int32).toInt = 43)).mpr q)
              refine lv_iload_n hx hb dX4_sum_73 rfl (lv_at hl 3 rfl) ?_
              refine lv_iload hx hb dX4_sum_74 (lv_at hl 0 rfl) ?_
              refine lv_isub hx hb dX4_sum_76 ?_
              refine lv_topi (fun x65 ex65 => ?_)
              refine lv_istore_n (lv' := [(3, .int x65), (6, .int r62), (5, .int r56), (4, .int v4_10), (0, .ref (ad kg)), (1, .int 2), (2, .int ask)]) hx hb dX4_sum_77 rfl hl (by decide) rfl (fun ls hl => ?_)
              obtain ⟨x66, ex66⟩ : ∃ y : Int32, y = v4_10 + 1 := ⟨_, rfl⟩
              have tx66 : x66.toInt = v4_10.toInt + 1 := by rw [ex66]; exact z_add rfl (by decide : (1 : Int32).toInt = 1) (by omega) (by omega)
              refine lv_iinc (v := x66) (lv' := [(4, .int x66), (3, .int x65), (6, .int r62), (5, .int r56), (0, .ref (ad kg)), (1, .int 2), (2, .int ask)]) hx hb dX4_sum_78 hl (k := 3) rfl (by rw [ex66]; rfl) (by decide) rfl (fun ls hl => ?_)
              refine lv_goto (tgt := 10) hx hb dX4_sum_81 (by decide) ?_
              exact ih10 x66 x65 ct63 _ _ ls (by omega) (by first | omega | decide) hI hP hD hS (lv_sub hl [0, 1, 4, 5, 6] rfl)
            · skip
              have c64 : r56.toInt = 43 := (z_eq rfl (by decide : (43 : Int32).toInt = 43)).mp c64
              refine lv_iload_n hx hb dX4_sum_66 rfl (lv_at hl 3 rfl) ?_
              refine lv_iload hx hb dX4_sum_67 (lv_at hl 0 rfl) ?_
              refine lv_iadd hx hb dX4_sum_69 ?_
              refine lv_topi (fun x67 ex67 => ?_)
              refine lv_goto (tgt := 77) hx hb dX4_sum_70 (by decide) ?_
              refine lv_istore_n (lv' := [(3, .int x67), (6, .int r62), (5, .int r56), (4, .int v4_10), (0, .ref (ad kg)), (1, .int 2), (2, .int ask)]) hx hb dX4_sum_77 rfl hl (by decide) rfl (fun ls hl => ?_)
              obtain ⟨x68, ex68⟩ : ∃ y : Int32, y = v4_10 + 1 := ⟨_, rfl⟩
              have tx68 : x68.toInt = v4_10.toInt + 1 := by rw [ex68]; exact z_add rfl (by decide : (1 : Int32).toInt = 1) (by omega) (by omega)
              refine lv_iinc (v := x68) (lv' := [(4, .int x68), (3, .int x67), (6, .int r62), (5, .int r56), (0, .ref (ad kg)), (1, .int 2), (2, .int ask)]) hx hb dX4_sum_78 hl (k := 3) rfl (by rw [ex68]; rfl) (by decide) rfl (fun ls hl => ?_)
              refine lv_goto (tgt := 10) hx hb dX4_sum_81 (by decide) ?_
              exact ih10 x68 x67 ct63 _ _ ls (by omega) (by first | omega | decide) hI hP hD hS (lv_sub hl [0, 1, 4, 5, 6] rfl)
  exact loop10 ((100 - (0 : Int32).toInt : Int).toNat + 1) (0 : Int32) r17 ct18 _ _ ls (by omega) (by first | omega | decide) hI hP hD hS (lv_sub hl [0, 1, 2, 3, 4] rfl)

set_option maxHeartbeats 4000000 in
set_option maxRecDepth 100000 in
theorem k_X4_piece_2 (l : Launch) (g : zG) (sz : Nat) (ad : Nat → Nat) (pe : Int32) (ct : Nat → va_E) (kg : Nat) (ask : Int32) (hf_kg : 99 ≤ kg ∧ kg < 126 ∧ (kg - 99) % 3 = 0) (hI : Inv8 g ad pe ct) : Met l yX4_piece (zW yX4_piece cX4_piece 6 (some .boolean)) ({ frames := 17, cells := 0, slots := 0, locals := 423 }) (va_Pc [.ref (ad kg), .int 2, .int ask] (zA g (zw 126 ad ct) sz)) (va_Qi (fun (r : Int32) (_ : Unit) => (r = 1) ∨ (r = 0)) (fun _ t => ∃ ct2 : Nat → va_E, zP g (zw 126 ad ct2) t.heap ∧ va_D (va_A (zw 126 ad ct) sz) (zw 126 ad ct2) ∧ Inv8 g ad pe ct2) (va_A (zw 126 ad ct) sz)) 0 0 (va_A (zw 126 ad ct) sz) := by
  refine Met.ofW (cc := cX4_piece) (maxL := 6) (ret := (some .boolean)) (by decide) rfl ?_
  intro p e s m args below meth c s₁ B hml hv
  obtain ⟨rfl, hsz, hP, hK, hD0, hN⟩ := hv
  have hx := B.exec
  have hb := B.bytes
  have hr := B.returns
  have hg := zW.law (atoms_spec (ws := (zW yX4_piece cX4_piece 6 (some .boolean))) B.pre)
  have hown : s.vm.findClass RX4 = some m.cls := findClass_of_methodNamed B.named
  have hlocks := B.notSynchronized
  have hpe0 := hI.1
  subst hsz
  have hD := hD0.self (sz := s.heap.size)
  generalize hAe : va_A (zw 126 ad ct) s.heap.size = A at hD ⊢
  have hA : ∀ q : Nat, s.heap.size ≤ q → A q := fun q h => by rw [← hAe]; exact Or.inr h
  have hS : va_S A s.heap s.heap [] := va_S.rf
  have hl := lv_entry ([.ref (ad kg), .int 2, .int ask]) (n := 6) (Nat.le_of_ble_eq_true rfl)
  rw [lg_entry_eq]
  generalize (lg_sl ([.ref (ad kg), .int 2, .int ask]) ++ List.replicate (6 - (lg_sl ([.ref (ad kg), .int 2, .int ask])).length) Slot.unset).toArray = ls at hl ⊢
  have hl : lv_has ls 6 [(0, .ref (ad kg)), (1, .int 2), (2, .int ask)] := hl
  have rg_ask := z_rng ask
  refine lv_aload_n hx hb dX4_piece_0 rfl (lv_at hl 0 rfl) ?_
  obtain ⟨tld2, ofb3, hol4, flt5, fla6, ofl7, len8, atx9, ref10, hz11, h12, h13, h14, h15, hz16, hs1⟩ := a8_44 (kc := kg) (by omega) hI
  have bhz11 := z_b01 hz11
  have bhz16 := z_b01 hz16
  refine zc_i (va_runV (As := []) (rest := []) ⟨hx, hb, hml, hown, hg⟩ (k_X4_next l g ad pe ct kg tld2 ofb3 hol4 flt5 fla6 ofl7 len8 atx9 ref10 (by omega) hI hs1) (cwV 0 hg (z_gV mm_475 mm_477 mm_8 mm_114 mm_478) rfl rfl rfl (by decide +kernel) ⟨Nat.le_of_ble_eq_true rfl, Nat.le_of_ble_eq_true rfl⟩) ⟨(zR.pre [.ref (ad kg)] hP hK hN).1, va_recv hK hP (ci := 4) (q0 := kg) rfl (zw_at (by omega) hs1), (zR.pre [.ref (ad kg)] hP hK hN).2⟩ rfl rfl hl.1 rfl (lv_room (Nat.le_of_ble_eq_true rfl)) dX4_piece_1 ⟨Nat.le_of_ble_eq_true rfl, Nat.le_of_ble_eq_true rfl⟩) (fun r17 hr17 => ?_)
  have h18 := hr17
  have h18 : r17.toInt = -1 ∨ atx9.toInt ≤ 99 := h18
  refine lv_bipush (v := 33) hx hb dX4_piece_4 (by decide) ?_
  refine lv_icmp_ne (tgt := 34) hx hb dX4_piece_6 (by decide) (fun c19 => ?_) (fun c19 => ?_)
  · skip
    have c19 : ¬ (r17.toInt = 33) := fun q => c19 ((z_eq rfl (by decide : (33 : Int32).toInt = 33)).mpr q)
    refine lv_aload_n hx hb dX4_piece_34 rfl (lv_at hl 0 rfl) ?_
    refine zc_i (va_runV (As := []) (rest := []) ⟨hx, hb, hml, hown, hg⟩ (k_X4_next l g ad pe ct kg tld2 ofb3 hol4 flt5 fla6 ofl7 len8 atx9 ref10 (by omega) hI hs1) (cwV 0 hg (z_gV mm_475 mm_477 mm_8 mm_114 mm_478) rfl rfl rfl (by decide +kernel) ⟨Nat.le_of_ble_eq_true rfl, Nat.le_of_ble_eq_true rfl⟩) ⟨(zR.pre [.ref (ad kg)] hP hK hN).1, va_recv hK hP (ci := 4) (q0 := kg) rfl (zw_at (by omega) hs1), (zR.pre [.ref (ad kg)] hP hK hN).2⟩ rfl rfl hl.1 rfl (lv_room (Nat.le_of_ble_eq_true rfl)) dX4_piece_35 ⟨Nat.le_of_ble_eq_true rfl, Nat.le_of_ble_eq_true rfl⟩) (fun r20 hr20 => ?_)
    have h21 := hr20
    have h21 : r20.toInt = -1 ∨ atx9.toInt ≤ 99 := h21
    refine lv_bipush (v := 40) hx hb dX4_piece_38 (by decide) ?_
    refine lv_icmp_ne (tgt := 76) hx hb dX4_piece_40 (by decide) (fun c22 => ?_) (fun c22 => ?_)
    · skip
      have c22 : ¬ (r20.toInt = 40) := fun q => c22 ((z_eq rfl (by decide : (40 : Int32).toInt = 40)).mpr q)
      refine lv_aload_n hx hb dX4_piece_76 rfl (lv_at hl 0 rfl) ?_
      refine lv_iload_n hx hb dX4_piece_77 rfl (lv_at hl 1 rfl) ?_
      refine lv_iload_n hx hb dX4_piece_78 rfl (lv_at hl 2 rfl) ?_
      have hFc := zw_free hD hS hA
      refine va_calli (va_runV (As := [.int 2, .int ask]) (rest := []) ⟨hx, hb, hml, hown, hg⟩ (k_X4_sum_2 l g _ ad pe ct kg ask (by omega) hI) (cwV 2 hg (z_gV mm_491 mm_493 mm_12 mm_114 mm_494) rfl rfl rfl (by decide +kernel) ⟨Nat.le_of_ble_eq_true rfl, Nat.le_of_ble_eq_true rfl⟩) ⟨(zA.pre [.ref (ad kg), .int 2, .int ask] hP hK hD hN).1, va_recv hK hP (ci := 4) (q0 := kg) rfl (zw_at (by omega) hs1), (zA.pre [.ref (ad kg), .int 2, .int ask] hP hK hD hN).2⟩ rfl rfl hl.1 rfl (lv_room (Nat.le_of_ble_eq_true rfl)) dX4_piece_79 ⟨Nat.le_of_ble_eq_true rfl, Nat.le_of_ble_eq_true rfl⟩) hS (fun q _ h => hFc q h) hFc (fun r23 _ t H1 locs ht hvm hr23 hB hz1 hk1 hS => ?_)
      obtain ⟨ct24, hP1, hD1, hI⟩ := hB
      rw [ht] at hP1
      have hD := hD1.weaken (fun _ _ _ h => hFc _ h)
      generalize H1 = H at hP1 hS ⊢
      have hP := hP1
      refine W.widen (k := 0) (n := 0) (Nat.le_refl _) (Nat.le_refl _) ?_
      refine lv_istore_n (lv' := [(3, .int r23), (0, .ref (ad kg)), (1, .int 2), (2, .int ask)]) hx hb dX4_piece_82 rfl hl (by decide) rfl (fun ls hl => ?_)
      refine lv_aload_n hx hb dX4_piece_83 rfl (lv_at hl 1 rfl) ?_
      obtain ⟨tld26, ofb27, hol28, flt29, fla30, ofl31, len32, atx33, ref34, hz35, h36, h37, h38, h39, hz40, hs25⟩ := a8_44 (kc := kg) (by omega) hI
      have bhz35 := z_b01 hz35
      have bhz40 := z_b01 hz40
      refine zc_i (va_runV (As := []) (rest := []) ⟨hx, hb, hml, hown, hg⟩ (k_X4_next l g ad pe ct24 kg tld26 ofb27 hol28 flt29 fla30 ofl31 len32 atx33 ref34 (by omega) hI hs25) (cwV 0 hg (z_gV mm_475 mm_477 mm_8 mm_114 mm_478) rfl rfl rfl (by decide +kernel) ⟨Nat.le_of_ble_eq_true rfl, Nat.le_of_ble_eq_true rfl⟩) ⟨(zR.pre [.ref (ad kg)] hP hK hN).1, va_recv hK hP (ci := 4) (q0 := kg) rfl (zw_at (by omega) hs25), (zR.pre [.ref (ad kg)] hP hK hN).2⟩ rfl rfl hl.1 rfl (lv_room (Nat.le_of_ble_eq_true rfl)) dX4_piece_84 ⟨Nat.le_of_ble_eq_true rfl, Nat.le_of_ble_eq_true rfl⟩) (fun r41 hr41 => ?_)
      have h42 := hr41
      have h42 : r41.toInt = -1 ∨ atx33.toInt ≤ 99 := h42
      refine lv_istore (lv' := [(4, .int r41), (3, .int r23), (0, .ref (ad kg)), (1, .int 2), (2, .int ask)]) hx hb dX4_piece_87 hl (by decide) rfl (fun ls hl => ?_)
      refine lv_iload hx hb dX4_piece_89 (lv_at hl 0 rfl) ?_
      refine lv_bipush (v := 60) hx hb dX4_piece_91 (by decide) ?_
      refine lv_icmp_eq (tgt := 117) hx hb dX4_piece_93 (by decide) (fun c43 => ?_) (fun c43 => ?_)
      · skip
        have c43 : r41.toInt = 60 := (z_eq rfl (by decide : (60 : Int32).toInt = 60)).mp c43
        refine lv_aload_n hx hb dX4_piece_117 rfl (lv_at hl 2 rfl) ?_
        refine lv_dup hx hb dX4_piece_118 rfl ?_
        refine va_get (D := g.1) (ci := 4) (v := .int atx33) (C := RX4) (T := TX4) (N := 11) hx hb hg inG4 hown hK hP kg (zw_at (by omega) hs25) rfl 9 (by decide) (hg _ mm_285) (fun _ h9 => h9) rfl dX4_piece_119 ?_
        refine lv_iconst (v := 1) hx hb dX4_piece_122 (by decide) ?_
        refine lv_iadd hx hb dX4_piece_123 ?_
        refine lv_topi (fun x44 ex44 => ?_)
        have tx44 : x44.toInt = atx33.toInt + 1 := by rw [ex44]; exact z_add rfl (by decide : (1 : Int32).toInt = 1) (by omega) (by omega)
        refine va_put (D := g.1) (ci := 4) (v := .int x44) (ty := .int) (C := RX4) (T := TX4) (N := 11) hx hb hg inG4 tyX4 tyX4_ok nmX4 hown hK hP hD hS kg (zw_at (by omega) hs25) rfl 9 (by decide) (hg _ mm_285) (fun _ h9 => h9) rfl (by decide +kernel) rfl rfl (Nat.le_of_ble_eq_true rfl) dX4_piece_124 (fun H locs hP hD hS => ?_)
        have hP : zP g ((zw 126 ad ct24).set kg (ad kg, .inr (4, [.int tld26, .int ofb27, .int hol28, .int flt29, .int fla30, .int ofl31, .ref (ad (kg + 1)), .ref (ad (kg + 2)), .int len32, .int x44, .int ref34]))) H := hP
        have hD : va_D A ((zw 126 ad ct24).set kg (ad kg, .inr (4, [.int tld26, .int ofb27, .int hol28, .int flt29, .int fla30, .int ofl31, .ref (ad (kg + 1)), .ref (ad (kg + 2)), .int len32, .int x44, .int ref34]))) := hD
        rw [zw_set (by omega)] at hP hD
        obtain ⟨ct45, ec46⟩ : ∃ z : Nat → va_E, z = va_up ct24 kg (.inr (4, [.int tld26, .int ofb27, .int hol28, .int flt29, .int fla30, .int ofl31, .ref (ad (kg + 1)), .ref (ad (kg + 2)), .int len32, .int x44, .int ref34])) := ⟨_, rfl⟩
        rw [← ec46] at hP hD
        have hI : Inv8 g ad pe ct45 := by rw [ec46]; exact up8 hI (i8_44 (kc := kg) (by omega) ⟨(tld26 : Int32), (ofb27 : Int32), (hol28 : Int32), (flt29 : Int32), (fla30 : Int32), (ofl31 : Int32), (len32 : Int32), (x44 : Int32), (ref34 : Int32), hz35, (by first | omega | decide), (by first | omega | decide), (by first | omega | decide), (by first | omega | decide), hz40, rfl⟩)
        have hs47 : ct45 kg = .inr (4, [.int tld26, .int ofb27, .int hol28, .int flt29, .int fla30, .int ofl31, .ref (ad (kg + 1)), .ref (ad (kg + 2)), .int len32, .int x44, .int ref34]) := by rw [ec46]; exact va_up_self _ _ _
        refine lv_aload_n hx hb dX4_piece_127 rfl (lv_at hl 2 rfl) ?_
        refine lv_iload_n hx hb dX4_piece_128 rfl (lv_at hl 3 rfl) ?_
        refine lv_iload_n hx hb dX4_piece_129 rfl (lv_at hl 4 rfl) ?_
        have hFc := zw_free hD hS hA
        refine va_calli (va_runV (As := [.int 2, .int ask]) (rest := []) ⟨hx, hb, hml, hown, hg⟩ (k_X4_sum_2 l g _ ad pe ct45 kg ask (by omega) hI) (cwV 2 hg (z_gV mm_491 mm_493 mm_12 mm_114 mm_494) rfl rfl rfl (by decide +kernel) ⟨Nat.le_of_ble_eq_true rfl, Nat.le_of_ble_eq_true rfl⟩) ⟨(zA.pre [.ref (ad kg), .int 2, .int ask] hP hK hD hN).1, va_recv hK hP (ci := 4) (q0 := kg) rfl (zw_at (by omega) hs47), (zA.pre [.ref (ad kg), .int 2, .int ask] hP hK hD hN).2⟩ rfl rfl hl.1 rfl (lv_room (Nat.le_of_ble_eq_true rfl)) dX4_piece_130 ⟨Nat.le_of_ble_eq_true rfl, Nat.le_of_ble_eq_true rfl⟩) hS (fun q _ h => hFc q h) hFc (fun r48 _ t H1 locs ht hvm hr48 hB hz1 hk1 hS => ?_)
        obtain ⟨ct49, hP1, hD1, hI⟩ := hB
        rw [ht] at hP1
        have hD := hD1.weaken (fun _ _ _ h => hFc _ h)
        generalize H1 = H at hP1 hS ⊢
        have hP := hP1
        refine W.widen (k := 0) (n := 0) (Nat.le_refl _) (Nat.le_refl _) ?_
        refine lv_istore (lv' := [(5, .int r48), (4, .int r41), (3, .int r23), (0, .ref (ad kg)), (1, .int 2), (2, .int ask)]) hx hb dX4_piece_133 hl (by decide) rfl (fun ls hl => ?_)
        refine lv_iload hx hb dX4_piece_135 (lv_at hl 1 rfl) ?_
        refine lv_bipush (v := 60) hx hb dX4_piece_137 (by decide) ?_
        refine lv_icmp_ne (tgt := 156) hx hb dX4_piece_139 (by decide) (fun c50 => ?_) (fun c50 => ?_)
        · skip
          have c50 : ¬ (r41.toInt = 60) := fun q => c50 ((z_eq rfl (by decide : (60 : Int32).toInt = 60)).mpr q)
          refine lv_iload hx hb dX4_piece_156 (lv_at hl 1 rfl) ?_
          refine lv_bipush (v := 62) hx hb dX4_piece_158 (by decide) ?_
          refine lv_icmp_ne (tgt := 177) hx hb dX4_piece_160 (by decide) (fun c51 => ?_) (fun c51 => ?_)
          · skip
            have c51 : ¬ (r41.toInt = 62) := fun q => c51 ((z_eq rfl (by decide : (62 : Int32).toInt = 62)).mpr q)
            refine lv_iload_n hx hb dX4_piece_177 rfl (lv_at hl 2 rfl) ?_
            refine lv_iload hx hb dX4_piece_178 (lv_at hl 0 rfl) ?_
            refine lv_icmp_ne (tgt := 187) hx hb dX4_piece_180 (by decide) (fun c52 => ?_) (fun c52 => ?_)
            · skip
              have c52 : ¬ (r23.toInt = r48.toInt) := fun q => c52 ((z_eq rfl rfl).mpr q)
              refine lv_iconst (v := 0) hx hb dX4_piece_187 (by decide) ?_
              have q53 : (0 : Int32).toInt = 0 := by decide
              exact W.zret (v := 0) hx hb hr rfl (fun t ht hW => ⟨⟨0, (), rfl, by first | exact Or.inl ⟨rfl, by omega⟩ | exact Or.inr ⟨rfl, by omega⟩ | exact Or.inl rfl | exact Or.inr rfl | exact Or.inl ⟨rfl, by omega, by omega⟩ | exact (z_01 (by omega) (by omega)).symm, ct49, by rw [ht]; exact hP, hD, hI⟩, hS.F ht⟩) hS.2.2 dX4_piece_188
            · skip
              have c52 : r23.toInt = r48.toInt := (z_eq rfl rfl).mp c52
              refine lv_iconst (v := 1) hx hb dX4_piece_183 (by decide) ?_
              refine lv_goto (tgt := 188) hx hb dX4_piece_184 (by decide) ?_
              have q54 : (1 : Int32).toInt = 1 := by decide
              exact W.zret (v := 1) hx hb hr rfl (fun t ht hW => ⟨⟨1, (), rfl, by first | exact Or.inl ⟨rfl, by omega⟩ | exact Or.inr ⟨rfl, by omega⟩ | exact Or.inl rfl | exact Or.inr rfl | exact Or.inl ⟨rfl, by omega, by omega⟩ | exact (z_01 (by omega) (by omega)).symm, ct49, by rw [ht]; exact hP, hD, hI⟩, hS.F ht⟩) hS.2.2 dX4_piece_188
          · skip
            have c51 : r41.toInt = 62 := (z_eq rfl (by decide : (62 : Int32).toInt = 62)).mp c51
            exfalso
            omega
        · skip
          have c50 : r41.toInt = 60 := (z_eq rfl (by decide : (60 : Int32).toInt = 60)).mp c50
          refine lv_iload_n hx hb dX4_piece_142 rfl (lv_at hl 2 rfl) ?_
          refine lv_iload hx hb dX4_piece_143 (lv_at hl 0 rfl) ?_
          refine lv_icmp_ge (tgt := 152) hx hb dX4_piece_145 (by decide) (fun c55 => ?_) (fun c55 => ?_)
          · skip
            have c55 : r48.toInt ≤ r23.toInt := (z_le rfl rfl).mp c55
            refine lv_iconst (v := 0) hx hb dX4_piece_152 (by decide) ?_
            refine lv_goto (tgt := 188) hx hb dX4_piece_153 (by decide) ?_
            have q56 : (0 : Int32).toInt = 0 := by decide
            exact W.zret (v := 0) hx hb hr rfl (fun t ht hW => ⟨⟨0, (), rfl, by first | exact Or.inl ⟨rfl, by omega⟩ | exact Or.inr ⟨rfl, by omega⟩ | exact Or.inl rfl | exact Or.inr rfl | exact Or.inl ⟨rfl, by omega, by omega⟩ | exact (z_01 (by omega) (by omega)).symm, ct49, by rw [ht]; exact hP, hD, hI⟩, hS.F ht⟩) hS.2.2 dX4_piece_188
          · skip
            have c55 : ¬ (r48.toInt ≤ r23.toInt) := fun q => c55 ((z_le rfl rfl).mpr q)
            refine lv_iconst (v := 1) hx hb dX4_piece_148 (by decide) ?_
            refine lv_goto (tgt := 188) hx hb dX4_piece_149 (by decide) ?_
            have q57 : (1 : Int32).toInt = 1 := by decide
            exact W.zret (v := 1) hx hb hr rfl (fun t ht hW => ⟨⟨1, (), rfl, by first | exact Or.inl ⟨rfl, by omega⟩ | exact Or.inr ⟨rfl, by omega⟩ | exact Or.inl rfl | exact Or.inr rfl | exact Or.inl ⟨rfl, by omega, by omega⟩ | exact (z_01 (by omega) (by omega)).symm, ct49, by rw [ht]; exact hP, hD, hI⟩, hS.F ht⟩) hS.2.2 dX4_piece_188
      · skip
        have c43 : ¬ (r41.toInt = 60) := fun q => c43 ((z_eq rfl (by decide : (60 : Int32).toInt = 60)).mpr q)
        refine lv_iload hx hb dX4_piece_96 (lv_at hl 0 rfl) ?_
        refine lv_bipush (v := 62) hx hb dX4_piece_98 (by decide) ?_
        refine lv_icmp_eq (tgt := 117) hx hb dX4_piece_100 (by decide) (fun c58 => ?_) (fun c58 => ?_)
        · skip
          have c58 : r41.toInt = 62 := (z_eq rfl (by decide : (62 : Int32).toInt = 62)).mp c58
          refine lv_aload_n hx hb dX4_piece_117 rfl (lv_at hl 2 rfl) ?_
          refine lv_dup hx hb dX4_piece_118 rfl ?_
          refine va_get (D := g.1) (ci := 4) (v := .int atx33) (C := RX4) (T := TX4) (N := 11) hx hb hg inG4 hown hK hP kg (zw_at (by omega) hs25) rfl 9 (by decide) (hg _ mm_285) (fun _ h9 => h9) rfl dX4_piece_119 ?_
          refine lv_iconst (v := 1) hx hb dX4_piece_122 (by decide) ?_
          refine lv_iadd hx hb dX4_piece_123 ?_
          refine lv_topi (fun x59 ex59 => ?_)
          have tx59 : x59.toInt = atx33.toInt + 1 := by rw [ex59]; exact z_add rfl (by decide : (1 : Int32).toInt = 1) (by omega) (by omega)
          refine va_put (D := g.1) (ci := 4) (v := .int x59) (ty := .int) (C := RX4) (T := TX4) (N := 11) hx hb hg inG4 tyX4 tyX4_ok nmX4 hown hK hP hD hS kg (zw_at (by omega) hs25) rfl 9 (by decide) (hg _ mm_285) (fun _ h9 => h9) rfl (by decide +kernel) rfl rfl (Nat.le_of_ble_eq_true rfl) dX4_piece_124 (fun H locs hP hD hS => ?_)
          have hP : zP g ((zw 126 ad ct24).set kg (ad kg, .inr (4, [.int tld26, .int ofb27, .int hol28, .int flt29, .int fla30, .int ofl31, .ref (ad (kg + 1)), .ref (ad (kg + 2)), .int len32, .int x59, .int ref34]))) H := hP
          have hD : va_D A ((zw 126 ad ct24).set kg (ad kg, .inr (4, [.int tld26, .int ofb27, .int hol28, .int flt29, .int fla30, .int ofl31, .ref (ad (kg + 1)), .ref (ad (kg + 2)), .int len32, .int x59, .int ref34]))) := hD
          rw [zw_set (by omega)] at hP hD
          obtain ⟨ct60, ec61⟩ : ∃ z : Nat → va_E, z = va_up ct24 kg (.inr (4, [.int tld26, .int ofb27, .int hol28, .int flt29, .int fla30, .int ofl31, .ref (ad (kg + 1)), .ref (ad (kg + 2)), .int len32, .int x59, .int ref34])) := ⟨_, rfl⟩
          rw [← ec61] at hP hD
          have hI : Inv8 g ad pe ct60 := by rw [ec61]; exact up8 hI (i8_44 (kc := kg) (by omega) ⟨(tld26 : Int32), (ofb27 : Int32), (hol28 : Int32), (flt29 : Int32), (fla30 : Int32), (ofl31 : Int32), (len32 : Int32), (x59 : Int32), (ref34 : Int32), hz35, (by first | omega | decide), (by first | omega | decide), (by first | omega | decide), (by first | omega | decide), hz40, rfl⟩)
          have hs62 : ct60 kg = .inr (4, [.int tld26, .int ofb27, .int hol28, .int flt29, .int fla30, .int ofl31, .ref (ad (kg + 1)), .ref (ad (kg + 2)), .int len32, .int x59, .int ref34]) := by rw [ec61]; exact va_up_self _ _ _
          refine lv_aload_n hx hb dX4_piece_127 rfl (lv_at hl 2 rfl) ?_
          refine lv_iload_n hx hb dX4_piece_128 rfl (lv_at hl 3 rfl) ?_
          refine lv_iload_n hx hb dX4_piece_129 rfl (lv_at hl 4 rfl) ?_
          have hFc := zw_free hD hS hA
          refine va_calli (va_runV (As := [.int 2, .int ask]) (rest := []) ⟨hx, hb, hml, hown, hg⟩ (k_X4_sum_2 l g _ ad pe ct60 kg ask (by omega) hI) (cwV 2 hg (z_gV mm_491 mm_493 mm_12 mm_114 mm_494) rfl rfl rfl (by decide +kernel) ⟨Nat.le_of_ble_eq_true rfl, Nat.le_of_ble_eq_true rfl⟩) ⟨(zA.pre [.ref (ad kg), .int 2, .int ask] hP hK hD hN).1, va_recv hK hP (ci := 4) (q0 := kg) rfl (zw_at (by omega) hs62), (zA.pre [.ref (ad kg), .int 2, .int ask] hP hK hD hN).2⟩ rfl rfl hl.1 rfl (lv_room (Nat.le_of_ble_eq_true rfl)) dX4_piece_130 ⟨Nat.le_of_ble_eq_true rfl, Nat.le_of_ble_eq_true rfl⟩) hS (fun q _ h => hFc q h) hFc (fun r63 _ t H1 locs ht hvm hr63 hB hz1 hk1 hS => ?_)
          obtain ⟨ct64, hP1, hD1, hI⟩ := hB
          rw [ht] at hP1
          have hD := hD1.weaken (fun _ _ _ h => hFc _ h)
          generalize H1 = H at hP1 hS ⊢
          have hP := hP1
          refine W.widen (k := 0) (n := 0) (Nat.le_refl _) (Nat.le_refl _) ?_
          refine lv_istore (lv' := [(5, .int r63), (4, .int r41), (3, .int r23), (0, .ref (ad kg)), (1, .int 2), (2, .int ask)]) hx hb dX4_piece_133 hl (by decide) rfl (fun ls hl => ?_)
          refine lv_iload hx hb dX4_piece_135 (lv_at hl 1 rfl) ?_
          refine lv_bipush (v := 60) hx hb dX4_piece_137 (by decide) ?_
          refine lv_icmp_ne (tgt := 156) hx hb dX4_piece_139 (by decide) (fun c65 => ?_) (fun c65 => ?_)
          · skip
            have c65 : ¬ (r41.toInt = 60) := fun q => c65 ((z_eq rfl (by decide : (60 : Int32).toInt = 60)).mpr q)
            refine lv_iload hx hb dX4_piece_156 (lv_at hl 1 rfl) ?_
            refine lv_bipush (v := 62) hx hb dX4_piece_158 (by decide) ?_
            refine lv_icmp_ne (tgt := 177) hx hb dX4_piece_160 (by decide) (fun c66 => ?_) (fun c66 => ?_)
            · skip
              have c66 : ¬ (r41.toInt = 62) := fun q => c66 ((z_eq rfl (by decide : (62 : Int32).toInt = 62)).mpr q)
              refine lv_iload_n hx hb dX4_piece_177 rfl (lv_at hl 2 rfl) ?_
              refine lv_iload hx hb dX4_piece_178 (lv_at hl 0 rfl) ?_
              refine lv_icmp_ne (tgt := 187) hx hb dX4_piece_180 (by decide) (fun c67 => ?_) (fun c67 => ?_)
              · skip
                have c67 : ¬ (r23.toInt = r63.toInt) := fun q => c67 ((z_eq rfl rfl).mpr q)
                refine lv_iconst (v := 0) hx hb dX4_piece_187 (by decide) ?_
                have q68 : (0 : Int32).toInt = 0 := by decide
                exact W.zret (v := 0) hx hb hr rfl (fun t ht hW => ⟨⟨0, (), rfl, by first | exact Or.inl ⟨rfl, by omega⟩ | exact Or.inr ⟨rfl, by omega⟩ | exact Or.inl rfl | exact Or.inr rfl | exact Or.inl ⟨rfl, by omega, by omega⟩ | exact (z_01 (by omega) (by omega)).symm, ct64, by rw [ht]; exact hP, hD, hI⟩, hS.F ht⟩) hS.2.2 dX4_piece_188
              · skip
                have c67 : r23.toInt = r63.toInt := (z_eq rfl rfl).mp c67
                refine lv_iconst (v := 1) hx hb dX4_piece_183 (by decide) ?_
                refine lv_goto (tgt := 188) hx hb dX4_piece_184 (by decide) ?_
                have q69 : (1 : Int32).toInt = 1 := by decide
                exact W.zret (v := 1) hx hb hr rfl (fun t ht hW => ⟨⟨1, (), rfl, by first | exact Or.inl ⟨rfl, by omega⟩ | exact Or.inr ⟨rfl, by omega⟩ | exact Or.inl rfl | exact Or.inr rfl | exact Or.inl ⟨rfl, by omega, by omega⟩ | exact (z_01 (by omega) (by omega)).symm, ct64, by rw [ht]; exact hP, hD, hI⟩, hS.F ht⟩) hS.2.2 dX4_piece_188
            · skip
              have c66 : r41.toInt = 62 := (z_eq rfl (by decide : (62 : Int32).toInt = 62)).mp c66
              refine lv_iload_n hx hb dX4_piece_163 rfl (lv_at hl 2 rfl) ?_
              refine lv_iload hx hb dX4_piece_164 (lv_at hl 0 rfl) ?_
              refine lv_icmp_le (tgt := 173) hx hb dX4_piece_166 (by decide) (fun c70 => ?_) (fun c70 => ?_)
              · skip
                have c70 : r23.toInt ≤ r63.toInt := (z_le rfl rfl).mp c70
                refine lv_iconst (v := 0) hx hb dX4_piece_173 (by decide) ?_
                refine lv_goto (tgt := 188) hx hb dX4_piece_174 (by decide) ?_
                have q71 : (0 : Int32).toInt = 0 := by decide
                exact W.zret (v := 0) hx hb hr rfl (fun t ht hW => ⟨⟨0, (), rfl, by first | exact Or.inl ⟨rfl, by omega⟩ | exact Or.inr ⟨rfl, by omega⟩ | exact Or.inl rfl | exact Or.inr rfl | exact Or.inl ⟨rfl, by omega, by omega⟩ | exact (z_01 (by omega) (by omega)).symm, ct64, by rw [ht]; exact hP, hD, hI⟩, hS.F ht⟩) hS.2.2 dX4_piece_188
              · skip
                have c70 : ¬ (r23.toInt ≤ r63.toInt) := fun q => c70 ((z_le rfl rfl).mpr q)
                refine lv_iconst (v := 1) hx hb dX4_piece_169 (by decide) ?_
                refine lv_goto (tgt := 188) hx hb dX4_piece_170 (by decide) ?_
                have q72 : (1 : Int32).toInt = 1 := by decide
                exact W.zret (v := 1) hx hb hr rfl (fun t ht hW => ⟨⟨1, (), rfl, by first | exact Or.inl ⟨rfl, by omega⟩ | exact Or.inr ⟨rfl, by omega⟩ | exact Or.inl rfl | exact Or.inr rfl | exact Or.inl ⟨rfl, by omega, by omega⟩ | exact (z_01 (by omega) (by omega)).symm, ct64, by rw [ht]; exact hP, hD, hI⟩, hS.F ht⟩) hS.2.2 dX4_piece_188
          · skip
            have c65 : r41.toInt = 60 := (z_eq rfl (by decide : (60 : Int32).toInt = 60)).mp c65
            exfalso
            omega
        · skip
          have c58 : ¬ (r41.toInt = 62) := fun q => c58 ((z_eq rfl (by decide : (62 : Int32).toInt = 62)).mpr q)
          refine lv_iload hx hb dX4_piece_103 (lv_at hl 0 rfl) ?_
          refine lv_bipush (v := 61) hx hb dX4_piece_105 (by decide) ?_
          refine lv_icmp_eq (tgt := 117) hx hb dX4_piece_107 (by decide) (fun c73 => ?_) (fun c73 => ?_)
          · skip
            have c73 : r41.toInt = 61 := (z_eq rfl (by decide : (61 : Int32).toInt = 61)).mp c73
            refine lv_aload_n hx hb dX4_piece_117 rfl (lv_at hl 2 rfl) ?_
            refine lv_dup hx hb dX4_piece_118 rfl ?_
            refine va_get (D := g.1) (ci := 4) (v := .int atx33) (C := RX4) (T := TX4) (N := 11) hx hb hg inG4 hown hK hP kg (zw_at (by omega) hs25) rfl 9 (by decide) (hg _ mm_285) (fun _ h9 => h9) rfl dX4_piece_119 ?_
            refine lv_iconst (v := 1) hx hb dX4_piece_122 (by decide) ?_
            refine lv_iadd hx hb dX4_piece_123 ?_
            refine lv_topi (fun x74 ex74 => ?_)
            have tx74 : x74.toInt = atx33.toInt + 1 := by rw [ex74]; exact z_add rfl (by decide : (1 : Int32).toInt = 1) (by omega) (by omega)
            refine va_put (D := g.1) (ci := 4) (v := .int x74) (ty := .int) (C := RX4) (T := TX4) (N := 11) hx hb hg inG4 tyX4 tyX4_ok nmX4 hown hK hP hD hS kg (zw_at (by omega) hs25) rfl 9 (by decide) (hg _ mm_285) (fun _ h9 => h9) rfl (by decide +kernel) rfl rfl (Nat.le_of_ble_eq_true rfl) dX4_piece_124 (fun H locs hP hD hS => ?_)
            have hP : zP g ((zw 126 ad ct24).set kg (ad kg, .inr (4, [.int tld26, .int ofb27, .int hol28, .int flt29, .int fla30, .int ofl31, .ref (ad (kg + 1)), .ref (ad (kg + 2)), .int len32, .int x74, .int ref34]))) H := hP
            have hD : va_D A ((zw 126 ad ct24).set kg (ad kg, .inr (4, [.int tld26, .int ofb27, .int hol28, .int flt29, .int fla30, .int ofl31, .ref (ad (kg + 1)), .ref (ad (kg + 2)), .int len32, .int x74, .int ref34]))) := hD
            rw [zw_set (by omega)] at hP hD
            obtain ⟨ct75, ec76⟩ : ∃ z : Nat → va_E, z = va_up ct24 kg (.inr (4, [.int tld26, .int ofb27, .int hol28, .int flt29, .int fla30, .int ofl31, .ref (ad (kg + 1)), .ref (ad (kg + 2)), .int len32, .int x74, .int ref34])) := ⟨_, rfl⟩
            rw [← ec76] at hP hD
            have hI : Inv8 g ad pe ct75 := by rw [ec76]; exact up8 hI (i8_44 (kc := kg) (by omega) ⟨(tld26 : Int32), (ofb27 : Int32), (hol28 : Int32), (flt29 : Int32), (fla30 : Int32), (ofl31 : Int32), (len32 : Int32), (x74 : Int32), (ref34 : Int32), hz35, (by first | omega | decide), (by first | omega | decide), (by first | omega | decide), (by first | omega | decide), hz40, rfl⟩)
            have hs77 : ct75 kg = .inr (4, [.int tld26, .int ofb27, .int hol28, .int flt29, .int fla30, .int ofl31, .ref (ad (kg + 1)), .ref (ad (kg + 2)), .int len32, .int x74, .int ref34]) := by rw [ec76]; exact va_up_self _ _ _
            refine lv_aload_n hx hb dX4_piece_127 rfl (lv_at hl 2 rfl) ?_
            refine lv_iload_n hx hb dX4_piece_128 rfl (lv_at hl 3 rfl) ?_
            refine lv_iload_n hx hb dX4_piece_129 rfl (lv_at hl 4 rfl) ?_
            have hFc := zw_free hD hS hA
            refine va_calli (va_runV (As := [.int 2, .int ask]) (rest := []) ⟨hx, hb, hml, hown, hg⟩ (k_X4_sum_2 l g _ ad pe ct75 kg ask (by omega) hI) (cwV 2 hg (z_gV mm_491 mm_493 mm_12 mm_114 mm_494) rfl rfl rfl (by decide +kernel) ⟨Nat.le_of_ble_eq_true rfl, Nat.le_of_ble_eq_true rfl⟩) ⟨(zA.pre [.ref (ad kg), .int 2, .int ask] hP hK hD hN).1, va_recv hK hP (ci := 4) (q0 := kg) rfl (zw_at (by omega) hs77), (zA.pre [.ref (ad kg), .int 2, .int ask] hP hK hD hN).2⟩ rfl rfl hl.1 rfl (lv_room (Nat.le_of_ble_eq_true rfl)) dX4_piece_130 ⟨Nat.le_of_ble_eq_true rfl, Nat.le_of_ble_eq_true rfl⟩) hS (fun q _ h => hFc q h) hFc (fun r78 _ t H1 locs ht hvm hr78 hB hz1 hk1 hS => ?_)
            obtain ⟨ct79, hP1, hD1, hI⟩ := hB
            rw [ht] at hP1
            have hD := hD1.weaken (fun _ _ _ h => hFc _ h)
            generalize H1 = H at hP1 hS ⊢
            have hP := hP1
            refine W.widen (k := 0) (n := 0) (Nat.le_refl _) (Nat.le_refl _) ?_
            refine lv_istore (lv' := [(5, .int r78), (4, .int r41), (3, .int r23), (0, .ref (ad kg)), (1, .int 2), (2, .int ask)]) hx hb dX4_piece_133 hl (by decide) rfl (fun ls hl => ?_)
            refine lv_iload hx hb dX4_piece_135 (lv_at hl 1 rfl) ?_
            refine lv_bipush (v := 60) hx hb dX4_piece_137 (by decide) ?_
            refine lv_icmp_ne (tgt := 156) hx hb dX4_piece_139 (by decide) (fun c80 => ?_) (fun c80 => ?_)
            · skip
              have c80 : ¬ (r41.toInt = 60) := fun q => c80 ((z_eq rfl (by decide : (60 : Int32).toInt = 60)).mpr q)
              refine lv_iload hx hb dX4_piece_156 (lv_at hl 1 rfl) ?_
              refine lv_bipush (v := 62) hx hb dX4_piece_158 (by decide) ?_
              refine lv_icmp_ne (tgt := 177) hx hb dX4_piece_160 (by decide) (fun c81 => ?_) (fun c81 => ?_)
              · skip
                have c81 : ¬ (r41.toInt = 62) := fun q => c81 ((z_eq rfl (by decide : (62 : Int32).toInt = 62)).mpr q)
                refine lv_iload_n hx hb dX4_piece_177 rfl (lv_at hl 2 rfl) ?_
                refine lv_iload hx hb dX4_piece_178 (lv_at hl 0 rfl) ?_
                refine lv_icmp_ne (tgt := 187) hx hb dX4_piece_180 (by decide) (fun c82 => ?_) (fun c82 => ?_)
                · skip
                  have c82 : ¬ (r23.toInt = r78.toInt) := fun q => c82 ((z_eq rfl rfl).mpr q)
                  refine lv_iconst (v := 0) hx hb dX4_piece_187 (by decide) ?_
                  have q83 : (0 : Int32).toInt = 0 := by decide
                  exact W.zret (v := 0) hx hb hr rfl (fun t ht hW => ⟨⟨0, (), rfl, by first | exact Or.inl ⟨rfl, by omega⟩ | exact Or.inr ⟨rfl, by omega⟩ | exact Or.inl rfl | exact Or.inr rfl | exact Or.inl ⟨rfl, by omega, by omega⟩ | exact (z_01 (by omega) (by omega)).symm, ct79, by rw [ht]; exact hP, hD, hI⟩, hS.F ht⟩) hS.2.2 dX4_piece_188
                · skip
                  have c82 : r23.toInt = r78.toInt := (z_eq rfl rfl).mp c82
                  refine lv_iconst (v := 1) hx hb dX4_piece_183 (by decide) ?_
                  refine lv_goto (tgt := 188) hx hb dX4_piece_184 (by decide) ?_
                  have q84 : (1 : Int32).toInt = 1 := by decide
                  exact W.zret (v := 1) hx hb hr rfl (fun t ht hW => ⟨⟨1, (), rfl, by first | exact Or.inl ⟨rfl, by omega⟩ | exact Or.inr ⟨rfl, by omega⟩ | exact Or.inl rfl | exact Or.inr rfl | exact Or.inl ⟨rfl, by omega, by omega⟩ | exact (z_01 (by omega) (by omega)).symm, ct79, by rw [ht]; exact hP, hD, hI⟩, hS.F ht⟩) hS.2.2 dX4_piece_188
              · skip
                have c81 : r41.toInt = 62 := (z_eq rfl (by decide : (62 : Int32).toInt = 62)).mp c81
                exfalso
                omega
            · skip
              have c80 : r41.toInt = 60 := (z_eq rfl (by decide : (60 : Int32).toInt = 60)).mp c80
              exfalso
              omega
          · skip
            have c73 : ¬ (r41.toInt = 61) := fun q => c73 ((z_eq rfl (by decide : (61 : Int32).toInt = 61)).mpr q)
            refine lv_aload_n hx hb dX4_piece_110 rfl (lv_at hl 2 rfl) ?_
            refine lv_iconst (v := 1) hx hb dX4_piece_111 (by decide) ?_
            have hFc := zw_free hD hS hA
            refine va_callv (va_runV (As := [.int 1]) (rest := []) ⟨hx, hb, hml, hown, hg⟩ (k_X4_fail l g _ ad pe ct24 kg (1 : Int32) (by omega) hI) (cwV 1 hg (z_gV mm_483 mm_485 mm_10 mm_114 mm_486) rfl rfl rfl (by decide +kernel) ⟨Nat.le_of_ble_eq_true rfl, Nat.le_of_ble_eq_true rfl⟩) ⟨(zA.pre [.ref (ad kg), .int 1] hP hK hD hN).1, va_recv hK hP (ci := 4) (q0 := kg) rfl (zw_at (by omega) hs25), (zA.pre [.ref (ad kg), .int 1] hP hK hD hN).2⟩ rfl rfl hl.1 rfl (lv_room (Nat.le_of_ble_eq_true rfl)) dX4_piece_112 ⟨Nat.le_of_ble_eq_true rfl, Nat.le_of_ble_eq_true rfl⟩) hS (fun q _ h => hFc q h) hFc (fun _ t H1 locs ht hvm hr85 hB hz1 hk1 hS => ?_)
            obtain ⟨ct86, hP1, hD1, hI⟩ := hB
            rw [ht] at hP1
            have hD := hD1.weaken (fun _ _ _ h => hFc _ h)
            generalize H1 = H at hP1 hS ⊢
            have hP := hP1
            refine W.widen (k := 0) (n := 0) (Nat.le_refl _) (Nat.le_refl _) ?_
            refine lv_iconst (v := 0) hx hb dX4_piece_115 (by decide) ?_
            have q87 : (0 : Int32).toInt = 0 := by decide
            exact W.zret (v := 0) hx hb hr rfl (fun t ht hW => ⟨⟨0, (), rfl, by first | exact Or.inl ⟨rfl, by omega⟩ | exact Or.inr ⟨rfl, by omega⟩ | exact Or.inl rfl | exact Or.inr rfl | exact Or.inl ⟨rfl, by omega, by omega⟩ | exact (z_01 (by omega) (by omega)).symm, ct86, by rw [ht]; exact hP, hD, hI⟩, hS.F ht⟩) hS.2.2 dX4_piece_116
    · skip
      have c22 : r20.toInt = 40 := (z_eq rfl (by decide : (40 : Int32).toInt = 40)).mp c22
      refine lv_aload_n hx hb dX4_piece_43 rfl (lv_at hl 0 rfl) ?_
      refine lv_iload_n hx hb dX4_piece_44 rfl (lv_at hl 1 rfl) ?_
      have hFc := zw_free hD hS hA
      refine va_calli (va_runV (As := [.int 2]) (rest := []) ⟨hx, hb, hml, hown, hg⟩ (k_X4_opens l g _ ad pe ct kg (2 : Int32) tld2 ofb3 hol4 flt5 fla6 ofl7 len8 atx9 ref10 (by omega) hI hs1 (by first | omega | assumption | decide)) (cwV 1 hg (z_gV mm_479 mm_481 mm_9 mm_114 mm_482) rfl rfl rfl (by decide +kernel) ⟨Nat.le_of_ble_eq_true rfl, Nat.le_of_ble_eq_true rfl⟩) ⟨(zA.pre [.ref (ad kg), .int 2] hP hK hD hN).1, va_recv hK hP (ci := 4) (q0 := kg) rfl (zw_at (by omega) hs1), (zA.pre [.ref (ad kg), .int 2] hP hK hD hN).2⟩ rfl rfl hl.1 rfl (lv_room (Nat.le_of_ble_eq_true rfl)) dX4_piece_45 ⟨Nat.le_of_ble_eq_true rfl, Nat.le_of_ble_eq_true rfl⟩) hS (fun q _ h => hFc q h) hFc (fun r88 _ t H1 locs ht hvm hr88 hB hz1 hk1 hS => ?_)
      obtain ⟨ct89, hP1, hD1, hI⟩ := hB
      rw [ht] at hP1
      have hD := hD1.weaken (fun _ _ _ h => hFc _ h)
      generalize H1 = H at hP1 hS ⊢
      have hP := hP1
      refine W.widen (k := 0) (n := 0) (Nat.le_refl _) (Nat.le_refl _) ?_
      rcases hr88 with hr88 | hr88
      · skip
        obtain ⟨rfl, h90⟩ := hr88
        have h90 : (2 : Int) < 6 := h90
        refine lv_if_eq (tgt := 66) hx hb dX4_piece_48 (by decide) (fun c91 => ?_) (fun c91 => ?_)
        · skip
          exact absurd c91 (by decide)
        · skip
          refine lv_aload_n hx hb dX4_piece_51 rfl (lv_at hl 0 rfl) ?_
          refine lv_iload_n hx hb dX4_piece_52 rfl (lv_at hl 1 rfl) ?_
          refine lv_iconst (v := 1) hx hb dX4_piece_53 (by decide) ?_
          refine lv_iadd hx hb dX4_piece_54 ?_
          refine lv_topi (fun x92 ex92 => ?_)
          obtain rfl : x92 = 3 := ex92.trans (by decide)
          refine lv_iload_n hx hb dX4_piece_55 rfl (lv_at hl 2 rfl) ?_
          obtain ⟨tld94, ofb95, hol96, flt97, fla98, ofl99, len100, atx101, ref102, hz103, h104, h105, h106, h107, hz108, hs93⟩ := a8_44 (kc := kg) (by omega) hI
          have bhz103 := z_b01 hz103
          have bhz108 := z_b01 hz108
          have hFc := zw_free hD hS hA
          refine va_calli (va_runV (As := [.int 3, .int ask]) (rest := []) ⟨hx, hb, hml, hown, hg⟩ (k_X4_anyOf_3 l g _ ad pe ct89 kg ask (by omega) hI) (cwV 2 hg (z_gV mm_463 mm_465 mm_5 mm_114 mm_466) rfl rfl rfl (by decide +kernel) ⟨Nat.le_of_ble_eq_true rfl, Nat.le_of_ble_eq_true rfl⟩) ⟨(zA.pre [.ref (ad kg), .int 3, .int ask] hP hK hD hN).1, va_recv hK hP (ci := 4) (q0 := kg) rfl (zw_at (by omega) hs93), (zA.pre [.ref (ad kg), .int 3, .int ask] hP hK hD hN).2⟩ rfl rfl hl.1 rfl (lv_room (Nat.le_of_ble_eq_true rfl)) dX4_piece_56 ⟨Nat.le_of_ble_eq_true rfl, Nat.le_of_ble_eq_true rfl⟩) hS (fun q _ h => hFc q h) hFc (fun r109 _ t H1 locs ht hvm hr109 hB hz1 hk1 hS => ?_)
          obtain ⟨ct110, hP1, hD1, hI⟩ := hB
          rw [ht] at hP1
          have hD := hD1.weaken (fun _ _ _ h => hFc _ h)
          generalize H1 = H at hP1 hS ⊢
          have hP := hP1
          refine W.widen (k := 0) (n := 0) (Nat.le_refl _) (Nat.le_refl _) ?_
          rcases hr109 with hr109 | hr109
          · skip
            obtain rfl := hr109
            refine lv_if_eq (tgt := 66) hx hb dX4_piece_59 (by decide) (fun c111 => ?_) (fun c111 => ?_)
            · skip
              exact absurd c111 (by decide)
            · skip
              refine lv_iconst (v := 1) hx hb dX4_piece_62 (by decide) ?_
              refine lv_goto (tgt := 67) hx hb dX4_piece_63 (by decide) ?_
              refine lv_istore_n (lv' := [(3, .int 1), (0, .ref (ad kg)), (1, .int 2), (2, .int ask)]) hx hb dX4_piece_67 rfl hl (by decide) rfl (fun ls hl => ?_)
              refine lv_aload_n hx hb dX4_piece_68 rfl (lv_at hl 1 rfl) ?_
              refine lv_bipush (v := 41) hx hb dX4_piece_69 (by decide) ?_
              obtain ⟨tld113, ofb114, hol115, flt116, fla117, ofl118, len119, atx120, ref121, hz122, h123, h124, h125, h126, hz127, hs112⟩ := a8_44 (kc := kg) (by omega) hI
              have bhz122 := z_b01 hz122
              have bhz127 := z_b01 hz127
              have hFc := zw_free hD hS hA
              refine va_callv (va_runV (As := [.int 41]) (rest := []) ⟨hx, hb, hml, hown, hg⟩ (k_X4_expect l g _ ad pe ct110 kg (41 : Int32) (by omega) (by first | omega | decide) hI) (cwV 1 hg (z_gV mm_487 mm_489 mm_11 mm_114 mm_490) rfl rfl rfl (by decide +kernel) ⟨Nat.le_of_ble_eq_true rfl, Nat.le_of_ble_eq_true rfl⟩) ⟨(zA.pre [.ref (ad kg), .int 41] hP hK hD hN).1, va_recv hK hP (ci := 4) (q0 := kg) rfl (zw_at (by omega) hs112), (zA.pre [.ref (ad kg), .int 41] hP hK hD hN).2⟩ rfl rfl hl.1 rfl (lv_room (Nat.le_of_ble_eq_true rfl)) dX4_piece_71 ⟨Nat.le_of_ble_eq_true rfl, Nat.le_of_ble_eq_true rfl⟩) hS (fun q _ h => hFc q h) hFc (fun _ t H1 locs ht hvm hr128 hB hz1 hk1 hS => ?_)
              obtain ⟨ct129, hP1, hD1, hI⟩ := hB
              rw [ht] at hP1
              have hD := hD1.weaken (fun _ _ _ h => hFc _ h)
              generalize H1 = H at hP1 hS ⊢
              have hP := hP1
              refine W.widen (k := 0) (n := 0) (Nat.le_refl _) (Nat.le_refl _) ?_
              refine lv_iload_n hx hb dX4_piece_74 rfl (lv_at hl 0 rfl) ?_
              have q130 : (1 : Int32).toInt = 1 := by decide
              exact W.zret (v := 1) hx hb hr rfl (fun t ht hW => ⟨⟨1, (), rfl, by first | exact Or.inl ⟨rfl, by omega⟩ | exact Or.inr ⟨rfl, by omega⟩ | exact Or.inl rfl | exact Or.inr rfl | exact Or.inl ⟨rfl, by omega, by omega⟩ | exact (z_01 (by omega) (by omega)).symm, ct129, by rw [ht]; exact hP, hD, hI⟩, hS.F ht⟩) hS.2.2 dX4_piece_75
          · skip
            obtain rfl := hr109
            refine lv_if_eq (tgt := 66) hx hb dX4_piece_59 (by decide) (fun c131 => ?_) (fun c131 => ?_)
            · skip
              refine lv_iconst (v := 0) hx hb dX4_piece_66 (by decide) ?_
              refine lv_istore_n (lv' := [(3, .int 0), (0, .ref (ad kg)), (1, .int 2), (2, .int ask)]) hx hb dX4_piece_67 rfl hl (by decide) rfl (fun ls hl => ?_)
              refine lv_aload_n hx hb dX4_piece_68 rfl (lv_at hl 1 rfl) ?_
              refine lv_bipush (v := 41) hx hb dX4_piece_69 (by decide) ?_
              obtain ⟨tld133, ofb134, hol135, flt136, fla137, ofl138, len139, atx140, ref141, hz142, h143, h144, h145, h146, hz147, hs132⟩ := a8_44 (kc := kg) (by omega) hI
              have bhz142 := z_b01 hz142
              have bhz147 := z_b01 hz147
              have hFc := zw_free hD hS hA
              refine va_callv (va_runV (As := [.int 41]) (rest := []) ⟨hx, hb, hml, hown, hg⟩ (k_X4_expect l g _ ad pe ct110 kg (41 : Int32) (by omega) (by first | omega | decide) hI) (cwV 1 hg (z_gV mm_487 mm_489 mm_11 mm_114 mm_490) rfl rfl rfl (by decide +kernel) ⟨Nat.le_of_ble_eq_true rfl, Nat.le_of_ble_eq_true rfl⟩) ⟨(zA.pre [.ref (ad kg), .int 41] hP hK hD hN).1, va_recv hK hP (ci := 4) (q0 := kg) rfl (zw_at (by omega) hs132), (zA.pre [.ref (ad kg), .int 41] hP hK hD hN).2⟩ rfl rfl hl.1 rfl (lv_room (Nat.le_of_ble_eq_true rfl)) dX4_piece_71 ⟨Nat.le_of_ble_eq_true rfl, Nat.le_of_ble_eq_true rfl⟩) hS (fun q _ h => hFc q h) hFc (fun _ t H1 locs ht hvm hr148 hB hz1 hk1 hS => ?_)
              obtain ⟨ct149, hP1, hD1, hI⟩ := hB
              rw [ht] at hP1
              have hD := hD1.weaken (fun _ _ _ h => hFc _ h)
              generalize H1 = H at hP1 hS ⊢
              have hP := hP1
              refine W.widen (k := 0) (n := 0) (Nat.le_refl _) (Nat.le_refl _) ?_
              refine lv_iload_n hx hb dX4_piece_74 rfl (lv_at hl 0 rfl) ?_
              have q150 : (0 : Int32).toInt = 0 := by decide
              exact W.zret (v := 0) hx hb hr rfl (fun t ht hW => ⟨⟨0, (), rfl, by first | exact Or.inl ⟨rfl, by omega⟩ | exact Or.inr ⟨rfl, by omega⟩ | exact Or.inl rfl | exact Or.inr rfl | exact Or.inl ⟨rfl, by omega, by omega⟩ | exact (z_01 (by omega) (by omega)).symm, ct149, by rw [ht]; exact hP, hD, hI⟩, hS.F ht⟩) hS.2.2 dX4_piece_75
            · skip
              exact absurd c131 (by decide)
      · skip
        obtain rfl := hr88
        refine lv_if_eq (tgt := 66) hx hb dX4_piece_48 (by decide) (fun c151 => ?_) (fun c151 => ?_)
        · skip
          refine lv_iconst (v := 0) hx hb dX4_piece_66 (by decide) ?_
          refine lv_istore_n (lv' := [(3, .int 0), (0, .ref (ad kg)), (1, .int 2), (2, .int ask)]) hx hb dX4_piece_67 rfl hl (by decide) rfl (fun ls hl => ?_)
          refine lv_aload_n hx hb dX4_piece_68 rfl (lv_at hl 1 rfl) ?_
          refine lv_bipush (v := 41) hx hb dX4_piece_69 (by decide) ?_
          obtain ⟨tld153, ofb154, hol155, flt156, fla157, ofl158, len159, atx160, ref161, hz162, h163, h164, h165, h166, hz167, hs152⟩ := a8_44 (kc := kg) (by omega) hI
          have bhz162 := z_b01 hz162
          have bhz167 := z_b01 hz167
          have hFc := zw_free hD hS hA
          refine va_callv (va_runV (As := [.int 41]) (rest := []) ⟨hx, hb, hml, hown, hg⟩ (k_X4_expect l g _ ad pe ct89 kg (41 : Int32) (by omega) (by first | omega | decide) hI) (cwV 1 hg (z_gV mm_487 mm_489 mm_11 mm_114 mm_490) rfl rfl rfl (by decide +kernel) ⟨Nat.le_of_ble_eq_true rfl, Nat.le_of_ble_eq_true rfl⟩) ⟨(zA.pre [.ref (ad kg), .int 41] hP hK hD hN).1, va_recv hK hP (ci := 4) (q0 := kg) rfl (zw_at (by omega) hs152), (zA.pre [.ref (ad kg), .int 41] hP hK hD hN).2⟩ rfl rfl hl.1 rfl (lv_room (Nat.le_of_ble_eq_true rfl)) dX4_piece_71 ⟨Nat.le_of_ble_eq_true rfl, Nat.le_of_ble_eq_true rfl⟩) hS (fun q _ h => hFc q h) hFc (fun _ t H1 locs ht hvm hr168 hB hz1 hk1 hS => ?_)
          obtain ⟨ct169, hP1, hD1, hI⟩ := hB
          rw [ht] at hP1
          have hD := hD1.weaken (fun _ _ _ h => hFc _ h)
          generalize H1 = H at hP1 hS ⊢
          have hP := hP1
          refine W.widen (k := 0) (n := 0) (Nat.le_refl _) (Nat.le_refl _) ?_
          refine lv_iload_n hx hb dX4_piece_74 rfl (lv_at hl 0 rfl) ?_
          have q170 : (0 : Int32).toInt = 0 := by decide
          exact W.zret (v := 0) hx hb hr rfl (fun t ht hW => ⟨⟨0, (), rfl, by first | exact Or.inl ⟨rfl, by omega⟩ | exact Or.inr ⟨rfl, by omega⟩ | exact Or.inl rfl | exact Or.inr rfl | exact Or.inl ⟨rfl, by omega, by omega⟩ | exact (z_01 (by omega) (by omega)).symm, ct169, by rw [ht]; exact hP, hD, hI⟩, hS.F ht⟩) hS.2.2 dX4_piece_75
        · skip
          exact absurd c151 (by decide)
  · skip
    have c19 : r17.toInt = 33 := (z_eq rfl (by decide : (33 : Int32).toInt = 33)).mp c19
    refine lv_aload_n hx hb dX4_piece_9 rfl (lv_at hl 0 rfl) ?_
    refine lv_iload_n hx hb dX4_piece_10 rfl (lv_at hl 1 rfl) ?_
    have hFc := zw_free hD hS hA
    refine va_calli (va_runV (As := [.int 2]) (rest := []) ⟨hx, hb, hml, hown, hg⟩ (k_X4_opens l g _ ad pe ct kg (2 : Int32) tld2 ofb3 hol4 flt5 fla6 ofl7 len8 atx9 ref10 (by omega) hI hs1 (by first | omega | assumption | decide)) (cwV 1 hg (z_gV mm_479 mm_481 mm_9 mm_114 mm_482) rfl rfl rfl (by decide +kernel) ⟨Nat.le_of_ble_eq_true rfl, Nat.le_of_ble_eq_true rfl⟩) ⟨(zA.pre [.ref (ad kg), .int 2] hP hK hD hN).1, va_recv hK hP (ci := 4) (q0 := kg) rfl (zw_at (by omega) hs1), (zA.pre [.ref (ad kg), .int 2] hP hK hD hN).2⟩ rfl rfl hl.1 rfl (lv_room (Nat.le_of_ble_eq_true rfl)) dX4_piece_11 ⟨Nat.le_of_ble_eq_true rfl, Nat.le_of_ble_eq_true rfl⟩) hS (fun q _ h => hFc q h) hFc (fun r171 _ t H1 locs ht hvm hr171 hB hz1 hk1 hS => ?_)
    obtain ⟨ct172, hP1, hD1, hI⟩ := hB
    rw [ht] at hP1
    have hD := hD1.weaken (fun _ _ _ h => hFc _ h)
    generalize H1 = H at hP1 hS ⊢
    have hP := hP1
    refine W.widen (k := 0) (n := 0) (Nat.le_refl _) (Nat.le_refl _) ?_
    rcases hr171 with hr171 | hr171
    · skip
      obtain ⟨rfl, h173⟩ := hr171
      have h173 : (2 : Int) < 6 := h173
      refine lv_if_eq (tgt := 32) hx hb dX4_piece_14 (by decide) (fun c174 => ?_) (fun c174 => ?_)
      · skip
        exact absurd c174 (by decide)
      · skip
        refine lv_aload_n hx hb dX4_piece_17 rfl (lv_at hl 0 rfl) ?_
        refine lv_iload_n hx hb dX4_piece_18 rfl (lv_at hl 1 rfl) ?_
        refine lv_iconst (v := 1) hx hb dX4_piece_19 (by decide) ?_
        refine lv_iadd hx hb dX4_piece_20 ?_
        refine lv_topi (fun x175 ex175 => ?_)
        obtain rfl : x175 = 3 := ex175.trans (by decide)
        refine lv_iload_n hx hb dX4_piece_21 rfl (lv_at hl 2 rfl) ?_
        obtain ⟨tld177, ofb178, hol179, flt180, fla181, ofl182, len183, atx184, ref185, hz186, h187, h188, h189, h190, hz191, hs176⟩ := a8_44 (kc := kg) (by omega) hI
        have bhz186 := z_b01 hz186
        have bhz191 := z_b01 hz191
        have hFc := zw_free hD hS hA
        refine va_calli (va_runV (As := [.int 3, .int ask]) (rest := []) ⟨hx, hb, hml, hown, hg⟩ (k_X4_piece_3 l g _ ad pe ct172 kg ask (by omega) hI) (cwV 2 hg (z_gV mm_471 mm_473 mm_7 mm_114 mm_474) rfl rfl rfl (by decide +kernel) ⟨Nat.le_of_ble_eq_true rfl, Nat.le_of_ble_eq_true rfl⟩) ⟨(zA.pre [.ref (ad kg), .int 3, .int ask] hP hK hD hN).1, va_recv hK hP (ci := 4) (q0 := kg) rfl (zw_at (by omega) hs176), (zA.pre [.ref (ad kg), .int 3, .int ask] hP hK hD hN).2⟩ rfl rfl hl.1 rfl (lv_room (Nat.le_of_ble_eq_true rfl)) dX4_piece_22 ⟨Nat.le_of_ble_eq_true rfl, Nat.le_of_ble_eq_true rfl⟩) hS (fun q _ h => hFc q h) hFc (fun r192 _ t H1 locs ht hvm hr192 hB hz1 hk1 hS => ?_)
        obtain ⟨ct193, hP1, hD1, hI⟩ := hB
        rw [ht] at hP1
        have hD := hD1.weaken (fun _ _ _ h => hFc _ h)
        generalize H1 = H at hP1 hS ⊢
        have hP := hP1
        refine W.widen (k := 0) (n := 0) (Nat.le_refl _) (Nat.le_refl _) ?_
        rcases hr192 with hr192 | hr192
        · skip
          obtain rfl := hr192
          refine lv_if_ne (tgt := 32) hx hb dX4_piece_25 (by decide) (fun c194 => ?_) (fun c194 => ?_)
          · skip
            refine lv_iconst (v := 0) hx hb dX4_piece_32 (by decide) ?_
            have q195 : (0 : Int32).toInt = 0 := by decide
            exact W.zret (v := 0) hx hb hr rfl (fun t ht hW => ⟨⟨0, (), rfl, by first | exact Or.inl ⟨rfl, by omega⟩ | exact Or.inr ⟨rfl, by omega⟩ | exact Or.inl rfl | exact Or.inr rfl | exact Or.inl ⟨rfl, by omega, by omega⟩ | exact (z_01 (by omega) (by omega)).symm, ct193, by rw [ht]; exact hP, hD, hI⟩, hS.F ht⟩) hS.2.2 dX4_piece_33
          · skip
            exact absurd c194 (by decide)
        · skip
          obtain rfl := hr192
          refine lv_if_ne (tgt := 32) hx hb dX4_piece_25 (by decide) (fun c196 => ?_) (fun c196 => ?_)
          · skip
            exact absurd c196 (by decide)
          · skip
            refine lv_iconst (v := 1) hx hb dX4_piece_28 (by decide) ?_
            refine lv_goto (tgt := 33) hx hb dX4_piece_29 (by decide) ?_
            have q197 : (1 : Int32).toInt = 1 := by decide
            exact W.zret (v := 1) hx hb hr rfl (fun t ht hW => ⟨⟨1, (), rfl, by first | exact Or.inl ⟨rfl, by omega⟩ | exact Or.inr ⟨rfl, by omega⟩ | exact Or.inl rfl | exact Or.inr rfl | exact Or.inl ⟨rfl, by omega, by omega⟩ | exact (z_01 (by omega) (by omega)).symm, ct193, by rw [ht]; exact hP, hD, hI⟩, hS.F ht⟩) hS.2.2 dX4_piece_33
    · skip
      obtain rfl := hr171
      refine lv_if_eq (tgt := 32) hx hb dX4_piece_14 (by decide) (fun c198 => ?_) (fun c198 => ?_)
      · skip
        refine lv_iconst (v := 0) hx hb dX4_piece_32 (by decide) ?_
        have q199 : (0 : Int32).toInt = 0 := by decide
        exact W.zret (v := 0) hx hb hr rfl (fun t ht hW => ⟨⟨0, (), rfl, by first | exact Or.inl ⟨rfl, by omega⟩ | exact Or.inr ⟨rfl, by omega⟩ | exact Or.inl rfl | exact Or.inr rfl | exact Or.inl ⟨rfl, by omega, by omega⟩ | exact (z_01 (by omega) (by omega)).symm, ct172, by rw [ht]; exact hP, hD, hI⟩, hS.F ht⟩) hS.2.2 dX4_piece_33
      · skip
        exact absurd c198 (by decide)

set_option maxHeartbeats 4000000 in
set_option maxRecDepth 100000 in
theorem k_X4_allOf_2 (l : Launch) (g : zG) (sz : Nat) (ad : Nat → Nat) (pe : Int32) (ct : Nat → va_E) (kg : Nat) (ask : Int32) (hf_kg : 99 ≤ kg ∧ kg < 126 ∧ (kg - 99) % 3 = 0) (hI : Inv8 g ad pe ct) : Met l yX4_allOf (zW yX4_allOf cX4_allOf 6 (some .boolean)) ({ frames := 18, cells := 0, slots := 0, locals := 448 }) (va_Pc [.ref (ad kg), .int 2, .int ask] (zA g (zw 126 ad ct) sz)) (va_Qi (fun (r : Int32) (_ : Unit) => (r = 1) ∨ (r = 0)) (fun _ t => ∃ ct2 : Nat → va_E, zP g (zw 126 ad ct2) t.heap ∧ va_D (va_A (zw 126 ad ct) sz) (zw 126 ad ct2) ∧ Inv8 g ad pe ct2) (va_A (zw 126 ad ct) sz)) 0 0 (va_A (zw 126 ad ct) sz) := by
  refine Met.ofW (cc := cX4_allOf) (maxL := 6) (ret := (some .boolean)) (by decide) rfl ?_
  intro p e s m args below meth c s₁ B hml hv
  obtain ⟨rfl, hsz, hP, hK, hD0, hN⟩ := hv
  have hx := B.exec
  have hb := B.bytes
  have hr := B.returns
  have hg := zW.law (atoms_spec (ws := (zW yX4_allOf cX4_allOf 6 (some .boolean))) B.pre)
  have hown : s.vm.findClass RX4 = some m.cls := findClass_of_methodNamed B.named
  have hlocks := B.notSynchronized
  have hpe0 := hI.1
  subst hsz
  have hD := hD0.self (sz := s.heap.size)
  generalize hAe : va_A (zw 126 ad ct) s.heap.size = A at hD ⊢
  have hA : ∀ q : Nat, s.heap.size ≤ q → A q := fun q h => by rw [← hAe]; exact Or.inr h
  have hS : va_S A s.heap s.heap [] := va_S.rf
  have hl := lv_entry ([.ref (ad kg), .int 2, .int ask]) (n := 6) (Nat.le_of_ble_eq_true rfl)
  rw [lg_entry_eq]
  generalize (lg_sl ([.ref (ad kg), .int 2, .int ask]) ++ List.replicate (6 - (lg_sl ([.ref (ad kg), .int 2, .int ask])).length) Slot.unset).toArray = ls at hl ⊢
  have hl : lv_has ls 6 [(0, .ref (ad kg)), (1, .int 2), (2, .int ask)] := hl
  have rg_ask := z_rng ask
  refine lv_aload_n hx hb dX4_allOf_0 rfl (lv_at hl 0 rfl) ?_
  refine lv_iload_n hx hb dX4_allOf_1 rfl (lv_at hl 1 rfl) ?_
  refine lv_iload_n hx hb dX4_allOf_2 rfl (lv_at hl 2 rfl) ?_
  obtain ⟨tld2, ofb3, hol4, flt5, fla6, ofl7, len8, atx9, ref10, hz11, h12, h13, h14, h15, hz16, hs1⟩ := a8_44 (kc := kg) (by omega) hI
  have bhz11 := z_b01 hz11
  have bhz16 := z_b01 hz16
  have hFc := zw_free hD hS hA
  refine va_calli (va_runV (As := [.int 2, .int ask]) (rest := []) ⟨hx, hb, hml, hown, hg⟩ (k_X4_piece_2 l g _ ad pe ct kg ask (by omega) hI) (cwV 2 hg (z_gV mm_471 mm_473 mm_7 mm_114 mm_474) rfl rfl rfl (by decide +kernel) ⟨Nat.le_of_ble_eq_true rfl, Nat.le_of_ble_eq_true rfl⟩) ⟨(zA.pre [.ref (ad kg), .int 2, .int ask] hP hK hD hN).1, va_recv hK hP (ci := 4) (q0 := kg) rfl (zw_at (by omega) hs1), (zA.pre [.ref (ad kg), .int 2, .int ask] hP hK hD hN).2⟩ rfl rfl hl.1 rfl (lv_room (Nat.le_of_ble_eq_true rfl)) dX4_allOf_3 ⟨Nat.le_of_ble_eq_true rfl, Nat.le_of_ble_eq_true rfl⟩) hS (fun q _ h => hFc q h) hFc (fun r17 _ t H1 locs ht hvm hr17 hB hz1 hk1 hS => ?_)
  obtain ⟨ct18, hP1, hD1, hI⟩ := hB
  rw [ht] at hP1
  have hD := hD1.weaken (fun _ _ _ h => hFc _ h)
  generalize H1 = H at hP1 hS ⊢
  have hP := hP1
  refine W.widen (k := 0) (n := 0) (Nat.le_refl _) (Nat.le_refl _) ?_
  rcases hr17 with hr17 | hr17
  · skip
    obtain rfl := hr17
    refine lv_istore_n (lv' := [(3, .int 1), (0, .ref (ad kg)), (1, .int 2), (2, .int ask)]) hx hb dX4_allOf_6 rfl hl (by decide) rfl (fun ls hl => ?_)
    refine lv_iconst (v := 0) hx hb dX4_allOf_7 (by decide) ?_
    refine lv_istore (lv' := [(4, .int 0), (3, .int 1), (0, .ref (ad kg)), (1, .int 2), (2, .int ask)]) hx hb dX4_allOf_8 hl (by decide) rfl (fun ls hl => ?_)
    have loop10 : ∀ (n10 : Nat) (v4_10 : Int32) (v3_10 : Int32) (ct19 : Nat → va_E) (H : Heap) (locs : List Loc) (ls : Array Slot), ((100 - v4_10.toInt : Int).toNat < n10) → (0 ≤ v4_10.toInt ∧ v4_10.toInt ≤ 100) → (0 ≤ v3_10.toInt ∧ v3_10.toInt ≤ 1) → (Inv8 g ad pe ct19) → zP g (zw 126 ad ct19) H → va_D A (zw 126 ad ct19) → va_S A s.heap H locs → lv_has ls 6 [(4, .int v4_10), (3, .int v3_10), (0, .ref (ad kg)), (1, .int 2), (2, .int ask)] → W p l e (headSpec (zW yX4_allOf cX4_allOf 6 (some .boolean)) ({ frames := 18, cells := 0, slots := 0, locals := 448 })).room s m ([.ref (ad kg), .int 2, .int ask] : List Value).toArray below meth c H locs 0 0 (MQ below (va_Qi (fun (r : Int32) (_ : Unit) => (r = 1) ∨ (r = 0)) (fun _ t => ∃ ct2 : Nat → va_E, zP g (zw 126 ad ct2) t.heap ∧ va_D A (zw 126 ad ct2) ∧ Inv8 g ad pe ct2) A) ([.ref (ad kg), .int 2, .int ask] : List Value).toArray s 0 0 A) (F0 m 10 ls []) := by
      intro n10
      induction n10 with
      | zero =>
        intro v4_10 v3_10 ct19 H locs ls hn10 b4_10 b3_10 hI hP hD hS hl
        exact absurd hn10 (Nat.not_lt_zero _)
      | succ n10 ih10 =>
        intro v4_10 v3_10 ct19 H locs ls hn10 b4_10 b3_10 hI hP hD hS hl
        refine lv_iload hx hb dX4_allOf_10 (lv_at hl 0 rfl) ?_
        refine lv_bipush (v := 100) hx hb dX4_allOf_12 (by decide) ?_
        refine lv_icmp_ge (tgt := 77) hx hb dX4_allOf_14 (by decide) (fun c20 => ?_) (fun c20 => ?_)
        · skip
          have c20 : 100 ≤ v4_10.toInt := (z_le (by decide : (100 : Int32).toInt = 100) rfl).mp c20
          refine lv_iload_n hx hb dX4_allOf_77 rfl (lv_at hl 1 rfl) ?_
          exact W.zret (v := v3_10) hx hb hr (by rcases (z_01 (by omega) (by omega)) with q | q <;> rw [q] <;> rfl) (fun t ht hW => ⟨⟨v3_10, (), rfl, by first | exact Or.inl ⟨rfl, by omega⟩ | exact Or.inr ⟨rfl, by omega⟩ | exact Or.inl rfl | exact Or.inr rfl | exact Or.inl ⟨rfl, by omega, by omega⟩ | exact (z_01 (by omega) (by omega)).symm, ct19, by rw [ht]; exact hP, hD, hI⟩, hS.F ht⟩) hS.2.2 dX4_allOf_78
        · skip
          have c20 : ¬ (100 ≤ v4_10.toInt) := fun q => c20 ((z_le (by decide : (100 : Int32).toInt = 100) rfl).mpr q)
          refine lv_aload_n hx hb dX4_allOf_17 rfl (lv_at hl 2 rfl) ?_
          obtain ⟨tld22, ofb23, hol24, flt25, fla26, ofl27, len28, atx29, ref30, hz31, h32, h33, h34, h35, hz36, hs21⟩ := a8_44 (kc := kg) (by omega) hI
          have bhz31 := z_b01 hz31
          have bhz36 := z_b01 hz36
          refine zc_i (va_runV (As := []) (rest := []) ⟨hx, hb, hml, hown, hg⟩ (k_X4_next l g ad pe ct19 kg tld22 ofb23 hol24 flt25 fla26 ofl27 len28 atx29 ref30 (by omega) hI hs21) (cwV 0 hg (z_gV mm_475 mm_477 mm_8 mm_114 mm_478) rfl rfl rfl (by decide +kernel) ⟨Nat.le_of_ble_eq_true rfl, Nat.le_of_ble_eq_true rfl⟩) ⟨(zR.pre [.ref (ad kg)] hP hK hN).1, va_recv hK hP (ci := 4) (q0 := kg) rfl (zw_at (by omega) hs21), (zR.pre [.ref (ad kg)] hP hK hN).2⟩ rfl rfl hl.1 rfl (lv_room (Nat.le_of_ble_eq_true rfl)) dX4_allOf_18 ⟨Nat.le_of_ble_eq_true rfl, Nat.le_of_ble_eq_true rfl⟩) (fun r37 hr37 => ?_)
          have h38 := hr37
          have h38 : r37.toInt = -1 ∨ atx29.toInt ≤ 99 := h38
          refine lv_bipush (v := 38) hx hb dX4_allOf_21 (by decide) ?_
          refine lv_icmp_ne (tgt := 77) hx hb dX4_allOf_23 (by decide) (fun c39 => ?_) (fun c39 => ?_)
          · skip
            have c39 : ¬ (r37.toInt = 38) := fun q => c39 ((z_eq rfl (by decide : (38 : Int32).toInt = 38)).mpr q)
            refine lv_iload_n hx hb dX4_allOf_77 rfl (lv_at hl 1 rfl) ?_
            exact W.zret (v := v3_10) hx hb hr (by rcases (z_01 (by omega) (by omega)) with q | q <;> rw [q] <;> rfl) (fun t ht hW => ⟨⟨v3_10, (), rfl, by first | exact Or.inl ⟨rfl, by omega⟩ | exact Or.inr ⟨rfl, by omega⟩ | exact Or.inl rfl | exact Or.inr rfl | exact Or.inl ⟨rfl, by omega, by omega⟩ | exact (z_01 (by omega) (by omega)).symm, ct19, by rw [ht]; exact hP, hD, hI⟩, hS.F ht⟩) hS.2.2 dX4_allOf_78
          · skip
            have c39 : r37.toInt = 38 := (z_eq rfl (by decide : (38 : Int32).toInt = 38)).mp c39
            refine lv_aload_n hx hb dX4_allOf_26 rfl (lv_at hl 2 rfl) ?_
            refine lv_dup hx hb dX4_allOf_27 rfl ?_
            refine va_get (D := g.1) (ci := 4) (v := .int atx29) (C := RX4) (T := TX4) (N := 11) hx hb hg inG4 hown hK hP kg (zw_at (by omega) hs21) rfl 9 (by decide) (hg _ mm_285) (fun _ h9 => h9) rfl dX4_allOf_28 ?_
            refine lv_iconst (v := 1) hx hb dX4_allOf_31 (by decide) ?_
            refine lv_iadd hx hb dX4_allOf_32 ?_
            refine lv_topi (fun x40 ex40 => ?_)
            have tx40 : x40.toInt = atx29.toInt + 1 := by rw [ex40]; exact z_add rfl (by decide : (1 : Int32).toInt = 1) (by omega) (by omega)
            refine va_put (D := g.1) (ci := 4) (v := .int x40) (ty := .int) (C := RX4) (T := TX4) (N := 11) hx hb hg inG4 tyX4 tyX4_ok nmX4 hown hK hP hD hS kg (zw_at (by omega) hs21) rfl 9 (by decide) (hg _ mm_285) (fun _ h9 => h9) rfl (by decide +kernel) rfl rfl (Nat.le_of_ble_eq_true rfl) dX4_allOf_33 (fun H locs hP hD hS => ?_)
            have hP : zP g ((zw 126 ad ct19).set kg (ad kg, .inr (4, [.int tld22, .int ofb23, .int hol24, .int flt25, .int fla26, .int ofl27, .ref (ad (kg + 1)), .ref (ad (kg + 2)), .int len28, .int x40, .int ref30]))) H := hP
            have hD : va_D A ((zw 126 ad ct19).set kg (ad kg, .inr (4, [.int tld22, .int ofb23, .int hol24, .int flt25, .int fla26, .int ofl27, .ref (ad (kg + 1)), .ref (ad (kg + 2)), .int len28, .int x40, .int ref30]))) := hD
            rw [zw_set (by omega)] at hP hD
            obtain ⟨ct41, ec42⟩ : ∃ z : Nat → va_E, z = va_up ct19 kg (.inr (4, [.int tld22, .int ofb23, .int hol24, .int flt25, .int fla26, .int ofl27, .ref (ad (kg + 1)), .ref (ad (kg + 2)), .int len28, .int x40, .int ref30])) := ⟨_, rfl⟩
            rw [← ec42] at hP hD
            have hI : Inv8 g ad pe ct41 := by rw [ec42]; exact up8 hI (i8_44 (kc := kg) (by omega) ⟨(tld22 : Int32), (ofb23 : Int32), (hol24 : Int32), (flt25 : Int32), (fla26 : Int32), (ofl27 : Int32), (len28 : Int32), (x40 : Int32), (ref30 : Int32), hz31, (by first | omega | decide), (by first | omega | decide), (by first | omega | decide), (by first | omega | decide), hz36, rfl⟩)
            have hs43 : ct41 kg = .inr (4, [.int tld22, .int ofb23, .int hol24, .int flt25, .int fla26, .int ofl27, .ref (ad (kg + 1)), .ref (ad (kg + 2)), .int len28, .int x40, .int ref30]) := by rw [ec42]; exact va_up_self _ _ _
            refine lv_aload_n hx hb dX4_allOf_36 rfl (lv_at hl 2 rfl) ?_
            refine lv_iload_n hx hb dX4_allOf_37 rfl (lv_at hl 3 rfl) ?_
            refine lv_iload_n hx hb dX4_allOf_38 rfl (lv_at hl 4 rfl) ?_
            refine lv_if_eq (tgt := 50) hx hb dX4_allOf_39 (by decide) (fun c44 => ?_) (fun c44 => ?_)
            · skip
              have c44 : ask.toInt = 0 := (z_eq rfl (by decide : (0 : Int32).toInt = 0)).mp c44
              refine lv_iconst (v := 0) hx hb dX4_allOf_50 (by decide) ?_
              have hFc := zw_free hD hS hA
              refine va_calli (va_runV (As := [.int 2, .int 0]) (rest := []) ⟨hx, hb, hml, hown, hg⟩ (k_X4_piece_2 l g _ ad pe ct41 kg (0 : Int32) (by omega) hI) (cwV 2 hg (z_gV mm_471 mm_473 mm_7 mm_114 mm_474) rfl rfl rfl (by decide +kernel) ⟨Nat.le_of_ble_eq_true rfl, Nat.le_of_ble_eq_true rfl⟩) ⟨(zA.pre [.ref (ad kg), .int 2, .int 0] hP hK hD hN).1, va_recv hK hP (ci := 4) (q0 := kg) rfl (zw_at (by omega) hs43), (zA.pre [.ref (ad kg), .int 2, .int 0] hP hK hD hN).2⟩ rfl rfl hl.1 rfl (lv_room (Nat.le_of_ble_eq_true rfl)) dX4_allOf_51 ⟨Nat.le_of_ble_eq_true rfl, Nat.le_of_ble_eq_true rfl⟩) hS (fun q _ h => hFc q h) hFc (fun r45 _ t H1 locs ht hvm hr45 hB hz1 hk1 hS => ?_)
              obtain ⟨ct46, hP1, hD1, hI⟩ := hB
              rw [ht] at hP1
              have hD := hD1.weaken (fun _ _ _ h => hFc _ h)
              generalize H1 = H at hP1 hS ⊢
              have hP := hP1
              refine W.widen (k := 0) (n := 0) (Nat.le_refl _) (Nat.le_refl _) ?_
              rcases hr45 with hr45 | hr45
              · skip
                obtain rfl := hr45
                refine lv_istore (lv' := [(5, .int 1), (4, .int v4_10), (3, .int v3_10), (0, .ref (ad kg)), (1, .int 2), (2, .int ask)]) hx hb dX4_allOf_54 hl (by decide) rfl (fun ls hl => ?_)
                refine lv_iload_n hx hb dX4_allOf_56 rfl (lv_at hl 2 rfl) ?_
                refine lv_if_eq (tgt := 69) hx hb dX4_allOf_57 (by decide) (fun c47 => ?_) (fun c47 => ?_)
                · skip
                  have c47 : v3_10.toInt = 0 := (z_eq rfl (by decide : (0 : Int32).toInt = 0)).mp c47
                  refine lv_iconst (v := 0) hx hb dX4_allOf_69 (by decide) ?_
                  refine lv_istore_n (lv' := [(3, .int 0), (5, .int 1), (4, .int v4_10), (0, .ref (ad kg)), (1, .int 2), (2, .int ask)]) hx hb dX4_allOf_70 rfl hl (by decide) rfl (fun ls hl => ?_)
                  obtain ⟨x48, ex48⟩ : ∃ y : Int32, y = v4_10 + 1 := ⟨_, rfl⟩
                  have tx48 : x48.toInt = v4_10.toInt + 1 := by rw [ex48]; exact z_add rfl (by decide : (1 : Int32).toInt = 1) (by omega) (by omega)
                  refine lv_iinc (v := x48) (lv' := [(4, .int x48), (3, .int 0), (5, .int 1), (0, .ref (ad kg)), (1, .int 2), (2, .int ask)]) hx hb dX4_allOf_71 hl (k := 2) rfl (by rw [ex48]; rfl) (by decide) rfl (fun ls hl => ?_)
                  refine lv_goto (tgt := 10) hx hb dX4_allOf_74 (by decide) ?_
                  exact ih10 x48 (0 : Int32) ct46 _ _ ls (by omega) (by first | omega | decide) (by first | omega | decide) hI hP hD hS (lv_sub hl [0, 1, 3, 4, 5] rfl)
                · skip
                  have c47 : ¬ (v3_10.toInt = 0) := fun q => c47 ((z_eq rfl (by decide : (0 : Int32).toInt = 0)).mpr q)
                  refine lv_iload hx hb dX4_allOf_60 (lv_at hl 0 rfl) ?_
                  refine lv_if_eq (tgt := 69) hx hb dX4_allOf_62 (by decide) (fun c49 => ?_) (fun c49 => ?_)
                  · skip
                    exact absurd c49 (by decide)
                  · skip
                    refine lv_iconst (v := 1) hx hb dX4_allOf_65 (by decide) ?_
                    refine lv_goto (tgt := 70) hx hb dX4_allOf_66 (by decide) ?_
                    refine lv_istore_n (lv' := [(3, .int 1), (5, .int 1), (4, .int v4_10), (0, .ref (ad kg)), (1, .int 2), (2, .int ask)]) hx hb dX4_allOf_70 rfl hl (by decide) rfl (fun ls hl => ?_)
                    obtain ⟨x50, ex50⟩ : ∃ y : Int32, y = v4_10 + 1 := ⟨_, rfl⟩
                    have tx50 : x50.toInt = v4_10.toInt + 1 := by rw [ex50]; exact z_add rfl (by decide : (1 : Int32).toInt = 1) (by omega) (by omega)
                    refine lv_iinc (v := x50) (lv' := [(4, .int x50), (3, .int 1), (5, .int 1), (0, .ref (ad kg)), (1, .int 2), (2, .int ask)]) hx hb dX4_allOf_71 hl (k := 2) rfl (by rw [ex50]; rfl) (by decide) rfl (fun ls hl => ?_)
                    refine lv_goto (tgt := 10) hx hb dX4_allOf_74 (by decide) ?_
                    exact ih10 x50 (1 : Int32) ct46 _ _ ls (by omega) (by first | omega | decide) (by first | omega | decide) hI hP hD hS (lv_sub hl [0, 1, 3, 4, 5] rfl)
              · skip
                obtain rfl := hr45
                refine lv_istore (lv' := [(5, .int 0), (4, .int v4_10), (3, .int v3_10), (0, .ref (ad kg)), (1, .int 2), (2, .int ask)]) hx hb dX4_allOf_54 hl (by decide) rfl (fun ls hl => ?_)
                refine lv_iload_n hx hb dX4_allOf_56 rfl (lv_at hl 2 rfl) ?_
                refine lv_if_eq (tgt := 69) hx hb dX4_allOf_57 (by decide) (fun c51 => ?_) (fun c51 => ?_)
                · skip
                  have c51 : v3_10.toInt = 0 := (z_eq rfl (by decide : (0 : Int32).toInt = 0)).mp c51
                  refine lv_iconst (v := 0) hx hb dX4_allOf_69 (by decide) ?_
                  refine lv_istore_n (lv' := [(3, .int 0), (5, .int 0), (4, .int v4_10), (0, .ref (ad kg)), (1, .int 2), (2, .int ask)]) hx hb dX4_allOf_70 rfl hl (by decide) rfl (fun ls hl => ?_)
                  obtain ⟨x52, ex52⟩ : ∃ y : Int32, y = v4_10 + 1 := ⟨_, rfl⟩
                  have tx52 : x52.toInt = v4_10.toInt + 1 := by rw [ex52]; exact z_add rfl (by decide : (1 : Int32).toInt = 1) (by omega) (by omega)
                  refine lv_iinc (v := x52) (lv' := [(4, .int x52), (3, .int 0), (5, .int 0), (0, .ref (ad kg)), (1, .int 2), (2, .int ask)]) hx hb dX4_allOf_71 hl (k := 2) rfl (by rw [ex52]; rfl) (by decide) rfl (fun ls hl => ?_)
                  refine lv_goto (tgt := 10) hx hb dX4_allOf_74 (by decide) ?_
                  exact ih10 x52 (0 : Int32) ct46 _ _ ls (by omega) (by first | omega | decide) (by first | omega | decide) hI hP hD hS (lv_sub hl [0, 1, 3, 4, 5] rfl)
                · skip
                  have c51 : ¬ (v3_10.toInt = 0) := fun q => c51 ((z_eq rfl (by decide : (0 : Int32).toInt = 0)).mpr q)
                  refine lv_iload hx hb dX4_allOf_60 (lv_at hl 0 rfl) ?_
                  refine lv_if_eq (tgt := 69) hx hb dX4_allOf_62 (by decide) (fun c53 => ?_) (fun c53 => ?_)
                  · skip
                    refine lv_iconst (v := 0) hx hb dX4_allOf_69 (by decide) ?_
                    refine lv_istore_n (lv' := [(3, .int 0), (5, .int 0), (4, .int v4_10), (0, .ref (ad kg)), (1, .int 2), (2, .int ask)]) hx hb dX4_allOf_70 rfl hl (by decide) rfl (fun ls hl => ?_)
                    obtain ⟨x54, ex54⟩ : ∃ y : Int32, y = v4_10 + 1 := ⟨_, rfl⟩
                    have tx54 : x54.toInt = v4_10.toInt + 1 := by rw [ex54]; exact z_add rfl (by decide : (1 : Int32).toInt = 1) (by omega) (by omega)
                    refine lv_iinc (v := x54) (lv' := [(4, .int x54), (3, .int 0), (5, .int 0), (0, .ref (ad kg)), (1, .int 2), (2, .int ask)]) hx hb dX4_allOf_71 hl (k := 2) rfl (by rw [ex54]; rfl) (by decide) rfl (fun ls hl => ?_)
                    refine lv_goto (tgt := 10) hx hb dX4_allOf_74 (by decide) ?_
                    exact ih10 x54 (0 : Int32) ct46 _ _ ls (by omega) (by first | omega | decide) (by first | omega | decide) hI hP hD hS (lv_sub hl [0, 1, 3, 4, 5] rfl)
                  · skip
                    exact absurd c53 (by decide)
            · skip
              have c44 : ¬ (ask.toInt = 0) := fun q => c44 ((z_eq rfl (by decide : (0 : Int32).toInt = 0)).mpr q)
              refine lv_iload_n hx hb dX4_allOf_42 rfl (lv_at hl 1 rfl) ?_
              refine lv_if_eq (tgt := 50) hx hb dX4_allOf_43 (by decide) (fun c55 => ?_) (fun c55 => ?_)
              · skip
                have c55 : v3_10.toInt = 0 := (z_eq rfl (by decide : (0 : Int32).toInt = 0)).mp c55
                refine lv_iconst (v := 0) hx hb dX4_allOf_50 (by decide) ?_
                have hFc := zw_free hD hS hA
                refine va_calli (va_runV (As := [.int 2, .int 0]) (rest := []) ⟨hx, hb, hml, hown, hg⟩ (k_X4_piece_2 l g _ ad pe ct41 kg (0 : Int32) (by omega) hI) (cwV 2 hg (z_gV mm_471 mm_473 mm_7 mm_114 mm_474) rfl rfl rfl (by decide +kernel) ⟨Nat.le_of_ble_eq_true rfl, Nat.le_of_ble_eq_true rfl⟩) ⟨(zA.pre [.ref (ad kg), .int 2, .int 0] hP hK hD hN).1, va_recv hK hP (ci := 4) (q0 := kg) rfl (zw_at (by omega) hs43), (zA.pre [.ref (ad kg), .int 2, .int 0] hP hK hD hN).2⟩ rfl rfl hl.1 rfl (lv_room (Nat.le_of_ble_eq_true rfl)) dX4_allOf_51 ⟨Nat.le_of_ble_eq_true rfl, Nat.le_of_ble_eq_true rfl⟩) hS (fun q _ h => hFc q h) hFc (fun r56 _ t H1 locs ht hvm hr56 hB hz1 hk1 hS => ?_)
                obtain ⟨ct57, hP1, hD1, hI⟩ := hB
                rw [ht] at hP1
                have hD := hD1.weaken (fun _ _ _ h => hFc _ h)
                generalize H1 = H at hP1 hS ⊢
                have hP := hP1
                refine W.widen (k := 0) (n := 0) (Nat.le_refl _) (Nat.le_refl _) ?_
                rcases hr56 with hr56 | hr56
                · skip
                  obtain rfl := hr56
                  refine lv_istore (lv' := [(5, .int 1), (4, .int v4_10), (3, .int v3_10), (0, .ref (ad kg)), (1, .int 2), (2, .int ask)]) hx hb dX4_allOf_54 hl (by decide) rfl (fun ls hl => ?_)
                  refine lv_iload_n hx hb dX4_allOf_56 rfl (lv_at hl 2 rfl) ?_
                  refine lv_if_eq (tgt := 69) hx hb dX4_allOf_57 (by decide) (fun c58 => ?_) (fun c58 => ?_)
                  · skip
                    have c58 : v3_10.toInt = 0 := (z_eq rfl (by decide : (0 : Int32).toInt = 0)).mp c58
                    refine lv_iconst (v := 0) hx hb dX4_allOf_69 (by decide) ?_
                    refine lv_istore_n (lv' := [(3, .int 0), (5, .int 1), (4, .int v4_10), (0, .ref (ad kg)), (1, .int 2), (2, .int ask)]) hx hb dX4_allOf_70 rfl hl (by decide) rfl (fun ls hl => ?_)
                    obtain ⟨x59, ex59⟩ : ∃ y : Int32, y = v4_10 + 1 := ⟨_, rfl⟩
                    have tx59 : x59.toInt = v4_10.toInt + 1 := by rw [ex59]; exact z_add rfl (by decide : (1 : Int32).toInt = 1) (by omega) (by omega)
                    refine lv_iinc (v := x59) (lv' := [(4, .int x59), (3, .int 0), (5, .int 1), (0, .ref (ad kg)), (1, .int 2), (2, .int ask)]) hx hb dX4_allOf_71 hl (k := 2) rfl (by rw [ex59]; rfl) (by decide) rfl (fun ls hl => ?_)
                    refine lv_goto (tgt := 10) hx hb dX4_allOf_74 (by decide) ?_
                    exact ih10 x59 (0 : Int32) ct57 _ _ ls (by omega) (by first | omega | decide) (by first | omega | decide) hI hP hD hS (lv_sub hl [0, 1, 3, 4, 5] rfl)
                  · skip
                    have c58 : ¬ (v3_10.toInt = 0) := fun q => c58 ((z_eq rfl (by decide : (0 : Int32).toInt = 0)).mpr q)
                    refine lv_iload hx hb dX4_allOf_60 (lv_at hl 0 rfl) ?_
                    refine lv_if_eq (tgt := 69) hx hb dX4_allOf_62 (by decide) (fun c60 => ?_) (fun c60 => ?_)
                    · skip
                      exact absurd c60 (by decide)
                    · skip
                      refine lv_iconst (v := 1) hx hb dX4_allOf_65 (by decide) ?_
                      refine lv_goto (tgt := 70) hx hb dX4_allOf_66 (by decide) ?_
                      refine lv_istore_n (lv' := [(3, .int 1), (5, .int 1), (4, .int v4_10), (0, .ref (ad kg)), (1, .int 2), (2, .int ask)]) hx hb dX4_allOf_70 rfl hl (by decide) rfl (fun ls hl => ?_)
                      obtain ⟨x61, ex61⟩ : ∃ y : Int32, y = v4_10 + 1 := ⟨_, rfl⟩
                      have tx61 : x61.toInt = v4_10.toInt + 1 := by rw [ex61]; exact z_add rfl (by decide : (1 : Int32).toInt = 1) (by omega) (by omega)
                      refine lv_iinc (v := x61) (lv' := [(4, .int x61), (3, .int 1), (5, .int 1), (0, .ref (ad kg)), (1, .int 2), (2, .int ask)]) hx hb dX4_allOf_71 hl (k := 2) rfl (by rw [ex61]; rfl) (by decide) rfl (fun ls hl => ?_)
                      refine lv_goto (tgt := 10) hx hb dX4_allOf_74 (by decide) ?_
                      exact ih10 x61 (1 : Int32) ct57 _ _ ls (by omega) (by first | omega | decide) (by first | omega | decide) hI hP hD hS (lv_sub hl [0, 1, 3, 4, 5] rfl)
                · skip
                  obtain rfl := hr56
                  refine lv_istore (lv' := [(5, .int 0), (4, .int v4_10), (3, .int v3_10), (0, .ref (ad kg)), (1, .int 2), (2, .int ask)]) hx hb dX4_allOf_54 hl (by decide) rfl (fun ls hl => ?_)
                  refine lv_iload_n hx hb dX4_allOf_56 rfl (lv_at hl 2 rfl) ?_
                  refine lv_if_eq (tgt := 69) hx hb dX4_allOf_57 (by decide) (fun c62 => ?_) (fun c62 => ?_)
                  · skip
                    have c62 : v3_10.toInt = 0 := (z_eq rfl (by decide : (0 : Int32).toInt = 0)).mp c62
                    refine lv_iconst (v := 0) hx hb dX4_allOf_69 (by decide) ?_
                    refine lv_istore_n (lv' := [(3, .int 0), (5, .int 0), (4, .int v4_10), (0, .ref (ad kg)), (1, .int 2), (2, .int ask)]) hx hb dX4_allOf_70 rfl hl (by decide) rfl (fun ls hl => ?_)
                    obtain ⟨x63, ex63⟩ : ∃ y : Int32, y = v4_10 + 1 := ⟨_, rfl⟩
                    have tx63 : x63.toInt = v4_10.toInt + 1 := by rw [ex63]; exact z_add rfl (by decide : (1 : Int32).toInt = 1) (by omega) (by omega)
                    refine lv_iinc (v := x63) (lv' := [(4, .int x63), (3, .int 0), (5, .int 0), (0, .ref (ad kg)), (1, .int 2), (2, .int ask)]) hx hb dX4_allOf_71 hl (k := 2) rfl (by rw [ex63]; rfl) (by decide) rfl (fun ls hl => ?_)
                    refine lv_goto (tgt := 10) hx hb dX4_allOf_74 (by decide) ?_
                    exact ih10 x63 (0 : Int32) ct57 _ _ ls (by omega) (by first | omega | decide) (by first | omega | decide) hI hP hD hS (lv_sub hl [0, 1, 3, 4, 5] rfl)
                  · skip
                    have c62 : ¬ (v3_10.toInt = 0) := fun q => c62 ((z_eq rfl (by decide : (0 : Int32).toInt = 0)).mpr q)
                    refine lv_iload hx hb dX4_allOf_60 (lv_at hl 0 rfl) ?_
                    refine lv_if_eq (tgt := 69) hx hb dX4_allOf_62 (by decide) (fun c64 => ?_) (fun c64 => ?_)
                    · skip
                      refine lv_iconst (v := 0) hx hb dX4_allOf_69 (by decide) ?_
                      refine lv_istore_n (lv' := [(3, .int 0), (5, .int 0), (4, .int v4_10), (0, .ref (ad kg)), (1, .int 2), (2, .int ask)]) hx hb dX4_allOf_70 rfl hl (by decide) rfl (fun ls hl => ?_)
                      obtain ⟨x65, ex65⟩ : ∃ y : Int32, y = v4_10 + 1 := ⟨_, rfl⟩
                      have tx65 : x65.toInt = v4_10.toInt + 1 := by rw [ex65]; exact z_add rfl (by decide : (1 : Int32).toInt = 1) (by omega) (by omega)
                      refine lv_iinc (v := x65) (lv' := [(4, .int x65), (3, .int 0), (5, .int 0), (0, .ref (ad kg)), (1, .int 2), (2, .int ask)]) hx hb dX4_allOf_71 hl (k := 2) rfl (by rw [ex65]; rfl) (by decide) rfl (fun ls hl => ?_)
                      refine lv_goto (tgt := 10) hx hb dX4_allOf_74 (by decide) ?_
                      exact ih10 x65 (0 : Int32) ct57 _ _ ls (by omega) (by first | omega | decide) (by first | omega | decide) hI hP hD hS (lv_sub hl [0, 1, 3, 4, 5] rfl)
                    · skip
                      exact absurd c64 (by decide)
              · skip
                have c55 : ¬ (v3_10.toInt = 0) := fun q => c55 ((z_eq rfl (by decide : (0 : Int32).toInt = 0)).mpr q)
                refine lv_iconst (v := 1) hx hb dX4_allOf_46 (by decide) ?_
                refine lv_goto (tgt := 51) hx hb dX4_allOf_47 (by decide) ?_
                have hFc := zw_free hD hS hA
                refine va_calli (va_runV (As := [.int 2, .int 1]) (rest := []) ⟨hx, hb, hml, hown, hg⟩ (k_X4_piece_2 l g _ ad pe ct41 kg (1 : Int32) (by omega) hI) (cwV 2 hg (z_gV mm_471 mm_473 mm_7 mm_114 mm_474) rfl rfl rfl (by decide +kernel) ⟨Nat.le_of_ble_eq_true rfl, Nat.le_of_ble_eq_true rfl⟩) ⟨(zA.pre [.ref (ad kg), .int 2, .int 1] hP hK hD hN).1, va_recv hK hP (ci := 4) (q0 := kg) rfl (zw_at (by omega) hs43), (zA.pre [.ref (ad kg), .int 2, .int 1] hP hK hD hN).2⟩ rfl rfl hl.1 rfl (lv_room (Nat.le_of_ble_eq_true rfl)) dX4_allOf_51 ⟨Nat.le_of_ble_eq_true rfl, Nat.le_of_ble_eq_true rfl⟩) hS (fun q _ h => hFc q h) hFc (fun r66 _ t H1 locs ht hvm hr66 hB hz1 hk1 hS => ?_)
                obtain ⟨ct67, hP1, hD1, hI⟩ := hB
                rw [ht] at hP1
                have hD := hD1.weaken (fun _ _ _ h => hFc _ h)
                generalize H1 = H at hP1 hS ⊢
                have hP := hP1
                refine W.widen (k := 0) (n := 0) (Nat.le_refl _) (Nat.le_refl _) ?_
                rcases hr66 with hr66 | hr66
                · skip
                  obtain rfl := hr66
                  refine lv_istore (lv' := [(5, .int 1), (4, .int v4_10), (3, .int v3_10), (0, .ref (ad kg)), (1, .int 2), (2, .int ask)]) hx hb dX4_allOf_54 hl (by decide) rfl (fun ls hl => ?_)
                  refine lv_iload_n hx hb dX4_allOf_56 rfl (lv_at hl 2 rfl) ?_
                  refine lv_if_eq (tgt := 69) hx hb dX4_allOf_57 (by decide) (fun c68 => ?_) (fun c68 => ?_)
                  · skip
                    have c68 : v3_10.toInt = 0 := (z_eq rfl (by decide : (0 : Int32).toInt = 0)).mp c68
                    exfalso
                    omega
                  · skip
                    have c68 : ¬ (v3_10.toInt = 0) := fun q => c68 ((z_eq rfl (by decide : (0 : Int32).toInt = 0)).mpr q)
                    refine lv_iload hx hb dX4_allOf_60 (lv_at hl 0 rfl) ?_
                    refine lv_if_eq (tgt := 69) hx hb dX4_allOf_62 (by decide) (fun c69 => ?_) (fun c69 => ?_)
                    · skip
                      exact absurd c69 (by decide)
                    · skip
                      refine lv_iconst (v := 1) hx hb dX4_allOf_65 (by decide) ?_
                      refine lv_goto (tgt := 70) hx hb dX4_allOf_66 (by decide) ?_
                      refine lv_istore_n (lv' := [(3, .int 1), (5, .int 1), (4, .int v4_10), (0, .ref (ad kg)), (1, .int 2), (2, .int ask)]) hx hb dX4_allOf_70 rfl hl (by decide) rfl (fun ls hl => ?_)
                      obtain ⟨x70, ex70⟩ : ∃ y : Int32, y = v4_10 + 1 := ⟨_, rfl⟩
                      have tx70 : x70.toInt = v4_10.toInt + 1 := by rw [ex70]; exact z_add rfl (by decide : (1 : Int32).toInt = 1) (by omega) (by omega)
                      refine lv_iinc (v := x70) (lv' := [(4, .int x70), (3, .int 1), (5, .int 1), (0, .ref (ad kg)), (1, .int 2), (2, .int ask)]) hx hb dX4_allOf_71 hl (k := 2) rfl (by rw [ex70]; rfl) (by decide) rfl (fun ls hl => ?_)
                      refine lv_goto (tgt := 10) hx hb dX4_allOf_74 (by decide) ?_
                      exact ih10 x70 (1 : Int32) ct67 _ _ ls (by omega) (by first | omega | decide) (by first | omega | decide) hI hP hD hS (lv_sub hl [0, 1, 3, 4, 5] rfl)
                · skip
                  obtain rfl := hr66
                  refine lv_istore (lv' := [(5, .int 0), (4, .int v4_10), (3, .int v3_10), (0, .ref (ad kg)), (1, .int 2), (2, .int ask)]) hx hb dX4_allOf_54 hl (by decide) rfl (fun ls hl => ?_)
                  refine lv_iload_n hx hb dX4_allOf_56 rfl (lv_at hl 2 rfl) ?_
                  refine lv_if_eq (tgt := 69) hx hb dX4_allOf_57 (by decide) (fun c71 => ?_) (fun c71 => ?_)
                  · skip
                    have c71 : v3_10.toInt = 0 := (z_eq rfl (by decide : (0 : Int32).toInt = 0)).mp c71
                    exfalso
                    omega
                  · skip
                    have c71 : ¬ (v3_10.toInt = 0) := fun q => c71 ((z_eq rfl (by decide : (0 : Int32).toInt = 0)).mpr q)
                    refine lv_iload hx hb dX4_allOf_60 (lv_at hl 0 rfl) ?_
                    refine lv_if_eq (tgt := 69) hx hb dX4_allOf_62 (by decide) (fun c72 => ?_) (fun c72 => ?_)
                    · skip
                      refine lv_iconst (v := 0) hx hb dX4_allOf_69 (by decide) ?_
                      refine lv_istore_n (lv' := [(3, .int 0), (5, .int 0), (4, .int v4_10), (0, .ref (ad kg)), (1, .int 2), (2, .int ask)]) hx hb dX4_allOf_70 rfl hl (by decide) rfl (fun ls hl => ?_)
                      obtain ⟨x73, ex73⟩ : ∃ y : Int32, y = v4_10 + 1 := ⟨_, rfl⟩
                      have tx73 : x73.toInt = v4_10.toInt + 1 := by rw [ex73]; exact z_add rfl (by decide : (1 : Int32).toInt = 1) (by omega) (by omega)
                      refine lv_iinc (v := x73) (lv' := [(4, .int x73), (3, .int 0), (5, .int 0), (0, .ref (ad kg)), (1, .int 2), (2, .int ask)]) hx hb dX4_allOf_71 hl (k := 2) rfl (by rw [ex73]; rfl) (by decide) rfl (fun ls hl => ?_)
                      refine lv_goto (tgt := 10) hx hb dX4_allOf_74 (by decide) ?_
                      exact ih10 x73 (0 : Int32) ct67 _ _ ls (by omega) (by first | omega | decide) (by first | omega | decide) hI hP hD hS (lv_sub hl [0, 1, 3, 4, 5] rfl)
                    · skip
                      exact absurd c72 (by decide)
    exact loop10 ((100 - (0 : Int32).toInt : Int).toNat + 1) (0 : Int32) (1 : Int32) ct18 _ _ ls (by omega) (by first | omega | decide) (by first | omega | decide) hI hP hD hS (lv_sub hl [0, 1, 2, 3, 4] rfl)
  · skip
    obtain rfl := hr17
    refine lv_istore_n (lv' := [(3, .int 0), (0, .ref (ad kg)), (1, .int 2), (2, .int ask)]) hx hb dX4_allOf_6 rfl hl (by decide) rfl (fun ls hl => ?_)
    refine lv_iconst (v := 0) hx hb dX4_allOf_7 (by decide) ?_
    refine lv_istore (lv' := [(4, .int 0), (3, .int 0), (0, .ref (ad kg)), (1, .int 2), (2, .int ask)]) hx hb dX4_allOf_8 hl (by decide) rfl (fun ls hl => ?_)
    have loop10 : ∀ (n10 : Nat) (v4_10 : Int32) (v3_10 : Int32) (ct74 : Nat → va_E) (H : Heap) (locs : List Loc) (ls : Array Slot), ((100 - v4_10.toInt : Int).toNat < n10) → (0 ≤ v4_10.toInt ∧ v4_10.toInt ≤ 100) → (0 ≤ v3_10.toInt ∧ v3_10.toInt ≤ 1) → (Inv8 g ad pe ct74) → zP g (zw 126 ad ct74) H → va_D A (zw 126 ad ct74) → va_S A s.heap H locs → lv_has ls 6 [(4, .int v4_10), (3, .int v3_10), (0, .ref (ad kg)), (1, .int 2), (2, .int ask)] → W p l e (headSpec (zW yX4_allOf cX4_allOf 6 (some .boolean)) ({ frames := 18, cells := 0, slots := 0, locals := 448 })).room s m ([.ref (ad kg), .int 2, .int ask] : List Value).toArray below meth c H locs 0 0 (MQ below (va_Qi (fun (r : Int32) (_ : Unit) => (r = 1) ∨ (r = 0)) (fun _ t => ∃ ct2 : Nat → va_E, zP g (zw 126 ad ct2) t.heap ∧ va_D A (zw 126 ad ct2) ∧ Inv8 g ad pe ct2) A) ([.ref (ad kg), .int 2, .int ask] : List Value).toArray s 0 0 A) (F0 m 10 ls []) := by
      intro n10
      induction n10 with
      | zero =>
        intro v4_10 v3_10 ct74 H locs ls hn10 b4_10 b3_10 hI hP hD hS hl
        exact absurd hn10 (Nat.not_lt_zero _)
      | succ n10 ih10 =>
        intro v4_10 v3_10 ct74 H locs ls hn10 b4_10 b3_10 hI hP hD hS hl
        refine lv_iload hx hb dX4_allOf_10 (lv_at hl 0 rfl) ?_
        refine lv_bipush (v := 100) hx hb dX4_allOf_12 (by decide) ?_
        refine lv_icmp_ge (tgt := 77) hx hb dX4_allOf_14 (by decide) (fun c75 => ?_) (fun c75 => ?_)
        · skip
          have c75 : 100 ≤ v4_10.toInt := (z_le (by decide : (100 : Int32).toInt = 100) rfl).mp c75
          refine lv_iload_n hx hb dX4_allOf_77 rfl (lv_at hl 1 rfl) ?_
          exact W.zret (v := v3_10) hx hb hr (by rcases (z_01 (by omega) (by omega)) with q | q <;> rw [q] <;> rfl) (fun t ht hW => ⟨⟨v3_10, (), rfl, by first | exact Or.inl ⟨rfl, by omega⟩ | exact Or.inr ⟨rfl, by omega⟩ | exact Or.inl rfl | exact Or.inr rfl | exact Or.inl ⟨rfl, by omega, by omega⟩ | exact (z_01 (by omega) (by omega)).symm, ct74, by rw [ht]; exact hP, hD, hI⟩, hS.F ht⟩) hS.2.2 dX4_allOf_78
        · skip
          have c75 : ¬ (100 ≤ v4_10.toInt) := fun q => c75 ((z_le (by decide : (100 : Int32).toInt = 100) rfl).mpr q)
          refine lv_aload_n hx hb dX4_allOf_17 rfl (lv_at hl 2 rfl) ?_
          obtain ⟨tld77, ofb78, hol79, flt80, fla81, ofl82, len83, atx84, ref85, hz86, h87, h88, h89, h90, hz91, hs76⟩ := a8_44 (kc := kg) (by omega) hI
          have bhz86 := z_b01 hz86
          have bhz91 := z_b01 hz91
          refine zc_i (va_runV (As := []) (rest := []) ⟨hx, hb, hml, hown, hg⟩ (k_X4_next l g ad pe ct74 kg tld77 ofb78 hol79 flt80 fla81 ofl82 len83 atx84 ref85 (by omega) hI hs76) (cwV 0 hg (z_gV mm_475 mm_477 mm_8 mm_114 mm_478) rfl rfl rfl (by decide +kernel) ⟨Nat.le_of_ble_eq_true rfl, Nat.le_of_ble_eq_true rfl⟩) ⟨(zR.pre [.ref (ad kg)] hP hK hN).1, va_recv hK hP (ci := 4) (q0 := kg) rfl (zw_at (by omega) hs76), (zR.pre [.ref (ad kg)] hP hK hN).2⟩ rfl rfl hl.1 rfl (lv_room (Nat.le_of_ble_eq_true rfl)) dX4_allOf_18 ⟨Nat.le_of_ble_eq_true rfl, Nat.le_of_ble_eq_true rfl⟩) (fun r92 hr92 => ?_)
          have h93 := hr92
          have h93 : r92.toInt = -1 ∨ atx84.toInt ≤ 99 := h93
          refine lv_bipush (v := 38) hx hb dX4_allOf_21 (by decide) ?_
          refine lv_icmp_ne (tgt := 77) hx hb dX4_allOf_23 (by decide) (fun c94 => ?_) (fun c94 => ?_)
          · skip
            have c94 : ¬ (r92.toInt = 38) := fun q => c94 ((z_eq rfl (by decide : (38 : Int32).toInt = 38)).mpr q)
            refine lv_iload_n hx hb dX4_allOf_77 rfl (lv_at hl 1 rfl) ?_
            exact W.zret (v := v3_10) hx hb hr (by rcases (z_01 (by omega) (by omega)) with q | q <;> rw [q] <;> rfl) (fun t ht hW => ⟨⟨v3_10, (), rfl, by first | exact Or.inl ⟨rfl, by omega⟩ | exact Or.inr ⟨rfl, by omega⟩ | exact Or.inl rfl | exact Or.inr rfl | exact Or.inl ⟨rfl, by omega, by omega⟩ | exact (z_01 (by omega) (by omega)).symm, ct74, by rw [ht]; exact hP, hD, hI⟩, hS.F ht⟩) hS.2.2 dX4_allOf_78
          · skip
            have c94 : r92.toInt = 38 := (z_eq rfl (by decide : (38 : Int32).toInt = 38)).mp c94
            refine lv_aload_n hx hb dX4_allOf_26 rfl (lv_at hl 2 rfl) ?_
            refine lv_dup hx hb dX4_allOf_27 rfl ?_
            refine va_get (D := g.1) (ci := 4) (v := .int atx84) (C := RX4) (T := TX4) (N := 11) hx hb hg inG4 hown hK hP kg (zw_at (by omega) hs76) rfl 9 (by decide) (hg _ mm_285) (fun _ h9 => h9) rfl dX4_allOf_28 ?_
            refine lv_iconst (v := 1) hx hb dX4_allOf_31 (by decide) ?_
            refine lv_iadd hx hb dX4_allOf_32 ?_
            refine lv_topi (fun x95 ex95 => ?_)
            have tx95 : x95.toInt = atx84.toInt + 1 := by rw [ex95]; exact z_add rfl (by decide : (1 : Int32).toInt = 1) (by omega) (by omega)
            refine va_put (D := g.1) (ci := 4) (v := .int x95) (ty := .int) (C := RX4) (T := TX4) (N := 11) hx hb hg inG4 tyX4 tyX4_ok nmX4 hown hK hP hD hS kg (zw_at (by omega) hs76) rfl 9 (by decide) (hg _ mm_285) (fun _ h9 => h9) rfl (by decide +kernel) rfl rfl (Nat.le_of_ble_eq_true rfl) dX4_allOf_33 (fun H locs hP hD hS => ?_)
            have hP : zP g ((zw 126 ad ct74).set kg (ad kg, .inr (4, [.int tld77, .int ofb78, .int hol79, .int flt80, .int fla81, .int ofl82, .ref (ad (kg + 1)), .ref (ad (kg + 2)), .int len83, .int x95, .int ref85]))) H := hP
            have hD : va_D A ((zw 126 ad ct74).set kg (ad kg, .inr (4, [.int tld77, .int ofb78, .int hol79, .int flt80, .int fla81, .int ofl82, .ref (ad (kg + 1)), .ref (ad (kg + 2)), .int len83, .int x95, .int ref85]))) := hD
            rw [zw_set (by omega)] at hP hD
            obtain ⟨ct96, ec97⟩ : ∃ z : Nat → va_E, z = va_up ct74 kg (.inr (4, [.int tld77, .int ofb78, .int hol79, .int flt80, .int fla81, .int ofl82, .ref (ad (kg + 1)), .ref (ad (kg + 2)), .int len83, .int x95, .int ref85])) := ⟨_, rfl⟩
            rw [← ec97] at hP hD
            have hI : Inv8 g ad pe ct96 := by rw [ec97]; exact up8 hI (i8_44 (kc := kg) (by omega) ⟨(tld77 : Int32), (ofb78 : Int32), (hol79 : Int32), (flt80 : Int32), (fla81 : Int32), (ofl82 : Int32), (len83 : Int32), (x95 : Int32), (ref85 : Int32), hz86, (by first | omega | decide), (by first | omega | decide), (by first | omega | decide), (by first | omega | decide), hz91, rfl⟩)
            have hs98 : ct96 kg = .inr (4, [.int tld77, .int ofb78, .int hol79, .int flt80, .int fla81, .int ofl82, .ref (ad (kg + 1)), .ref (ad (kg + 2)), .int len83, .int x95, .int ref85]) := by rw [ec97]; exact va_up_self _ _ _
            refine lv_aload_n hx hb dX4_allOf_36 rfl (lv_at hl 2 rfl) ?_
            refine lv_iload_n hx hb dX4_allOf_37 rfl (lv_at hl 3 rfl) ?_
            refine lv_iload_n hx hb dX4_allOf_38 rfl (lv_at hl 4 rfl) ?_
            refine lv_if_eq (tgt := 50) hx hb dX4_allOf_39 (by decide) (fun c99 => ?_) (fun c99 => ?_)
            · skip
              have c99 : ask.toInt = 0 := (z_eq rfl (by decide : (0 : Int32).toInt = 0)).mp c99
              refine lv_iconst (v := 0) hx hb dX4_allOf_50 (by decide) ?_
              have hFc := zw_free hD hS hA
              refine va_calli (va_runV (As := [.int 2, .int 0]) (rest := []) ⟨hx, hb, hml, hown, hg⟩ (k_X4_piece_2 l g _ ad pe ct96 kg (0 : Int32) (by omega) hI) (cwV 2 hg (z_gV mm_471 mm_473 mm_7 mm_114 mm_474) rfl rfl rfl (by decide +kernel) ⟨Nat.le_of_ble_eq_true rfl, Nat.le_of_ble_eq_true rfl⟩) ⟨(zA.pre [.ref (ad kg), .int 2, .int 0] hP hK hD hN).1, va_recv hK hP (ci := 4) (q0 := kg) rfl (zw_at (by omega) hs98), (zA.pre [.ref (ad kg), .int 2, .int 0] hP hK hD hN).2⟩ rfl rfl hl.1 rfl (lv_room (Nat.le_of_ble_eq_true rfl)) dX4_allOf_51 ⟨Nat.le_of_ble_eq_true rfl, Nat.le_of_ble_eq_true rfl⟩) hS (fun q _ h => hFc q h) hFc (fun r100 _ t H1 locs ht hvm hr100 hB hz1 hk1 hS => ?_)
              obtain ⟨ct101, hP1, hD1, hI⟩ := hB
              rw [ht] at hP1
              have hD := hD1.weaken (fun _ _ _ h => hFc _ h)
              generalize H1 = H at hP1 hS ⊢
              have hP := hP1
              refine W.widen (k := 0) (n := 0) (Nat.le_refl _) (Nat.le_refl _) ?_
              rcases hr100 with hr100 | hr100
              · skip
                obtain rfl := hr100
                refine lv_istore (lv' := [(5, .int 1), (4, .int v4_10), (3, .int v3_10), (0, .ref (ad kg)), (1, .int 2), (2, .int ask)]) hx hb dX4_allOf_54 hl (by decide) rfl (fun ls hl => ?_)
                refine lv_iload_n hx hb dX4_allOf_56 rfl (lv_at hl 2 rfl) ?_
                refine lv_if_eq (tgt := 69) hx hb dX4_allOf_57 (by decide) (fun c102 => ?_) (fun c102 => ?_)
                · skip
                  have c102 : v3_10.toInt = 0 := (z_eq rfl (by decide : (0 : Int32).toInt = 0)).mp c102
                  refine lv_iconst (v := 0) hx hb dX4_allOf_69 (by decide) ?_
                  refine lv_istore_n (lv' := [(3, .int 0), (5, .int 1), (4, .int v4_10), (0, .ref (ad kg)), (1, .int 2), (2, .int ask)]) hx hb dX4_allOf_70 rfl hl (by decide) rfl (fun ls hl => ?_)
                  obtain ⟨x103, ex103⟩ : ∃ y : Int32, y = v4_10 + 1 := ⟨_, rfl⟩
                  have tx103 : x103.toInt = v4_10.toInt + 1 := by rw [ex103]; exact z_add rfl (by decide : (1 : Int32).toInt = 1) (by omega) (by omega)
                  refine lv_iinc (v := x103) (lv' := [(4, .int x103), (3, .int 0), (5, .int 1), (0, .ref (ad kg)), (1, .int 2), (2, .int ask)]) hx hb dX4_allOf_71 hl (k := 2) rfl (by rw [ex103]; rfl) (by decide) rfl (fun ls hl => ?_)
                  refine lv_goto (tgt := 10) hx hb dX4_allOf_74 (by decide) ?_
                  exact ih10 x103 (0 : Int32) ct101 _ _ ls (by omega) (by first | omega | decide) (by first | omega | decide) hI hP hD hS (lv_sub hl [0, 1, 3, 4, 5] rfl)
                · skip
                  have c102 : ¬ (v3_10.toInt = 0) := fun q => c102 ((z_eq rfl (by decide : (0 : Int32).toInt = 0)).mpr q)
                  refine lv_iload hx hb dX4_allOf_60 (lv_at hl 0 rfl) ?_
                  refine lv_if_eq (tgt := 69) hx hb dX4_allOf_62 (by decide) (fun c104 => ?_) (fun c104 => ?_)
                  · skip
                    exact absurd c104 (by decide)
                  · skip
                    refine lv_iconst (v := 1) hx hb dX4_allOf_65 (by decide) ?_
                    refine lv_goto (tgt := 70) hx hb dX4_allOf_66 (by decide) ?_
                    refine lv_istore_n (lv' := [(3, .int 1), (5, .int 1), (4, .int v4_10), (0, .ref (ad kg)), (1, .int 2), (2, .int ask)]) hx hb dX4_allOf_70 rfl hl (by decide) rfl (fun ls hl => ?_)
                    obtain ⟨x105, ex105⟩ : ∃ y : Int32, y = v4_10 + 1 := ⟨_, rfl⟩
                    have tx105 : x105.toInt = v4_10.toInt + 1 := by rw [ex105]; exact z_add rfl (by decide : (1 : Int32).toInt = 1) (by omega) (by omega)
                    refine lv_iinc (v := x105) (lv' := [(4, .int x105), (3, .int 1), (5, .int 1), (0, .ref (ad kg)), (1, .int 2), (2, .int ask)]) hx hb dX4_allOf_71 hl (k := 2) rfl (by rw [ex105]; rfl) (by decide) rfl (fun ls hl => ?_)
                    refine lv_goto (tgt := 10) hx hb dX4_allOf_74 (by decide) ?_
                    exact ih10 x105 (1 : Int32) ct101 _ _ ls (by omega) (by first | omega | decide) (by first | omega | decide) hI hP hD hS (lv_sub hl [0, 1, 3, 4, 5] rfl)
              · skip
                obtain rfl := hr100
                refine lv_istore (lv' := [(5, .int 0), (4, .int v4_10), (3, .int v3_10), (0, .ref (ad kg)), (1, .int 2), (2, .int ask)]) hx hb dX4_allOf_54 hl (by decide) rfl (fun ls hl => ?_)
                refine lv_iload_n hx hb dX4_allOf_56 rfl (lv_at hl 2 rfl) ?_
                refine lv_if_eq (tgt := 69) hx hb dX4_allOf_57 (by decide) (fun c106 => ?_) (fun c106 => ?_)
                · skip
                  have c106 : v3_10.toInt = 0 := (z_eq rfl (by decide : (0 : Int32).toInt = 0)).mp c106
                  refine lv_iconst (v := 0) hx hb dX4_allOf_69 (by decide) ?_
                  refine lv_istore_n (lv' := [(3, .int 0), (5, .int 0), (4, .int v4_10), (0, .ref (ad kg)), (1, .int 2), (2, .int ask)]) hx hb dX4_allOf_70 rfl hl (by decide) rfl (fun ls hl => ?_)
                  obtain ⟨x107, ex107⟩ : ∃ y : Int32, y = v4_10 + 1 := ⟨_, rfl⟩
                  have tx107 : x107.toInt = v4_10.toInt + 1 := by rw [ex107]; exact z_add rfl (by decide : (1 : Int32).toInt = 1) (by omega) (by omega)
                  refine lv_iinc (v := x107) (lv' := [(4, .int x107), (3, .int 0), (5, .int 0), (0, .ref (ad kg)), (1, .int 2), (2, .int ask)]) hx hb dX4_allOf_71 hl (k := 2) rfl (by rw [ex107]; rfl) (by decide) rfl (fun ls hl => ?_)
                  refine lv_goto (tgt := 10) hx hb dX4_allOf_74 (by decide) ?_
                  exact ih10 x107 (0 : Int32) ct101 _ _ ls (by omega) (by first | omega | decide) (by first | omega | decide) hI hP hD hS (lv_sub hl [0, 1, 3, 4, 5] rfl)
                · skip
                  have c106 : ¬ (v3_10.toInt = 0) := fun q => c106 ((z_eq rfl (by decide : (0 : Int32).toInt = 0)).mpr q)
                  refine lv_iload hx hb dX4_allOf_60 (lv_at hl 0 rfl) ?_
                  refine lv_if_eq (tgt := 69) hx hb dX4_allOf_62 (by decide) (fun c108 => ?_) (fun c108 => ?_)
                  · skip
                    refine lv_iconst (v := 0) hx hb dX4_allOf_69 (by decide) ?_
                    refine lv_istore_n (lv' := [(3, .int 0), (5, .int 0), (4, .int v4_10), (0, .ref (ad kg)), (1, .int 2), (2, .int ask)]) hx hb dX4_allOf_70 rfl hl (by decide) rfl (fun ls hl => ?_)
                    obtain ⟨x109, ex109⟩ : ∃ y : Int32, y = v4_10 + 1 := ⟨_, rfl⟩
                    have tx109 : x109.toInt = v4_10.toInt + 1 := by rw [ex109]; exact z_add rfl (by decide : (1 : Int32).toInt = 1) (by omega) (by omega)
                    refine lv_iinc (v := x109) (lv' := [(4, .int x109), (3, .int 0), (5, .int 0), (0, .ref (ad kg)), (1, .int 2), (2, .int ask)]) hx hb dX4_allOf_71 hl (k := 2) rfl (by rw [ex109]; rfl) (by decide) rfl (fun ls hl => ?_)
                    refine lv_goto (tgt := 10) hx hb dX4_allOf_74 (by decide) ?_
                    exact ih10 x109 (0 : Int32) ct101 _ _ ls (by omega) (by first | omega | decide) (by first | omega | decide) hI hP hD hS (lv_sub hl [0, 1, 3, 4, 5] rfl)
                  · skip
                    exact absurd c108 (by decide)
            · skip
              have c99 : ¬ (ask.toInt = 0) := fun q => c99 ((z_eq rfl (by decide : (0 : Int32).toInt = 0)).mpr q)
              refine lv_iload_n hx hb dX4_allOf_42 rfl (lv_at hl 1 rfl) ?_
              refine lv_if_eq (tgt := 50) hx hb dX4_allOf_43 (by decide) (fun c110 => ?_) (fun c110 => ?_)
              · skip
                have c110 : v3_10.toInt = 0 := (z_eq rfl (by decide : (0 : Int32).toInt = 0)).mp c110
                refine lv_iconst (v := 0) hx hb dX4_allOf_50 (by decide) ?_
                have hFc := zw_free hD hS hA
                refine va_calli (va_runV (As := [.int 2, .int 0]) (rest := []) ⟨hx, hb, hml, hown, hg⟩ (k_X4_piece_2 l g _ ad pe ct96 kg (0 : Int32) (by omega) hI) (cwV 2 hg (z_gV mm_471 mm_473 mm_7 mm_114 mm_474) rfl rfl rfl (by decide +kernel) ⟨Nat.le_of_ble_eq_true rfl, Nat.le_of_ble_eq_true rfl⟩) ⟨(zA.pre [.ref (ad kg), .int 2, .int 0] hP hK hD hN).1, va_recv hK hP (ci := 4) (q0 := kg) rfl (zw_at (by omega) hs98), (zA.pre [.ref (ad kg), .int 2, .int 0] hP hK hD hN).2⟩ rfl rfl hl.1 rfl (lv_room (Nat.le_of_ble_eq_true rfl)) dX4_allOf_51 ⟨Nat.le_of_ble_eq_true rfl, Nat.le_of_ble_eq_true rfl⟩) hS (fun q _ h => hFc q h) hFc (fun r111 _ t H1 locs ht hvm hr111 hB hz1 hk1 hS => ?_)
                obtain ⟨ct112, hP1, hD1, hI⟩ := hB
                rw [ht] at hP1
                have hD := hD1.weaken (fun _ _ _ h => hFc _ h)
                generalize H1 = H at hP1 hS ⊢
                have hP := hP1
                refine W.widen (k := 0) (n := 0) (Nat.le_refl _) (Nat.le_refl _) ?_
                rcases hr111 with hr111 | hr111
                · skip
                  obtain rfl := hr111
                  refine lv_istore (lv' := [(5, .int 1), (4, .int v4_10), (3, .int v3_10), (0, .ref (ad kg)), (1, .int 2), (2, .int ask)]) hx hb dX4_allOf_54 hl (by decide) rfl (fun ls hl => ?_)
                  refine lv_iload_n hx hb dX4_allOf_56 rfl (lv_at hl 2 rfl) ?_
                  refine lv_if_eq (tgt := 69) hx hb dX4_allOf_57 (by decide) (fun c113 => ?_) (fun c113 => ?_)
                  · skip
                    have c113 : v3_10.toInt = 0 := (z_eq rfl (by decide : (0 : Int32).toInt = 0)).mp c113
                    refine lv_iconst (v := 0) hx hb dX4_allOf_69 (by decide) ?_
                    refine lv_istore_n (lv' := [(3, .int 0), (5, .int 1), (4, .int v4_10), (0, .ref (ad kg)), (1, .int 2), (2, .int ask)]) hx hb dX4_allOf_70 rfl hl (by decide) rfl (fun ls hl => ?_)
                    obtain ⟨x114, ex114⟩ : ∃ y : Int32, y = v4_10 + 1 := ⟨_, rfl⟩
                    have tx114 : x114.toInt = v4_10.toInt + 1 := by rw [ex114]; exact z_add rfl (by decide : (1 : Int32).toInt = 1) (by omega) (by omega)
                    refine lv_iinc (v := x114) (lv' := [(4, .int x114), (3, .int 0), (5, .int 1), (0, .ref (ad kg)), (1, .int 2), (2, .int ask)]) hx hb dX4_allOf_71 hl (k := 2) rfl (by rw [ex114]; rfl) (by decide) rfl (fun ls hl => ?_)
                    refine lv_goto (tgt := 10) hx hb dX4_allOf_74 (by decide) ?_
                    exact ih10 x114 (0 : Int32) ct112 _ _ ls (by omega) (by first | omega | decide) (by first | omega | decide) hI hP hD hS (lv_sub hl [0, 1, 3, 4, 5] rfl)
                  · skip
                    have c113 : ¬ (v3_10.toInt = 0) := fun q => c113 ((z_eq rfl (by decide : (0 : Int32).toInt = 0)).mpr q)
                    refine lv_iload hx hb dX4_allOf_60 (lv_at hl 0 rfl) ?_
                    refine lv_if_eq (tgt := 69) hx hb dX4_allOf_62 (by decide) (fun c115 => ?_) (fun c115 => ?_)
                    · skip
                      exact absurd c115 (by decide)
                    · skip
                      refine lv_iconst (v := 1) hx hb dX4_allOf_65 (by decide) ?_
                      refine lv_goto (tgt := 70) hx hb dX4_allOf_66 (by decide) ?_
                      refine lv_istore_n (lv' := [(3, .int 1), (5, .int 1), (4, .int v4_10), (0, .ref (ad kg)), (1, .int 2), (2, .int ask)]) hx hb dX4_allOf_70 rfl hl (by decide) rfl (fun ls hl => ?_)
                      obtain ⟨x116, ex116⟩ : ∃ y : Int32, y = v4_10 + 1 := ⟨_, rfl⟩
                      have tx116 : x116.toInt = v4_10.toInt + 1 := by rw [ex116]; exact z_add rfl (by decide : (1 : Int32).toInt = 1) (by omega) (by omega)
                      refine lv_iinc (v := x116) (lv' := [(4, .int x116), (3, .int 1), (5, .int 1), (0, .ref (ad kg)), (1, .int 2), (2, .int ask)]) hx hb dX4_allOf_71 hl (k := 2) rfl (by rw [ex116]; rfl) (by decide) rfl (fun ls hl => ?_)
                      refine lv_goto (tgt := 10) hx hb dX4_allOf_74 (by decide) ?_
                      exact ih10 x116 (1 : Int32) ct112 _ _ ls (by omega) (by first | omega | decide) (by first | omega | decide) hI hP hD hS (lv_sub hl [0, 1, 3, 4, 5] rfl)
                · skip
                  obtain rfl := hr111
                  refine lv_istore (lv' := [(5, .int 0), (4, .int v4_10), (3, .int v3_10), (0, .ref (ad kg)), (1, .int 2), (2, .int ask)]) hx hb dX4_allOf_54 hl (by decide) rfl (fun ls hl => ?_)
                  refine lv_iload_n hx hb dX4_allOf_56 rfl (lv_at hl 2 rfl) ?_
                  refine lv_if_eq (tgt := 69) hx hb dX4_allOf_57 (by decide) (fun c117 => ?_) (fun c117 => ?_)
                  · skip
                    have c117 : v3_10.toInt = 0 := (z_eq rfl (by decide : (0 : Int32).toInt = 0)).mp c117
                    refine lv_iconst (v := 0) hx hb dX4_allOf_69 (by decide) ?_
                    refine lv_istore_n (lv' := [(3, .int 0), (5, .int 0), (4, .int v4_10), (0, .ref (ad kg)), (1, .int 2), (2, .int ask)]) hx hb dX4_allOf_70 rfl hl (by decide) rfl (fun ls hl => ?_)
                    obtain ⟨x118, ex118⟩ : ∃ y : Int32, y = v4_10 + 1 := ⟨_, rfl⟩
                    have tx118 : x118.toInt = v4_10.toInt + 1 := by rw [ex118]; exact z_add rfl (by decide : (1 : Int32).toInt = 1) (by omega) (by omega)
                    refine lv_iinc (v := x118) (lv' := [(4, .int x118), (3, .int 0), (5, .int 0), (0, .ref (ad kg)), (1, .int 2), (2, .int ask)]) hx hb dX4_allOf_71 hl (k := 2) rfl (by rw [ex118]; rfl) (by decide) rfl (fun ls hl => ?_)
                    refine lv_goto (tgt := 10) hx hb dX4_allOf_74 (by decide) ?_
                    exact ih10 x118 (0 : Int32) ct112 _ _ ls (by omega) (by first | omega | decide) (by first | omega | decide) hI hP hD hS (lv_sub hl [0, 1, 3, 4, 5] rfl)
                  · skip
                    have c117 : ¬ (v3_10.toInt = 0) := fun q => c117 ((z_eq rfl (by decide : (0 : Int32).toInt = 0)).mpr q)
                    refine lv_iload hx hb dX4_allOf_60 (lv_at hl 0 rfl) ?_
                    refine lv_if_eq (tgt := 69) hx hb dX4_allOf_62 (by decide) (fun c119 => ?_) (fun c119 => ?_)
                    · skip
                      refine lv_iconst (v := 0) hx hb dX4_allOf_69 (by decide) ?_
                      refine lv_istore_n (lv' := [(3, .int 0), (5, .int 0), (4, .int v4_10), (0, .ref (ad kg)), (1, .int 2), (2, .int ask)]) hx hb dX4_allOf_70 rfl hl (by decide) rfl (fun ls hl => ?_)
                      obtain ⟨x120, ex120⟩ : ∃ y : Int32, y = v4_10 + 1 := ⟨_, rfl⟩
                      have tx120 : x120.toInt = v4_10.toInt + 1 := by rw [ex120]; exact z_add rfl (by decide : (1 : Int32).toInt = 1) (by omega) (by omega)
                      refine lv_iinc (v := x120) (lv' := [(4, .int x120), (3, .int 0), (5, .int 0), (0, .ref (ad kg)), (1, .int 2), (2, .int ask)]) hx hb dX4_allOf_71 hl (k := 2) rfl (by rw [ex120]; rfl) (by decide) rfl (fun ls hl => ?_)
                      refine lv_goto (tgt := 10) hx hb dX4_allOf_74 (by decide) ?_
                      exact ih10 x120 (0 : Int32) ct112 _ _ ls (by omega) (by first | omega | decide) (by first | omega | decide) hI hP hD hS (lv_sub hl [0, 1, 3, 4, 5] rfl)
                    · skip
                      exact absurd c119 (by decide)
              · skip
                have c110 : ¬ (v3_10.toInt = 0) := fun q => c110 ((z_eq rfl (by decide : (0 : Int32).toInt = 0)).mpr q)
                refine lv_iconst (v := 1) hx hb dX4_allOf_46 (by decide) ?_
                refine lv_goto (tgt := 51) hx hb dX4_allOf_47 (by decide) ?_
                have hFc := zw_free hD hS hA
                refine va_calli (va_runV (As := [.int 2, .int 1]) (rest := []) ⟨hx, hb, hml, hown, hg⟩ (k_X4_piece_2 l g _ ad pe ct96 kg (1 : Int32) (by omega) hI) (cwV 2 hg (z_gV mm_471 mm_473 mm_7 mm_114 mm_474) rfl rfl rfl (by decide +kernel) ⟨Nat.le_of_ble_eq_true rfl, Nat.le_of_ble_eq_true rfl⟩) ⟨(zA.pre [.ref (ad kg), .int 2, .int 1] hP hK hD hN).1, va_recv hK hP (ci := 4) (q0 := kg) rfl (zw_at (by omega) hs98), (zA.pre [.ref (ad kg), .int 2, .int 1] hP hK hD hN).2⟩ rfl rfl hl.1 rfl (lv_room (Nat.le_of_ble_eq_true rfl)) dX4_allOf_51 ⟨Nat.le_of_ble_eq_true rfl, Nat.le_of_ble_eq_true rfl⟩) hS (fun q _ h => hFc q h) hFc (fun r121 _ t H1 locs ht hvm hr121 hB hz1 hk1 hS => ?_)
                obtain ⟨ct122, hP1, hD1, hI⟩ := hB
                rw [ht] at hP1
                have hD := hD1.weaken (fun _ _ _ h => hFc _ h)
                generalize H1 = H at hP1 hS ⊢
                have hP := hP1
                refine W.widen (k := 0) (n := 0) (Nat.le_refl _) (Nat.le_refl _) ?_
                rcases hr121 with hr121 | hr121
                · skip
                  obtain rfl := hr121
                  refine lv_istore (lv' := [(5, .int 1), (4, .int v4_10), (3, .int v3_10), (0, .ref (ad kg)), (1, .int 2), (2, .int ask)]) hx hb dX4_allOf_54 hl (by decide) rfl (fun ls hl => ?_)
                  refine lv_iload_n hx hb dX4_allOf_56 rfl (lv_at hl 2 rfl) ?_
                  refine lv_if_eq (tgt := 69) hx hb dX4_allOf_57 (by decide) (fun c123 => ?_) (fun c123 => ?_)
                  · skip
                    have c123 : v3_10.toInt = 0 := (z_eq rfl (by decide : (0 : Int32).toInt = 0)).mp c123
                    exfalso
                    omega
                  · skip
                    have c123 : ¬ (v3_10.toInt = 0) := fun q => c123 ((z_eq rfl (by decide : (0 : Int32).toInt = 0)).mpr q)
                    refine lv_iload hx hb dX4_allOf_60 (lv_at hl 0 rfl) ?_
                    refine lv_if_eq (tgt := 69) hx hb dX4_allOf_62 (by decide) (fun c124 => ?_) (fun c124 => ?_)
                    · skip
                      exact absurd c124 (by decide)
                    · skip
                      refine lv_iconst (v := 1) hx hb dX4_allOf_65 (by decide) ?_
                      refine lv_goto (tgt := 70) hx hb dX4_allOf_66 (by decide) ?_
                      refine lv_istore_n (lv' := [(3, .int 1), (5, .int 1), (4, .int v4_10), (0, .ref (ad kg)), (1, .int 2), (2, .int ask)]) hx hb dX4_allOf_70 rfl hl (by decide) rfl (fun ls hl => ?_)
                      obtain ⟨x125, ex125⟩ : ∃ y : Int32, y = v4_10 + 1 := ⟨_, rfl⟩
                      have tx125 : x125.toInt = v4_10.toInt + 1 := by rw [ex125]; exact z_add rfl (by decide : (1 : Int32).toInt = 1) (by omega) (by omega)
                      refine lv_iinc (v := x125) (lv' := [(4, .int x125), (3, .int 1), (5, .int 1), (0, .ref (ad kg)), (1, .int 2), (2, .int ask)]) hx hb dX4_allOf_71 hl (k := 2) rfl (by rw [ex125]; rfl) (by decide) rfl (fun ls hl => ?_)
                      refine lv_goto (tgt := 10) hx hb dX4_allOf_74 (by decide) ?_
                      exact ih10 x125 (1 : Int32) ct122 _ _ ls (by omega) (by first | omega | decide) (by first | omega | decide) hI hP hD hS (lv_sub hl [0, 1, 3, 4, 5] rfl)
                · skip
                  obtain rfl := hr121
                  refine lv_istore (lv' := [(5, .int 0), (4, .int v4_10), (3, .int v3_10), (0, .ref (ad kg)), (1, .int 2), (2, .int ask)]) hx hb dX4_allOf_54 hl (by decide) rfl (fun ls hl => ?_)
                  refine lv_iload_n hx hb dX4_allOf_56 rfl (lv_at hl 2 rfl) ?_
                  refine lv_if_eq (tgt := 69) hx hb dX4_allOf_57 (by decide) (fun c126 => ?_) (fun c126 => ?_)
                  · skip
                    have c126 : v3_10.toInt = 0 := (z_eq rfl (by decide : (0 : Int32).toInt = 0)).mp c126
                    exfalso
                    omega
                  · skip
                    have c126 : ¬ (v3_10.toInt = 0) := fun q => c126 ((z_eq rfl (by decide : (0 : Int32).toInt = 0)).mpr q)
                    refine lv_iload hx hb dX4_allOf_60 (lv_at hl 0 rfl) ?_
                    refine lv_if_eq (tgt := 69) hx hb dX4_allOf_62 (by decide) (fun c127 => ?_) (fun c127 => ?_)
                    · skip
                      refine lv_iconst (v := 0) hx hb dX4_allOf_69 (by decide) ?_
                      refine lv_istore_n (lv' := [(3, .int 0), (5, .int 0), (4, .int v4_10), (0, .ref (ad kg)), (1, .int 2), (2, .int ask)]) hx hb dX4_allOf_70 rfl hl (by decide) rfl (fun ls hl => ?_)
                      obtain ⟨x128, ex128⟩ : ∃ y : Int32, y = v4_10 + 1 := ⟨_, rfl⟩
                      have tx128 : x128.toInt = v4_10.toInt + 1 := by rw [ex128]; exact z_add rfl (by decide : (1 : Int32).toInt = 1) (by omega) (by omega)
                      refine lv_iinc (v := x128) (lv' := [(4, .int x128), (3, .int 0), (5, .int 0), (0, .ref (ad kg)), (1, .int 2), (2, .int ask)]) hx hb dX4_allOf_71 hl (k := 2) rfl (by rw [ex128]; rfl) (by decide) rfl (fun ls hl => ?_)
                      refine lv_goto (tgt := 10) hx hb dX4_allOf_74 (by decide) ?_
                      exact ih10 x128 (0 : Int32) ct122 _ _ ls (by omega) (by first | omega | decide) (by first | omega | decide) hI hP hD hS (lv_sub hl [0, 1, 3, 4, 5] rfl)
                    · skip
                      exact absurd c127 (by decide)
    exact loop10 ((100 - (0 : Int32).toInt : Int).toNat + 1) (0 : Int32) (0 : Int32) ct18 _ _ ls (by omega) (by first | omega | decide) (by first | omega | decide) hI hP hD hS (lv_sub hl [0, 1, 2, 3, 4] rfl)

set_option maxHeartbeats 4000000 in
set_option maxRecDepth 100000 in
theorem k_X4_anyOf_2 (l : Launch) (g : zG) (sz : Nat) (ad : Nat → Nat) (pe : Int32) (ct : Nat → va_E) (kg : Nat) (ask : Int32) (hf_kg : 99 ≤ kg ∧ kg < 126 ∧ (kg - 99) % 3 = 0) (hI : Inv8 g ad pe ct) : Met l yX4_anyOf (zW yX4_anyOf cX4_anyOf 6 (some .boolean)) ({ frames := 19, cells := 0, slots := 0, locals := 473 }) (va_Pc [.ref (ad kg), .int 2, .int ask] (zA g (zw 126 ad ct) sz)) (va_Qi (fun (r : Int32) (_ : Unit) => (r = 1) ∨ (r = 0)) (fun _ t => ∃ ct2 : Nat → va_E, zP g (zw 126 ad ct2) t.heap ∧ va_D (va_A (zw 126 ad ct) sz) (zw 126 ad ct2) ∧ Inv8 g ad pe ct2) (va_A (zw 126 ad ct) sz)) 0 0 (va_A (zw 126 ad ct) sz) := by
  refine Met.ofW (cc := cX4_anyOf) (maxL := 6) (ret := (some .boolean)) (by decide) rfl ?_
  intro p e s m args below meth c s₁ B hml hv
  obtain ⟨rfl, hsz, hP, hK, hD0, hN⟩ := hv
  have hx := B.exec
  have hb := B.bytes
  have hr := B.returns
  have hg := zW.law (atoms_spec (ws := (zW yX4_anyOf cX4_anyOf 6 (some .boolean))) B.pre)
  have hown : s.vm.findClass RX4 = some m.cls := findClass_of_methodNamed B.named
  have hlocks := B.notSynchronized
  have hpe0 := hI.1
  subst hsz
  have hD := hD0.self (sz := s.heap.size)
  generalize hAe : va_A (zw 126 ad ct) s.heap.size = A at hD ⊢
  have hA : ∀ q : Nat, s.heap.size ≤ q → A q := fun q h => by rw [← hAe]; exact Or.inr h
  have hS : va_S A s.heap s.heap [] := va_S.rf
  have hl := lv_entry ([.ref (ad kg), .int 2, .int ask]) (n := 6) (Nat.le_of_ble_eq_true rfl)
  rw [lg_entry_eq]
  generalize (lg_sl ([.ref (ad kg), .int 2, .int ask]) ++ List.replicate (6 - (lg_sl ([.ref (ad kg), .int 2, .int ask])).length) Slot.unset).toArray = ls at hl ⊢
  have hl : lv_has ls 6 [(0, .ref (ad kg)), (1, .int 2), (2, .int ask)] := hl
  have rg_ask := z_rng ask
  refine lv_aload_n hx hb dX4_anyOf_0 rfl (lv_at hl 0 rfl) ?_
  refine lv_iload_n hx hb dX4_anyOf_1 rfl (lv_at hl 1 rfl) ?_
  refine lv_iload_n hx hb dX4_anyOf_2 rfl (lv_at hl 2 rfl) ?_
  obtain ⟨tld2, ofb3, hol4, flt5, fla6, ofl7, len8, atx9, ref10, hz11, h12, h13, h14, h15, hz16, hs1⟩ := a8_44 (kc := kg) (by omega) hI
  have bhz11 := z_b01 hz11
  have bhz16 := z_b01 hz16
  have hFc := zw_free hD hS hA
  refine va_calli (va_runV (As := [.int 2, .int ask]) (rest := []) ⟨hx, hb, hml, hown, hg⟩ (k_X4_allOf_2 l g _ ad pe ct kg ask (by omega) hI) (cwV 2 hg (z_gV mm_467 mm_469 mm_6 mm_114 mm_470) rfl rfl rfl (by decide +kernel) ⟨Nat.le_of_ble_eq_true rfl, Nat.le_of_ble_eq_true rfl⟩) ⟨(zA.pre [.ref (ad kg), .int 2, .int ask] hP hK hD hN).1, va_recv hK hP (ci := 4) (q0 := kg) rfl (zw_at (by omega) hs1), (zA.pre [.ref (ad kg), .int 2, .int ask] hP hK hD hN).2⟩ rfl rfl hl.1 rfl (lv_room (Nat.le_of_ble_eq_true rfl)) dX4_anyOf_3 ⟨Nat.le_of_ble_eq_true rfl, Nat.le_of_ble_eq_true rfl⟩) hS (fun q _ h => hFc q h) hFc (fun r17 _ t H1 locs ht hvm hr17 hB hz1 hk1 hS => ?_)
  obtain ⟨ct18, hP1, hD1, hI⟩ := hB
  rw [ht] at hP1
  have hD := hD1.weaken (fun _ _ _ h => hFc _ h)
  generalize H1 = H at hP1 hS ⊢
  have hP := hP1
  refine W.widen (k := 0) (n := 0) (Nat.le_refl _) (Nat.le_refl _) ?_
  rcases hr17 with hr17 | hr17
  · skip
    obtain rfl := hr17
    refine lv_istore_n (lv' := [(3, .int 1), (0, .ref (ad kg)), (1, .int 2), (2, .int ask)]) hx hb dX4_anyOf_6 rfl hl (by decide) rfl (fun ls hl => ?_)
    refine lv_iconst (v := 0) hx hb dX4_anyOf_7 (by decide) ?_
    refine lv_istore (lv' := [(4, .int 0), (3, .int 1), (0, .ref (ad kg)), (1, .int 2), (2, .int ask)]) hx hb dX4_anyOf_8 hl (by decide) rfl (fun ls hl => ?_)
    have loop10 : ∀ (n10 : Nat) (v4_10 : Int32) (v3_10 : Int32) (ct19 : Nat → va_E) (H : Heap) (locs : List Loc) (ls : Array Slot), ((100 - v4_10.toInt : Int).toNat < n10) → (0 ≤ v4_10.toInt ∧ v4_10.toInt ≤ 100) → (0 ≤ v3_10.toInt ∧ v3_10.toInt ≤ 1) → (Inv8 g ad pe ct19) → zP g (zw 126 ad ct19) H → va_D A (zw 126 ad ct19) → va_S A s.heap H locs → lv_has ls 6 [(4, .int v4_10), (3, .int v3_10), (0, .ref (ad kg)), (1, .int 2), (2, .int ask)] → W p l e (headSpec (zW yX4_anyOf cX4_anyOf 6 (some .boolean)) ({ frames := 19, cells := 0, slots := 0, locals := 473 })).room s m ([.ref (ad kg), .int 2, .int ask] : List Value).toArray below meth c H locs 0 0 (MQ below (va_Qi (fun (r : Int32) (_ : Unit) => (r = 1) ∨ (r = 0)) (fun _ t => ∃ ct2 : Nat → va_E, zP g (zw 126 ad ct2) t.heap ∧ va_D A (zw 126 ad ct2) ∧ Inv8 g ad pe ct2) A) ([.ref (ad kg), .int 2, .int ask] : List Value).toArray s 0 0 A) (F0 m 10 ls []) := by
      intro n10
      induction n10 with
      | zero =>
        intro v4_10 v3_10 ct19 H locs ls hn10 b4_10 b3_10 hI hP hD hS hl
        exact absurd hn10 (Nat.not_lt_zero _)
      | succ n10 ih10 =>
        intro v4_10 v3_10 ct19 H locs ls hn10 b4_10 b3_10 hI hP hD hS hl
        refine lv_iload hx hb dX4_anyOf_10 (lv_at hl 0 rfl) ?_
        refine lv_bipush (v := 100) hx hb dX4_anyOf_12 (by decide) ?_
        refine lv_icmp_ge (tgt := 77) hx hb dX4_anyOf_14 (by decide) (fun c20 => ?_) (fun c20 => ?_)
        · skip
          have c20 : 100 ≤ v4_10.toInt := (z_le (by decide : (100 : Int32).toInt = 100) rfl).mp c20
          refine lv_iload_n hx hb dX4_anyOf_77 rfl (lv_at hl 1 rfl) ?_
          exact W.zret (v := v3_10) hx hb hr (by rcases (z_01 (by omega) (by omega)) with q | q <;> rw [q] <;> rfl) (fun t ht hW => ⟨⟨v3_10, (), rfl, by first | exact Or.inl ⟨rfl, by omega⟩ | exact Or.inr ⟨rfl, by omega⟩ | exact Or.inl rfl | exact Or.inr rfl | exact Or.inl ⟨rfl, by omega, by omega⟩ | exact (z_01 (by omega) (by omega)).symm, ct19, by rw [ht]; exact hP, hD, hI⟩, hS.F ht⟩) hS.2.2 dX4_anyOf_78
        · skip
          have c20 : ¬ (100 ≤ v4_10.toInt) := fun q => c20 ((z_le (by decide : (100 : Int32).toInt = 100) rfl).mpr q)
          refine lv_aload_n hx hb dX4_anyOf_17 rfl (lv_at hl 2 rfl) ?_
          obtain ⟨tld22, ofb23, hol24, flt25, fla26, ofl27, len28, atx29, ref30, hz31, h32, h33, h34, h35, hz36, hs21⟩ := a8_44 (kc := kg) (by omega) hI
          have bhz31 := z_b01 hz31
          have bhz36 := z_b01 hz36
          refine zc_i (va_runV (As := []) (rest := []) ⟨hx, hb, hml, hown, hg⟩ (k_X4_next l g ad pe ct19 kg tld22 ofb23 hol24 flt25 fla26 ofl27 len28 atx29 ref30 (by omega) hI hs21) (cwV 0 hg (z_gV mm_475 mm_477 mm_8 mm_114 mm_478) rfl rfl rfl (by decide +kernel) ⟨Nat.le_of_ble_eq_true rfl, Nat.le_of_ble_eq_true rfl⟩) ⟨(zR.pre [.ref (ad kg)] hP hK hN).1, va_recv hK hP (ci := 4) (q0 := kg) rfl (zw_at (by omega) hs21), (zR.pre [.ref (ad kg)] hP hK hN).2⟩ rfl rfl hl.1 rfl (lv_room (Nat.le_of_ble_eq_true rfl)) dX4_anyOf_18 ⟨Nat.le_of_ble_eq_true rfl, Nat.le_of_ble_eq_true rfl⟩) (fun r37 hr37 => ?_)
          have h38 := hr37
          have h38 : r37.toInt = -1 ∨ atx29.toInt ≤ 99 := h38
          refine lv_bipush (v := 124) hx hb dX4_anyOf_21 (by decide) ?_
          refine lv_icmp_ne (tgt := 77) hx hb dX4_anyOf_23 (by decide) (fun c39 => ?_) (fun c39 => ?_)
          · skip
            have c39 : ¬ (r37.toInt = 124) := fun q => c39 ((z_eq rfl (by decide : (124 : Int32).toInt = 124)).mpr q)
            refine lv_iload_n hx hb dX4_anyOf_77 rfl (lv_at hl 1 rfl) ?_
            exact W.zret (v := v3_10) hx hb hr (by rcases (z_01 (by omega) (by omega)) with q | q <;> rw [q] <;> rfl) (fun t ht hW => ⟨⟨v3_10, (), rfl, by first | exact Or.inl ⟨rfl, by omega⟩ | exact Or.inr ⟨rfl, by omega⟩ | exact Or.inl rfl | exact Or.inr rfl | exact Or.inl ⟨rfl, by omega, by omega⟩ | exact (z_01 (by omega) (by omega)).symm, ct19, by rw [ht]; exact hP, hD, hI⟩, hS.F ht⟩) hS.2.2 dX4_anyOf_78
          · skip
            have c39 : r37.toInt = 124 := (z_eq rfl (by decide : (124 : Int32).toInt = 124)).mp c39
            refine lv_aload_n hx hb dX4_anyOf_26 rfl (lv_at hl 2 rfl) ?_
            refine lv_dup hx hb dX4_anyOf_27 rfl ?_
            refine va_get (D := g.1) (ci := 4) (v := .int atx29) (C := RX4) (T := TX4) (N := 11) hx hb hg inG4 hown hK hP kg (zw_at (by omega) hs21) rfl 9 (by decide) (hg _ mm_285) (fun _ h9 => h9) rfl dX4_anyOf_28 ?_
            refine lv_iconst (v := 1) hx hb dX4_anyOf_31 (by decide) ?_
            refine lv_iadd hx hb dX4_anyOf_32 ?_
            refine lv_topi (fun x40 ex40 => ?_)
            have tx40 : x40.toInt = atx29.toInt + 1 := by rw [ex40]; exact z_add rfl (by decide : (1 : Int32).toInt = 1) (by omega) (by omega)
            refine va_put (D := g.1) (ci := 4) (v := .int x40) (ty := .int) (C := RX4) (T := TX4) (N := 11) hx hb hg inG4 tyX4 tyX4_ok nmX4 hown hK hP hD hS kg (zw_at (by omega) hs21) rfl 9 (by decide) (hg _ mm_285) (fun _ h9 => h9) rfl (by decide +kernel) rfl rfl (Nat.le_of_ble_eq_true rfl) dX4_anyOf_33 (fun H locs hP hD hS => ?_)
            have hP : zP g ((zw 126 ad ct19).set kg (ad kg, .inr (4, [.int tld22, .int ofb23, .int hol24, .int flt25, .int fla26, .int ofl27, .ref (ad (kg + 1)), .ref (ad (kg + 2)), .int len28, .int x40, .int ref30]))) H := hP
            have hD : va_D A ((zw 126 ad ct19).set kg (ad kg, .inr (4, [.int tld22, .int ofb23, .int hol24, .int flt25, .int fla26, .int ofl27, .ref (ad (kg + 1)), .ref (ad (kg + 2)), .int len28, .int x40, .int ref30]))) := hD
            rw [zw_set (by omega)] at hP hD
            obtain ⟨ct41, ec42⟩ : ∃ z : Nat → va_E, z = va_up ct19 kg (.inr (4, [.int tld22, .int ofb23, .int hol24, .int flt25, .int fla26, .int ofl27, .ref (ad (kg + 1)), .ref (ad (kg + 2)), .int len28, .int x40, .int ref30])) := ⟨_, rfl⟩
            rw [← ec42] at hP hD
            have hI : Inv8 g ad pe ct41 := by rw [ec42]; exact up8 hI (i8_44 (kc := kg) (by omega) ⟨(tld22 : Int32), (ofb23 : Int32), (hol24 : Int32), (flt25 : Int32), (fla26 : Int32), (ofl27 : Int32), (len28 : Int32), (x40 : Int32), (ref30 : Int32), hz31, (by first | omega | decide), (by first | omega | decide), (by first | omega | decide), (by first | omega | decide), hz36, rfl⟩)
            have hs43 : ct41 kg = .inr (4, [.int tld22, .int ofb23, .int hol24, .int flt25, .int fla26, .int ofl27, .ref (ad (kg + 1)), .ref (ad (kg + 2)), .int len28, .int x40, .int ref30]) := by rw [ec42]; exact va_up_self _ _ _
            refine lv_aload_n hx hb dX4_anyOf_36 rfl (lv_at hl 2 rfl) ?_
            refine lv_iload_n hx hb dX4_anyOf_37 rfl (lv_at hl 3 rfl) ?_
            refine lv_iload_n hx hb dX4_anyOf_38 rfl (lv_at hl 4 rfl) ?_
            refine lv_if_eq (tgt := 50) hx hb dX4_anyOf_39 (by decide) (fun c44 => ?_) (fun c44 => ?_)
            · skip
              have c44 : ask.toInt = 0 := (z_eq rfl (by decide : (0 : Int32).toInt = 0)).mp c44
              refine lv_iconst (v := 0) hx hb dX4_anyOf_50 (by decide) ?_
              have hFc := zw_free hD hS hA
              refine va_calli (va_runV (As := [.int 2, .int 0]) (rest := []) ⟨hx, hb, hml, hown, hg⟩ (k_X4_allOf_2 l g _ ad pe ct41 kg (0 : Int32) (by omega) hI) (cwV 2 hg (z_gV mm_467 mm_469 mm_6 mm_114 mm_470) rfl rfl rfl (by decide +kernel) ⟨Nat.le_of_ble_eq_true rfl, Nat.le_of_ble_eq_true rfl⟩) ⟨(zA.pre [.ref (ad kg), .int 2, .int 0] hP hK hD hN).1, va_recv hK hP (ci := 4) (q0 := kg) rfl (zw_at (by omega) hs43), (zA.pre [.ref (ad kg), .int 2, .int 0] hP hK hD hN).2⟩ rfl rfl hl.1 rfl (lv_room (Nat.le_of_ble_eq_true rfl)) dX4_anyOf_51 ⟨Nat.le_of_ble_eq_true rfl, Nat.le_of_ble_eq_true rfl⟩) hS (fun q _ h => hFc q h) hFc (fun r45 _ t H1 locs ht hvm hr45 hB hz1 hk1 hS => ?_)
              obtain ⟨ct46, hP1, hD1, hI⟩ := hB
              rw [ht] at hP1
              have hD := hD1.weaken (fun _ _ _ h => hFc _ h)
              generalize H1 = H at hP1 hS ⊢
              have hP := hP1
              refine W.widen (k := 0) (n := 0) (Nat.le_refl _) (Nat.le_refl _) ?_
              rcases hr45 with hr45 | hr45
              · skip
                obtain rfl := hr45
                refine lv_istore (lv' := [(5, .int 1), (4, .int v4_10), (3, .int v3_10), (0, .ref (ad kg)), (1, .int 2), (2, .int ask)]) hx hb dX4_anyOf_54 hl (by decide) rfl (fun ls hl => ?_)
                refine lv_iload_n hx hb dX4_anyOf_56 rfl (lv_at hl 2 rfl) ?_
                refine lv_if_ne (tgt := 65) hx hb dX4_anyOf_57 (by decide) (fun c47 => ?_) (fun c47 => ?_)
                · skip
                  have c47 : ¬ (v3_10.toInt = 0) := fun q => c47 ((z_eq rfl (by decide : (0 : Int32).toInt = 0)).mpr q)
                  refine lv_iconst (v := 1) hx hb dX4_anyOf_65 (by decide) ?_
                  refine lv_goto (tgt := 70) hx hb dX4_anyOf_66 (by decide) ?_
                  refine lv_istore_n (lv' := [(3, .int 1), (5, .int 1), (4, .int v4_10), (0, .ref (ad kg)), (1, .int 2), (2, .int ask)]) hx hb dX4_anyOf_70 rfl hl (by decide) rfl (fun ls hl => ?_)
                  obtain ⟨x48, ex48⟩ : ∃ y : Int32, y = v4_10 + 1 := ⟨_, rfl⟩
                  have tx48 : x48.toInt = v4_10.toInt + 1 := by rw [ex48]; exact z_add rfl (by decide : (1 : Int32).toInt = 1) (by omega) (by omega)
                  refine lv_iinc (v := x48) (lv' := [(4, .int x48), (3, .int 1), (5, .int 1), (0, .ref (ad kg)), (1, .int 2), (2, .int ask)]) hx hb dX4_anyOf_71 hl (k := 2) rfl (by rw [ex48]; rfl) (by decide) rfl (fun ls hl => ?_)
                  refine lv_goto (tgt := 10) hx hb dX4_anyOf_74 (by decide) ?_
                  exact ih10 x48 (1 : Int32) ct46 _ _ ls (by omega) (by first | omega | decide) (by first | omega | decide) hI hP hD hS (lv_sub hl [0, 1, 3, 4, 5] rfl)
                · skip
                  have c47 : v3_10.toInt = 0 := (z_eq rfl (by decide : (0 : Int32).toInt = 0)).mp c47
                  refine lv_iload hx hb dX4_anyOf_60 (lv_at hl 0 rfl) ?_
                  refine lv_if_eq (tgt := 69) hx hb dX4_anyOf_62 (by decide) (fun c49 => ?_) (fun c49 => ?_)
                  · skip
                    exact absurd c49 (by decide)
                  · skip
                    refine lv_iconst (v := 1) hx hb dX4_anyOf_65 (by decide) ?_
                    refine lv_goto (tgt := 70) hx hb dX4_anyOf_66 (by decide) ?_
                    refine lv_istore_n (lv' := [(3, .int 1), (5, .int 1), (4, .int v4_10), (0, .ref (ad kg)), (1, .int 2), (2, .int ask)]) hx hb dX4_anyOf_70 rfl hl (by decide) rfl (fun ls hl => ?_)
                    obtain ⟨x50, ex50⟩ : ∃ y : Int32, y = v4_10 + 1 := ⟨_, rfl⟩
                    have tx50 : x50.toInt = v4_10.toInt + 1 := by rw [ex50]; exact z_add rfl (by decide : (1 : Int32).toInt = 1) (by omega) (by omega)
                    refine lv_iinc (v := x50) (lv' := [(4, .int x50), (3, .int 1), (5, .int 1), (0, .ref (ad kg)), (1, .int 2), (2, .int ask)]) hx hb dX4_anyOf_71 hl (k := 2) rfl (by rw [ex50]; rfl) (by decide) rfl (fun ls hl => ?_)
                    refine lv_goto (tgt := 10) hx hb dX4_anyOf_74 (by decide) ?_
                    exact ih10 x50 (1 : Int32) ct46 _ _ ls (by omega) (by first | omega | decide) (by first | omega | decide) hI hP hD hS (lv_sub hl [0, 1, 3, 4, 5] rfl)
              · skip
                obtain rfl := hr45
                refine lv_istore (lv' := [(5, .int 0), (4, .int v4_10), (3, .int v3_10), (0, .ref (ad kg)), (1, .int 2), (2, .int ask)]) hx hb dX4_anyOf_54 hl (by decide) rfl (fun ls hl => ?_)
                refine lv_iload_n hx hb dX4_anyOf_56 rfl (lv_at hl 2 rfl) ?_
                refine lv_if_ne (tgt := 65) hx hb dX4_anyOf_57 (by decide) (fun c51 => ?_) (fun c51 => ?_)
                · skip
                  have c51 : ¬ (v3_10.toInt = 0) := fun q => c51 ((z_eq rfl (by decide : (0 : Int32).toInt = 0)).mpr q)
                  refine lv_iconst (v := 1) hx hb dX4_anyOf_65 (by decide) ?_
                  refine lv_goto (tgt := 70) hx hb dX4_anyOf_66 (by decide) ?_
                  refine lv_istore_n (lv' := [(3, .int 1), (5, .int 0), (4, .int v4_10), (0, .ref (ad kg)), (1, .int 2), (2, .int ask)]) hx hb dX4_anyOf_70 rfl hl (by decide) rfl (fun ls hl => ?_)
                  obtain ⟨x52, ex52⟩ : ∃ y : Int32, y = v4_10 + 1 := ⟨_, rfl⟩
                  have tx52 : x52.toInt = v4_10.toInt + 1 := by rw [ex52]; exact z_add rfl (by decide : (1 : Int32).toInt = 1) (by omega) (by omega)
                  refine lv_iinc (v := x52) (lv' := [(4, .int x52), (3, .int 1), (5, .int 0), (0, .ref (ad kg)), (1, .int 2), (2, .int ask)]) hx hb dX4_anyOf_71 hl (k := 2) rfl (by rw [ex52]; rfl) (by decide) rfl (fun ls hl => ?_)
                  refine lv_goto (tgt := 10) hx hb dX4_anyOf_74 (by decide) ?_
                  exact ih10 x52 (1 : Int32) ct46 _ _ ls (by omega) (by first | omega | decide) (by first | omega | decide) hI hP hD hS (lv_sub hl [0, 1, 3, 4, 5] rfl)
                · skip
                  have c51 : v3_10.toInt = 0 := (z_eq rfl (by decide : (0 : Int32).toInt = 0)).mp c51
                  refine lv_iload hx hb dX4_anyOf_60 (lv_at hl 0 rfl) ?_
                  refine lv_if_eq (tgt := 69) hx hb dX4_anyOf_62 (by decide) (fun c53 => ?_) (fun c53 => ?_)
                  · skip
                    refine lv_iconst (v := 0) hx hb dX4_anyOf_69 (by decide) ?_
                    refine lv_istore_n (lv' := [(3, .int 0), (5, .int 0), (4, .int v4_10), (0, .ref (ad kg)), (1, .int 2), (2, .int ask)]) hx hb dX4_anyOf_70 rfl hl (by decide) rfl (fun ls hl => ?_)
                    obtain ⟨x54, ex54⟩ : ∃ y : Int32, y = v4_10 + 1 := ⟨_, rfl⟩
                    have tx54 : x54.toInt = v4_10.toInt + 1 := by rw [ex54]; exact z_add rfl (by decide : (1 : Int32).toInt = 1) (by omega) (by omega)
                    refine lv_iinc (v := x54) (lv' := [(4, .int x54), (3, .int 0), (5, .int 0), (0, .ref (ad kg)), (1, .int 2), (2, .int ask)]) hx hb dX4_anyOf_71 hl (k := 2) rfl (by rw [ex54]; rfl) (by decide) rfl (fun ls hl => ?_)
                    refine lv_goto (tgt := 10) hx hb dX4_anyOf_74 (by decide) ?_
                    exact ih10 x54 (0 : Int32) ct46 _ _ ls (by omega) (by first | omega | decide) (by first | omega | decide) hI hP hD hS (lv_sub hl [0, 1, 3, 4, 5] rfl)
                  · skip
                    exact absurd c53 (by decide)
            · skip
              have c44 : ¬ (ask.toInt = 0) := fun q => c44 ((z_eq rfl (by decide : (0 : Int32).toInt = 0)).mpr q)
              refine lv_iload_n hx hb dX4_anyOf_42 rfl (lv_at hl 1 rfl) ?_
              refine lv_if_ne (tgt := 50) hx hb dX4_anyOf_43 (by decide) (fun c55 => ?_) (fun c55 => ?_)
              · skip
                have c55 : ¬ (v3_10.toInt = 0) := fun q => c55 ((z_eq rfl (by decide : (0 : Int32).toInt = 0)).mpr q)
                refine lv_iconst (v := 0) hx hb dX4_anyOf_50 (by decide) ?_
                have hFc := zw_free hD hS hA
                refine va_calli (va_runV (As := [.int 2, .int 0]) (rest := []) ⟨hx, hb, hml, hown, hg⟩ (k_X4_allOf_2 l g _ ad pe ct41 kg (0 : Int32) (by omega) hI) (cwV 2 hg (z_gV mm_467 mm_469 mm_6 mm_114 mm_470) rfl rfl rfl (by decide +kernel) ⟨Nat.le_of_ble_eq_true rfl, Nat.le_of_ble_eq_true rfl⟩) ⟨(zA.pre [.ref (ad kg), .int 2, .int 0] hP hK hD hN).1, va_recv hK hP (ci := 4) (q0 := kg) rfl (zw_at (by omega) hs43), (zA.pre [.ref (ad kg), .int 2, .int 0] hP hK hD hN).2⟩ rfl rfl hl.1 rfl (lv_room (Nat.le_of_ble_eq_true rfl)) dX4_anyOf_51 ⟨Nat.le_of_ble_eq_true rfl, Nat.le_of_ble_eq_true rfl⟩) hS (fun q _ h => hFc q h) hFc (fun r56 _ t H1 locs ht hvm hr56 hB hz1 hk1 hS => ?_)
                obtain ⟨ct57, hP1, hD1, hI⟩ := hB
                rw [ht] at hP1
                have hD := hD1.weaken (fun _ _ _ h => hFc _ h)
                generalize H1 = H at hP1 hS ⊢
                have hP := hP1
                refine W.widen (k := 0) (n := 0) (Nat.le_refl _) (Nat.le_refl _) ?_
                rcases hr56 with hr56 | hr56
                · skip
                  obtain rfl := hr56
                  refine lv_istore (lv' := [(5, .int 1), (4, .int v4_10), (3, .int v3_10), (0, .ref (ad kg)), (1, .int 2), (2, .int ask)]) hx hb dX4_anyOf_54 hl (by decide) rfl (fun ls hl => ?_)
                  refine lv_iload_n hx hb dX4_anyOf_56 rfl (lv_at hl 2 rfl) ?_
                  refine lv_if_ne (tgt := 65) hx hb dX4_anyOf_57 (by decide) (fun c58 => ?_) (fun c58 => ?_)
                  · skip
                    have c58 : ¬ (v3_10.toInt = 0) := fun q => c58 ((z_eq rfl (by decide : (0 : Int32).toInt = 0)).mpr q)
                    refine lv_iconst (v := 1) hx hb dX4_anyOf_65 (by decide) ?_
                    refine lv_goto (tgt := 70) hx hb dX4_anyOf_66 (by decide) ?_
                    refine lv_istore_n (lv' := [(3, .int 1), (5, .int 1), (4, .int v4_10), (0, .ref (ad kg)), (1, .int 2), (2, .int ask)]) hx hb dX4_anyOf_70 rfl hl (by decide) rfl (fun ls hl => ?_)
                    obtain ⟨x59, ex59⟩ : ∃ y : Int32, y = v4_10 + 1 := ⟨_, rfl⟩
                    have tx59 : x59.toInt = v4_10.toInt + 1 := by rw [ex59]; exact z_add rfl (by decide : (1 : Int32).toInt = 1) (by omega) (by omega)
                    refine lv_iinc (v := x59) (lv' := [(4, .int x59), (3, .int 1), (5, .int 1), (0, .ref (ad kg)), (1, .int 2), (2, .int ask)]) hx hb dX4_anyOf_71 hl (k := 2) rfl (by rw [ex59]; rfl) (by decide) rfl (fun ls hl => ?_)
                    refine lv_goto (tgt := 10) hx hb dX4_anyOf_74 (by decide) ?_
                    exact ih10 x59 (1 : Int32) ct57 _ _ ls (by omega) (by first | omega | decide) (by first | omega | decide) hI hP hD hS (lv_sub hl [0, 1, 3, 4, 5] rfl)
                  · skip
                    have c58 : v3_10.toInt = 0 := (z_eq rfl (by decide : (0 : Int32).toInt = 0)).mp c58
                    exfalso
                    omega
                · skip
                  obtain rfl := hr56
                  refine lv_istore (lv' := [(5, .int 0), (4, .int v4_10), (3, .int v3_10), (0, .ref (ad kg)), (1, .int 2), (2, .int ask)]) hx hb dX4_anyOf_54 hl (by decide) rfl (fun ls hl => ?_)
                  refine lv_iload_n hx hb dX4_anyOf_56 rfl (lv_at hl 2 rfl) ?_
                  refine lv_if_ne (tgt := 65) hx hb dX4_anyOf_57 (by decide) (fun c60 => ?_) (fun c60 => ?_)
                  · skip
                    have c60 : ¬ (v3_10.toInt = 0) := fun q => c60 ((z_eq rfl (by decide : (0 : Int32).toInt = 0)).mpr q)
                    refine lv_iconst (v := 1) hx hb dX4_anyOf_65 (by decide) ?_
                    refine lv_goto (tgt := 70) hx hb dX4_anyOf_66 (by decide) ?_
                    refine lv_istore_n (lv' := [(3, .int 1), (5, .int 0), (4, .int v4_10), (0, .ref (ad kg)), (1, .int 2), (2, .int ask)]) hx hb dX4_anyOf_70 rfl hl (by decide) rfl (fun ls hl => ?_)
                    obtain ⟨x61, ex61⟩ : ∃ y : Int32, y = v4_10 + 1 := ⟨_, rfl⟩
                    have tx61 : x61.toInt = v4_10.toInt + 1 := by rw [ex61]; exact z_add rfl (by decide : (1 : Int32).toInt = 1) (by omega) (by omega)
                    refine lv_iinc (v := x61) (lv' := [(4, .int x61), (3, .int 1), (5, .int 0), (0, .ref (ad kg)), (1, .int 2), (2, .int ask)]) hx hb dX4_anyOf_71 hl (k := 2) rfl (by rw [ex61]; rfl) (by decide) rfl (fun ls hl => ?_)
                    refine lv_goto (tgt := 10) hx hb dX4_anyOf_74 (by decide) ?_
                    exact ih10 x61 (1 : Int32) ct57 _ _ ls (by omega) (by first | omega | decide) (by first | omega | decide) hI hP hD hS (lv_sub hl [0, 1, 3, 4, 5] rfl)
                  · skip
                    have c60 : v3_10.toInt = 0 := (z_eq rfl (by decide : (0 : Int32).toInt = 0)).mp c60
                    exfalso
                    omega
              · skip
                have c55 : v3_10.toInt = 0 := (z_eq rfl (by decide : (0 : Int32).toInt = 0)).mp c55
                refine lv_iconst (v := 1) hx hb dX4_anyOf_46 (by decide) ?_
                refine lv_goto (tgt := 51) hx hb dX4_anyOf_47 (by decide) ?_
                have hFc := zw_free hD hS hA
                refine va_calli (va_runV (As := [.int 2, .int 1]) (rest := []) ⟨hx, hb, hml, hown, hg⟩ (k_X4_allOf_2 l g _ ad pe ct41 kg (1 : Int32) (by omega) hI) (cwV 2 hg (z_gV mm_467 mm_469 mm_6 mm_114 mm_470) rfl rfl rfl (by decide +kernel) ⟨Nat.le_of_ble_eq_true rfl, Nat.le_of_ble_eq_true rfl⟩) ⟨(zA.pre [.ref (ad kg), .int 2, .int 1] hP hK hD hN).1, va_recv hK hP (ci := 4) (q0 := kg) rfl (zw_at (by omega) hs43), (zA.pre [.ref (ad kg), .int 2, .int 1] hP hK hD hN).2⟩ rfl rfl hl.1 rfl (lv_room (Nat.le_of_ble_eq_true rfl)) dX4_anyOf_51 ⟨Nat.le_of_ble_eq_true rfl, Nat.le_of_ble_eq_true rfl⟩) hS (fun q _ h => hFc q h) hFc (fun r62 _ t H1 locs ht hvm hr62 hB hz1 hk1 hS => ?_)
                obtain ⟨ct63, hP1, hD1, hI⟩ := hB
                rw [ht] at hP1
                have hD := hD1.weaken (fun _ _ _ h => hFc _ h)
                generalize H1 = H at hP1 hS ⊢
                have hP := hP1
                refine W.widen (k := 0) (n := 0) (Nat.le_refl _) (Nat.le_refl _) ?_
                rcases hr62 with hr62 | hr62
                · skip
                  obtain rfl := hr62
                  refine lv_istore (lv' := [(5, .int 1), (4, .int v4_10), (3, .int v3_10), (0, .ref (ad kg)), (1, .int 2), (2, .int ask)]) hx hb dX4_anyOf_54 hl (by decide) rfl (fun ls hl => ?_)
                  refine lv_iload_n hx hb dX4_anyOf_56 rfl (lv_at hl 2 rfl) ?_
                  refine lv_if_ne (tgt := 65) hx hb dX4_anyOf_57 (by decide) (fun c64 => ?_) (fun c64 => ?_)
                  · skip
                    have c64 : ¬ (v3_10.toInt = 0) := fun q => c64 ((z_eq rfl (by decide : (0 : Int32).toInt = 0)).mpr q)
                    refine lv_iconst (v := 1) hx hb dX4_anyOf_65 (by decide) ?_
                    refine lv_goto (tgt := 70) hx hb dX4_anyOf_66 (by decide) ?_
                    refine lv_istore_n (lv' := [(3, .int 1), (5, .int 1), (4, .int v4_10), (0, .ref (ad kg)), (1, .int 2), (2, .int ask)]) hx hb dX4_anyOf_70 rfl hl (by decide) rfl (fun ls hl => ?_)
                    obtain ⟨x65, ex65⟩ : ∃ y : Int32, y = v4_10 + 1 := ⟨_, rfl⟩
                    have tx65 : x65.toInt = v4_10.toInt + 1 := by rw [ex65]; exact z_add rfl (by decide : (1 : Int32).toInt = 1) (by omega) (by omega)
                    refine lv_iinc (v := x65) (lv' := [(4, .int x65), (3, .int 1), (5, .int 1), (0, .ref (ad kg)), (1, .int 2), (2, .int ask)]) hx hb dX4_anyOf_71 hl (k := 2) rfl (by rw [ex65]; rfl) (by decide) rfl (fun ls hl => ?_)
                    refine lv_goto (tgt := 10) hx hb dX4_anyOf_74 (by decide) ?_
                    exact ih10 x65 (1 : Int32) ct63 _ _ ls (by omega) (by first | omega | decide) (by first | omega | decide) hI hP hD hS (lv_sub hl [0, 1, 3, 4, 5] rfl)
                  · skip
                    have c64 : v3_10.toInt = 0 := (z_eq rfl (by decide : (0 : Int32).toInt = 0)).mp c64
                    refine lv_iload hx hb dX4_anyOf_60 (lv_at hl 0 rfl) ?_
                    refine lv_if_eq (tgt := 69) hx hb dX4_anyOf_62 (by decide) (fun c66 => ?_) (fun c66 => ?_)
                    · skip
                      exact absurd c66 (by decide)
                    · skip
                      refine lv_iconst (v := 1) hx hb dX4_anyOf_65 (by decide) ?_
                      refine lv_goto (tgt := 70) hx hb dX4_anyOf_66 (by decide) ?_
                      refine lv_istore_n (lv' := [(3, .int 1), (5, .int 1), (4, .int v4_10), (0, .ref (ad kg)), (1, .int 2), (2, .int ask)]) hx hb dX4_anyOf_70 rfl hl (by decide) rfl (fun ls hl => ?_)
                      obtain ⟨x67, ex67⟩ : ∃ y : Int32, y = v4_10 + 1 := ⟨_, rfl⟩
                      have tx67 : x67.toInt = v4_10.toInt + 1 := by rw [ex67]; exact z_add rfl (by decide : (1 : Int32).toInt = 1) (by omega) (by omega)
                      refine lv_iinc (v := x67) (lv' := [(4, .int x67), (3, .int 1), (5, .int 1), (0, .ref (ad kg)), (1, .int 2), (2, .int ask)]) hx hb dX4_anyOf_71 hl (k := 2) rfl (by rw [ex67]; rfl) (by decide) rfl (fun ls hl => ?_)
                      refine lv_goto (tgt := 10) hx hb dX4_anyOf_74 (by decide) ?_
                      exact ih10 x67 (1 : Int32) ct63 _ _ ls (by omega) (by first | omega | decide) (by first | omega | decide) hI hP hD hS (lv_sub hl [0, 1, 3, 4, 5] rfl)
                · skip
                  obtain rfl := hr62
                  refine lv_istore (lv' := [(5, .int 0), (4, .int v4_10), (3, .int v3_10), (0, .ref (ad kg)), (1, .int 2), (2, .int ask)]) hx hb dX4_anyOf_54 hl (by decide) rfl (fun ls hl => ?_)
                  refine lv_iload_n hx hb dX4_anyOf_56 rfl (lv_at hl 2 rfl) ?_
                  refine lv_if_ne (tgt := 65) hx hb dX4_anyOf_57 (by decide) (fun c68 => ?_) (fun c68 => ?_)
                  · skip
                    have c68 : ¬ (v3_10.toInt = 0) := fun q => c68 ((z_eq rfl (by decide : (0 : Int32).toInt = 0)).mpr q)
                    refine lv_iconst (v := 1) hx hb dX4_anyOf_65 (by decide) ?_
                    refine lv_goto (tgt := 70) hx hb dX4_anyOf_66 (by decide) ?_
                    refine lv_istore_n (lv' := [(3, .int 1), (5, .int 0), (4, .int v4_10), (0, .ref (ad kg)), (1, .int 2), (2, .int ask)]) hx hb dX4_anyOf_70 rfl hl (by decide) rfl (fun ls hl => ?_)
                    obtain ⟨x69, ex69⟩ : ∃ y : Int32, y = v4_10 + 1 := ⟨_, rfl⟩
                    have tx69 : x69.toInt = v4_10.toInt + 1 := by rw [ex69]; exact z_add rfl (by decide : (1 : Int32).toInt = 1) (by omega) (by omega)
                    refine lv_iinc (v := x69) (lv' := [(4, .int x69), (3, .int 1), (5, .int 0), (0, .ref (ad kg)), (1, .int 2), (2, .int ask)]) hx hb dX4_anyOf_71 hl (k := 2) rfl (by rw [ex69]; rfl) (by decide) rfl (fun ls hl => ?_)
                    refine lv_goto (tgt := 10) hx hb dX4_anyOf_74 (by decide) ?_
                    exact ih10 x69 (1 : Int32) ct63 _ _ ls (by omega) (by first | omega | decide) (by first | omega | decide) hI hP hD hS (lv_sub hl [0, 1, 3, 4, 5] rfl)
                  · skip
                    have c68 : v3_10.toInt = 0 := (z_eq rfl (by decide : (0 : Int32).toInt = 0)).mp c68
                    refine lv_iload hx hb dX4_anyOf_60 (lv_at hl 0 rfl) ?_
                    refine lv_if_eq (tgt := 69) hx hb dX4_anyOf_62 (by decide) (fun c70 => ?_) (fun c70 => ?_)
                    · skip
                      refine lv_iconst (v := 0) hx hb dX4_anyOf_69 (by decide) ?_
                      refine lv_istore_n (lv' := [(3, .int 0), (5, .int 0), (4, .int v4_10), (0, .ref (ad kg)), (1, .int 2), (2, .int ask)]) hx hb dX4_anyOf_70 rfl hl (by decide) rfl (fun ls hl => ?_)
                      obtain ⟨x71, ex71⟩ : ∃ y : Int32, y = v4_10 + 1 := ⟨_, rfl⟩
                      have tx71 : x71.toInt = v4_10.toInt + 1 := by rw [ex71]; exact z_add rfl (by decide : (1 : Int32).toInt = 1) (by omega) (by omega)
                      refine lv_iinc (v := x71) (lv' := [(4, .int x71), (3, .int 0), (5, .int 0), (0, .ref (ad kg)), (1, .int 2), (2, .int ask)]) hx hb dX4_anyOf_71 hl (k := 2) rfl (by rw [ex71]; rfl) (by decide) rfl (fun ls hl => ?_)
                      refine lv_goto (tgt := 10) hx hb dX4_anyOf_74 (by decide) ?_
                      exact ih10 x71 (0 : Int32) ct63 _ _ ls (by omega) (by first | omega | decide) (by first | omega | decide) hI hP hD hS (lv_sub hl [0, 1, 3, 4, 5] rfl)
                    · skip
                      exact absurd c70 (by decide)
    exact loop10 ((100 - (0 : Int32).toInt : Int).toNat + 1) (0 : Int32) (1 : Int32) ct18 _ _ ls (by omega) (by first | omega | decide) (by first | omega | decide) hI hP hD hS (lv_sub hl [0, 1, 2, 3, 4] rfl)
  · skip
    obtain rfl := hr17
    refine lv_istore_n (lv' := [(3, .int 0), (0, .ref (ad kg)), (1, .int 2), (2, .int ask)]) hx hb dX4_anyOf_6 rfl hl (by decide) rfl (fun ls hl => ?_)
    refine lv_iconst (v := 0) hx hb dX4_anyOf_7 (by decide) ?_
    refine lv_istore (lv' := [(4, .int 0), (3, .int 0), (0, .ref (ad kg)), (1, .int 2), (2, .int ask)]) hx hb dX4_anyOf_8 hl (by decide) rfl (fun ls hl => ?_)
    have loop10 : ∀ (n10 : Nat) (v4_10 : Int32) (v3_10 : Int32) (ct72 : Nat → va_E) (H : Heap) (locs : List Loc) (ls : Array Slot), ((100 - v4_10.toInt : Int).toNat < n10) → (0 ≤ v4_10.toInt ∧ v4_10.toInt ≤ 100) → (0 ≤ v3_10.toInt ∧ v3_10.toInt ≤ 1) → (Inv8 g ad pe ct72) → zP g (zw 126 ad ct72) H → va_D A (zw 126 ad ct72) → va_S A s.heap H locs → lv_has ls 6 [(4, .int v4_10), (3, .int v3_10), (0, .ref (ad kg)), (1, .int 2), (2, .int ask)] → W p l e (headSpec (zW yX4_anyOf cX4_anyOf 6 (some .boolean)) ({ frames := 19, cells := 0, slots := 0, locals := 473 })).room s m ([.ref (ad kg), .int 2, .int ask] : List Value).toArray below meth c H locs 0 0 (MQ below (va_Qi (fun (r : Int32) (_ : Unit) => (r = 1) ∨ (r = 0)) (fun _ t => ∃ ct2 : Nat → va_E, zP g (zw 126 ad ct2) t.heap ∧ va_D A (zw 126 ad ct2) ∧ Inv8 g ad pe ct2) A) ([.ref (ad kg), .int 2, .int ask] : List Value).toArray s 0 0 A) (F0 m 10 ls []) := by
      intro n10
      induction n10 with
      | zero =>
        intro v4_10 v3_10 ct72 H locs ls hn10 b4_10 b3_10 hI hP hD hS hl
        exact absurd hn10 (Nat.not_lt_zero _)
      | succ n10 ih10 =>
        intro v4_10 v3_10 ct72 H locs ls hn10 b4_10 b3_10 hI hP hD hS hl
        refine lv_iload hx hb dX4_anyOf_10 (lv_at hl 0 rfl) ?_
        refine lv_bipush (v := 100) hx hb dX4_anyOf_12 (by decide) ?_
        refine lv_icmp_ge (tgt := 77) hx hb dX4_anyOf_14 (by decide) (fun c73 => ?_) (fun c73 => ?_)
        · skip
          have c73 : 100 ≤ v4_10.toInt := (z_le (by decide : (100 : Int32).toInt = 100) rfl).mp c73
          refine lv_iload_n hx hb dX4_anyOf_77 rfl (lv_at hl 1 rfl) ?_
          exact W.zret (v := v3_10) hx hb hr (by rcases (z_01 (by omega) (by omega)) with q | q <;> rw [q] <;> rfl) (fun t ht hW => ⟨⟨v3_10, (), rfl, by first | exact Or.inl ⟨rfl, by omega⟩ | exact Or.inr ⟨rfl, by omega⟩ | exact Or.inl rfl | exact Or.inr rfl | exact Or.inl ⟨rfl, by omega, by omega⟩ | exact (z_01 (by omega) (by omega)).symm, ct72, by rw [ht]; exact hP, hD, hI⟩, hS.F ht⟩) hS.2.2 dX4_anyOf_78
        · skip
          have c73 : ¬ (100 ≤ v4_10.toInt) := fun q => c73 ((z_le (by decide : (100 : Int32).toInt = 100) rfl).mpr q)
          refine lv_aload_n hx hb dX4_anyOf_17 rfl (lv_at hl 2 rfl) ?_
          obtain ⟨tld75, ofb76, hol77, flt78, fla79, ofl80, len81, atx82, ref83, hz84, h85, h86, h87, h88, hz89, hs74⟩ := a8_44 (kc := kg) (by omega) hI
          have bhz84 := z_b01 hz84
          have bhz89 := z_b01 hz89
          refine zc_i (va_runV (As := []) (rest := []) ⟨hx, hb, hml, hown, hg⟩ (k_X4_next l g ad pe ct72 kg tld75 ofb76 hol77 flt78 fla79 ofl80 len81 atx82 ref83 (by omega) hI hs74) (cwV 0 hg (z_gV mm_475 mm_477 mm_8 mm_114 mm_478) rfl rfl rfl (by decide +kernel) ⟨Nat.le_of_ble_eq_true rfl, Nat.le_of_ble_eq_true rfl⟩) ⟨(zR.pre [.ref (ad kg)] hP hK hN).1, va_recv hK hP (ci := 4) (q0 := kg) rfl (zw_at (by omega) hs74), (zR.pre [.ref (ad kg)] hP hK hN).2⟩ rfl rfl hl.1 rfl (lv_room (Nat.le_of_ble_eq_true rfl)) dX4_anyOf_18 ⟨Nat.le_of_ble_eq_true rfl, Nat.le_of_ble_eq_true rfl⟩) (fun r90 hr90 => ?_)
          have h91 := hr90
          have h91 : r90.toInt = -1 ∨ atx82.toInt ≤ 99 := h91
          refine lv_bipush (v := 124) hx hb dX4_anyOf_21 (by decide) ?_
          refine lv_icmp_ne (tgt := 77) hx hb dX4_anyOf_23 (by decide) (fun c92 => ?_) (fun c92 => ?_)
          · skip
            have c92 : ¬ (r90.toInt = 124) := fun q => c92 ((z_eq rfl (by decide : (124 : Int32).toInt = 124)).mpr q)
            refine lv_iload_n hx hb dX4_anyOf_77 rfl (lv_at hl 1 rfl) ?_
            exact W.zret (v := v3_10) hx hb hr (by rcases (z_01 (by omega) (by omega)) with q | q <;> rw [q] <;> rfl) (fun t ht hW => ⟨⟨v3_10, (), rfl, by first | exact Or.inl ⟨rfl, by omega⟩ | exact Or.inr ⟨rfl, by omega⟩ | exact Or.inl rfl | exact Or.inr rfl | exact Or.inl ⟨rfl, by omega, by omega⟩ | exact (z_01 (by omega) (by omega)).symm, ct72, by rw [ht]; exact hP, hD, hI⟩, hS.F ht⟩) hS.2.2 dX4_anyOf_78
          · skip
            have c92 : r90.toInt = 124 := (z_eq rfl (by decide : (124 : Int32).toInt = 124)).mp c92
            refine lv_aload_n hx hb dX4_anyOf_26 rfl (lv_at hl 2 rfl) ?_
            refine lv_dup hx hb dX4_anyOf_27 rfl ?_
            refine va_get (D := g.1) (ci := 4) (v := .int atx82) (C := RX4) (T := TX4) (N := 11) hx hb hg inG4 hown hK hP kg (zw_at (by omega) hs74) rfl 9 (by decide) (hg _ mm_285) (fun _ h9 => h9) rfl dX4_anyOf_28 ?_
            refine lv_iconst (v := 1) hx hb dX4_anyOf_31 (by decide) ?_
            refine lv_iadd hx hb dX4_anyOf_32 ?_
            refine lv_topi (fun x93 ex93 => ?_)
            have tx93 : x93.toInt = atx82.toInt + 1 := by rw [ex93]; exact z_add rfl (by decide : (1 : Int32).toInt = 1) (by omega) (by omega)
            refine va_put (D := g.1) (ci := 4) (v := .int x93) (ty := .int) (C := RX4) (T := TX4) (N := 11) hx hb hg inG4 tyX4 tyX4_ok nmX4 hown hK hP hD hS kg (zw_at (by omega) hs74) rfl 9 (by decide) (hg _ mm_285) (fun _ h9 => h9) rfl (by decide +kernel) rfl rfl (Nat.le_of_ble_eq_true rfl) dX4_anyOf_33 (fun H locs hP hD hS => ?_)
            have hP : zP g ((zw 126 ad ct72).set kg (ad kg, .inr (4, [.int tld75, .int ofb76, .int hol77, .int flt78, .int fla79, .int ofl80, .ref (ad (kg + 1)), .ref (ad (kg + 2)), .int len81, .int x93, .int ref83]))) H := hP
            have hD : va_D A ((zw 126 ad ct72).set kg (ad kg, .inr (4, [.int tld75, .int ofb76, .int hol77, .int flt78, .int fla79, .int ofl80, .ref (ad (kg + 1)), .ref (ad (kg + 2)), .int len81, .int x93, .int ref83]))) := hD
            rw [zw_set (by omega)] at hP hD
            obtain ⟨ct94, ec95⟩ : ∃ z : Nat → va_E, z = va_up ct72 kg (.inr (4, [.int tld75, .int ofb76, .int hol77, .int flt78, .int fla79, .int ofl80, .ref (ad (kg + 1)), .ref (ad (kg + 2)), .int len81, .int x93, .int ref83])) := ⟨_, rfl⟩
            rw [← ec95] at hP hD
            have hI : Inv8 g ad pe ct94 := by rw [ec95]; exact up8 hI (i8_44 (kc := kg) (by omega) ⟨(tld75 : Int32), (ofb76 : Int32), (hol77 : Int32), (flt78 : Int32), (fla79 : Int32), (ofl80 : Int32), (len81 : Int32), (x93 : Int32), (ref83 : Int32), hz84, (by first | omega | decide), (by first | omega | decide), (by first | omega | decide), (by first | omega | decide), hz89, rfl⟩)
            have hs96 : ct94 kg = .inr (4, [.int tld75, .int ofb76, .int hol77, .int flt78, .int fla79, .int ofl80, .ref (ad (kg + 1)), .ref (ad (kg + 2)), .int len81, .int x93, .int ref83]) := by rw [ec95]; exact va_up_self _ _ _
            refine lv_aload_n hx hb dX4_anyOf_36 rfl (lv_at hl 2 rfl) ?_
            refine lv_iload_n hx hb dX4_anyOf_37 rfl (lv_at hl 3 rfl) ?_
            refine lv_iload_n hx hb dX4_anyOf_38 rfl (lv_at hl 4 rfl) ?_
            refine lv_if_eq (tgt := 50) hx hb dX4_anyOf_39 (by decide) (fun c97 => ?_) (fun c97 => ?_)
            · skip
              have c97 : ask.toInt = 0 := (z_eq rfl (by decide : (0 : Int32).toInt = 0)).mp c97
              refine lv_iconst (v := 0) hx hb dX4_anyOf_50 (by decide) ?_
              have hFc := zw_free hD hS hA
              refine va_calli (va_runV (As := [.int 2, .int 0]) (rest := []) ⟨hx, hb, hml, hown, hg⟩ (k_X4_allOf_2 l g _ ad pe ct94 kg (0 : Int32) (by omega) hI) (cwV 2 hg (z_gV mm_467 mm_469 mm_6 mm_114 mm_470) rfl rfl rfl (by decide +kernel) ⟨Nat.le_of_ble_eq_true rfl, Nat.le_of_ble_eq_true rfl⟩) ⟨(zA.pre [.ref (ad kg), .int 2, .int 0] hP hK hD hN).1, va_recv hK hP (ci := 4) (q0 := kg) rfl (zw_at (by omega) hs96), (zA.pre [.ref (ad kg), .int 2, .int 0] hP hK hD hN).2⟩ rfl rfl hl.1 rfl (lv_room (Nat.le_of_ble_eq_true rfl)) dX4_anyOf_51 ⟨Nat.le_of_ble_eq_true rfl, Nat.le_of_ble_eq_true rfl⟩) hS (fun q _ h => hFc q h) hFc (fun r98 _ t H1 locs ht hvm hr98 hB hz1 hk1 hS => ?_)
              obtain ⟨ct99, hP1, hD1, hI⟩ := hB
              rw [ht] at hP1
              have hD := hD1.weaken (fun _ _ _ h => hFc _ h)
              generalize H1 = H at hP1 hS ⊢
              have hP := hP1
              refine W.widen (k := 0) (n := 0) (Nat.le_refl _) (Nat.le_refl _) ?_
              rcases hr98 with hr98 | hr98
              · skip
                obtain rfl := hr98
                refine lv_istore (lv' := [(5, .int 1), (4, .int v4_10), (3, .int v3_10), (0, .ref (ad kg)), (1, .int 2), (2, .int ask)]) hx hb dX4_anyOf_54 hl (by decide) rfl (fun ls hl => ?_)
                refine lv_iload_n hx hb dX4_anyOf_56 rfl (lv_at hl 2 rfl) ?_
                refine lv_if_ne (tgt := 65) hx hb dX4_anyOf_57 (by decide) (fun c100 => ?_) (fun c100 => ?_)
                · skip
                  have c100 : ¬ (v3_10.toInt = 0) := fun q => c100 ((z_eq rfl (by decide : (0 : Int32).toInt = 0)).mpr q)
                  refine lv_iconst (v := 1) hx hb dX4_anyOf_65 (by decide) ?_
                  refine lv_goto (tgt := 70) hx hb dX4_anyOf_66 (by decide) ?_
                  refine lv_istore_n (lv' := [(3, .int 1), (5, .int 1), (4, .int v4_10), (0, .ref (ad kg)), (1, .int 2), (2, .int ask)]) hx hb dX4_anyOf_70 rfl hl (by decide) rfl (fun ls hl => ?_)
                  obtain ⟨x101, ex101⟩ : ∃ y : Int32, y = v4_10 + 1 := ⟨_, rfl⟩
                  have tx101 : x101.toInt = v4_10.toInt + 1 := by rw [ex101]; exact z_add rfl (by decide : (1 : Int32).toInt = 1) (by omega) (by omega)
                  refine lv_iinc (v := x101) (lv' := [(4, .int x101), (3, .int 1), (5, .int 1), (0, .ref (ad kg)), (1, .int 2), (2, .int ask)]) hx hb dX4_anyOf_71 hl (k := 2) rfl (by rw [ex101]; rfl) (by decide) rfl (fun ls hl => ?_)
                  refine lv_goto (tgt := 10) hx hb dX4_anyOf_74 (by decide) ?_
                  exact ih10 x101 (1 : Int32) ct99 _ _ ls (by omega) (by first | omega | decide) (by first | omega | decide) hI hP hD hS (lv_sub hl [0, 1, 3, 4, 5] rfl)
                · skip
                  have c100 : v3_10.toInt = 0 := (z_eq rfl (by decide : (0 : Int32).toInt = 0)).mp c100
                  refine lv_iload hx hb dX4_anyOf_60 (lv_at hl 0 rfl) ?_
                  refine lv_if_eq (tgt := 69) hx hb dX4_anyOf_62 (by decide) (fun c102 => ?_) (fun c102 => ?_)
                  · skip
                    exact absurd c102 (by decide)
                  · skip
                    refine lv_iconst (v := 1) hx hb dX4_anyOf_65 (by decide) ?_
                    refine lv_goto (tgt := 70) hx hb dX4_anyOf_66 (by decide) ?_
                    refine lv_istore_n (lv' := [(3, .int 1), (5, .int 1), (4, .int v4_10), (0, .ref (ad kg)), (1, .int 2), (2, .int ask)]) hx hb dX4_anyOf_70 rfl hl (by decide) rfl (fun ls hl => ?_)
                    obtain ⟨x103, ex103⟩ : ∃ y : Int32, y = v4_10 + 1 := ⟨_, rfl⟩
                    have tx103 : x103.toInt = v4_10.toInt + 1 := by rw [ex103]; exact z_add rfl (by decide : (1 : Int32).toInt = 1) (by omega) (by omega)
                    refine lv_iinc (v := x103) (lv' := [(4, .int x103), (3, .int 1), (5, .int 1), (0, .ref (ad kg)), (1, .int 2), (2, .int ask)]) hx hb dX4_anyOf_71 hl (k := 2) rfl (by rw [ex103]; rfl) (by decide) rfl (fun ls hl => ?_)
                    refine lv_goto (tgt := 10) hx hb dX4_anyOf_74 (by decide) ?_
                    exact ih10 x103 (1 : Int32) ct99 _ _ ls (by omega) (by first | omega | decide) (by first | omega | decide) hI hP hD hS (lv_sub hl [0, 1, 3, 4, 5] rfl)
              · skip
                obtain rfl := hr98
                refine lv_istore (lv' := [(5, .int 0), (4, .int v4_10), (3, .int v3_10), (0, .ref (ad kg)), (1, .int 2), (2, .int ask)]) hx hb dX4_anyOf_54 hl (by decide) rfl (fun ls hl => ?_)
                refine lv_iload_n hx hb dX4_anyOf_56 rfl (lv_at hl 2 rfl) ?_
                refine lv_if_ne (tgt := 65) hx hb dX4_anyOf_57 (by decide) (fun c104 => ?_) (fun c104 => ?_)
                · skip
                  have c104 : ¬ (v3_10.toInt = 0) := fun q => c104 ((z_eq rfl (by decide : (0 : Int32).toInt = 0)).mpr q)
                  refine lv_iconst (v := 1) hx hb dX4_anyOf_65 (by decide) ?_
                  refine lv_goto (tgt := 70) hx hb dX4_anyOf_66 (by decide) ?_
                  refine lv_istore_n (lv' := [(3, .int 1), (5, .int 0), (4, .int v4_10), (0, .ref (ad kg)), (1, .int 2), (2, .int ask)]) hx hb dX4_anyOf_70 rfl hl (by decide) rfl (fun ls hl => ?_)
                  obtain ⟨x105, ex105⟩ : ∃ y : Int32, y = v4_10 + 1 := ⟨_, rfl⟩
                  have tx105 : x105.toInt = v4_10.toInt + 1 := by rw [ex105]; exact z_add rfl (by decide : (1 : Int32).toInt = 1) (by omega) (by omega)
                  refine lv_iinc (v := x105) (lv' := [(4, .int x105), (3, .int 1), (5, .int 0), (0, .ref (ad kg)), (1, .int 2), (2, .int ask)]) hx hb dX4_anyOf_71 hl (k := 2) rfl (by rw [ex105]; rfl) (by decide) rfl (fun ls hl => ?_)
                  refine lv_goto (tgt := 10) hx hb dX4_anyOf_74 (by decide) ?_
                  exact ih10 x105 (1 : Int32) ct99 _ _ ls (by omega) (by first | omega | decide) (by first | omega | decide) hI hP hD hS (lv_sub hl [0, 1, 3, 4, 5] rfl)
                · skip
                  have c104 : v3_10.toInt = 0 := (z_eq rfl (by decide : (0 : Int32).toInt = 0)).mp c104
                  refine lv_iload hx hb dX4_anyOf_60 (lv_at hl 0 rfl) ?_
                  refine lv_if_eq (tgt := 69) hx hb dX4_anyOf_62 (by decide) (fun c106 => ?_) (fun c106 => ?_)
                  · skip
                    refine lv_iconst (v := 0) hx hb dX4_anyOf_69 (by decide) ?_
                    refine lv_istore_n (lv' := [(3, .int 0), (5, .int 0), (4, .int v4_10), (0, .ref (ad kg)), (1, .int 2), (2, .int ask)]) hx hb dX4_anyOf_70 rfl hl (by decide) rfl (fun ls hl => ?_)
                    obtain ⟨x107, ex107⟩ : ∃ y : Int32, y = v4_10 + 1 := ⟨_, rfl⟩
                    have tx107 : x107.toInt = v4_10.toInt + 1 := by rw [ex107]; exact z_add rfl (by decide : (1 : Int32).toInt = 1) (by omega) (by omega)
                    refine lv_iinc (v := x107) (lv' := [(4, .int x107), (3, .int 0), (5, .int 0), (0, .ref (ad kg)), (1, .int 2), (2, .int ask)]) hx hb dX4_anyOf_71 hl (k := 2) rfl (by rw [ex107]; rfl) (by decide) rfl (fun ls hl => ?_)
                    refine lv_goto (tgt := 10) hx hb dX4_anyOf_74 (by decide) ?_
                    exact ih10 x107 (0 : Int32) ct99 _ _ ls (by omega) (by first | omega | decide) (by first | omega | decide) hI hP hD hS (lv_sub hl [0, 1, 3, 4, 5] rfl)
                  · skip
                    exact absurd c106 (by decide)
            · skip
              have c97 : ¬ (ask.toInt = 0) := fun q => c97 ((z_eq rfl (by decide : (0 : Int32).toInt = 0)).mpr q)
              refine lv_iload_n hx hb dX4_anyOf_42 rfl (lv_at hl 1 rfl) ?_
              refine lv_if_ne (tgt := 50) hx hb dX4_anyOf_43 (by decide) (fun c108 => ?_) (fun c108 => ?_)
              · skip
                have c108 : ¬ (v3_10.toInt = 0) := fun q => c108 ((z_eq rfl (by decide : (0 : Int32).toInt = 0)).mpr q)
                refine lv_iconst (v := 0) hx hb dX4_anyOf_50 (by decide) ?_
                have hFc := zw_free hD hS hA
                refine va_calli (va_runV (As := [.int 2, .int 0]) (rest := []) ⟨hx, hb, hml, hown, hg⟩ (k_X4_allOf_2 l g _ ad pe ct94 kg (0 : Int32) (by omega) hI) (cwV 2 hg (z_gV mm_467 mm_469 mm_6 mm_114 mm_470) rfl rfl rfl (by decide +kernel) ⟨Nat.le_of_ble_eq_true rfl, Nat.le_of_ble_eq_true rfl⟩) ⟨(zA.pre [.ref (ad kg), .int 2, .int 0] hP hK hD hN).1, va_recv hK hP (ci := 4) (q0 := kg) rfl (zw_at (by omega) hs96), (zA.pre [.ref (ad kg), .int 2, .int 0] hP hK hD hN).2⟩ rfl rfl hl.1 rfl (lv_room (Nat.le_of_ble_eq_true rfl)) dX4_anyOf_51 ⟨Nat.le_of_ble_eq_true rfl, Nat.le_of_ble_eq_true rfl⟩) hS (fun q _ h => hFc q h) hFc (fun r109 _ t H1 locs ht hvm hr109 hB hz1 hk1 hS => ?_)
                obtain ⟨ct110, hP1, hD1, hI⟩ := hB
                rw [ht] at hP1
                have hD := hD1.weaken (fun _ _ _ h => hFc _ h)
                generalize H1 = H at hP1 hS ⊢
                have hP := hP1
                refine W.widen (k := 0) (n := 0) (Nat.le_refl _) (Nat.le_refl _) ?_
                rcases hr109 with hr109 | hr109
                · skip
                  obtain rfl := hr109
                  refine lv_istore (lv' := [(5, .int 1), (4, .int v4_10), (3, .int v3_10), (0, .ref (ad kg)), (1, .int 2), (2, .int ask)]) hx hb dX4_anyOf_54 hl (by decide) rfl (fun ls hl => ?_)
                  refine lv_iload_n hx hb dX4_anyOf_56 rfl (lv_at hl 2 rfl) ?_
                  refine lv_if_ne (tgt := 65) hx hb dX4_anyOf_57 (by decide) (fun c111 => ?_) (fun c111 => ?_)
                  · skip
                    have c111 : ¬ (v3_10.toInt = 0) := fun q => c111 ((z_eq rfl (by decide : (0 : Int32).toInt = 0)).mpr q)
                    refine lv_iconst (v := 1) hx hb dX4_anyOf_65 (by decide) ?_
                    refine lv_goto (tgt := 70) hx hb dX4_anyOf_66 (by decide) ?_
                    refine lv_istore_n (lv' := [(3, .int 1), (5, .int 1), (4, .int v4_10), (0, .ref (ad kg)), (1, .int 2), (2, .int ask)]) hx hb dX4_anyOf_70 rfl hl (by decide) rfl (fun ls hl => ?_)
                    obtain ⟨x112, ex112⟩ : ∃ y : Int32, y = v4_10 + 1 := ⟨_, rfl⟩
                    have tx112 : x112.toInt = v4_10.toInt + 1 := by rw [ex112]; exact z_add rfl (by decide : (1 : Int32).toInt = 1) (by omega) (by omega)
                    refine lv_iinc (v := x112) (lv' := [(4, .int x112), (3, .int 1), (5, .int 1), (0, .ref (ad kg)), (1, .int 2), (2, .int ask)]) hx hb dX4_anyOf_71 hl (k := 2) rfl (by rw [ex112]; rfl) (by decide) rfl (fun ls hl => ?_)
                    refine lv_goto (tgt := 10) hx hb dX4_anyOf_74 (by decide) ?_
                    exact ih10 x112 (1 : Int32) ct110 _ _ ls (by omega) (by first | omega | decide) (by first | omega | decide) hI hP hD hS (lv_sub hl [0, 1, 3, 4, 5] rfl)
                  · skip
                    have c111 : v3_10.toInt = 0 := (z_eq rfl (by decide : (0 : Int32).toInt = 0)).mp c111
                    exfalso
                    omega
                · skip
                  obtain rfl := hr109
                  refine lv_istore (lv' := [(5, .int 0), (4, .int v4_10), (3, .int v3_10), (0, .ref (ad kg)), (1, .int 2), (2, .int ask)]) hx hb dX4_anyOf_54 hl (by decide) rfl (fun ls hl => ?_)
                  refine lv_iload_n hx hb dX4_anyOf_56 rfl (lv_at hl 2 rfl) ?_
                  refine lv_if_ne (tgt := 65) hx hb dX4_anyOf_57 (by decide) (fun c113 => ?_) (fun c113 => ?_)
                  · skip
                    have c113 : ¬ (v3_10.toInt = 0) := fun q => c113 ((z_eq rfl (by decide : (0 : Int32).toInt = 0)).mpr q)
                    refine lv_iconst (v := 1) hx hb dX4_anyOf_65 (by decide) ?_
                    refine lv_goto (tgt := 70) hx hb dX4_anyOf_66 (by decide) ?_
                    refine lv_istore_n (lv' := [(3, .int 1), (5, .int 0), (4, .int v4_10), (0, .ref (ad kg)), (1, .int 2), (2, .int ask)]) hx hb dX4_anyOf_70 rfl hl (by decide) rfl (fun ls hl => ?_)
                    obtain ⟨x114, ex114⟩ : ∃ y : Int32, y = v4_10 + 1 := ⟨_, rfl⟩
                    have tx114 : x114.toInt = v4_10.toInt + 1 := by rw [ex114]; exact z_add rfl (by decide : (1 : Int32).toInt = 1) (by omega) (by omega)
                    refine lv_iinc (v := x114) (lv' := [(4, .int x114), (3, .int 1), (5, .int 0), (0, .ref (ad kg)), (1, .int 2), (2, .int ask)]) hx hb dX4_anyOf_71 hl (k := 2) rfl (by rw [ex114]; rfl) (by decide) rfl (fun ls hl => ?_)
                    refine lv_goto (tgt := 10) hx hb dX4_anyOf_74 (by decide) ?_
                    exact ih10 x114 (1 : Int32) ct110 _ _ ls (by omega) (by first | omega | decide) (by first | omega | decide) hI hP hD hS (lv_sub hl [0, 1, 3, 4, 5] rfl)
                  · skip
                    have c113 : v3_10.toInt = 0 := (z_eq rfl (by decide : (0 : Int32).toInt = 0)).mp c113
                    exfalso
                    omega
              · skip
                have c108 : v3_10.toInt = 0 := (z_eq rfl (by decide : (0 : Int32).toInt = 0)).mp c108
                refine lv_iconst (v := 1) hx hb dX4_anyOf_46 (by decide) ?_
                refine lv_goto (tgt := 51) hx hb dX4_anyOf_47 (by decide) ?_
                have hFc := zw_free hD hS hA
                refine va_calli (va_runV (As := [.int 2, .int 1]) (rest := []) ⟨hx, hb, hml, hown, hg⟩ (k_X4_allOf_2 l g _ ad pe ct94 kg (1 : Int32) (by omega) hI) (cwV 2 hg (z_gV mm_467 mm_469 mm_6 mm_114 mm_470) rfl rfl rfl (by decide +kernel) ⟨Nat.le_of_ble_eq_true rfl, Nat.le_of_ble_eq_true rfl⟩) ⟨(zA.pre [.ref (ad kg), .int 2, .int 1] hP hK hD hN).1, va_recv hK hP (ci := 4) (q0 := kg) rfl (zw_at (by omega) hs96), (zA.pre [.ref (ad kg), .int 2, .int 1] hP hK hD hN).2⟩ rfl rfl hl.1 rfl (lv_room (Nat.le_of_ble_eq_true rfl)) dX4_anyOf_51 ⟨Nat.le_of_ble_eq_true rfl, Nat.le_of_ble_eq_true rfl⟩) hS (fun q _ h => hFc q h) hFc (fun r115 _ t H1 locs ht hvm hr115 hB hz1 hk1 hS => ?_)
                obtain ⟨ct116, hP1, hD1, hI⟩ := hB
                rw [ht] at hP1
                have hD := hD1.weaken (fun _ _ _ h => hFc _ h)
                generalize H1 = H at hP1 hS ⊢
                have hP := hP1
                refine W.widen (k := 0) (n := 0) (Nat.le_refl _) (Nat.le_refl _) ?_
                rcases hr115 with hr115 | hr115
                · skip
                  obtain rfl := hr115
                  refine lv_istore (lv' := [(5, .int 1), (4, .int v4_10), (3, .int v3_10), (0, .ref (ad kg)), (1, .int 2), (2, .int ask)]) hx hb dX4_anyOf_54 hl (by decide) rfl (fun ls hl => ?_)
                  refine lv_iload_n hx hb dX4_anyOf_56 rfl (lv_at hl 2 rfl) ?_
                  refine lv_if_ne (tgt := 65) hx hb dX4_anyOf_57 (by decide) (fun c117 => ?_) (fun c117 => ?_)
                  · skip
                    have c117 : ¬ (v3_10.toInt = 0) := fun q => c117 ((z_eq rfl (by decide : (0 : Int32).toInt = 0)).mpr q)
                    refine lv_iconst (v := 1) hx hb dX4_anyOf_65 (by decide) ?_
                    refine lv_goto (tgt := 70) hx hb dX4_anyOf_66 (by decide) ?_
                    refine lv_istore_n (lv' := [(3, .int 1), (5, .int 1), (4, .int v4_10), (0, .ref (ad kg)), (1, .int 2), (2, .int ask)]) hx hb dX4_anyOf_70 rfl hl (by decide) rfl (fun ls hl => ?_)
                    obtain ⟨x118, ex118⟩ : ∃ y : Int32, y = v4_10 + 1 := ⟨_, rfl⟩
                    have tx118 : x118.toInt = v4_10.toInt + 1 := by rw [ex118]; exact z_add rfl (by decide : (1 : Int32).toInt = 1) (by omega) (by omega)
                    refine lv_iinc (v := x118) (lv' := [(4, .int x118), (3, .int 1), (5, .int 1), (0, .ref (ad kg)), (1, .int 2), (2, .int ask)]) hx hb dX4_anyOf_71 hl (k := 2) rfl (by rw [ex118]; rfl) (by decide) rfl (fun ls hl => ?_)
                    refine lv_goto (tgt := 10) hx hb dX4_anyOf_74 (by decide) ?_
                    exact ih10 x118 (1 : Int32) ct116 _ _ ls (by omega) (by first | omega | decide) (by first | omega | decide) hI hP hD hS (lv_sub hl [0, 1, 3, 4, 5] rfl)
                  · skip
                    have c117 : v3_10.toInt = 0 := (z_eq rfl (by decide : (0 : Int32).toInt = 0)).mp c117
                    refine lv_iload hx hb dX4_anyOf_60 (lv_at hl 0 rfl) ?_
                    refine lv_if_eq (tgt := 69) hx hb dX4_anyOf_62 (by decide) (fun c119 => ?_) (fun c119 => ?_)
                    · skip
                      exact absurd c119 (by decide)
                    · skip
                      refine lv_iconst (v := 1) hx hb dX4_anyOf_65 (by decide) ?_
                      refine lv_goto (tgt := 70) hx hb dX4_anyOf_66 (by decide) ?_
                      refine lv_istore_n (lv' := [(3, .int 1), (5, .int 1), (4, .int v4_10), (0, .ref (ad kg)), (1, .int 2), (2, .int ask)]) hx hb dX4_anyOf_70 rfl hl (by decide) rfl (fun ls hl => ?_)
                      obtain ⟨x120, ex120⟩ : ∃ y : Int32, y = v4_10 + 1 := ⟨_, rfl⟩
                      have tx120 : x120.toInt = v4_10.toInt + 1 := by rw [ex120]; exact z_add rfl (by decide : (1 : Int32).toInt = 1) (by omega) (by omega)
                      refine lv_iinc (v := x120) (lv' := [(4, .int x120), (3, .int 1), (5, .int 1), (0, .ref (ad kg)), (1, .int 2), (2, .int ask)]) hx hb dX4_anyOf_71 hl (k := 2) rfl (by rw [ex120]; rfl) (by decide) rfl (fun ls hl => ?_)
                      refine lv_goto (tgt := 10) hx hb dX4_anyOf_74 (by decide) ?_
                      exact ih10 x120 (1 : Int32) ct116 _ _ ls (by omega) (by first | omega | decide) (by first | omega | decide) hI hP hD hS (lv_sub hl [0, 1, 3, 4, 5] rfl)
                · skip
                  obtain rfl := hr115
                  refine lv_istore (lv' := [(5, .int 0), (4, .int v4_10), (3, .int v3_10), (0, .ref (ad kg)), (1, .int 2), (2, .int ask)]) hx hb dX4_anyOf_54 hl (by decide) rfl (fun ls hl => ?_)
                  refine lv_iload_n hx hb dX4_anyOf_56 rfl (lv_at hl 2 rfl) ?_
                  refine lv_if_ne (tgt := 65) hx hb dX4_anyOf_57 (by decide) (fun c121 => ?_) (fun c121 => ?_)
                  · skip
                    have c121 : ¬ (v3_10.toInt = 0) := fun q => c121 ((z_eq rfl (by decide : (0 : Int32).toInt = 0)).mpr q)
                    refine lv_iconst (v := 1) hx hb dX4_anyOf_65 (by decide) ?_
                    refine lv_goto (tgt := 70) hx hb dX4_anyOf_66 (by decide) ?_
                    refine lv_istore_n (lv' := [(3, .int 1), (5, .int 0), (4, .int v4_10), (0, .ref (ad kg)), (1, .int 2), (2, .int ask)]) hx hb dX4_anyOf_70 rfl hl (by decide) rfl (fun ls hl => ?_)
                    obtain ⟨x122, ex122⟩ : ∃ y : Int32, y = v4_10 + 1 := ⟨_, rfl⟩
                    have tx122 : x122.toInt = v4_10.toInt + 1 := by rw [ex122]; exact z_add rfl (by decide : (1 : Int32).toInt = 1) (by omega) (by omega)
                    refine lv_iinc (v := x122) (lv' := [(4, .int x122), (3, .int 1), (5, .int 0), (0, .ref (ad kg)), (1, .int 2), (2, .int ask)]) hx hb dX4_anyOf_71 hl (k := 2) rfl (by rw [ex122]; rfl) (by decide) rfl (fun ls hl => ?_)
                    refine lv_goto (tgt := 10) hx hb dX4_anyOf_74 (by decide) ?_
                    exact ih10 x122 (1 : Int32) ct116 _ _ ls (by omega) (by first | omega | decide) (by first | omega | decide) hI hP hD hS (lv_sub hl [0, 1, 3, 4, 5] rfl)
                  · skip
                    have c121 : v3_10.toInt = 0 := (z_eq rfl (by decide : (0 : Int32).toInt = 0)).mp c121
                    refine lv_iload hx hb dX4_anyOf_60 (lv_at hl 0 rfl) ?_
                    refine lv_if_eq (tgt := 69) hx hb dX4_anyOf_62 (by decide) (fun c123 => ?_) (fun c123 => ?_)
                    · skip
                      refine lv_iconst (v := 0) hx hb dX4_anyOf_69 (by decide) ?_
                      refine lv_istore_n (lv' := [(3, .int 0), (5, .int 0), (4, .int v4_10), (0, .ref (ad kg)), (1, .int 2), (2, .int ask)]) hx hb dX4_anyOf_70 rfl hl (by decide) rfl (fun ls hl => ?_)
                      obtain ⟨x124, ex124⟩ : ∃ y : Int32, y = v4_10 + 1 := ⟨_, rfl⟩
                      have tx124 : x124.toInt = v4_10.toInt + 1 := by rw [ex124]; exact z_add rfl (by decide : (1 : Int32).toInt = 1) (by omega) (by omega)
                      refine lv_iinc (v := x124) (lv' := [(4, .int x124), (3, .int 0), (5, .int 0), (0, .ref (ad kg)), (1, .int 2), (2, .int ask)]) hx hb dX4_anyOf_71 hl (k := 2) rfl (by rw [ex124]; rfl) (by decide) rfl (fun ls hl => ?_)
                      refine lv_goto (tgt := 10) hx hb dX4_anyOf_74 (by decide) ?_
                      exact ih10 x124 (0 : Int32) ct116 _ _ ls (by omega) (by first | omega | decide) (by first | omega | decide) hI hP hD hS (lv_sub hl [0, 1, 3, 4, 5] rfl)
                    · skip
                      exact absurd c123 (by decide)
    exact loop10 ((100 - (0 : Int32).toInt : Int).toNat + 1) (0 : Int32) (0 : Int32) ct18 _ _ ls (by omega) (by first | omega | decide) (by first | omega | decide) hI hP hD hS (lv_sub hl [0, 1, 2, 3, 4] rfl)
