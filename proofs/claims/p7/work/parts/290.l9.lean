set_option maxHeartbeats 4000000 in
set_option maxRecDepth 100000 in
theorem k_X0_areEnoughBy_9 (l : Launch) (g : zG) (sz : Nat) (ad : Nat → Nat) (pe : Int32) (ct : Nat → va_E) (who : Int32) (told : Int32) (n : Int32) (hl_who : 0 ≤ who.toInt ∧ who.toInt ≤ 65535) (hl_n : -2147483648 ≤ n.toInt ∧ n.toInt ≤ 9) (hI : Inv8 g ad pe ct) : Met l yX0_areEnoughBy (zW yX0_areEnoughBy cX0_areEnoughBy 6 (some .boolean)) ({ frames := 18, cells := 0, slots := 0, locals := 454 }) (va_Pc [.ref (ad 17), .int who, .int told, .int n] (zA g (zw 126 ad ct) sz)) (va_Qi (fun (r : Int32) (_ : Unit) => (r = 1) ∨ (r = 0)) (fun _ t => ∃ ct2 : Nat → va_E, zP g (zw 126 ad ct2) t.heap ∧ va_D (va_A (zw 126 ad ct) sz) (zw 126 ad ct2) ∧ Inv8 g ad pe ct2) (va_A (zw 126 ad ct) sz)) 0 0 (va_A (zw 126 ad ct) sz) := by
  refine Met.ofW (cc := cX0_areEnoughBy) (maxL := 6) (ret := (some .boolean)) (by decide) rfl ?_
  intro p e s m args below meth c s₁ B hml hv
  obtain ⟨rfl, hsz, hP, hK, hD0, hN⟩ := hv
  have hx := B.exec
  have hb := B.bytes
  have hr := B.returns
  have hg := zW.law (atoms_spec (ws := (zW yX0_areEnoughBy cX0_areEnoughBy 6 (some .boolean))) B.pre)
  have hown : s.vm.findClass RX0 = some m.cls := findClass_of_methodNamed B.named
  have hlocks := B.notSynchronized
  have hpe0 := hI.1
  subst hsz
  have hD := hD0.self (sz := s.heap.size)
  generalize hAe : va_A (zw 126 ad ct) s.heap.size = A at hD ⊢
  have hA : ∀ q : Nat, s.heap.size ≤ q → A q := fun q h => by rw [← hAe]; exact Or.inr h
  have hS : va_S A s.heap s.heap [] := va_S.rf
  have hl := lv_entry ([.ref (ad 17), .int who, .int told, .int n]) (n := 6) (Nat.le_of_ble_eq_true rfl)
  rw [lg_entry_eq]
  generalize (lg_sl ([.ref (ad 17), .int who, .int told, .int n]) ++ List.replicate (6 - (lg_sl ([.ref (ad 17), .int who, .int told, .int n])).length) Slot.unset).toArray = ls at hl ⊢
  have hl : lv_has ls 6 [(0, .ref (ad 17)), (1, .int who), (2, .int told), (3, .int n)] := hl
  have hz : zlen (ct 20) = zlen (ct 20) := rfl
  have rg_told := z_rng told
  refine lv_iload_n hx hb dX0_areEnoughBy_0 rfl (lv_at hl 1 rfl) ?_
  refine lv_iload_n hx hb dX0_areEnoughBy_1 rfl (lv_at hl 2 rfl) ?_
  refine lv_iand hx hb dX0_areEnoughBy_2 ?_
  refine lv_topi (fun x1 ex1 => ?_)
  have tx1 := z_andl (x := who) (y := told) rfl (by omega)
  rw [← ex1] at tx1
  refine lv_istore (lv' := [(4, .int x1), (0, .ref (ad 17)), (1, .int who), (2, .int told), (3, .int n)]) hx hb dX0_areEnoughBy_3 hl (by decide) rfl (fun ls hl => ?_)
  refine lv_iload_n hx hb dX0_areEnoughBy_5 rfl (lv_at hl 2 rfl) ?_
  refine lv_iload_n hx hb dX0_areEnoughBy_6 rfl (lv_at hl 3 rfl) ?_
  refine lv_iconst (v := (-1)) hx hb dX0_areEnoughBy_7 (by decide) ?_
  refine lv_ixor hx hb dX0_areEnoughBy_8 ?_
  refine lv_topi (fun x2 ex2 => ?_)
  refine lv_iand hx hb dX0_areEnoughBy_9 ?_
  refine lv_topi (fun x3 ex3 => ?_)
  have tx3 := z_andl (x := who) (y := x2) rfl (by omega)
  rw [← ex3] at tx3
  refine lv_istore (lv' := [(5, .int x3), (4, .int x1), (0, .ref (ad 17)), (1, .int who), (2, .int told), (3, .int n)]) hx hb dX0_areEnoughBy_10 hl (by decide) rfl (fun ls hl => ?_)
  refine lv_iload hx hb dX0_areEnoughBy_12 (lv_at hl 1 rfl) ?_
  refine lv_if_eq (tgt := 54) hx hb dX0_areEnoughBy_14 (by decide) (fun c4 => ?_) (fun c4 => ?_)
  · skip
    have c4 : x1.toInt = 0 := (z_eq rfl (by decide : (0 : Int32).toInt = 0)).mp c4
    refine lv_iconst (v := 0) hx hb dX0_areEnoughBy_54 (by decide) ?_
    have q5 : (0 : Int32).toInt = 0 := by decide
    exact W.zret (v := 0) hx hb hr rfl (fun t ht hW => ⟨⟨0, (), rfl, by first | exact Or.inl ⟨rfl, by omega⟩ | exact Or.inr ⟨rfl, by omega⟩ | exact Or.inl rfl | exact Or.inr rfl | exact Or.inl ⟨rfl, by omega, by omega⟩ | exact (z_01 (by omega) (by omega)).symm, ct, by rw [ht]; exact hP, hD, hI⟩, hS.F ht⟩) hS.2.2 dX0_areEnoughBy_55
  · skip
    have c4 : ¬ (x1.toInt = 0) := fun q => c4 ((z_eq rfl (by decide : (0 : Int32).toInt = 0)).mpr q)
    refine lv_iload hx hb dX0_areEnoughBy_17 (lv_at hl 0 rfl) ?_
    refine lv_if_eq (tgt := 54) hx hb dX0_areEnoughBy_19 (by decide) (fun c6 => ?_) (fun c6 => ?_)
    · skip
      have c6 : x3.toInt = 0 := (z_eq rfl (by decide : (0 : Int32).toInt = 0)).mp c6
      refine lv_iconst (v := 0) hx hb dX0_areEnoughBy_54 (by decide) ?_
      have q7 : (0 : Int32).toInt = 0 := by decide
      exact W.zret (v := 0) hx hb hr rfl (fun t ht hW => ⟨⟨0, (), rfl, by first | exact Or.inl ⟨rfl, by omega⟩ | exact Or.inr ⟨rfl, by omega⟩ | exact Or.inl rfl | exact Or.inr rfl | exact Or.inl ⟨rfl, by omega, by omega⟩ | exact (z_01 (by omega) (by omega)).symm, ct, by rw [ht]; exact hP, hD, hI⟩, hS.F ht⟩) hS.2.2 dX0_areEnoughBy_55
    · skip
      have c6 : ¬ (x3.toInt = 0) := fun q => c6 ((z_eq rfl (by decide : (0 : Int32).toInt = 0)).mpr q)
      refine lv_iload_n hx hb dX0_areEnoughBy_22 rfl (lv_at hl 5 rfl) ?_
      refine lv_if_le (tgt := 54) hx hb dX0_areEnoughBy_23 (by decide) (fun c8 => ?_) (fun c8 => ?_)
      · skip
        have c8 : n.toInt ≤ 0 := (z_le rfl (by decide : (0 : Int32).toInt = 0)).mp c8
        refine lv_iconst (v := 0) hx hb dX0_areEnoughBy_54 (by decide) ?_
        have q9 : (0 : Int32).toInt = 0 := by decide
        exact W.zret (v := 0) hx hb hr rfl (fun t ht hW => ⟨⟨0, (), rfl, by first | exact Or.inl ⟨rfl, by omega⟩ | exact Or.inr ⟨rfl, by omega⟩ | exact Or.inl rfl | exact Or.inr rfl | exact Or.inl ⟨rfl, by omega, by omega⟩ | exact (z_01 (by omega) (by omega)).symm, ct, by rw [ht]; exact hP, hD, hI⟩, hS.F ht⟩) hS.2.2 dX0_areEnoughBy_55
      · skip
        have c8 : ¬ (n.toInt ≤ 0) := fun q => c8 ((z_le rfl (by decide : (0 : Int32).toInt = 0)).mpr q)
        refine lv_aload_n hx hb dX0_areEnoughBy_26 rfl (lv_at hl 2 rfl) ?_
        refine lv_iload hx hb dX0_areEnoughBy_27 (lv_at hl 1 rfl) ?_
        refine lv_iload_n hx hb dX0_areEnoughBy_29 rfl (lv_at hl 5 rfl) ?_
        refine lv_iconst (v := 1) hx hb dX0_areEnoughBy_30 (by decide) ?_
        refine lv_isub hx hb dX0_areEnoughBy_31 ?_
        refine lv_topi (fun x10 ex10 => ?_)
        have tx10 : x10.toInt = n.toInt - 1 := by rw [ex10]; exact z_sub rfl (by decide : (1 : Int32).toInt = 1) (by omega) (by omega)
        obtain ⟨spc12, tim13, h14, h15, hs11⟩ := a8_17 hI
        have hFc := zw_free hD hS hA
        refine va_calli (va_runV (As := [.int x1, .int x10]) (rest := []) ⟨hx, hb, hml, hown, hg⟩ (zs_i hI (k_X0_areEnough_8 l g _ ad pe ct x1 x10 (by first | omega | decide) (by first | omega | decide) hI)) (cwV 2 hg (z_gV mm_822 mm_824 mm_37 mm_112 mm_825) rfl rfl rfl (by decide +kernel) ⟨Nat.le_of_ble_eq_true rfl, Nat.le_of_ble_eq_true rfl⟩) ⟨(zA.pre [.ref (ad 17), .int x1, .int x10] hP hK hD hN).1, va_recv hK hP (ci := 0) (q0 := 17) rfl (zw_at (by omega) hs11), (zA.pre [.ref (ad 17), .int x1, .int x10] hP hK hD hN).2⟩ rfl rfl hl.1 rfl (lv_room (Nat.le_of_ble_eq_true rfl)) dX0_areEnoughBy_32 ⟨Nat.le_of_ble_eq_true rfl, Nat.le_of_ble_eq_true rfl⟩) hS (fun q _ h => hFc q h) hFc (fun r16 _ t H1 locs ht hvm hr16 hB hz1 hk1 hS => ?_)
        obtain ⟨hB, hzs⟩ := hB
        rw [ht] at hzs
        obtain ⟨ct17, hP1, hD1, hI⟩ := hB
        rw [ht] at hP1
        have hD := hD1.weaken (fun _ _ _ h => hFc _ h)
        generalize H1 = H at hP1 hS hzs ⊢
        have hP := hP1
        refine W.widen (k := 0) (n := 0) (Nat.le_refl _) (Nat.le_refl _) ?_
        have hz : zlen (ct17 20) = zlen (ct 20) := (hzs.eq hP hI).trans hz
        rcases hr16 with hr16 | hr16
        · skip
          obtain rfl := hr16
          refine lv_if_eq (tgt := 54) hx hb dX0_areEnoughBy_35 (by decide) (fun c18 => ?_) (fun c18 => ?_)
          · skip
            exact absurd c18 (by decide)
          · skip
            refine lv_aload_n hx hb dX0_areEnoughBy_38 rfl (lv_at hl 2 rfl) ?_
            refine lv_iload hx hb dX0_areEnoughBy_39 (lv_at hl 0 rfl) ?_
            refine lv_iload_n hx hb dX0_areEnoughBy_41 rfl (lv_at hl 5 rfl) ?_
            refine lv_iconst (v := 1) hx hb dX0_areEnoughBy_42 (by decide) ?_
            refine lv_isub hx hb dX0_areEnoughBy_43 ?_
            refine lv_topi (fun x19 ex19 => ?_)
            obtain rfl : x10 = x19 := ex10.trans ex19.symm
            obtain ⟨spc21, tim22, h23, h24, hs20⟩ := a8_17 hI
            have hFc := zw_free hD hS hA
            refine va_calli (va_runV (As := [.int x3, .int x10]) (rest := []) ⟨hx, hb, hml, hown, hg⟩ (zs_i hI (k_X0_areEnough_8 l g _ ad pe ct17 x3 x10 (by first | omega | decide) (by first | omega | decide) hI)) (cwV 2 hg (z_gV mm_822 mm_824 mm_37 mm_112 mm_825) rfl rfl rfl (by decide +kernel) ⟨Nat.le_of_ble_eq_true rfl, Nat.le_of_ble_eq_true rfl⟩) ⟨(zA.pre [.ref (ad 17), .int x3, .int x10] hP hK hD hN).1, va_recv hK hP (ci := 0) (q0 := 17) rfl (zw_at (by omega) hs20), (zA.pre [.ref (ad 17), .int x3, .int x10] hP hK hD hN).2⟩ rfl rfl hl.1 rfl (lv_room (Nat.le_of_ble_eq_true rfl)) dX0_areEnoughBy_44 ⟨Nat.le_of_ble_eq_true rfl, Nat.le_of_ble_eq_true rfl⟩) hS (fun q _ h => hFc q h) hFc (fun r25 _ t H1 locs ht hvm hr25 hB hz1 hk1 hS => ?_)
            obtain ⟨hB, hzs⟩ := hB
            rw [ht] at hzs
            obtain ⟨ct26, hP1, hD1, hI⟩ := hB
            rw [ht] at hP1
            have hD := hD1.weaken (fun _ _ _ h => hFc _ h)
            generalize H1 = H at hP1 hS hzs ⊢
            have hP := hP1
            refine W.widen (k := 0) (n := 0) (Nat.le_refl _) (Nat.le_refl _) ?_
            have hz : zlen (ct26 20) = zlen (ct 20) := (hzs.eq hP hI).trans hz
            rcases hr25 with hr25 | hr25
            · skip
              obtain rfl := hr25
              refine lv_if_eq (tgt := 54) hx hb dX0_areEnoughBy_47 (by decide) (fun c27 => ?_) (fun c27 => ?_)
              · skip
                exact absurd c27 (by decide)
              · skip
                refine lv_iconst (v := 1) hx hb dX0_areEnoughBy_50 (by decide) ?_
                refine lv_goto (tgt := 55) hx hb dX0_areEnoughBy_51 (by decide) ?_
                have q28 : (1 : Int32).toInt = 1 := by decide
                exact W.zret (v := 1) hx hb hr rfl (fun t ht hW => ⟨⟨1, (), rfl, by first | exact Or.inl ⟨rfl, by omega⟩ | exact Or.inr ⟨rfl, by omega⟩ | exact Or.inl rfl | exact Or.inr rfl | exact Or.inl ⟨rfl, by omega, by omega⟩ | exact (z_01 (by omega) (by omega)).symm, ct26, by rw [ht]; exact hP, hD, hI⟩, hS.F ht⟩) hS.2.2 dX0_areEnoughBy_55
            · skip
              obtain rfl := hr25
              refine lv_if_eq (tgt := 54) hx hb dX0_areEnoughBy_47 (by decide) (fun c29 => ?_) (fun c29 => ?_)
              · skip
                refine lv_iconst (v := 0) hx hb dX0_areEnoughBy_54 (by decide) ?_
                have q30 : (0 : Int32).toInt = 0 := by decide
                exact W.zret (v := 0) hx hb hr rfl (fun t ht hW => ⟨⟨0, (), rfl, by first | exact Or.inl ⟨rfl, by omega⟩ | exact Or.inr ⟨rfl, by omega⟩ | exact Or.inl rfl | exact Or.inr rfl | exact Or.inl ⟨rfl, by omega, by omega⟩ | exact (z_01 (by omega) (by omega)).symm, ct26, by rw [ht]; exact hP, hD, hI⟩, hS.F ht⟩) hS.2.2 dX0_areEnoughBy_55
              · skip
                exact absurd c29 (by decide)
        · skip
          obtain rfl := hr16
          refine lv_if_eq (tgt := 54) hx hb dX0_areEnoughBy_35 (by decide) (fun c31 => ?_) (fun c31 => ?_)
          · skip
            refine lv_iconst (v := 0) hx hb dX0_areEnoughBy_54 (by decide) ?_
            have q32 : (0 : Int32).toInt = 0 := by decide
            exact W.zret (v := 0) hx hb hr rfl (fun t ht hW => ⟨⟨0, (), rfl, by first | exact Or.inl ⟨rfl, by omega⟩ | exact Or.inr ⟨rfl, by omega⟩ | exact Or.inl rfl | exact Or.inr rfl | exact Or.inl ⟨rfl, by omega, by omega⟩ | exact (z_01 (by omega) (by omega)).symm, ct17, by rw [ht]; exact hP, hD, hI⟩, hS.F ht⟩) hS.2.2 dX0_areEnoughBy_55
          · skip
            exact absurd c31 (by decide)

set_option maxHeartbeats 4000000 in
set_option maxRecDepth 100000 in
theorem k_X0_areEnough_9 (l : Launch) (g : zG) (sz : Nat) (ad : Nat → Nat) (pe : Int32) (ct : Nat → va_E) (who : Int32) (n : Int32) (hl_who : 0 ≤ who.toInt ∧ who.toInt ≤ 65535) (hl_n : -2147483648 ≤ n.toInt ∧ n.toInt ≤ 9) (hI : Inv8 g ad pe ct) : Met l yX0_areEnough (zW yX0_areEnough cX0_areEnough 7 (some .boolean)) ({ frames := 19, cells := 0, slots := 0, locals := 479 }) (va_Pc [.ref (ad 17), .int who, .int n] (zA g (zw 126 ad ct) sz)) (va_Qi (fun (r : Int32) (_ : Unit) => (r = 1) ∨ (r = 0)) (fun _ t => ∃ ct2 : Nat → va_E, zP g (zw 126 ad ct2) t.heap ∧ va_D (va_A (zw 126 ad ct) sz) (zw 126 ad ct2) ∧ Inv8 g ad pe ct2) (va_A (zw 126 ad ct) sz)) 0 0 (va_A (zw 126 ad ct) sz) := by
  refine Met.ofW (cc := cX0_areEnough) (maxL := 7) (ret := (some .boolean)) (by decide) rfl ?_
  intro p e s m args below meth c s₁ B hml hv
  obtain ⟨rfl, hsz, hP, hK, hD0, hN⟩ := hv
  have hx := B.exec
  have hb := B.bytes
  have hr := B.returns
  have hg := zW.law (atoms_spec (ws := (zW yX0_areEnough cX0_areEnough 7 (some .boolean))) B.pre)
  have hown : s.vm.findClass RX0 = some m.cls := findClass_of_methodNamed B.named
  have hlocks := B.notSynchronized
  have hpe0 := hI.1
  subst hsz
  have hD := hD0.self (sz := s.heap.size)
  generalize hAe : va_A (zw 126 ad ct) s.heap.size = A at hD ⊢
  have hA : ∀ q : Nat, s.heap.size ≤ q → A q := fun q h => by rw [← hAe]; exact Or.inr h
  have hS : va_S A s.heap s.heap [] := va_S.rf
  have hl := lv_entry ([.ref (ad 17), .int who, .int n]) (n := 7) (Nat.le_of_ble_eq_true rfl)
  rw [lg_entry_eq]
  generalize (lg_sl ([.ref (ad 17), .int who, .int n]) ++ List.replicate (7 - (lg_sl ([.ref (ad 17), .int who, .int n])).length) Slot.unset).toArray = ls at hl ⊢
  have hl : lv_has ls 7 [(0, .ref (ad 17)), (1, .int who), (2, .int n)] := hl
  have hz : zlen (ct 20) = zlen (ct 20) := rfl
  refine lv_iload_n hx hb dX0_areEnough_0 rfl (lv_at hl 1 rfl) ?_
  refine zc_i (va_runS (As := [.int who]) (rest := []) ⟨hx, hb, hml, hown, hg⟩ (k_bce l g ad pe ct who hI) (va_cwS 1 hg (z_gS mm_826 mm_729 mm_119 mm_730) rfl rfl rfl (by decide +kernel) ⟨Nat.le_of_ble_eq_true rfl, Nat.le_of_ble_eq_true rfl⟩) (zR.pre [.int who] hP hK hN) rfl rfl hl.1 rfl (lv_room (Nat.le_of_ble_eq_true rfl)) dX0_areEnough_1 ⟨Nat.le_of_ble_eq_true rfl, Nat.le_of_ble_eq_true rfl⟩) (fun r1 hr1 => ?_)
  have hqr1 := hr1
  subst r1
  have hbr1 := z_bc (x := who) (by omega) (by omega)
  refine lv_iconst (v := 1) hx hb dX0_areEnough_4 (by decide) ?_
  refine lv_icmp_gt (tgt := 10) hx hb dX0_areEnough_5 (by decide) (fun c2 => ?_) (fun c2 => ?_)
  · skip
    have c2 : 1 < (bcf who).toInt := (z_lt (by decide : (1 : Int32).toInt = 1) rfl).mp c2
    refine lv_iload_n hx hb dX0_areEnough_10 rfl (lv_at hl 2 rfl) ?_
    refine lv_if_le (tgt := 29) hx hb dX0_areEnough_11 (by decide) (fun c3 => ?_) (fun c3 => ?_)
    · skip
      have c3 : n.toInt ≤ 0 := (z_le rfl (by decide : (0 : Int32).toInt = 0)).mp c3
      refine lv_iconst (v := 0) hx hb dX0_areEnough_29 (by decide) ?_
      have q4 : (0 : Int32).toInt = 0 := by decide
      exact W.zret (v := 0) hx hb hr rfl (fun t ht hW => ⟨⟨0, (), rfl, by first | exact Or.inl ⟨rfl, by omega⟩ | exact Or.inr ⟨rfl, by omega⟩ | exact Or.inl rfl | exact Or.inr rfl | exact Or.inl ⟨rfl, by omega, by omega⟩ | exact (z_01 (by omega) (by omega)).symm, ct, by rw [ht]; exact hP, hD, hI⟩, hS.F ht⟩) hS.2.2 dX0_areEnough_30
    · skip
      have c3 : ¬ (n.toInt ≤ 0) := fun q => c3 ((z_le rfl (by decide : (0 : Int32).toInt = 0)).mpr q)
      refine lv_iload_n hx hb dX0_areEnough_14 rfl (lv_at hl 1 rfl) ?_
      refine lv_iconst (v := 0) hx hb dX0_areEnough_15 (by decide) ?_
      refine lv_aload_n hx hb dX0_areEnough_16 rfl (lv_at hl 0 rfl) ?_
      obtain ⟨spc6, tim7, h8, h9, hs5⟩ := a8_17 hI
      refine va_get (D := g.1) (ci := 0) (v := .ref (ad 20)) (C := RX0) (T := TX0) (N := 5) hx hb hg inG0 hown hK hP 17 (zw_at (by omega) hs5) rfl 3 (by decide) (hg _ mm_220) (fun _ h9 => h9) rfl dX0_areEnough_17 ?_
      obtain ⟨n11, f12, h13, h14, hs10⟩ := a8_20 hI
      have zhs10 : zlen (ct 20) = n11 := by rw [hs10]; rfl
      refine va_alen hx hb hK hP 20 0 (zw_at (by omega) hs10) (ty := .int) rfl (v := (nI n11)) rfl dX0_areEnough_20 ?_
      refine lv_iconst (v := 1) hx hb dX0_areEnough_21 (by decide) ?_
      refine lv_isub hx hb dX0_areEnough_22 ?_
      refine lv_topi (fun x15 ex15 => ?_)
      have tx15 : x15.toInt = ((n11 : Nat) : Int) - 1 := by rw [ex15]; exact z_sub (nI_toInt (by omega)) (by decide : (1 : Int32).toInt = 1) (by omega) (by omega)
      refine zc_i (va_runSN (As := [.int who, .int 0, .int x15]) (rest := []) ⟨hx, hb, hml, hown, hg⟩ (k_X8_within l g ad pe ct who (0 : Int32) x15 hI) ⟨va_cnB 3 hg (z_gN mm_409) rfl rfl rfl (hN.at 15 rfl) (hg _ mm_108) (by decide +kernel) ⟨Nat.le_of_ble_eq_true rfl, Nat.le_of_ble_eq_true rfl⟩, (hg _ mm_408), trivial⟩ (zR.pre [.int who, .int 0, .int x15] hP hK hN) rfl rfl hl.1 rfl (lv_room (Nat.le_of_ble_eq_true rfl)) dX0_areEnough_23 ⟨Nat.le_of_ble_eq_true rfl, Nat.le_of_ble_eq_true rfl⟩) (fun r16 hr16 => ?_)
      rcases hr16 with hr16 | hr16
      · skip
        obtain ⟨rfl, h17, h18⟩ := hr16
        have h17 : (0 : Int) ≤ who.toInt := h17
        have h18 : who.toInt ≤ x15.toInt := h18
        refine lv_if_ne (tgt := 31) hx hb dX0_areEnough_26 (by decide) (fun c19 => ?_) (fun c19 => ?_)
        · skip
          refine lv_aload_n hx hb dX0_areEnough_31 rfl (lv_at hl 0 rfl) ?_
          refine va_get (D := g.1) (ci := 0) (v := .ref (ad 20)) (C := RX0) (T := TX0) (N := 5) hx hb hg inG0 hown hK hP 17 (zw_at (by omega) hs5) rfl 3 (by decide) (hg _ mm_220) (fun _ h9 => h9) rfl dX0_areEnough_32 ?_
          refine lv_iload_n hx hb dX0_areEnough_35 rfl (lv_at hl 1 rfl) ?_
          refine va_iald hx hb hK hP 20 0 (zw_at (by omega) hs10) rfl (z_in rfl (by omega) (by omega)) dX0_areEnough_36 ?_
          refine lv_topi (fun y20 ey20 => ?_)
          refine lv_bipush (v := 10) hx hb dX0_areEnough_37 (by decide) ?_
          refine lv_ishr hx hb dX0_areEnough_39 ?_
          refine lv_topi (fun x21 ex21 => ?_)
          refine lv_aload_n hx hb dX0_areEnough_40 rfl (lv_at hl 0 rfl) ?_
          refine va_get (D := g.1) (ci := 0) (v := .int tim7) (C := RX0) (T := TX0) (N := 5) hx hb hg inG0 hown hK hP 17 (zw_at (by omega) hs5) rfl 4 (by decide) (hg _ mm_221) (fun _ h9 => h9) rfl dX0_areEnough_41 ?_
          refine lv_icmp_eq (tgt := 63) hx hb dX0_areEnough_44 (by decide) (fun c22 => ?_) (fun c22 => ?_)
          · skip
            have c22 : x21.toInt = tim7.toInt := (z_eq rfl rfl).mp c22
            refine lv_aload_n hx hb dX0_areEnough_63 rfl (lv_at hl 0 rfl) ?_
            refine va_get (D := g.1) (ci := 0) (v := .ref (ad 20)) (C := RX0) (T := TX0) (N := 5) hx hb hg inG0 hown hK hP 17 (zw_at (by omega) hs5) rfl 3 (by decide) (hg _ mm_220) (fun _ h9 => h9) rfl dX0_areEnough_64 ?_
            refine lv_iload_n hx hb dX0_areEnough_67 rfl (lv_at hl 1 rfl) ?_
            refine va_iald hx hb hK hP 20 0 (zw_at (by omega) hs10) rfl (z_in rfl (by omega) (by omega)) dX0_areEnough_68 ?_
            refine lv_topi (fun y23 ey23 => ?_)
            refine lv_iconst (v := 5) hx hb dX0_areEnough_69 (by decide) ?_
            refine lv_ishr hx hb dX0_areEnough_70 ?_
            refine lv_topi (fun x24 ex24 => ?_)
            refine lv_bipush (v := 31) hx hb dX0_areEnough_71 (by decide) ?_
            refine lv_iand hx hb dX0_areEnough_73 ?_
            refine lv_topi (fun x25 ex25 => ?_)
            have tx25 := z_andr (x := x24) (y := 31) (by decide : (31 : Int32).toInt = 31) (by omega)
            rw [← ex25] at tx25
            refine lv_istore_n (lv' := [(3, .int x25), (0, .ref (ad 17)), (1, .int who), (2, .int n)]) hx hb dX0_areEnough_74 rfl hl (by decide) rfl (fun ls hl => ?_)
            refine lv_aload_n hx hb dX0_areEnough_75 rfl (lv_at hl 1 rfl) ?_
            refine va_get (D := g.1) (ci := 0) (v := .ref (ad 20)) (C := RX0) (T := TX0) (N := 5) hx hb hg inG0 hown hK hP 17 (zw_at (by omega) hs5) rfl 3 (by decide) (hg _ mm_220) (fun _ h9 => h9) rfl dX0_areEnough_76 ?_
            refine lv_iload_n hx hb dX0_areEnough_79 rfl (lv_at hl 2 rfl) ?_
            refine va_iald hx hb hK hP 20 0 (zw_at (by omega) hs10) rfl (z_in rfl (by omega) (by omega)) dX0_areEnough_80 ?_
            refine lv_topi (fun y26 ey26 => ?_)
            refine lv_bipush (v := 31) hx hb dX0_areEnough_81 (by decide) ?_
            refine lv_iand hx hb dX0_areEnough_83 ?_
            refine lv_topi (fun x27 ex27 => ?_)
            have tx27 := z_andr (x := y26) (y := 31) (by decide : (31 : Int32).toInt = 31) (by omega)
            rw [← ex27] at tx27
            refine lv_istore (lv' := [(4, .int x27), (3, .int x25), (0, .ref (ad 17)), (1, .int who), (2, .int n)]) hx hb dX0_areEnough_84 hl (by decide) rfl (fun ls hl => ?_)
            refine lv_iload_n hx hb dX0_areEnough_86 rfl (lv_at hl 4 rfl) ?_
            refine lv_iload_n hx hb dX0_areEnough_87 rfl (lv_at hl 1 rfl) ?_
            refine lv_icmp_lt (tgt := 97) hx hb dX0_areEnough_88 (by decide) (fun c28 => ?_) (fun c28 => ?_)
            · skip
              have c28 : n.toInt < x25.toInt := (z_lt rfl rfl).mp c28
              refine lv_iload_n hx hb dX0_areEnough_97 rfl (lv_at hl 4 rfl) ?_
              refine lv_iload hx hb dX0_areEnough_98 (lv_at hl 0 rfl) ?_
              refine lv_icmp_lt (tgt := 107) hx hb dX0_areEnough_100 (by decide) (fun c29 => ?_) (fun c29 => ?_)
              · skip
                have c29 : n.toInt < x27.toInt := (z_lt rfl rfl).mp c29
                refine lv_iconst (v := 0) hx hb dX0_areEnough_107 (by decide) ?_
                have q30 : (0 : Int32).toInt = 0 := by decide
                exact W.zret (v := 0) hx hb hr rfl (fun t ht hW => ⟨⟨0, (), rfl, by first | exact Or.inl ⟨rfl, by omega⟩ | exact Or.inr ⟨rfl, by omega⟩ | exact Or.inl rfl | exact Or.inr rfl | exact Or.inl ⟨rfl, by omega, by omega⟩ | exact (z_01 (by omega) (by omega)).symm, ct, by rw [ht]; exact hP, hD, hI⟩, hS.F ht⟩) hS.2.2 dX0_areEnough_108
              · skip
                have c29 : ¬ (n.toInt < x27.toInt) := fun q => c29 ((z_lt rfl rfl).mpr q)
                refine lv_iconst (v := 1) hx hb dX0_areEnough_103 (by decide) ?_
                refine lv_goto (tgt := 108) hx hb dX0_areEnough_104 (by decide) ?_
                have q31 : (1 : Int32).toInt = 1 := by decide
                exact W.zret (v := 1) hx hb hr rfl (fun t ht hW => ⟨⟨1, (), rfl, by first | exact Or.inl ⟨rfl, by omega⟩ | exact Or.inr ⟨rfl, by omega⟩ | exact Or.inl rfl | exact Or.inr rfl | exact Or.inl ⟨rfl, by omega, by omega⟩ | exact (z_01 (by omega) (by omega)).symm, ct, by rw [ht]; exact hP, hD, hI⟩, hS.F ht⟩) hS.2.2 dX0_areEnough_108
            · skip
              have c28 : ¬ (n.toInt < x25.toInt) := fun q => c28 ((z_lt rfl rfl).mpr q)
              refine lv_iload_n hx hb dX0_areEnough_91 rfl (lv_at hl 4 rfl) ?_
              refine lv_iload hx hb dX0_areEnough_92 (lv_at hl 0 rfl) ?_
              refine lv_icmp_lt (tgt := 109) hx hb dX0_areEnough_94 (by decide) (fun c32 => ?_) (fun c32 => ?_)
              · skip
                have c32 : n.toInt < x27.toInt := (z_lt rfl rfl).mp c32
                refine lv_iconst (v := 0) hx hb dX0_areEnough_109 (by decide) ?_
                refine lv_istore (lv' := [(5, .int 0), (4, .int x27), (3, .int x25), (0, .ref (ad 17)), (1, .int who), (2, .int n)]) hx hb dX0_areEnough_110 hl (by decide) rfl (fun ls hl => ?_)
                refine lv_iconst (v := 0) hx hb dX0_areEnough_112 (by decide) ?_
                refine lv_istore (lv' := [(6, .int 0), (5, .int 0), (4, .int x27), (3, .int x25), (0, .ref (ad 17)), (1, .int who), (2, .int n)]) hx hb dX0_areEnough_113 hl (by decide) rfl (fun ls hl => ?_)
                have loop115 : ∀ (n115 : Nat) (v6_115 : Int32) (v5_115 : Int32) (ct33 : Nat → va_E) (H : Heap) (locs : List Loc) (ls : Array Slot), ((128 - v6_115.toInt : Int).toNat < n115) → (0 ≤ v6_115.toInt ∧ v6_115.toInt ≤ 128) → (0 ≤ v5_115.toInt ∧ v5_115.toInt ≤ 1) → (zlen (ct33 20) = zlen (ct 20)) → (Inv8 g ad pe ct33) → zP g (zw 126 ad ct33) H → va_D A (zw 126 ad ct33) → va_S A s.heap H locs → lv_has ls 7 [(6, .int v6_115), (5, .int v5_115), (4, .int x27), (3, .int x25), (0, .ref (ad 17)), (1, .int who), (2, .int n)] → W p l e (headSpec (zW yX0_areEnough cX0_areEnough 7 (some .boolean)) ({ frames := 19, cells := 0, slots := 0, locals := 479 })).room s m ([.ref (ad 17), .int who, .int n] : List Value).toArray below meth c H locs 0 0 (MQ below (va_Qi (fun (r : Int32) (_ : Unit) => (r = 1) ∨ (r = 0)) (fun _ t => ∃ ct2 : Nat → va_E, zP g (zw 126 ad ct2) t.heap ∧ va_D A (zw 126 ad ct2) ∧ Inv8 g ad pe ct2) A) ([.ref (ad 17), .int who, .int n] : List Value).toArray s 0 0 A) (F0 m 115 ls []) := by
                  intro n115
                  induction n115 with
                  | zero =>
                    intro v6_115 v5_115 ct33 H locs ls hn115 b6_115 b5_115 hz hI hP hD hS hl
                    exact absurd hn115 (Nat.not_lt_zero _)
                  | succ n115 ih115 =>
                    intro v6_115 v5_115 ct33 H locs ls hn115 b6_115 b5_115 hz hI hP hD hS hl
                    refine lv_iload hx hb dX0_areEnough_115 (lv_at hl 0 rfl) ?_
                    refine lv_aload_n hx hb dX0_areEnough_117 rfl (lv_at hl 4 rfl) ?_
                    obtain ⟨spc35, tim36, h37, h38, hs34⟩ := a8_17 hI
                    refine va_get (D := g.1) (ci := 0) (v := .int spc35) (C := RX0) (T := TX0) (N := 5) hx hb hg inG0 hown hK hP 17 (zw_at (by omega) hs34) rfl 1 (by decide) (hg _ mm_218) (fun _ h9 => h9) rfl dX0_areEnough_118 ?_
                    refine lv_icmp_ge (tgt := 150) hx hb dX0_areEnough_121 (by decide) (fun c39 => ?_) (fun c39 => ?_)
                    · skip
                      have c39 : spc35.toInt ≤ v6_115.toInt := (z_le rfl rfl).mp c39
                      refine lv_aload_n hx hb dX0_areEnough_150 rfl (lv_at hl 4 rfl) ?_
                      refine lv_iload_n hx hb dX0_areEnough_151 rfl (lv_at hl 5 rfl) ?_
                      refine lv_iload hx hb dX0_areEnough_152 (lv_at hl 1 rfl) ?_
                      refine lv_if_eq (tgt := 161) hx hb dX0_areEnough_154 (by decide) (fun c40 => ?_) (fun c40 => ?_)
                      · skip
                        have c40 : v5_115.toInt = 0 := (z_eq rfl (by decide : (0 : Int32).toInt = 0)).mp c40
                        refine lv_iload_n hx hb dX0_areEnough_161 rfl (lv_at hl 6 rfl) ?_
                        refine lv_iconst (v := 1) hx hb dX0_areEnough_162 (by decide) ?_
                        refine lv_iadd hx hb dX0_areEnough_163 ?_
                        refine lv_topi (fun x41 ex41 => ?_)
                        have tx41 : x41.toInt = n.toInt + 1 := by rw [ex41]; exact z_add rfl (by decide : (1 : Int32).toInt = 1) (by omega) (by omega)
                        refine lv_iload hx hb dX0_areEnough_164 (lv_at hl 1 rfl) ?_
                        refine lv_if_eq (tgt := 173) hx hb dX0_areEnough_166 (by decide) (fun c42 => ?_) (fun c42 => ?_)
                        · skip
                          have c42 : v5_115.toInt = 0 := (z_eq rfl (by decide : (0 : Int32).toInt = 0)).mp c42
                          refine lv_iload hx hb dX0_areEnough_173 (lv_at hl 2 rfl) ?_
                          have hFc := zw_free hD hS hA
                          refine va_callv (va_runV (As := [.int who, .int x41, .int x27]) (rest := []) ⟨hx, hb, hml, hown, hg⟩ (zs_v hI (k_X0_keep l g _ ad pe ct33 who x41 x27 (by first | omega | decide) hI (by first | omega | assumption | decide))) (cwV 3 hg (z_gV mm_833 mm_835 mm_39 mm_112 mm_836) rfl rfl rfl (by decide +kernel) ⟨Nat.le_of_ble_eq_true rfl, Nat.le_of_ble_eq_true rfl⟩) ⟨(zA.pre [.ref (ad 17), .int who, .int x41, .int x27] hP hK hD hN).1, va_recv hK hP (ci := 0) (q0 := 17) rfl (zw_at (by omega) hs34), (zA.pre [.ref (ad 17), .int who, .int x41, .int x27] hP hK hD hN).2⟩ rfl rfl hl.1 rfl (lv_room (Nat.le_of_ble_eq_true rfl)) dX0_areEnough_175 ⟨Nat.le_of_ble_eq_true rfl, Nat.le_of_ble_eq_true rfl⟩) hS (fun q _ h => hFc q h) hFc (fun _ t H1 locs ht hvm hr43 hB hz1 hk1 hS => ?_)
                          obtain ⟨hB, hzs⟩ := hB
                          rw [ht] at hzs
                          obtain ⟨ct44, hP1, hD1, hI⟩ := hB
                          rw [ht] at hP1
                          have hD := hD1.weaken (fun _ _ _ h => hFc _ h)
                          generalize H1 = H at hP1 hS hzs ⊢
                          have hP := hP1
                          refine W.widen (k := 0) (n := 0) (Nat.le_refl _) (Nat.le_refl _) ?_
                          have hz : zlen (ct44 20) = zlen (ct 20) := (hzs.eq hP hI).trans hz
                          refine lv_iload hx hb dX0_areEnough_178 (lv_at hl 1 rfl) ?_
                          exact W.zret (v := v5_115) hx hb hr (by rcases (z_01 (x := v5_115) (by omega) (by omega)) with q | q <;> rw [q] <;> rfl) (fun t ht hW => ⟨⟨v5_115, (), rfl, by first | exact Or.inl ⟨rfl, by omega⟩ | exact Or.inr ⟨rfl, by omega⟩ | exact Or.inl rfl | exact Or.inr rfl | exact Or.inl ⟨rfl, by omega, by omega⟩ | exact (z_01 (by omega) (by omega)).symm, ct44, by rw [ht]; exact hP, hD, hI⟩, hS.F ht⟩) hS.2.2 dX0_areEnough_180
                        · skip
                          have c42 : ¬ (v5_115.toInt = 0) := fun q => c42 ((z_eq rfl (by decide : (0 : Int32).toInt = 0)).mpr q)
                          refine lv_iload_n hx hb dX0_areEnough_169 rfl (lv_at hl 6 rfl) ?_
                          refine lv_goto (tgt := 175) hx hb dX0_areEnough_170 (by decide) ?_
                          have hFc := zw_free hD hS hA
                          refine va_callv (va_runV (As := [.int who, .int x41, .int n]) (rest := []) ⟨hx, hb, hml, hown, hg⟩ (zs_v hI (k_X0_keep l g _ ad pe ct33 who x41 n (by first | omega | decide) hI (by first | omega | assumption | decide))) (cwV 3 hg (z_gV mm_833 mm_835 mm_39 mm_112 mm_836) rfl rfl rfl (by decide +kernel) ⟨Nat.le_of_ble_eq_true rfl, Nat.le_of_ble_eq_true rfl⟩) ⟨(zA.pre [.ref (ad 17), .int who, .int x41, .int n] hP hK hD hN).1, va_recv hK hP (ci := 0) (q0 := 17) rfl (zw_at (by omega) hs34), (zA.pre [.ref (ad 17), .int who, .int x41, .int n] hP hK hD hN).2⟩ rfl rfl hl.1 rfl (lv_room (Nat.le_of_ble_eq_true rfl)) dX0_areEnough_175 ⟨Nat.le_of_ble_eq_true rfl, Nat.le_of_ble_eq_true rfl⟩) hS (fun q _ h => hFc q h) hFc (fun _ t H1 locs ht hvm hr45 hB hz1 hk1 hS => ?_)
                          obtain ⟨hB, hzs⟩ := hB
                          rw [ht] at hzs
                          obtain ⟨ct46, hP1, hD1, hI⟩ := hB
                          rw [ht] at hP1
                          have hD := hD1.weaken (fun _ _ _ h => hFc _ h)
                          generalize H1 = H at hP1 hS hzs ⊢
                          have hP := hP1
                          refine W.widen (k := 0) (n := 0) (Nat.le_refl _) (Nat.le_refl _) ?_
                          have hz : zlen (ct46 20) = zlen (ct 20) := (hzs.eq hP hI).trans hz
                          refine lv_iload hx hb dX0_areEnough_178 (lv_at hl 1 rfl) ?_
                          exact W.zret (v := v5_115) hx hb hr (by rcases (z_01 (x := v5_115) (by omega) (by omega)) with q | q <;> rw [q] <;> rfl) (fun t ht hW => ⟨⟨v5_115, (), rfl, by first | exact Or.inl ⟨rfl, by omega⟩ | exact Or.inr ⟨rfl, by omega⟩ | exact Or.inl rfl | exact Or.inr rfl | exact Or.inl ⟨rfl, by omega, by omega⟩ | exact (z_01 (by omega) (by omega)).symm, ct46, by rw [ht]; exact hP, hD, hI⟩, hS.F ht⟩) hS.2.2 dX0_areEnough_180
                      · skip
                        have c40 : ¬ (v5_115.toInt = 0) := fun q => c40 ((z_eq rfl (by decide : (0 : Int32).toInt = 0)).mpr q)
                        refine lv_iload_n hx hb dX0_areEnough_157 rfl (lv_at hl 3 rfl) ?_
                        refine lv_goto (tgt := 164) hx hb dX0_areEnough_158 (by decide) ?_
                        refine lv_iload hx hb dX0_areEnough_164 (lv_at hl 1 rfl) ?_
                        refine lv_if_eq (tgt := 173) hx hb dX0_areEnough_166 (by decide) (fun c47 => ?_) (fun c47 => ?_)
                        · skip
                          have c47 : v5_115.toInt = 0 := (z_eq rfl (by decide : (0 : Int32).toInt = 0)).mp c47
                          exfalso
                          omega
                        · skip
                          have c47 : ¬ (v5_115.toInt = 0) := fun q => c47 ((z_eq rfl (by decide : (0 : Int32).toInt = 0)).mpr q)
                          refine lv_iload_n hx hb dX0_areEnough_169 rfl (lv_at hl 6 rfl) ?_
                          refine lv_goto (tgt := 175) hx hb dX0_areEnough_170 (by decide) ?_
                          have hFc := zw_free hD hS hA
                          refine va_callv (va_runV (As := [.int who, .int x25, .int n]) (rest := []) ⟨hx, hb, hml, hown, hg⟩ (zs_v hI (k_X0_keep l g _ ad pe ct33 who x25 n (by first | omega | decide) hI (by first | omega | assumption | decide))) (cwV 3 hg (z_gV mm_833 mm_835 mm_39 mm_112 mm_836) rfl rfl rfl (by decide +kernel) ⟨Nat.le_of_ble_eq_true rfl, Nat.le_of_ble_eq_true rfl⟩) ⟨(zA.pre [.ref (ad 17), .int who, .int x25, .int n] hP hK hD hN).1, va_recv hK hP (ci := 0) (q0 := 17) rfl (zw_at (by omega) hs34), (zA.pre [.ref (ad 17), .int who, .int x25, .int n] hP hK hD hN).2⟩ rfl rfl hl.1 rfl (lv_room (Nat.le_of_ble_eq_true rfl)) dX0_areEnough_175 ⟨Nat.le_of_ble_eq_true rfl, Nat.le_of_ble_eq_true rfl⟩) hS (fun q _ h => hFc q h) hFc (fun _ t H1 locs ht hvm hr48 hB hz1 hk1 hS => ?_)
                          obtain ⟨hB, hzs⟩ := hB
                          rw [ht] at hzs
                          obtain ⟨ct49, hP1, hD1, hI⟩ := hB
                          rw [ht] at hP1
                          have hD := hD1.weaken (fun _ _ _ h => hFc _ h)
                          generalize H1 = H at hP1 hS hzs ⊢
                          have hP := hP1
                          refine W.widen (k := 0) (n := 0) (Nat.le_refl _) (Nat.le_refl _) ?_
                          have hz : zlen (ct49 20) = zlen (ct 20) := (hzs.eq hP hI).trans hz
                          refine lv_iload hx hb dX0_areEnough_178 (lv_at hl 1 rfl) ?_
                          exact W.zret (v := v5_115) hx hb hr (by rcases (z_01 (x := v5_115) (by omega) (by omega)) with q | q <;> rw [q] <;> rfl) (fun t ht hW => ⟨⟨v5_115, (), rfl, by first | exact Or.inl ⟨rfl, by omega⟩ | exact Or.inr ⟨rfl, by omega⟩ | exact Or.inl rfl | exact Or.inr rfl | exact Or.inl ⟨rfl, by omega, by omega⟩ | exact (z_01 (by omega) (by omega)).symm, ct49, by rw [ht]; exact hP, hD, hI⟩, hS.F ht⟩) hS.2.2 dX0_areEnough_180
                    · skip
                      have c39 : ¬ (spc35.toInt ≤ v6_115.toInt) := fun q => c39 ((z_le rfl rfl).mpr q)
                      refine lv_iload hx hb dX0_areEnough_124 (lv_at hl 1 rfl) ?_
                      refine lv_if_ne (tgt := 150) hx hb dX0_areEnough_126 (by decide) (fun c50 => ?_) (fun c50 => ?_)
                      · skip
                        have c50 : ¬ (v5_115.toInt = 0) := fun q => c50 ((z_eq rfl (by decide : (0 : Int32).toInt = 0)).mpr q)
                        refine lv_aload_n hx hb dX0_areEnough_150 rfl (lv_at hl 4 rfl) ?_
                        refine lv_iload_n hx hb dX0_areEnough_151 rfl (lv_at hl 5 rfl) ?_
                        refine lv_iload hx hb dX0_areEnough_152 (lv_at hl 1 rfl) ?_
                        refine lv_if_eq (tgt := 161) hx hb dX0_areEnough_154 (by decide) (fun c51 => ?_) (fun c51 => ?_)
                        · skip
                          have c51 : v5_115.toInt = 0 := (z_eq rfl (by decide : (0 : Int32).toInt = 0)).mp c51
                          exfalso
                          omega
                        · skip
                          have c51 : ¬ (v5_115.toInt = 0) := fun q => c51 ((z_eq rfl (by decide : (0 : Int32).toInt = 0)).mpr q)
                          refine lv_iload_n hx hb dX0_areEnough_157 rfl (lv_at hl 3 rfl) ?_
                          refine lv_goto (tgt := 164) hx hb dX0_areEnough_158 (by decide) ?_
                          refine lv_iload hx hb dX0_areEnough_164 (lv_at hl 1 rfl) ?_
                          refine lv_if_eq (tgt := 173) hx hb dX0_areEnough_166 (by decide) (fun c52 => ?_) (fun c52 => ?_)
                          · skip
                            have c52 : v5_115.toInt = 0 := (z_eq rfl (by decide : (0 : Int32).toInt = 0)).mp c52
                            exfalso
                            omega
                          · skip
                            have c52 : ¬ (v5_115.toInt = 0) := fun q => c52 ((z_eq rfl (by decide : (0 : Int32).toInt = 0)).mpr q)
                            refine lv_iload_n hx hb dX0_areEnough_169 rfl (lv_at hl 6 rfl) ?_
                            refine lv_goto (tgt := 175) hx hb dX0_areEnough_170 (by decide) ?_
                            have hFc := zw_free hD hS hA
                            refine va_callv (va_runV (As := [.int who, .int x25, .int n]) (rest := []) ⟨hx, hb, hml, hown, hg⟩ (zs_v hI (k_X0_keep l g _ ad pe ct33 who x25 n (by first | omega | decide) hI (by first | omega | assumption | decide))) (cwV 3 hg (z_gV mm_833 mm_835 mm_39 mm_112 mm_836) rfl rfl rfl (by decide +kernel) ⟨Nat.le_of_ble_eq_true rfl, Nat.le_of_ble_eq_true rfl⟩) ⟨(zA.pre [.ref (ad 17), .int who, .int x25, .int n] hP hK hD hN).1, va_recv hK hP (ci := 0) (q0 := 17) rfl (zw_at (by omega) hs34), (zA.pre [.ref (ad 17), .int who, .int x25, .int n] hP hK hD hN).2⟩ rfl rfl hl.1 rfl (lv_room (Nat.le_of_ble_eq_true rfl)) dX0_areEnough_175 ⟨Nat.le_of_ble_eq_true rfl, Nat.le_of_ble_eq_true rfl⟩) hS (fun q _ h => hFc q h) hFc (fun _ t H1 locs ht hvm hr53 hB hz1 hk1 hS => ?_)
                            obtain ⟨hB, hzs⟩ := hB
                            rw [ht] at hzs
                            obtain ⟨ct54, hP1, hD1, hI⟩ := hB
                            rw [ht] at hP1
                            have hD := hD1.weaken (fun _ _ _ h => hFc _ h)
                            generalize H1 = H at hP1 hS hzs ⊢
                            have hP := hP1
                            refine W.widen (k := 0) (n := 0) (Nat.le_refl _) (Nat.le_refl _) ?_
                            have hz : zlen (ct54 20) = zlen (ct 20) := (hzs.eq hP hI).trans hz
                            refine lv_iload hx hb dX0_areEnough_178 (lv_at hl 1 rfl) ?_
                            exact W.zret (v := v5_115) hx hb hr (by rcases (z_01 (x := v5_115) (by omega) (by omega)) with q | q <;> rw [q] <;> rfl) (fun t ht hW => ⟨⟨v5_115, (), rfl, by first | exact Or.inl ⟨rfl, by omega⟩ | exact Or.inr ⟨rfl, by omega⟩ | exact Or.inl rfl | exact Or.inr rfl | exact Or.inl ⟨rfl, by omega, by omega⟩ | exact (z_01 (by omega) (by omega)).symm, ct54, by rw [ht]; exact hP, hD, hI⟩, hS.F ht⟩) hS.2.2 dX0_areEnough_180
                      · skip
                        have c50 : v5_115.toInt = 0 := (z_eq rfl (by decide : (0 : Int32).toInt = 0)).mp c50
                        refine lv_aload_n hx hb dX0_areEnough_129 rfl (lv_at hl 4 rfl) ?_
                        refine lv_iload_n hx hb dX0_areEnough_130 rfl (lv_at hl 5 rfl) ?_
                        refine lv_aload_n hx hb dX0_areEnough_131 rfl (lv_at hl 4 rfl) ?_
                        refine va_get (D := g.1) (ci := 0) (v := .ref (ad 18)) (C := RX0) (T := TX0) (N := 5) hx hb hg inG0 hown hK hP 17 (zw_at (by omega) hs34) rfl 0 (by decide) (hg _ mm_217) (fun _ h9 => h9) rfl dX0_areEnough_132 ?_
                        refine lv_iload hx hb dX0_areEnough_135 (lv_at hl 0 rfl) ?_
                        obtain ⟨f56, hs55⟩ := a8_18 hI
                        refine va_iald hx hb hK hP 18 0 (zw_at (by omega) hs55) rfl (z_in rfl (by omega) (by omega)) dX0_areEnough_137 ?_
                        refine lv_topi (fun y57 ey57 => ?_)
                        refine lv_iload_n hx hb dX0_areEnough_138 rfl (lv_at hl 6 rfl) ?_
                        have hFc := zw_free hD hS hA
                        refine va_calli (va_runV (As := [.int who, .int y57, .int n]) (rest := []) ⟨hx, hb, hml, hown, hg⟩ (zs_i hI (k_X0_areEnoughBy_9 l g _ ad pe ct33 who y57 n (by first | omega | decide) (by first | omega | decide) hI)) (cwV 3 hg (z_gV mm_837 mm_839 mm_40 mm_112 mm_840) rfl rfl rfl (by decide +kernel) ⟨Nat.le_of_ble_eq_true rfl, Nat.le_of_ble_eq_true rfl⟩) ⟨(zA.pre [.ref (ad 17), .int who, .int y57, .int n] hP hK hD hN).1, va_recv hK hP (ci := 0) (q0 := 17) rfl (zw_at (by omega) hs34), (zA.pre [.ref (ad 17), .int who, .int y57, .int n] hP hK hD hN).2⟩ rfl rfl hl.1 rfl (lv_room (Nat.le_of_ble_eq_true rfl)) dX0_areEnough_139 ⟨Nat.le_of_ble_eq_true rfl, Nat.le_of_ble_eq_true rfl⟩) hS (fun q _ h => hFc q h) hFc (fun r58 _ t H1 locs ht hvm hr58 hB hz1 hk1 hS => ?_)
                        obtain ⟨hB, hzs⟩ := hB
                        rw [ht] at hzs
                        obtain ⟨ct59, hP1, hD1, hI⟩ := hB
                        rw [ht] at hP1
                        have hD := hD1.weaken (fun _ _ _ h => hFc _ h)
                        generalize H1 = H at hP1 hS hzs ⊢
                        have hP := hP1
                        refine W.widen (k := 0) (n := 0) (Nat.le_refl _) (Nat.le_refl _) ?_
                        have hz : zlen (ct59 20) = zlen (ct 20) := (hzs.eq hP hI).trans hz
                        rcases hr58 with hr58 | hr58
                        · skip
                          obtain rfl := hr58
                          refine lv_istore (lv' := [(5, .int 1), (6, .int v6_115), (4, .int x27), (3, .int x25), (0, .ref (ad 17)), (1, .int who), (2, .int n)]) hx hb dX0_areEnough_142 hl (by decide) rfl (fun ls hl => ?_)
                          obtain ⟨x60, ex60⟩ : ∃ y : Int32, y = v6_115 + 1 := ⟨_, rfl⟩
                          have tx60 : x60.toInt = v6_115.toInt + 1 := by rw [ex60]; exact z_add rfl (by decide : (1 : Int32).toInt = 1) (by omega) (by omega)
                          refine lv_iinc (v := x60) (lv' := [(6, .int x60), (5, .int 1), (4, .int x27), (3, .int x25), (0, .ref (ad 17)), (1, .int who), (2, .int n)]) hx hb dX0_areEnough_144 hl (k := 1) rfl (by rw [ex60]; rfl) (by decide) rfl (fun ls hl => ?_)
                          refine lv_goto (tgt := 115) hx hb dX0_areEnough_147 (by decide) ?_
                          exact ih115 x60 (1 : Int32) ct59 _ _ ls (by omega) (by first | omega | decide) (by first | omega | decide) hz hI hP hD hS (lv_sub hl [0, 1, 2, 3, 4, 5, 6] rfl)
                        · skip
                          obtain rfl := hr58
                          refine lv_istore (lv' := [(5, .int 0), (6, .int v6_115), (4, .int x27), (3, .int x25), (0, .ref (ad 17)), (1, .int who), (2, .int n)]) hx hb dX0_areEnough_142 hl (by decide) rfl (fun ls hl => ?_)
                          obtain ⟨x61, ex61⟩ : ∃ y : Int32, y = v6_115 + 1 := ⟨_, rfl⟩
                          have tx61 : x61.toInt = v6_115.toInt + 1 := by rw [ex61]; exact z_add rfl (by decide : (1 : Int32).toInt = 1) (by omega) (by omega)
                          refine lv_iinc (v := x61) (lv' := [(6, .int x61), (5, .int 0), (4, .int x27), (3, .int x25), (0, .ref (ad 17)), (1, .int who), (2, .int n)]) hx hb dX0_areEnough_144 hl (k := 1) rfl (by rw [ex61]; rfl) (by decide) rfl (fun ls hl => ?_)
                          refine lv_goto (tgt := 115) hx hb dX0_areEnough_147 (by decide) ?_
                          exact ih115 x61 (0 : Int32) ct59 _ _ ls (by omega) (by first | omega | decide) (by first | omega | decide) hz hI hP hD hS (lv_sub hl [0, 1, 2, 3, 4, 5, 6] rfl)
                exact loop115 ((128 - (0 : Int32).toInt : Int).toNat + 1) (0 : Int32) (0 : Int32) ct _ _ ls (by omega) (by first | omega | decide) (by first | omega | decide) hz hI hP hD hS (lv_sub hl [0, 1, 2, 3, 4, 5, 6] rfl)
              · skip
                have c32 : ¬ (n.toInt < x27.toInt) := fun q => c32 ((z_lt rfl rfl).mpr q)
                refine lv_iload_n hx hb dX0_areEnough_97 rfl (lv_at hl 4 rfl) ?_
                refine lv_iload hx hb dX0_areEnough_98 (lv_at hl 0 rfl) ?_
                refine lv_icmp_lt (tgt := 107) hx hb dX0_areEnough_100 (by decide) (fun c62 => ?_) (fun c62 => ?_)
                · skip
                  have c62 : n.toInt < x27.toInt := (z_lt rfl rfl).mp c62
                  refine lv_iconst (v := 0) hx hb dX0_areEnough_107 (by decide) ?_
                  have q63 : (0 : Int32).toInt = 0 := by decide
                  exact W.zret (v := 0) hx hb hr rfl (fun t ht hW => ⟨⟨0, (), rfl, by first | exact Or.inl ⟨rfl, by omega⟩ | exact Or.inr ⟨rfl, by omega⟩ | exact Or.inl rfl | exact Or.inr rfl | exact Or.inl ⟨rfl, by omega, by omega⟩ | exact (z_01 (by omega) (by omega)).symm, ct, by rw [ht]; exact hP, hD, hI⟩, hS.F ht⟩) hS.2.2 dX0_areEnough_108
                · skip
                  have c62 : ¬ (n.toInt < x27.toInt) := fun q => c62 ((z_lt rfl rfl).mpr q)
                  refine lv_iconst (v := 1) hx hb dX0_areEnough_103 (by decide) ?_
                  refine lv_goto (tgt := 108) hx hb dX0_areEnough_104 (by decide) ?_
                  have q64 : (1 : Int32).toInt = 1 := by decide
                  exact W.zret (v := 1) hx hb hr rfl (fun t ht hW => ⟨⟨1, (), rfl, by first | exact Or.inl ⟨rfl, by omega⟩ | exact Or.inr ⟨rfl, by omega⟩ | exact Or.inl rfl | exact Or.inr rfl | exact Or.inl ⟨rfl, by omega, by omega⟩ | exact (z_01 (by omega) (by omega)).symm, ct, by rw [ht]; exact hP, hD, hI⟩, hS.F ht⟩) hS.2.2 dX0_areEnough_108
          · skip
            have c22 : ¬ (x21.toInt = tim7.toInt) := fun q => c22 ((z_eq rfl rfl).mpr q)
            refine lv_aload_n hx hb dX0_areEnough_47 rfl (lv_at hl 0 rfl) ?_
            refine lv_iload_n hx hb dX0_areEnough_48 rfl (lv_at hl 1 rfl) ?_
            refine lv_aload_n hx hb dX0_areEnough_49 rfl (lv_at hl 0 rfl) ?_
            refine lv_iload_n hx hb dX0_areEnough_50 rfl (lv_at hl 1 rfl) ?_
            have hFc := zw_free hD hS hA
            refine va_calli (va_runV (As := [.int who]) (rest := [.int who, .ref (ad 17)]) ⟨hx, hb, hml, hown, hg⟩ (zs_i hI (k_X0_atLeast l g _ ad pe ct who (by first | omega | decide) hI)) (cwV 1 hg (z_gV mm_828 mm_830 mm_38 mm_112 mm_831) rfl rfl rfl (by decide +kernel) ⟨Nat.le_of_ble_eq_true rfl, Nat.le_of_ble_eq_true rfl⟩) ⟨(zA.pre [.ref (ad 17), .int who] hP hK hD hN).1, va_recv hK hP (ci := 0) (q0 := 17) rfl (zw_at (by omega) hs5), (zA.pre [.ref (ad 17), .int who] hP hK hD hN).2⟩ rfl rfl hl.1 rfl (lv_room (Nat.le_of_ble_eq_true rfl)) dX0_areEnough_51 ⟨Nat.le_of_ble_eq_true rfl, Nat.le_of_ble_eq_true rfl⟩) hS (fun q _ h => hFc q h) hFc (fun r65 _ t H1 locs ht hvm hr65 hB hz1 hk1 hS => ?_)
            obtain ⟨hB, hzs⟩ := hB
            rw [ht] at hzs
            obtain ⟨ct66, hP1, hD1, hI⟩ := hB
            rw [ht] at hP1
            have hD := hD1.weaken (fun _ _ _ h => hFc _ h)
            generalize H1 = H at hP1 hS hzs ⊢
            have hP := hP1
            refine W.widen (k := 0) (n := 0) (Nat.le_refl _) (Nat.le_refl _) ?_
            have hz : zlen (ct66 20) = zlen (ct 20) := (hzs.eq hP hI).trans hz
            refine lv_iload_n hx hb dX0_areEnough_54 rfl (lv_at hl 1 rfl) ?_
            refine zc_i (va_runS (As := [.int who]) (rest := [.int r65, .int who, .ref (ad 17)]) ⟨hx, hb, hml, hown, hg⟩ (k_bce l g ad pe ct66 who hI) (va_cwS 1 hg (z_gS mm_826 mm_729 mm_119 mm_730) rfl rfl rfl (by decide +kernel) ⟨Nat.le_of_ble_eq_true rfl, Nat.le_of_ble_eq_true rfl⟩) (zR.pre [.int who] hP hK hN) rfl rfl hl.1 rfl (lv_room (Nat.le_of_ble_eq_true rfl)) dX0_areEnough_55 ⟨Nat.le_of_ble_eq_true rfl, Nat.le_of_ble_eq_true rfl⟩) (fun r67 hr67 => ?_)
            have hqr67 := hr67
            subst r67
            have hbr67 := z_bc (x := who) (by omega) (by omega)
            refine lv_iconst (v := 1) hx hb dX0_areEnough_58 (by decide) ?_
            refine lv_isub hx hb dX0_areEnough_59 ?_
            refine lv_topi (fun x68 ex68 => ?_)
            have tx68 : x68.toInt = (bcf who).toInt - 1 := by rw [ex68]; exact z_sub rfl (by decide : (1 : Int32).toInt = 1) (by omega) (by omega)
            obtain ⟨spc70, tim71, h72, h73, hs69⟩ := a8_17 hI
            have hFc := zw_free hD hS hA
            refine va_callv (va_runV (As := [.int who, .int r65, .int x68]) (rest := []) ⟨hx, hb, hml, hown, hg⟩ (zs_v hI (k_X0_keep l g _ ad pe ct66 who r65 x68 (by first | omega | decide) hI (by first | omega | assumption | decide))) (cwV 3 hg (z_gV mm_833 mm_835 mm_39 mm_112 mm_836) rfl rfl rfl (by decide +kernel) ⟨Nat.le_of_ble_eq_true rfl, Nat.le_of_ble_eq_true rfl⟩) ⟨(zA.pre [.ref (ad 17), .int who, .int r65, .int x68] hP hK hD hN).1, va_recv hK hP (ci := 0) (q0 := 17) rfl (zw_at (by omega) hs69), (zA.pre [.ref (ad 17), .int who, .int r65, .int x68] hP hK hD hN).2⟩ rfl rfl hl.1 rfl (lv_room (Nat.le_of_ble_eq_true rfl)) dX0_areEnough_60 ⟨Nat.le_of_ble_eq_true rfl, Nat.le_of_ble_eq_true rfl⟩) hS (fun q _ h => hFc q h) hFc (fun _ t H1 locs ht hvm hr74 hB hz1 hk1 hS => ?_)
            obtain ⟨hB, hzs⟩ := hB
            rw [ht] at hzs
            obtain ⟨ct75, hP1, hD1, hI⟩ := hB
            rw [ht] at hP1
            have hD := hD1.weaken (fun _ _ _ h => hFc _ h)
            generalize H1 = H at hP1 hS hzs ⊢
            have hP := hP1
            refine W.widen (k := 0) (n := 0) (Nat.le_refl _) (Nat.le_refl _) ?_
            have hz : zlen (ct75 20) = zlen (ct 20) := (hzs.eq hP hI).trans hz
            refine lv_aload_n hx hb dX0_areEnough_63 rfl (lv_at hl 0 rfl) ?_
            obtain ⟨spc77, tim78, h79, h80, hs76⟩ := a8_17 hI
            refine va_get (D := g.1) (ci := 0) (v := .ref (ad 20)) (C := RX0) (T := TX0) (N := 5) hx hb hg inG0 hown hK hP 17 (zw_at (by omega) hs76) rfl 3 (by decide) (hg _ mm_220) (fun _ h9 => h9) rfl dX0_areEnough_64 ?_
            refine lv_iload_n hx hb dX0_areEnough_67 rfl (lv_at hl 1 rfl) ?_
            obtain ⟨n82, f83, h84, h85, hs81⟩ := a8_20 hI
            have zhs81 : zlen (ct75 20) = n82 := by rw [hs81]; rfl
            refine va_iald hx hb hK hP 20 0 (zw_at (by omega) hs81) rfl (z_in rfl (by omega) (by omega)) dX0_areEnough_68 ?_
            refine lv_topi (fun y86 ey86 => ?_)
            refine lv_iconst (v := 5) hx hb dX0_areEnough_69 (by decide) ?_
            refine lv_ishr hx hb dX0_areEnough_70 ?_
            refine lv_topi (fun x87 ex87 => ?_)
            refine lv_bipush (v := 31) hx hb dX0_areEnough_71 (by decide) ?_
            refine lv_iand hx hb dX0_areEnough_73 ?_
            refine lv_topi (fun x88 ex88 => ?_)
            have tx88 := z_andr (x := x87) (y := 31) (by decide : (31 : Int32).toInt = 31) (by omega)
            rw [← ex88] at tx88
            refine lv_istore_n (lv' := [(3, .int x88), (0, .ref (ad 17)), (1, .int who), (2, .int n)]) hx hb dX0_areEnough_74 rfl hl (by decide) rfl (fun ls hl => ?_)
            refine lv_aload_n hx hb dX0_areEnough_75 rfl (lv_at hl 1 rfl) ?_
            refine va_get (D := g.1) (ci := 0) (v := .ref (ad 20)) (C := RX0) (T := TX0) (N := 5) hx hb hg inG0 hown hK hP 17 (zw_at (by omega) hs76) rfl 3 (by decide) (hg _ mm_220) (fun _ h9 => h9) rfl dX0_areEnough_76 ?_
            refine lv_iload_n hx hb dX0_areEnough_79 rfl (lv_at hl 2 rfl) ?_
            refine va_iald hx hb hK hP 20 0 (zw_at (by omega) hs81) rfl (z_in rfl (by omega) (by omega)) dX0_areEnough_80 ?_
            refine lv_topi (fun y89 ey89 => ?_)
            refine lv_bipush (v := 31) hx hb dX0_areEnough_81 (by decide) ?_
            refine lv_iand hx hb dX0_areEnough_83 ?_
            refine lv_topi (fun x90 ex90 => ?_)
            have tx90 := z_andr (x := y89) (y := 31) (by decide : (31 : Int32).toInt = 31) (by omega)
            rw [← ex90] at tx90
            refine lv_istore (lv' := [(4, .int x90), (3, .int x88), (0, .ref (ad 17)), (1, .int who), (2, .int n)]) hx hb dX0_areEnough_84 hl (by decide) rfl (fun ls hl => ?_)
            refine lv_iload_n hx hb dX0_areEnough_86 rfl (lv_at hl 4 rfl) ?_
            refine lv_iload_n hx hb dX0_areEnough_87 rfl (lv_at hl 1 rfl) ?_
            refine lv_icmp_lt (tgt := 97) hx hb dX0_areEnough_88 (by decide) (fun c91 => ?_) (fun c91 => ?_)
            · skip
              have c91 : n.toInt < x88.toInt := (z_lt rfl rfl).mp c91
              refine lv_iload_n hx hb dX0_areEnough_97 rfl (lv_at hl 4 rfl) ?_
              refine lv_iload hx hb dX0_areEnough_98 (lv_at hl 0 rfl) ?_
              refine lv_icmp_lt (tgt := 107) hx hb dX0_areEnough_100 (by decide) (fun c92 => ?_) (fun c92 => ?_)
              · skip
                have c92 : n.toInt < x90.toInt := (z_lt rfl rfl).mp c92
                refine lv_iconst (v := 0) hx hb dX0_areEnough_107 (by decide) ?_
                have q93 : (0 : Int32).toInt = 0 := by decide
                exact W.zret (v := 0) hx hb hr rfl (fun t ht hW => ⟨⟨0, (), rfl, by first | exact Or.inl ⟨rfl, by omega⟩ | exact Or.inr ⟨rfl, by omega⟩ | exact Or.inl rfl | exact Or.inr rfl | exact Or.inl ⟨rfl, by omega, by omega⟩ | exact (z_01 (by omega) (by omega)).symm, ct75, by rw [ht]; exact hP, hD, hI⟩, hS.F ht⟩) hS.2.2 dX0_areEnough_108
              · skip
                have c92 : ¬ (n.toInt < x90.toInt) := fun q => c92 ((z_lt rfl rfl).mpr q)
                refine lv_iconst (v := 1) hx hb dX0_areEnough_103 (by decide) ?_
                refine lv_goto (tgt := 108) hx hb dX0_areEnough_104 (by decide) ?_
                have q94 : (1 : Int32).toInt = 1 := by decide
                exact W.zret (v := 1) hx hb hr rfl (fun t ht hW => ⟨⟨1, (), rfl, by first | exact Or.inl ⟨rfl, by omega⟩ | exact Or.inr ⟨rfl, by omega⟩ | exact Or.inl rfl | exact Or.inr rfl | exact Or.inl ⟨rfl, by omega, by omega⟩ | exact (z_01 (by omega) (by omega)).symm, ct75, by rw [ht]; exact hP, hD, hI⟩, hS.F ht⟩) hS.2.2 dX0_areEnough_108
            · skip
              have c91 : ¬ (n.toInt < x88.toInt) := fun q => c91 ((z_lt rfl rfl).mpr q)
              refine lv_iload_n hx hb dX0_areEnough_91 rfl (lv_at hl 4 rfl) ?_
              refine lv_iload hx hb dX0_areEnough_92 (lv_at hl 0 rfl) ?_
              refine lv_icmp_lt (tgt := 109) hx hb dX0_areEnough_94 (by decide) (fun c95 => ?_) (fun c95 => ?_)
              · skip
                have c95 : n.toInt < x90.toInt := (z_lt rfl rfl).mp c95
                refine lv_iconst (v := 0) hx hb dX0_areEnough_109 (by decide) ?_
                refine lv_istore (lv' := [(5, .int 0), (4, .int x90), (3, .int x88), (0, .ref (ad 17)), (1, .int who), (2, .int n)]) hx hb dX0_areEnough_110 hl (by decide) rfl (fun ls hl => ?_)
                refine lv_iconst (v := 0) hx hb dX0_areEnough_112 (by decide) ?_
                refine lv_istore (lv' := [(6, .int 0), (5, .int 0), (4, .int x90), (3, .int x88), (0, .ref (ad 17)), (1, .int who), (2, .int n)]) hx hb dX0_areEnough_113 hl (by decide) rfl (fun ls hl => ?_)
                have loop115 : ∀ (n115 : Nat) (v6_115 : Int32) (v5_115 : Int32) (ct96 : Nat → va_E) (H : Heap) (locs : List Loc) (ls : Array Slot), ((128 - v6_115.toInt : Int).toNat < n115) → (0 ≤ v6_115.toInt ∧ v6_115.toInt ≤ 128) → (0 ≤ v5_115.toInt ∧ v5_115.toInt ≤ 1) → (zlen (ct96 20) = zlen (ct 20)) → (Inv8 g ad pe ct96) → zP g (zw 126 ad ct96) H → va_D A (zw 126 ad ct96) → va_S A s.heap H locs → lv_has ls 7 [(6, .int v6_115), (5, .int v5_115), (4, .int x90), (3, .int x88), (0, .ref (ad 17)), (1, .int who), (2, .int n)] → W p l e (headSpec (zW yX0_areEnough cX0_areEnough 7 (some .boolean)) ({ frames := 19, cells := 0, slots := 0, locals := 479 })).room s m ([.ref (ad 17), .int who, .int n] : List Value).toArray below meth c H locs 0 0 (MQ below (va_Qi (fun (r : Int32) (_ : Unit) => (r = 1) ∨ (r = 0)) (fun _ t => ∃ ct2 : Nat → va_E, zP g (zw 126 ad ct2) t.heap ∧ va_D A (zw 126 ad ct2) ∧ Inv8 g ad pe ct2) A) ([.ref (ad 17), .int who, .int n] : List Value).toArray s 0 0 A) (F0 m 115 ls []) := by
                  intro n115
                  induction n115 with
                  | zero =>
                    intro v6_115 v5_115 ct96 H locs ls hn115 b6_115 b5_115 hz hI hP hD hS hl
                    exact absurd hn115 (Nat.not_lt_zero _)
                  | succ n115 ih115 =>
                    intro v6_115 v5_115 ct96 H locs ls hn115 b6_115 b5_115 hz hI hP hD hS hl
                    refine lv_iload hx hb dX0_areEnough_115 (lv_at hl 0 rfl) ?_
                    refine lv_aload_n hx hb dX0_areEnough_117 rfl (lv_at hl 4 rfl) ?_
                    obtain ⟨spc98, tim99, h100, h101, hs97⟩ := a8_17 hI
                    refine va_get (D := g.1) (ci := 0) (v := .int spc98) (C := RX0) (T := TX0) (N := 5) hx hb hg inG0 hown hK hP 17 (zw_at (by omega) hs97) rfl 1 (by decide) (hg _ mm_218) (fun _ h9 => h9) rfl dX0_areEnough_118 ?_
                    refine lv_icmp_ge (tgt := 150) hx hb dX0_areEnough_121 (by decide) (fun c102 => ?_) (fun c102 => ?_)
                    · skip
                      have c102 : spc98.toInt ≤ v6_115.toInt := (z_le rfl rfl).mp c102
                      refine lv_aload_n hx hb dX0_areEnough_150 rfl (lv_at hl 4 rfl) ?_
                      refine lv_iload_n hx hb dX0_areEnough_151 rfl (lv_at hl 5 rfl) ?_
                      refine lv_iload hx hb dX0_areEnough_152 (lv_at hl 1 rfl) ?_
                      refine lv_if_eq (tgt := 161) hx hb dX0_areEnough_154 (by decide) (fun c103 => ?_) (fun c103 => ?_)
                      · skip
                        have c103 : v5_115.toInt = 0 := (z_eq rfl (by decide : (0 : Int32).toInt = 0)).mp c103
                        refine lv_iload_n hx hb dX0_areEnough_161 rfl (lv_at hl 6 rfl) ?_
                        refine lv_iconst (v := 1) hx hb dX0_areEnough_162 (by decide) ?_
                        refine lv_iadd hx hb dX0_areEnough_163 ?_
                        refine lv_topi (fun x104 ex104 => ?_)
                        have tx104 : x104.toInt = n.toInt + 1 := by rw [ex104]; exact z_add rfl (by decide : (1 : Int32).toInt = 1) (by omega) (by omega)
                        refine lv_iload hx hb dX0_areEnough_164 (lv_at hl 1 rfl) ?_
                        refine lv_if_eq (tgt := 173) hx hb dX0_areEnough_166 (by decide) (fun c105 => ?_) (fun c105 => ?_)
                        · skip
                          have c105 : v5_115.toInt = 0 := (z_eq rfl (by decide : (0 : Int32).toInt = 0)).mp c105
                          refine lv_iload hx hb dX0_areEnough_173 (lv_at hl 2 rfl) ?_
                          have hFc := zw_free hD hS hA
                          refine va_callv (va_runV (As := [.int who, .int x104, .int x90]) (rest := []) ⟨hx, hb, hml, hown, hg⟩ (zs_v hI (k_X0_keep l g _ ad pe ct96 who x104 x90 (by first | omega | decide) hI (by first | omega | assumption | decide))) (cwV 3 hg (z_gV mm_833 mm_835 mm_39 mm_112 mm_836) rfl rfl rfl (by decide +kernel) ⟨Nat.le_of_ble_eq_true rfl, Nat.le_of_ble_eq_true rfl⟩) ⟨(zA.pre [.ref (ad 17), .int who, .int x104, .int x90] hP hK hD hN).1, va_recv hK hP (ci := 0) (q0 := 17) rfl (zw_at (by omega) hs97), (zA.pre [.ref (ad 17), .int who, .int x104, .int x90] hP hK hD hN).2⟩ rfl rfl hl.1 rfl (lv_room (Nat.le_of_ble_eq_true rfl)) dX0_areEnough_175 ⟨Nat.le_of_ble_eq_true rfl, Nat.le_of_ble_eq_true rfl⟩) hS (fun q _ h => hFc q h) hFc (fun _ t H1 locs ht hvm hr106 hB hz1 hk1 hS => ?_)
                          obtain ⟨hB, hzs⟩ := hB
                          rw [ht] at hzs
                          obtain ⟨ct107, hP1, hD1, hI⟩ := hB
                          rw [ht] at hP1
                          have hD := hD1.weaken (fun _ _ _ h => hFc _ h)
                          generalize H1 = H at hP1 hS hzs ⊢
                          have hP := hP1
                          refine W.widen (k := 0) (n := 0) (Nat.le_refl _) (Nat.le_refl _) ?_
                          have hz : zlen (ct107 20) = zlen (ct 20) := (hzs.eq hP hI).trans hz
                          refine lv_iload hx hb dX0_areEnough_178 (lv_at hl 1 rfl) ?_
                          exact W.zret (v := v5_115) hx hb hr (by rcases (z_01 (x := v5_115) (by omega) (by omega)) with q | q <;> rw [q] <;> rfl) (fun t ht hW => ⟨⟨v5_115, (), rfl, by first | exact Or.inl ⟨rfl, by omega⟩ | exact Or.inr ⟨rfl, by omega⟩ | exact Or.inl rfl | exact Or.inr rfl | exact Or.inl ⟨rfl, by omega, by omega⟩ | exact (z_01 (by omega) (by omega)).symm, ct107, by rw [ht]; exact hP, hD, hI⟩, hS.F ht⟩) hS.2.2 dX0_areEnough_180
                        · skip
                          have c105 : ¬ (v5_115.toInt = 0) := fun q => c105 ((z_eq rfl (by decide : (0 : Int32).toInt = 0)).mpr q)
                          refine lv_iload_n hx hb dX0_areEnough_169 rfl (lv_at hl 6 rfl) ?_
                          refine lv_goto (tgt := 175) hx hb dX0_areEnough_170 (by decide) ?_
                          have hFc := zw_free hD hS hA
                          refine va_callv (va_runV (As := [.int who, .int x104, .int n]) (rest := []) ⟨hx, hb, hml, hown, hg⟩ (zs_v hI (k_X0_keep l g _ ad pe ct96 who x104 n (by first | omega | decide) hI (by first | omega | assumption | decide))) (cwV 3 hg (z_gV mm_833 mm_835 mm_39 mm_112 mm_836) rfl rfl rfl (by decide +kernel) ⟨Nat.le_of_ble_eq_true rfl, Nat.le_of_ble_eq_true rfl⟩) ⟨(zA.pre [.ref (ad 17), .int who, .int x104, .int n] hP hK hD hN).1, va_recv hK hP (ci := 0) (q0 := 17) rfl (zw_at (by omega) hs97), (zA.pre [.ref (ad 17), .int who, .int x104, .int n] hP hK hD hN).2⟩ rfl rfl hl.1 rfl (lv_room (Nat.le_of_ble_eq_true rfl)) dX0_areEnough_175 ⟨Nat.le_of_ble_eq_true rfl, Nat.le_of_ble_eq_true rfl⟩) hS (fun q _ h => hFc q h) hFc (fun _ t H1 locs ht hvm hr108 hB hz1 hk1 hS => ?_)
                          obtain ⟨hB, hzs⟩ := hB
                          rw [ht] at hzs
                          obtain ⟨ct109, hP1, hD1, hI⟩ := hB
                          rw [ht] at hP1
                          have hD := hD1.weaken (fun _ _ _ h => hFc _ h)
                          generalize H1 = H at hP1 hS hzs ⊢
                          have hP := hP1
                          refine W.widen (k := 0) (n := 0) (Nat.le_refl _) (Nat.le_refl _) ?_
                          have hz : zlen (ct109 20) = zlen (ct 20) := (hzs.eq hP hI).trans hz
                          refine lv_iload hx hb dX0_areEnough_178 (lv_at hl 1 rfl) ?_
                          exact W.zret (v := v5_115) hx hb hr (by rcases (z_01 (x := v5_115) (by omega) (by omega)) with q | q <;> rw [q] <;> rfl) (fun t ht hW => ⟨⟨v5_115, (), rfl, by first | exact Or.inl ⟨rfl, by omega⟩ | exact Or.inr ⟨rfl, by omega⟩ | exact Or.inl rfl | exact Or.inr rfl | exact Or.inl ⟨rfl, by omega, by omega⟩ | exact (z_01 (by omega) (by omega)).symm, ct109, by rw [ht]; exact hP, hD, hI⟩, hS.F ht⟩) hS.2.2 dX0_areEnough_180
                      · skip
                        have c103 : ¬ (v5_115.toInt = 0) := fun q => c103 ((z_eq rfl (by decide : (0 : Int32).toInt = 0)).mpr q)
                        refine lv_iload_n hx hb dX0_areEnough_157 rfl (lv_at hl 3 rfl) ?_
                        refine lv_goto (tgt := 164) hx hb dX0_areEnough_158 (by decide) ?_
                        refine lv_iload hx hb dX0_areEnough_164 (lv_at hl 1 rfl) ?_
                        refine lv_if_eq (tgt := 173) hx hb dX0_areEnough_166 (by decide) (fun c110 => ?_) (fun c110 => ?_)
                        · skip
                          have c110 : v5_115.toInt = 0 := (z_eq rfl (by decide : (0 : Int32).toInt = 0)).mp c110
                          exfalso
                          omega
                        · skip
                          have c110 : ¬ (v5_115.toInt = 0) := fun q => c110 ((z_eq rfl (by decide : (0 : Int32).toInt = 0)).mpr q)
                          refine lv_iload_n hx hb dX0_areEnough_169 rfl (lv_at hl 6 rfl) ?_
                          refine lv_goto (tgt := 175) hx hb dX0_areEnough_170 (by decide) ?_
                          have hFc := zw_free hD hS hA
                          refine va_callv (va_runV (As := [.int who, .int x88, .int n]) (rest := []) ⟨hx, hb, hml, hown, hg⟩ (zs_v hI (k_X0_keep l g _ ad pe ct96 who x88 n (by first | omega | decide) hI (by first | omega | assumption | decide))) (cwV 3 hg (z_gV mm_833 mm_835 mm_39 mm_112 mm_836) rfl rfl rfl (by decide +kernel) ⟨Nat.le_of_ble_eq_true rfl, Nat.le_of_ble_eq_true rfl⟩) ⟨(zA.pre [.ref (ad 17), .int who, .int x88, .int n] hP hK hD hN).1, va_recv hK hP (ci := 0) (q0 := 17) rfl (zw_at (by omega) hs97), (zA.pre [.ref (ad 17), .int who, .int x88, .int n] hP hK hD hN).2⟩ rfl rfl hl.1 rfl (lv_room (Nat.le_of_ble_eq_true rfl)) dX0_areEnough_175 ⟨Nat.le_of_ble_eq_true rfl, Nat.le_of_ble_eq_true rfl⟩) hS (fun q _ h => hFc q h) hFc (fun _ t H1 locs ht hvm hr111 hB hz1 hk1 hS => ?_)
                          obtain ⟨hB, hzs⟩ := hB
                          rw [ht] at hzs
                          obtain ⟨ct112, hP1, hD1, hI⟩ := hB
                          rw [ht] at hP1
                          have hD := hD1.weaken (fun _ _ _ h => hFc _ h)
                          generalize H1 = H at hP1 hS hzs ⊢
                          have hP := hP1
                          refine W.widen (k := 0) (n := 0) (Nat.le_refl _) (Nat.le_refl _) ?_
                          have hz : zlen (ct112 20) = zlen (ct 20) := (hzs.eq hP hI).trans hz
                          refine lv_iload hx hb dX0_areEnough_178 (lv_at hl 1 rfl) ?_
                          exact W.zret (v := v5_115) hx hb hr (by rcases (z_01 (x := v5_115) (by omega) (by omega)) with q | q <;> rw [q] <;> rfl) (fun t ht hW => ⟨⟨v5_115, (), rfl, by first | exact Or.inl ⟨rfl, by omega⟩ | exact Or.inr ⟨rfl, by omega⟩ | exact Or.inl rfl | exact Or.inr rfl | exact Or.inl ⟨rfl, by omega, by omega⟩ | exact (z_01 (by omega) (by omega)).symm, ct112, by rw [ht]; exact hP, hD, hI⟩, hS.F ht⟩) hS.2.2 dX0_areEnough_180
                    · skip
                      have c102 : ¬ (spc98.toInt ≤ v6_115.toInt) := fun q => c102 ((z_le rfl rfl).mpr q)
                      refine lv_iload hx hb dX0_areEnough_124 (lv_at hl 1 rfl) ?_
                      refine lv_if_ne (tgt := 150) hx hb dX0_areEnough_126 (by decide) (fun c113 => ?_) (fun c113 => ?_)
                      · skip
                        have c113 : ¬ (v5_115.toInt = 0) := fun q => c113 ((z_eq rfl (by decide : (0 : Int32).toInt = 0)).mpr q)
                        refine lv_aload_n hx hb dX0_areEnough_150 rfl (lv_at hl 4 rfl) ?_
                        refine lv_iload_n hx hb dX0_areEnough_151 rfl (lv_at hl 5 rfl) ?_
                        refine lv_iload hx hb dX0_areEnough_152 (lv_at hl 1 rfl) ?_
                        refine lv_if_eq (tgt := 161) hx hb dX0_areEnough_154 (by decide) (fun c114 => ?_) (fun c114 => ?_)
                        · skip
                          have c114 : v5_115.toInt = 0 := (z_eq rfl (by decide : (0 : Int32).toInt = 0)).mp c114
                          exfalso
                          omega
                        · skip
                          have c114 : ¬ (v5_115.toInt = 0) := fun q => c114 ((z_eq rfl (by decide : (0 : Int32).toInt = 0)).mpr q)
                          refine lv_iload_n hx hb dX0_areEnough_157 rfl (lv_at hl 3 rfl) ?_
                          refine lv_goto (tgt := 164) hx hb dX0_areEnough_158 (by decide) ?_
                          refine lv_iload hx hb dX0_areEnough_164 (lv_at hl 1 rfl) ?_
                          refine lv_if_eq (tgt := 173) hx hb dX0_areEnough_166 (by decide) (fun c115 => ?_) (fun c115 => ?_)
                          · skip
                            have c115 : v5_115.toInt = 0 := (z_eq rfl (by decide : (0 : Int32).toInt = 0)).mp c115
                            exfalso
                            omega
                          · skip
                            have c115 : ¬ (v5_115.toInt = 0) := fun q => c115 ((z_eq rfl (by decide : (0 : Int32).toInt = 0)).mpr q)
                            refine lv_iload_n hx hb dX0_areEnough_169 rfl (lv_at hl 6 rfl) ?_
                            refine lv_goto (tgt := 175) hx hb dX0_areEnough_170 (by decide) ?_
                            have hFc := zw_free hD hS hA
                            refine va_callv (va_runV (As := [.int who, .int x88, .int n]) (rest := []) ⟨hx, hb, hml, hown, hg⟩ (zs_v hI (k_X0_keep l g _ ad pe ct96 who x88 n (by first | omega | decide) hI (by first | omega | assumption | decide))) (cwV 3 hg (z_gV mm_833 mm_835 mm_39 mm_112 mm_836) rfl rfl rfl (by decide +kernel) ⟨Nat.le_of_ble_eq_true rfl, Nat.le_of_ble_eq_true rfl⟩) ⟨(zA.pre [.ref (ad 17), .int who, .int x88, .int n] hP hK hD hN).1, va_recv hK hP (ci := 0) (q0 := 17) rfl (zw_at (by omega) hs97), (zA.pre [.ref (ad 17), .int who, .int x88, .int n] hP hK hD hN).2⟩ rfl rfl hl.1 rfl (lv_room (Nat.le_of_ble_eq_true rfl)) dX0_areEnough_175 ⟨Nat.le_of_ble_eq_true rfl, Nat.le_of_ble_eq_true rfl⟩) hS (fun q _ h => hFc q h) hFc (fun _ t H1 locs ht hvm hr116 hB hz1 hk1 hS => ?_)
                            obtain ⟨hB, hzs⟩ := hB
                            rw [ht] at hzs
                            obtain ⟨ct117, hP1, hD1, hI⟩ := hB
                            rw [ht] at hP1
                            have hD := hD1.weaken (fun _ _ _ h => hFc _ h)
                            generalize H1 = H at hP1 hS hzs ⊢
                            have hP := hP1
                            refine W.widen (k := 0) (n := 0) (Nat.le_refl _) (Nat.le_refl _) ?_
                            have hz : zlen (ct117 20) = zlen (ct 20) := (hzs.eq hP hI).trans hz
                            refine lv_iload hx hb dX0_areEnough_178 (lv_at hl 1 rfl) ?_
                            exact W.zret (v := v5_115) hx hb hr (by rcases (z_01 (x := v5_115) (by omega) (by omega)) with q | q <;> rw [q] <;> rfl) (fun t ht hW => ⟨⟨v5_115, (), rfl, by first | exact Or.inl ⟨rfl, by omega⟩ | exact Or.inr ⟨rfl, by omega⟩ | exact Or.inl rfl | exact Or.inr rfl | exact Or.inl ⟨rfl, by omega, by omega⟩ | exact (z_01 (by omega) (by omega)).symm, ct117, by rw [ht]; exact hP, hD, hI⟩, hS.F ht⟩) hS.2.2 dX0_areEnough_180
                      · skip
                        have c113 : v5_115.toInt = 0 := (z_eq rfl (by decide : (0 : Int32).toInt = 0)).mp c113
                        refine lv_aload_n hx hb dX0_areEnough_129 rfl (lv_at hl 4 rfl) ?_
                        refine lv_iload_n hx hb dX0_areEnough_130 rfl (lv_at hl 5 rfl) ?_
                        refine lv_aload_n hx hb dX0_areEnough_131 rfl (lv_at hl 4 rfl) ?_
                        refine va_get (D := g.1) (ci := 0) (v := .ref (ad 18)) (C := RX0) (T := TX0) (N := 5) hx hb hg inG0 hown hK hP 17 (zw_at (by omega) hs97) rfl 0 (by decide) (hg _ mm_217) (fun _ h9 => h9) rfl dX0_areEnough_132 ?_
                        refine lv_iload hx hb dX0_areEnough_135 (lv_at hl 0 rfl) ?_
                        obtain ⟨f119, hs118⟩ := a8_18 hI
                        refine va_iald hx hb hK hP 18 0 (zw_at (by omega) hs118) rfl (z_in rfl (by omega) (by omega)) dX0_areEnough_137 ?_
                        refine lv_topi (fun y120 ey120 => ?_)
                        refine lv_iload_n hx hb dX0_areEnough_138 rfl (lv_at hl 6 rfl) ?_
                        have hFc := zw_free hD hS hA
                        refine va_calli (va_runV (As := [.int who, .int y120, .int n]) (rest := []) ⟨hx, hb, hml, hown, hg⟩ (zs_i hI (k_X0_areEnoughBy_9 l g _ ad pe ct96 who y120 n (by first | omega | decide) (by first | omega | decide) hI)) (cwV 3 hg (z_gV mm_837 mm_839 mm_40 mm_112 mm_840) rfl rfl rfl (by decide +kernel) ⟨Nat.le_of_ble_eq_true rfl, Nat.le_of_ble_eq_true rfl⟩) ⟨(zA.pre [.ref (ad 17), .int who, .int y120, .int n] hP hK hD hN).1, va_recv hK hP (ci := 0) (q0 := 17) rfl (zw_at (by omega) hs97), (zA.pre [.ref (ad 17), .int who, .int y120, .int n] hP hK hD hN).2⟩ rfl rfl hl.1 rfl (lv_room (Nat.le_of_ble_eq_true rfl)) dX0_areEnough_139 ⟨Nat.le_of_ble_eq_true rfl, Nat.le_of_ble_eq_true rfl⟩) hS (fun q _ h => hFc q h) hFc (fun r121 _ t H1 locs ht hvm hr121 hB hz1 hk1 hS => ?_)
                        obtain ⟨hB, hzs⟩ := hB
                        rw [ht] at hzs
                        obtain ⟨ct122, hP1, hD1, hI⟩ := hB
                        rw [ht] at hP1
                        have hD := hD1.weaken (fun _ _ _ h => hFc _ h)
                        generalize H1 = H at hP1 hS hzs ⊢
                        have hP := hP1
                        refine W.widen (k := 0) (n := 0) (Nat.le_refl _) (Nat.le_refl _) ?_
                        have hz : zlen (ct122 20) = zlen (ct 20) := (hzs.eq hP hI).trans hz
                        rcases hr121 with hr121 | hr121
                        · skip
                          obtain rfl := hr121
                          refine lv_istore (lv' := [(5, .int 1), (6, .int v6_115), (4, .int x90), (3, .int x88), (0, .ref (ad 17)), (1, .int who), (2, .int n)]) hx hb dX0_areEnough_142 hl (by decide) rfl (fun ls hl => ?_)
                          obtain ⟨x123, ex123⟩ : ∃ y : Int32, y = v6_115 + 1 := ⟨_, rfl⟩
                          have tx123 : x123.toInt = v6_115.toInt + 1 := by rw [ex123]; exact z_add rfl (by decide : (1 : Int32).toInt = 1) (by omega) (by omega)
                          refine lv_iinc (v := x123) (lv' := [(6, .int x123), (5, .int 1), (4, .int x90), (3, .int x88), (0, .ref (ad 17)), (1, .int who), (2, .int n)]) hx hb dX0_areEnough_144 hl (k := 1) rfl (by rw [ex123]; rfl) (by decide) rfl (fun ls hl => ?_)
                          refine lv_goto (tgt := 115) hx hb dX0_areEnough_147 (by decide) ?_
                          exact ih115 x123 (1 : Int32) ct122 _ _ ls (by omega) (by first | omega | decide) (by first | omega | decide) hz hI hP hD hS (lv_sub hl [0, 1, 2, 3, 4, 5, 6] rfl)
                        · skip
                          obtain rfl := hr121
                          refine lv_istore (lv' := [(5, .int 0), (6, .int v6_115), (4, .int x90), (3, .int x88), (0, .ref (ad 17)), (1, .int who), (2, .int n)]) hx hb dX0_areEnough_142 hl (by decide) rfl (fun ls hl => ?_)
                          obtain ⟨x124, ex124⟩ : ∃ y : Int32, y = v6_115 + 1 := ⟨_, rfl⟩
                          have tx124 : x124.toInt = v6_115.toInt + 1 := by rw [ex124]; exact z_add rfl (by decide : (1 : Int32).toInt = 1) (by omega) (by omega)
                          refine lv_iinc (v := x124) (lv' := [(6, .int x124), (5, .int 0), (4, .int x90), (3, .int x88), (0, .ref (ad 17)), (1, .int who), (2, .int n)]) hx hb dX0_areEnough_144 hl (k := 1) rfl (by rw [ex124]; rfl) (by decide) rfl (fun ls hl => ?_)
                          refine lv_goto (tgt := 115) hx hb dX0_areEnough_147 (by decide) ?_
                          exact ih115 x124 (0 : Int32) ct122 _ _ ls (by omega) (by first | omega | decide) (by first | omega | decide) hz hI hP hD hS (lv_sub hl [0, 1, 2, 3, 4, 5, 6] rfl)
                exact loop115 ((128 - (0 : Int32).toInt : Int).toNat + 1) (0 : Int32) (0 : Int32) ct75 _ _ ls (by omega) (by first | omega | decide) (by first | omega | decide) hz hI hP hD hS (lv_sub hl [0, 1, 2, 3, 4, 5, 6] rfl)
              · skip
                have c95 : ¬ (n.toInt < x90.toInt) := fun q => c95 ((z_lt rfl rfl).mpr q)
                refine lv_iload_n hx hb dX0_areEnough_97 rfl (lv_at hl 4 rfl) ?_
                refine lv_iload hx hb dX0_areEnough_98 (lv_at hl 0 rfl) ?_
                refine lv_icmp_lt (tgt := 107) hx hb dX0_areEnough_100 (by decide) (fun c125 => ?_) (fun c125 => ?_)
                · skip
                  have c125 : n.toInt < x90.toInt := (z_lt rfl rfl).mp c125
                  refine lv_iconst (v := 0) hx hb dX0_areEnough_107 (by decide) ?_
                  have q126 : (0 : Int32).toInt = 0 := by decide
                  exact W.zret (v := 0) hx hb hr rfl (fun t ht hW => ⟨⟨0, (), rfl, by first | exact Or.inl ⟨rfl, by omega⟩ | exact Or.inr ⟨rfl, by omega⟩ | exact Or.inl rfl | exact Or.inr rfl | exact Or.inl ⟨rfl, by omega, by omega⟩ | exact (z_01 (by omega) (by omega)).symm, ct75, by rw [ht]; exact hP, hD, hI⟩, hS.F ht⟩) hS.2.2 dX0_areEnough_108
                · skip
                  have c125 : ¬ (n.toInt < x90.toInt) := fun q => c125 ((z_lt rfl rfl).mpr q)
                  refine lv_iconst (v := 1) hx hb dX0_areEnough_103 (by decide) ?_
                  refine lv_goto (tgt := 108) hx hb dX0_areEnough_104 (by decide) ?_
                  have q127 : (1 : Int32).toInt = 1 := by decide
                  exact W.zret (v := 1) hx hb hr rfl (fun t ht hW => ⟨⟨1, (), rfl, by first | exact Or.inl ⟨rfl, by omega⟩ | exact Or.inr ⟨rfl, by omega⟩ | exact Or.inl rfl | exact Or.inr rfl | exact Or.inl ⟨rfl, by omega, by omega⟩ | exact (z_01 (by omega) (by omega)).symm, ct75, by rw [ht]; exact hP, hD, hI⟩, hS.F ht⟩) hS.2.2 dX0_areEnough_108
        · skip
          exact absurd c19 (by decide)
      · skip
        obtain ⟨rfl, h128⟩ := hr16
        have h128 : ¬ ((0 : Int) ≤ who.toInt ∧ who.toInt ≤ x15.toInt) := h128
        refine lv_if_ne (tgt := 31) hx hb dX0_areEnough_26 (by decide) (fun c129 => ?_) (fun c129 => ?_)
        · skip
          exact absurd c129 (by decide)
        · skip
          refine lv_iconst (v := 0) hx hb dX0_areEnough_29 (by decide) ?_
          have q130 : (0 : Int32).toInt = 0 := by decide
          exact W.zret (v := 0) hx hb hr rfl (fun t ht hW => ⟨⟨0, (), rfl, by first | exact Or.inl ⟨rfl, by omega⟩ | exact Or.inr ⟨rfl, by omega⟩ | exact Or.inl rfl | exact Or.inr rfl | exact Or.inl ⟨rfl, by omega, by omega⟩ | exact (z_01 (by omega) (by omega)).symm, ct, by rw [ht]; exact hP, hD, hI⟩, hS.F ht⟩) hS.2.2 dX0_areEnough_30
  · skip
    have c2 : ¬ (1 < (bcf who).toInt) := fun q => c2 ((z_lt (by decide : (1 : Int32).toInt = 1) rfl).mpr q)
    refine lv_iconst (v := 1) hx hb dX0_areEnough_8 (by decide) ?_
    have q131 : (1 : Int32).toInt = 1 := by decide
    exact W.zret (v := 1) hx hb hr rfl (fun t ht hW => ⟨⟨1, (), rfl, by first | exact Or.inl ⟨rfl, by omega⟩ | exact Or.inr ⟨rfl, by omega⟩ | exact Or.inl rfl | exact Or.inr rfl | exact Or.inl ⟨rfl, by omega, by omega⟩ | exact (z_01 (by omega) (by omega)).symm, ct, by rw [ht]; exact hP, hD, hI⟩, hS.F ht⟩) hS.2.2 dX0_areEnough_9
