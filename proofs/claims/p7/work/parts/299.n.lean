set_option maxHeartbeats 4000000 in
set_option maxRecDepth 100000 in
theorem k_X0_makeRoom (l : Launch) (g : zG) (sz : Nat) (ad0 : Nat → Nat) (pe : Int32) (ct : Nat → va_E) (who : Int32) (hl_who : 0 ≤ who.toInt ∧ who.toInt ≤ 65535) (hI : Inv8 g ad0 pe ct) : Met l yX0_makeRoom (zW yX0_makeRoom cX0_makeRoom 4 none) ({ frames := 0, cells := 1, slots := 131072, locals := 0 }) (va_Pc [.ref (ad0 17), .int who] (zA g (zw 126 ad0 ct) sz)) (va_Qv (fun (_ : Unit) => True) (fun _ t => ∃ (ad2 : Nat → Nat) (ct2 : Nat → va_E), (∀ j : Nat, j ≠ 20 → ad2 j = ad0 j) ∧ zP g (zw 126 ad2 ct2) t.heap ∧ va_D (va_A (zw 126 ad0 ct) sz) (zw 126 ad2 ct2) ∧ Inv8 g ad2 pe ct2 ∧ ((t.heap.size = sz ∧ zlen (ct2 20) = zlen (ct 20)) ∨ (t.heap.size = sz + 1 ∧ ad2 20 = sz ∧ 2 * zlen (ct 20) ≤ zlen (ct2 20)))) (va_A (zw 126 ad0 ct) sz)) 1 131072 (va_A (zw 126 ad0 ct) sz) := by
  refine Met.ofW (cc := cX0_makeRoom) (maxL := 4) (ret := none) (by decide) rfl ?_
  intro p e s m args below meth c s₁ B hml hv
  obtain ⟨rfl, hsz, hP, hK, hD0, hN⟩ := hv
  have hx := B.exec
  have hb := B.bytes
  have hr := B.returns
  have hg := zW.law (atoms_spec (ws := (zW yX0_makeRoom cX0_makeRoom 4 none)) B.pre)
  have hown : s.vm.findClass RX0 = some m.cls := findClass_of_methodNamed B.named
  have hlocks := B.notSynchronized
  have hpe0 := hI.1
  subst hsz
  have hD := hD0.self (sz := s.heap.size)
  generalize hAe : va_A (zw 126 ad0 ct) s.heap.size = A at hD ⊢
  have hA : ∀ q : Nat, s.heap.size ≤ q → A q := fun q h => by rw [← hAe]; exact Or.inr h
  have hS : va_S A s.heap s.heap [] := va_S.rf
  have hl := lv_entry ([.ref (ad0 17), .int who]) (n := 4) (Nat.le_of_ble_eq_true rfl)
  rw [lg_entry_eq]
  generalize (lg_sl ([.ref (ad0 17), .int who]) ++ List.replicate (4 - (lg_sl ([.ref (ad0 17), .int who])).length) Slot.unset).toArray = ls at hl ⊢
  have hl : lv_has ls 4 [(0, .ref (ad0 17)), (1, .int who)] := hl
  obtain ⟨ad, had⟩ : ∃ f : Nat → Nat, f = ad0 := ⟨_, rfl⟩
  rw [← had] at hP hD hI hl hAe
  have hadq : ∀ j : Nat, j ≠ 20 → ad j = ad0 j := fun j _ => by rw [had]
  have hz : zlen (ct 20) = zlen (ct 20) := rfl
  refine lv_aload_n hx hb dX0_makeRoom_0 rfl (lv_at hl 0 rfl) ?_
  obtain ⟨spc2, tim3, h4, h5, hs1⟩ := a8_17 hI
  refine va_get (D := g.1) (ci := 0) (v := .ref (ad 20)) (C := RX0) (T := TX0) (N := 5) hx hb hg inG0 hown hK hP 17 (zw_at (by omega) hs1) rfl 3 (by decide) (hg _ mm_220) (fun _ h9 => h9) rfl dX0_makeRoom_1 ?_
  obtain ⟨n7, f8, h9, h10, hs6⟩ := a8_20 hI
  have zhs6 : zlen (ct 20) = n7 := by rw [hs6]; rfl
  have qnn7 : (nI n7).toInt = ((n7 : Nat) : Int) := nI_toInt (by omega)
  refine va_alen hx hb hK hP 20 0 (zw_at (by omega) hs6) (ty := .int) rfl (v := (nI n7)) rfl dX0_makeRoom_4 ?_
  refine lv_istore_n (lv' := [(2, .int (nI n7)), (0, .ref (ad 17)), (1, .int who)]) hx hb dX0_makeRoom_5 rfl hl (by decide) rfl (fun ls hl => ?_)
  refine lv_iconst (v := 0) hx hb dX0_makeRoom_6 (by decide) ?_
  refine lv_istore_n (lv' := [(3, .int 0), (2, .int (nI n7)), (0, .ref (ad 17)), (1, .int who)]) hx hb dX0_makeRoom_7 rfl hl (by decide) rfl (fun ls hl => ?_)
  have loop8 : ∀ (n8 : Nat) (v3_8 : Int32) (v2_8 : Int32) (ct11 : Nat → va_E) (H : Heap) (locs : List Loc) (ls : Array Slot), ((16 - v3_8.toInt : Int).toNat < n8) → (0 ≤ v3_8.toInt ∧ v3_8.toInt ≤ 16) → (1 ≤ v2_8.toInt ∧ v2_8.toInt ≤ 131072) → (v2_8.toInt = ((zlen (ct 20) : Nat) : Int) ∨ 2 * ((zlen (ct 20) : Nat) : Int) ≤ v2_8.toInt) → (zlen (ct11 20) = zlen (ct 20)) → (Inv8 g ad pe ct11) → zP g (zw 126 ad ct11) H → va_D A (zw 126 ad ct11) → va_S A s.heap H locs → lv_has ls 4 [(3, .int v3_8), (2, .int v2_8), (0, .ref (ad 17)), (1, .int who)] → W p l e (headSpec (zW yX0_makeRoom cX0_makeRoom 4 none) ({ frames := 0, cells := 1, slots := 131072, locals := 0 })).room s m ([.ref (ad0 17), .int who] : List Value).toArray below meth c H locs 0 0 (MQ below (va_Qv (fun (_ : Unit) => True) (fun _ t => ∃ (ad2 : Nat → Nat) (ct2 : Nat → va_E), (∀ j : Nat, j ≠ 20 → ad2 j = ad0 j) ∧ zP g (zw 126 ad2 ct2) t.heap ∧ va_D A (zw 126 ad2 ct2) ∧ Inv8 g ad2 pe ct2 ∧ ((t.heap.size = s.heap.size ∧ zlen (ct2 20) = zlen (ct 20)) ∨ (t.heap.size = s.heap.size + 1 ∧ ad2 20 = s.heap.size ∧ 2 * zlen (ct 20) ≤ zlen (ct2 20)))) A) ([.ref (ad0 17), .int who] : List Value).toArray s 1 131072 A) (F0 m 8 ls []) := by
    intro n8
    induction n8 with
    | zero =>
      intro v3_8 v2_8 ct11 H locs ls hn8 b3_8 b2_8 j0_8 hz hI hP hD hS hl
      exact absurd hn8 (Nat.not_lt_zero _)
    | succ n8 ih8 =>
      intro v3_8 v2_8 ct11 H locs ls hn8 b3_8 b2_8 j0_8 hz hI hP hD hS hl
      refine lv_iload_n hx hb dX0_makeRoom_8 rfl (lv_at hl 0 rfl) ?_
      refine lv_bipush (v := 16) hx hb dX0_makeRoom_9 (by decide) ?_
      refine lv_icmp_ge (tgt := 29) hx hb dX0_makeRoom_11 (by decide) (fun c12 => ?_) (fun c12 => ?_)
      · skip
        have c12 : 16 ≤ v3_8.toInt := (z_le (by decide : (16 : Int32).toInt = 16) rfl).mp c12
        refine lv_iload_n hx hb dX0_makeRoom_29 rfl (lv_at hl 1 rfl) ?_
        refine lv_aload_n hx hb dX0_makeRoom_30 rfl (lv_at hl 2 rfl) ?_
        obtain ⟨spc14, tim15, h16, h17, hs13⟩ := a8_17 hI
        refine va_get (D := g.1) (ci := 0) (v := .ref (ad 20)) (C := RX0) (T := TX0) (N := 5) hx hb hg inG0 hown hK hP 17 (zw_at (by omega) hs13) rfl 3 (by decide) (hg _ mm_220) (fun _ h9 => h9) rfl dX0_makeRoom_31 ?_
        obtain ⟨n19, f20, h21, h22, hs18⟩ := a8_20 hI
        have zhs18 : zlen (ct11 20) = n19 := by rw [hs18]; rfl
        have qnn19 : (nI n19).toInt = ((n19 : Nat) : Int) := nI_toInt (by omega)
        refine va_alen hx hb hK hP 20 0 (zw_at (by omega) hs18) (ty := .int) rfl (v := (nI n19)) rfl dX0_makeRoom_34 ?_
        refine lv_icmp_le (tgt := 45) hx hb dX0_makeRoom_35 (by decide) (fun c23 => ?_) (fun c23 => ?_)
        · skip
          have c23 : v2_8.toInt ≤ ((n19 : Nat) : Int) := (z_le rfl (nI_toInt (by omega))).mp c23
          refine W.know (fun k1 k2 k3 => ?_)
          refine W.widen (k := 1) (n := 131072) (Nat.le_of_ble_eq_true rfl) (Nat.le_of_ble_eq_true rfl) ?_
          exact W.vret hx hb hr (fun t ht hW => ⟨⟨(), rfl, trivial, ad, ct11, hadq, by rw [ht]; exact hP, hD, hI, Or.inl ⟨by first | (rw [ht]; omega) | rw [ht], hz⟩⟩, hS.F ht⟩) hS.2.2 dX0_makeRoom_45
        · skip
          have c23 : ¬ (v2_8.toInt ≤ ((n19 : Nat) : Int)) := fun q => c23 ((z_le rfl (nI_toInt (by omega))).mpr q)
          refine lv_aload_n hx hb dX0_makeRoom_38 rfl (lv_at hl 2 rfl) ?_
          refine lv_iload_n hx hb dX0_makeRoom_39 rfl (lv_at hl 1 rfl) ?_
          refine z_newI hx hb (hg _ mm_144) hK hP hD hS hA (n := v2_8) (N' := v2_8.toInt.toNat) (fun q => by have := (z_lt (b := 0) (x := v2_8) (y := 0) rfl rfl).mp q; omega) (z_cl (by omega)) (by omega) (show 0 + 1 ≤ 1 by omega) (show 0 + v2_8.toInt.toNat ≤ 131072 by omega) dX0_makeRoom_40 (fun q24 H hP hD hS => ?_)
          have h17 : (zw 126 ad ct11 ++ [(q24, (.inl (g.2 0, v2_8.toInt.toNat, .inl (fun _ => 0)) : va_E))])[17]? = some (ad 17, .inr (0, [.ref (ad 18), .int spc14, .ref (ad 19), .ref (ad 20), .int tim15])) := by rw [List.getElem?_append_left (by rw [List.length_map, List.length_range]; omega)]; exact zw_at (by omega) hs13
          refine va_put (D := g.1) (ci := 0) (v := .ref q24) (ty := .array (.int)) (C := RX0) (T := TX0) (N := 5) hx hb hg inG0 tyX0 tyX0_ok nmX0 hown hK hP hD hS 17 h17 rfl 3 (by decide) (hg _ mm_220) (fun _ h9 => h9) rfl (by decide +kernel) rfl rfl (Nat.le_of_ble_eq_true rfl) dX0_makeRoom_42 (fun H locs hP hD hS => ?_)
          have hP : zP g ((zw 126 ad ct11 ++ [(q24, (.inl (g.2 0, v2_8.toInt.toNat, .inl (fun _ => 0)) : va_E))]).set 17 (ad 17, .inr (0, [.ref (ad 18), .int spc14, .ref (ad 19), .ref q24, .int tim15]))) H := hP
          have hD : va_D A ((zw 126 ad ct11 ++ [(q24, (.inl (g.2 0, v2_8.toInt.toNat, .inl (fun _ => 0)) : va_E))]).set 17 (ad 17, .inr (0, [.ref (ad 18), .int spc14, .ref (ad 19), .ref q24, .int tim15]))) := hD
          rw [List.set_append_left _ _ (by rw [List.length_map, List.length_range]; omega), zw_set (by omega)] at hP hD
          have hsq := z_newq (ad0 := ad) hAe hD
          have hP := zw_newP (k := 20) hP
          have hD := zw_newD (k := 20) hD
          obtain ⟨ad1, had1⟩ : ∃ f : Nat → Nat, f = va_up ad 20 q24 := ⟨_, rfl⟩
          obtain ⟨ct25, ec26⟩ : ∃ z : Nat → va_E, z = va_up (va_up ct11 17 (.inr (0, [.ref (ad 18), .int spc14, .ref (ad 19), .ref q24, .int tim15]))) 20 (.inl (g.2 0, v2_8.toInt.toNat, .inl (fun _ => 0))) := ⟨_, rfl⟩
          rw [← had1, ← ec26] at hP hD
          have hadk : ∀ j : Nat, j ≠ 20 → ad1 j = ad j := fun j hj => by rw [had1, va_up_ne _ _ hj]
          have hI : Inv8 g ad1 pe ct25 := by
            rw [ec26]
            refine up8 (up8_ad hI (fun j hj => (hadk j hj).symm) ?_) (i8_20 ⟨v2_8.toInt.toNat, _, by omega, by omega, rfl⟩)
            exact i8_17 ⟨(spc14 : Int32), (tim15 : Int32), by omega, by omega, by rw [hadk 18 (by omega), hadk 19 (by omega), show ad1 20 = q24 by rw [had1]; exact va_up_self _ _ _]⟩
          have hadq : ∀ j : Nat, j ≠ 20 → ad1 j = ad0 j := fun j hj => (hadk j hj).trans (hadq j hj)
          have h20q : ad1 20 = q24 := by rw [had1]; exact va_up_self _ _ _
          have hzn : zlen (ct25 20) = v2_8.toInt.toNat := by rw [ec26, va_up_self]; rfl
          refine W.know (fun k1 k2 k3 => ?_)
          have h20 := zP_lt hP (k := 20) (by omega)
          have hgr2 : (H.size = s.heap.size ∧ zlen (ct25 20) = zlen (ct 20)) ∨ (H.size = s.heap.size + 1 ∧ ad1 20 = s.heap.size ∧ 2 * zlen (ct 20) ≤ zlen (ct25 20)) := Or.inr ⟨by omega, by omega, by omega⟩
          refine W.widen (k := 1) (n := 131072) (by omega) (by omega) ?_
          exact W.vret hx hb hr (fun t ht hW => ⟨⟨(), rfl, trivial, ad1, ct25, hadq, by rw [ht]; exact hP, hD, hI, by rw [ht]; exact hgr2⟩, hS.F ht⟩) hS.2.2 dX0_makeRoom_45
      · skip
        have c12 : ¬ (16 ≤ v3_8.toInt) := fun q => c12 ((z_le (by decide : (16 : Int32).toInt = 16) rfl).mpr q)
        refine lv_iload_n hx hb dX0_makeRoom_14 rfl (lv_at hl 1 rfl) ?_
        refine lv_iload_n hx hb dX0_makeRoom_15 rfl (lv_at hl 3 rfl) ?_
        refine lv_icmp_gt (tgt := 29) hx hb dX0_makeRoom_16 (by decide) (fun c27 => ?_) (fun c27 => ?_)
        · skip
          have c27 : who.toInt < v2_8.toInt := (z_lt rfl rfl).mp c27
          refine lv_iload_n hx hb dX0_makeRoom_29 rfl (lv_at hl 1 rfl) ?_
          refine lv_aload_n hx hb dX0_makeRoom_30 rfl (lv_at hl 2 rfl) ?_
          obtain ⟨spc29, tim30, h31, h32, hs28⟩ := a8_17 hI
          refine va_get (D := g.1) (ci := 0) (v := .ref (ad 20)) (C := RX0) (T := TX0) (N := 5) hx hb hg inG0 hown hK hP 17 (zw_at (by omega) hs28) rfl 3 (by decide) (hg _ mm_220) (fun _ h9 => h9) rfl dX0_makeRoom_31 ?_
          obtain ⟨n34, f35, h36, h37, hs33⟩ := a8_20 hI
          have zhs33 : zlen (ct11 20) = n34 := by rw [hs33]; rfl
          have qnn34 : (nI n34).toInt = ((n34 : Nat) : Int) := nI_toInt (by omega)
          refine va_alen hx hb hK hP 20 0 (zw_at (by omega) hs33) (ty := .int) rfl (v := (nI n34)) rfl dX0_makeRoom_34 ?_
          refine lv_icmp_le (tgt := 45) hx hb dX0_makeRoom_35 (by decide) (fun c38 => ?_) (fun c38 => ?_)
          · skip
            have c38 : v2_8.toInt ≤ ((n34 : Nat) : Int) := (z_le rfl (nI_toInt (by omega))).mp c38
            refine W.know (fun k1 k2 k3 => ?_)
            refine W.widen (k := 1) (n := 131072) (Nat.le_of_ble_eq_true rfl) (Nat.le_of_ble_eq_true rfl) ?_
            exact W.vret hx hb hr (fun t ht hW => ⟨⟨(), rfl, trivial, ad, ct11, hadq, by rw [ht]; exact hP, hD, hI, Or.inl ⟨by first | (rw [ht]; omega) | rw [ht], hz⟩⟩, hS.F ht⟩) hS.2.2 dX0_makeRoom_45
          · skip
            have c38 : ¬ (v2_8.toInt ≤ ((n34 : Nat) : Int)) := fun q => c38 ((z_le rfl (nI_toInt (by omega))).mpr q)
            refine lv_aload_n hx hb dX0_makeRoom_38 rfl (lv_at hl 2 rfl) ?_
            refine lv_iload_n hx hb dX0_makeRoom_39 rfl (lv_at hl 1 rfl) ?_
            refine z_newI hx hb (hg _ mm_144) hK hP hD hS hA (n := v2_8) (N' := v2_8.toInt.toNat) (fun q => by have := (z_lt (b := 0) (x := v2_8) (y := 0) rfl rfl).mp q; omega) (z_cl (by omega)) (by omega) (show 0 + 1 ≤ 1 by omega) (show 0 + v2_8.toInt.toNat ≤ 131072 by omega) dX0_makeRoom_40 (fun q39 H hP hD hS => ?_)
            have h17 : (zw 126 ad ct11 ++ [(q39, (.inl (g.2 0, v2_8.toInt.toNat, .inl (fun _ => 0)) : va_E))])[17]? = some (ad 17, .inr (0, [.ref (ad 18), .int spc29, .ref (ad 19), .ref (ad 20), .int tim30])) := by rw [List.getElem?_append_left (by rw [List.length_map, List.length_range]; omega)]; exact zw_at (by omega) hs28
            refine va_put (D := g.1) (ci := 0) (v := .ref q39) (ty := .array (.int)) (C := RX0) (T := TX0) (N := 5) hx hb hg inG0 tyX0 tyX0_ok nmX0 hown hK hP hD hS 17 h17 rfl 3 (by decide) (hg _ mm_220) (fun _ h9 => h9) rfl (by decide +kernel) rfl rfl (Nat.le_of_ble_eq_true rfl) dX0_makeRoom_42 (fun H locs hP hD hS => ?_)
            have hP : zP g ((zw 126 ad ct11 ++ [(q39, (.inl (g.2 0, v2_8.toInt.toNat, .inl (fun _ => 0)) : va_E))]).set 17 (ad 17, .inr (0, [.ref (ad 18), .int spc29, .ref (ad 19), .ref q39, .int tim30]))) H := hP
            have hD : va_D A ((zw 126 ad ct11 ++ [(q39, (.inl (g.2 0, v2_8.toInt.toNat, .inl (fun _ => 0)) : va_E))]).set 17 (ad 17, .inr (0, [.ref (ad 18), .int spc29, .ref (ad 19), .ref q39, .int tim30]))) := hD
            rw [List.set_append_left _ _ (by rw [List.length_map, List.length_range]; omega), zw_set (by omega)] at hP hD
            have hsq := z_newq (ad0 := ad) hAe hD
            have hP := zw_newP (k := 20) hP
            have hD := zw_newD (k := 20) hD
            obtain ⟨ad1, had1⟩ : ∃ f : Nat → Nat, f = va_up ad 20 q39 := ⟨_, rfl⟩
            obtain ⟨ct40, ec41⟩ : ∃ z : Nat → va_E, z = va_up (va_up ct11 17 (.inr (0, [.ref (ad 18), .int spc29, .ref (ad 19), .ref q39, .int tim30]))) 20 (.inl (g.2 0, v2_8.toInt.toNat, .inl (fun _ => 0))) := ⟨_, rfl⟩
            rw [← had1, ← ec41] at hP hD
            have hadk : ∀ j : Nat, j ≠ 20 → ad1 j = ad j := fun j hj => by rw [had1, va_up_ne _ _ hj]
            have hI : Inv8 g ad1 pe ct40 := by
              rw [ec41]
              refine up8 (up8_ad hI (fun j hj => (hadk j hj).symm) ?_) (i8_20 ⟨v2_8.toInt.toNat, _, by omega, by omega, rfl⟩)
              exact i8_17 ⟨(spc29 : Int32), (tim30 : Int32), by omega, by omega, by rw [hadk 18 (by omega), hadk 19 (by omega), show ad1 20 = q39 by rw [had1]; exact va_up_self _ _ _]⟩
            have hadq : ∀ j : Nat, j ≠ 20 → ad1 j = ad0 j := fun j hj => (hadk j hj).trans (hadq j hj)
            have h20q : ad1 20 = q39 := by rw [had1]; exact va_up_self _ _ _
            have hzn : zlen (ct40 20) = v2_8.toInt.toNat := by rw [ec41, va_up_self]; rfl
            refine W.know (fun k1 k2 k3 => ?_)
            have h20 := zP_lt hP (k := 20) (by omega)
            have hgr2 : (H.size = s.heap.size ∧ zlen (ct40 20) = zlen (ct 20)) ∨ (H.size = s.heap.size + 1 ∧ ad1 20 = s.heap.size ∧ 2 * zlen (ct 20) ≤ zlen (ct40 20)) := Or.inr ⟨by omega, by omega, by omega⟩
            refine W.widen (k := 1) (n := 131072) (by omega) (by omega) ?_
            exact W.vret hx hb hr (fun t ht hW => ⟨⟨(), rfl, trivial, ad1, ct40, hadq, by rw [ht]; exact hP, hD, hI, by rw [ht]; exact hgr2⟩, hS.F ht⟩) hS.2.2 dX0_makeRoom_45
        · skip
          have c27 : ¬ (who.toInt < v2_8.toInt) := fun q => c27 ((z_lt rfl rfl).mpr q)
          refine lv_iconst (v := 2) hx hb dX0_makeRoom_19 (by decide) ?_
          refine lv_iload_n hx hb dX0_makeRoom_20 rfl (lv_at hl 1 rfl) ?_
          refine lv_imul hx hb dX0_makeRoom_21 ?_
          refine lv_topi (fun x42 ex42 => ?_)
          have tx42 : x42.toInt = 2 * v2_8.toInt := by rw [ex42]; exact z_mul (by decide : (2 : Int32).toInt = 2) rfl (by omega) (by omega)
          refine lv_istore_n (lv' := [(2, .int x42), (3, .int v3_8), (0, .ref (ad 17)), (1, .int who)]) hx hb dX0_makeRoom_22 rfl hl (by decide) rfl (fun ls hl => ?_)
          obtain ⟨x43, ex43⟩ : ∃ y : Int32, y = v3_8 + 1 := ⟨_, rfl⟩
          have tx43 : x43.toInt = v3_8.toInt + 1 := by rw [ex43]; exact z_add rfl (by decide : (1 : Int32).toInt = 1) (by omega) (by omega)
          refine lv_iinc (v := x43) (lv' := [(3, .int x43), (2, .int x42), (0, .ref (ad 17)), (1, .int who)]) hx hb dX0_makeRoom_23 hl (k := 1) rfl (by rw [ex43]; rfl) (by decide) rfl (fun ls hl => ?_)
          refine lv_goto (tgt := 8) hx hb dX0_makeRoom_26 (by decide) ?_
          exact ih8 x43 x42 ct11 _ _ ls (by omega) (by first | omega | decide) (by first | omega | decide) (by first | omega | decide) hz hI hP hD hS (lv_sub hl [0, 1, 2, 3] rfl)
  exact loop8 ((16 - (0 : Int32).toInt : Int).toNat + 1) (0 : Int32) (nI n7) ct _ _ ls (by omega) (by first | omega | decide) (by first | omega | decide) (by first | omega | decide) hz hI hP hD hS (lv_sub hl [0, 1, 2, 3] rfl)

set_option maxHeartbeats 4000000 in
set_option maxRecDepth 100000 in
theorem k_X0_prepare (l : Launch) (g : zG) (sz : Nat) (ad0 : Nat → Nat) (pe : Int32) (ct : Nat → va_E) (who : Int32) (hl_who : 0 ≤ who.toInt ∧ who.toInt ≤ 65535) (hI : Inv8 g ad0 pe ct) : Met l yX0_prepare (zW yX0_prepare cX0_prepare 7 none) ({ frames := 1, cells := 1, slots := 131072, locals := 24 }) (va_Pc [.ref (ad0 17), .ref (ad0 1), .int who] (zA g (zw 126 ad0 ct) sz)) (va_Qv (fun (_ : Unit) => True) (fun _ t => ∃ (ad2 : Nat → Nat) (ct2 : Nat → va_E), (∀ j : Nat, j ≠ 20 → ad2 j = ad0 j) ∧ zP g (zw 126 ad2 ct2) t.heap ∧ va_D (va_A (zw 126 ad0 ct) sz) (zw 126 ad2 ct2) ∧ Inv8 g ad2 pe ct2 ∧ ((t.heap.size = sz ∧ zlen (ct2 20) = zlen (ct 20)) ∨ (t.heap.size = sz + 1 ∧ ad2 20 = sz ∧ 2 * zlen (ct 20) ≤ zlen (ct2 20)))) (va_A (zw 126 ad0 ct) sz)) 1 131072 (va_A (zw 126 ad0 ct) sz) := by
  refine Met.ofW (cc := cX0_prepare) (maxL := 7) (ret := none) (by decide) rfl ?_
  intro p e s m args below meth c s₁ B hml hv
  obtain ⟨rfl, hsz, hP, hK, hD0, hN⟩ := hv
  have hx := B.exec
  have hb := B.bytes
  have hr := B.returns
  have hg := zW.law (atoms_spec (ws := (zW yX0_prepare cX0_prepare 7 none)) B.pre)
  have hown : s.vm.findClass RX0 = some m.cls := findClass_of_methodNamed B.named
  have hlocks := B.notSynchronized
  have hpe0 := hI.1
  subst hsz
  have hD := hD0.self (sz := s.heap.size)
  generalize hAe : va_A (zw 126 ad0 ct) s.heap.size = A at hD ⊢
  have hA : ∀ q : Nat, s.heap.size ≤ q → A q := fun q h => by rw [← hAe]; exact Or.inr h
  have hS : va_S A s.heap s.heap [] := va_S.rf
  have hl := lv_entry ([.ref (ad0 17), .ref (ad0 1), .int who]) (n := 7) (Nat.le_of_ble_eq_true rfl)
  rw [lg_entry_eq]
  generalize (lg_sl ([.ref (ad0 17), .ref (ad0 1), .int who]) ++ List.replicate (7 - (lg_sl ([.ref (ad0 17), .ref (ad0 1), .int who])).length) Slot.unset).toArray = ls at hl ⊢
  have hl : lv_has ls 7 [(0, .ref (ad0 17)), (1, .ref (ad0 1)), (2, .int who)] := hl
  obtain ⟨ad, had⟩ : ∃ f : Nat → Nat, f = ad0 := ⟨_, rfl⟩
  rw [← had] at hP hD hI hl hAe
  have hadq : ∀ j : Nat, j ≠ 20 → ad j = ad0 j := fun j _ => by rw [had]
  have hz : zlen (ct 20) = zlen (ct 20) := rfl
  refine lv_aload_n hx hb dX0_prepare_0 rfl (lv_at hl 0 rfl) ?_
  refine lv_iload_n hx hb dX0_prepare_1 rfl (lv_at hl 2 rfl) ?_
  obtain ⟨spc2, tim3, h4, h5, hs1⟩ := a8_17 hI
  have hFc := zw_free hD hS hA
  refine W.know (fun k1 k2 k3 => ?_)
  refine va_callv (va_runV (As := [.int who]) (rest := []) ⟨hx, hb, hml, hown, hg⟩ (zs_v hI (k_X0_makeRoom l g _ ad pe ct who (by first | omega | decide) hI)) (cwV 1 hg (z_gV mm_807 mm_809 mm_35 mm_112 mm_810) rfl rfl rfl (by decide +kernel) ⟨Nat.le_of_ble_eq_true rfl, Nat.le_of_ble_eq_true rfl⟩) ⟨(zA.pre [.ref (ad 17), .int who] hP hK hD hN).1, va_recv hK hP (ci := 0) (q0 := 17) rfl (zw_at (by omega) hs1), (zA.pre [.ref (ad 17), .int who] hP hK hD hN).2⟩ rfl rfl hl.1 rfl (lv_room (Nat.le_of_ble_eq_true rfl)) dX0_prepare_2 ⟨Nat.le_of_ble_eq_true rfl, Nat.le_of_ble_eq_true rfl⟩) hS (fun q _ h => hFc q h) hFc (fun hr6 t H1 locs ht hvm hr62 hB hz1 hk1 hS => ?_)
  obtain ⟨⟨ad, ct7, hadk, hP1, hD1, hI, hgr⟩, hzs⟩ := hB
  rw [ht] at hP1 hgr
  have hD := hD1.weaken (fun _ _ _ h => hFc _ h)
  rw [← hadk 1 (by omega), ← hadk 17 (by omega)] at hl
  have hadq : ∀ j : Nat, j ≠ 20 → ad j = ad0 j := fun j hj => (hadk j hj).trans (hadq j hj)
  have hzl := a8_20 hI
  obtain ⟨n_q, f_q, hq1, hq2, hq3⟩ := hzl
  have hq4 : zlen (ct7 20) = n_q := by rw [hq3]; rfl
  have h20 : H1[ad 20]? = some _ := hP1 20 _ (zw_at (by omega) hq3)
  obtain ⟨kq, nq, hsz, hnq, hk1q, hnq1, hq⟩ : ∃ kq nq : Nat, H1.size ≤ s.heap.size + kq ∧ hsum H1 s.heap.size ≤ nq ∧ kq ≤ 1 ∧ nq ≤ 131072 ∧ ((kq = 0 ∧ nq = 0 ∧ zlen (ct7 20) = zlen (ct 20)) ∨ (kq = 1 ∧ nq = zlen (ct7 20) ∧ ad 20 = s.heap.size ∧ 2 * zlen (ct 20) ≤ zlen (ct7 20))) := by
    rcases hgr with ⟨g1, g2⟩ | ⟨g1, g2, g3⟩
    · exact ⟨0, 0, by omega, by rw [hsum_0 (by omega)]; exact Nat.le_refl _, by omega, by omega, Or.inl ⟨rfl, rfl, by omega⟩⟩
    · refine ⟨1, n_q, by omega, ?_, by omega, by omega, Or.inr ⟨rfl, by omega, by omega, by omega⟩⟩
      rw [show s.heap.size = ad 20 by omega, hsum_1 h20, hsum_0 (by omega)]
      exact Nat.le_of_eq (arrV_size _ _ _)
  refine W.tight hsz hnq ?_
  clear h20 hsz hnq
  generalize H1 = H at hP1 hS hgr ⊢
  have hP := hP1
  obtain ⟨nL, hz⟩ : ∃ n, zlen (ct7 20) = n := ⟨_, rfl⟩
  rw [hz] at hq
  refine lv_aload_n hx hb dX0_prepare_5 rfl (lv_at hl 0 rfl) ?_
  refine lv_iconst (v := 0) hx hb dX0_prepare_6 (by decide) ?_
  obtain ⟨spc9, tim10, h11, h12, hs8⟩ := a8_17 hI
  refine va_put (D := g.1) (ci := 0) (v := .int 0) (ty := .int) (C := RX0) (T := TX0) (N := 5) hx hb hg inG0 tyX0 tyX0_ok nmX0 hown hK hP hD hS 17 (zw_at (by omega) hs8) rfl 1 (by decide) (hg _ mm_218) (fun _ h9 => h9) rfl (by decide +kernel) rfl rfl (Nat.le_of_ble_eq_true rfl) dX0_prepare_7 (fun H locs hP hD hS => ?_)
  have hP : zP g ((zw 126 ad ct7).set 17 (ad 17, .inr (0, [.ref (ad 18), .int 0, .ref (ad 19), .ref (ad 20), .int tim10]))) H := hP
  have hD : va_D A ((zw 126 ad ct7).set 17 (ad 17, .inr (0, [.ref (ad 18), .int 0, .ref (ad 19), .ref (ad 20), .int tim10]))) := hD
  rw [zw_set (by omega)] at hP hD
  obtain ⟨ct13, ec14⟩ : ∃ z : Nat → va_E, z = va_up ct7 17 (.inr (0, [.ref (ad 18), .int 0, .ref (ad 19), .ref (ad 20), .int tim10])) := ⟨_, rfl⟩
  rw [← ec14] at hP hD
  have hI : Inv8 g ad pe ct13 := by rw [ec14]; exact up8 hI (i8_17 ⟨(0 : Int32), (tim10 : Int32), (by first | omega | decide), (by first | omega | decide), rfl⟩)
  have hz : zlen (ct13 20) = nL := by rw [ec14]; exact (congrArg zlen (va_up_ne _ _ (by omega))).trans hz
  have hs15 : ct13 17 = .inr (0, [.ref (ad 18), .int 0, .ref (ad 19), .ref (ad 20), .int tim10]) := by rw [ec14]; exact va_up_self _ _ _
  refine lv_iconst (v := 1) hx hb dX0_prepare_10 (by decide) ?_
  refine lv_iload_n hx hb dX0_prepare_11 rfl (lv_at hl 2 rfl) ?_
  refine zc_i (va_runSN (As := [.int who]) (rest := [.int 1]) ⟨hx, hb, hml, hown, hg⟩ (k_low16 l g ad pe ct13 who (by first | omega | decide) hI) ⟨va_cnB 1 hg (z_gN mm_746) rfl rfl rfl (hN.at 14 rfl) (hg _ mm_108) (by decide +kernel) ⟨Nat.le_of_ble_eq_true rfl, Nat.le_of_ble_eq_true rfl⟩, (hg _ mm_745), trivial⟩ (zR.pre [.int who] hP hK hN) rfl rfl hl.1 rfl (lv_room (Nat.le_of_ble_eq_true rfl)) dX0_prepare_12 ⟨(show kq + 0 ≤ 1 by omega), (show nq + 0 ≤ 131072 by omega)⟩) (fun r16 hr16 => ?_)
  obtain ⟨hr16_0, hr16_1⟩ := hr16
  have hr16_0 : -1 ≤ r16.toInt := hr16_0
  have hr16_1 : r16.toInt ≤ 15 := hr16_1
  refine lv_iconst (v := 0) hx hb dX0_prepare_15 (by decide) ?_
  refine va_mmax hx hb (hml.trans hl.1.symm) hown (hg _ mm_812) (hg _ mm_780) (hg _ mm_118) (hg _ mm_781) (by first | exact Nat.le_of_ble_eq_true rfl | exact (show kq ≤ 1 by omega) | exact (show nq ≤ 131072 by omega)) (by first | exact Nat.le_of_ble_eq_true rfl | exact (show kq ≤ 1 by omega) | exact (show nq ≤ 131072 by omega)) (by first | exact Nat.le_of_ble_eq_true rfl | exact (show kq ≤ 1 by omega) | exact (show nq ≤ 131072 by omega)) (by first | exact Nat.le_of_ble_eq_true rfl | exact (show kq ≤ 1 by omega) | exact (show nq ≤ 131072 by omega)) dX0_prepare_16 ?_
  refine lv_topi (fun x17 ex17 => ?_)
  have tx17 := z_max (x := r16) (y := 0) rfl (by decide : (0 : Int32).toInt = 0)
  rw [← ex17] at tx17
  refine lv_ishl hx hb dX0_prepare_19 ?_
  refine lv_topi (fun x18 ex18 => ?_)
  have tx18 := z_shl1 (y := x17) rfl (by omega) (k := 15) (by decide) (by omega)
  rw [← ex18] at tx18
  refine lv_istore_n (lv' := [(3, .int x18), (0, .ref (ad 17)), (1, .ref (ad 1)), (2, .int who)]) hx hb dX0_prepare_20 rfl hl (by decide) rfl (fun ls hl => ?_)
  refine lv_iconst (v := 0) hx hb dX0_prepare_21 (by decide) ?_
  refine lv_istore (lv' := [(4, .int 0), (3, .int x18), (0, .ref (ad 17)), (1, .ref (ad 1)), (2, .int who)]) hx hb dX0_prepare_22 hl (by decide) rfl (fun ls hl => ?_)
  have loop24 : ∀ (n24 : Nat) (v4_24 : Int32) (ct19 : Nat → va_E) (H : Heap) (locs : List Loc) (ls : Array Slot), ((4 - v4_24.toInt : Int).toNat < n24) → (0 ≤ v4_24.toInt ∧ v4_24.toInt ≤ 4) → (zlen (ct19 20) = nL) → (Inv8 g ad pe ct19) → zP g (zw 126 ad ct19) H → va_D A (zw 126 ad ct19) → va_S A s.heap H locs → lv_has ls 7 [(4, .int v4_24), (3, .int x18), (0, .ref (ad 17)), (1, .ref (ad 1)), (2, .int who)] → W p l e (headSpec (zW yX0_prepare cX0_prepare 7 none) ({ frames := 1, cells := 1, slots := 131072, locals := 24 })).room s m ([.ref (ad0 17), .ref (ad0 1), .int who] : List Value).toArray below meth c H locs kq nq (MQ below (va_Qv (fun (_ : Unit) => True) (fun _ t => ∃ (ad2 : Nat → Nat) (ct2 : Nat → va_E), (∀ j : Nat, j ≠ 20 → ad2 j = ad0 j) ∧ zP g (zw 126 ad2 ct2) t.heap ∧ va_D A (zw 126 ad2 ct2) ∧ Inv8 g ad2 pe ct2 ∧ ((t.heap.size = s.heap.size ∧ zlen (ct2 20) = zlen (ct 20)) ∨ (t.heap.size = s.heap.size + 1 ∧ ad2 20 = s.heap.size ∧ 2 * zlen (ct 20) ≤ zlen (ct2 20)))) A) ([.ref (ad0 17), .ref (ad0 1), .int who] : List Value).toArray s 1 131072 A) (F0 m 24 ls []) := by
    intro n24
    induction n24 with
    | zero =>
      intro v4_24 ct19 H locs ls hn24 b4_24 hz hI hP hD hS hl
      exact absurd hn24 (Nat.not_lt_zero _)
    | succ n24 ih24 =>
      intro v4_24 ct19 H locs ls hn24 b4_24 hz hI hP hD hS hl
      refine lv_iload hx hb dX0_prepare_24 (lv_at hl 0 rfl) ?_
      refine lv_iconst (v := 4) hx hb dX0_prepare_26 (by decide) ?_
      refine lv_icmp_ge (tgt := 95) hx hb dX0_prepare_27 (by decide) (fun c20 => ?_) (fun c20 => ?_)
      · skip
        have c20 : 4 ≤ v4_24.toInt := (z_le (by decide : (4 : Int32).toInt = 4) rfl).mp c20
        refine W.know (fun k1 k2 k3 => ?_)
        have h20 := zP_lt hP (k := 20) (by omega)
        refine W.widen (k := 1) (n := 131072) (by omega) (by omega) ?_
        have hgr2 : (H.size = s.heap.size ∧ zlen (ct19 20) = zlen (ct 20)) ∨ (H.size = s.heap.size + 1 ∧ ad 20 = s.heap.size ∧ 2 * zlen (ct 20) ≤ zlen (ct19 20)) := by
          rcases hq with ⟨q1, q2, q3⟩ | ⟨q1, q2, q3, q4⟩
          · exact Or.inl ⟨by omega, by omega⟩
          · exact Or.inr ⟨by omega, q3, by omega⟩
        exact W.vret hx hb hr (fun t ht hW => ⟨⟨(), rfl, trivial, ad, ct19, hadq, by rw [ht]; exact hP, hD, hI, by rw [ht]; exact hgr2⟩, hS.F ht⟩) hS.2.2 dX0_prepare_95
      · skip
        have c20 : ¬ (4 ≤ v4_24.toInt) := fun q => c20 ((z_le (by decide : (4 : Int32).toInt = 4) rfl).mpr q)
        refine lv_iload hx hb dX0_prepare_30 (lv_at hl 0 rfl) ?_
        refine lv_aload_n hx hb dX0_prepare_32 rfl (lv_at hl 3 rfl) ?_
        have hs21 := a8_1 hI
        refine va_alen hx hb hK hP 1 4 (zw_at (by omega) hs21) (ty := .object "TwoFit$Column") rfl (v := 4) (rfl) dX0_prepare_33 ?_
        refine lv_icmp_ge (tgt := 95) hx hb dX0_prepare_34 (by decide) (fun c22 => ?_) (fun c22 => ?_)
        · skip
          have c22 : 4 ≤ v4_24.toInt := (z_le (by decide : (4 : Int32).toInt = 4) rfl).mp c22
          exfalso
          omega
        · skip
          have c22 : ¬ (4 ≤ v4_24.toInt) := fun q => c22 ((z_le (by decide : (4 : Int32).toInt = 4) rfl).mpr q)
          refine lv_iconst (v := 0) hx hb dX0_prepare_37 (by decide) ?_
          refine lv_istore (lv' := [(5, .int 0), (4, .int v4_24), (3, .int x18), (0, .ref (ad 17)), (1, .ref (ad 1)), (2, .int who)]) hx hb dX0_prepare_38 hl (by decide) rfl (fun ls hl => ?_)
          have loop40 : ∀ (n40 : Nat) (v5_40 : Int32) (ct23 : Nat → va_E) (H : Heap) (locs : List Loc) (ls : Array Slot), ((32 - v5_40.toInt : Int).toNat < n40) → (0 ≤ v5_40.toInt ∧ v5_40.toInt ≤ 32) → (zlen (ct23 20) = nL) → (Inv8 g ad pe ct23) → zP g (zw 126 ad ct23) H → va_D A (zw 126 ad ct23) → va_S A s.heap H locs → lv_has ls 7 [(5, .int v5_40), (4, .int v4_24), (3, .int x18), (0, .ref (ad 17)), (1, .ref (ad 1)), (2, .int who)] → W p l e (headSpec (zW yX0_prepare cX0_prepare 7 none) ({ frames := 1, cells := 1, slots := 131072, locals := 24 })).room s m ([.ref (ad0 17), .ref (ad0 1), .int who] : List Value).toArray below meth c H locs kq nq (MQ below (va_Qv (fun (_ : Unit) => True) (fun _ t => ∃ (ad2 : Nat → Nat) (ct2 : Nat → va_E), (∀ j : Nat, j ≠ 20 → ad2 j = ad0 j) ∧ zP g (zw 126 ad2 ct2) t.heap ∧ va_D A (zw 126 ad2 ct2) ∧ Inv8 g ad2 pe ct2 ∧ ((t.heap.size = s.heap.size ∧ zlen (ct2 20) = zlen (ct 20)) ∨ (t.heap.size = s.heap.size + 1 ∧ ad2 20 = s.heap.size ∧ 2 * zlen (ct 20) ≤ zlen (ct2 20)))) A) ([.ref (ad0 17), .ref (ad0 1), .int who] : List Value).toArray s 1 131072 A) (F0 m 40 ls []) := by
            intro n40
            induction n40 with
            | zero =>
              intro v5_40 ct23 H locs ls hn40 b5_40 hz hI hP hD hS hl
              exact absurd hn40 (Nat.not_lt_zero _)
            | succ n40 ih40 =>
              intro v5_40 ct23 H locs ls hn40 b5_40 hz hI hP hD hS hl
              refine lv_iload hx hb dX0_prepare_40 (lv_at hl 0 rfl) ?_
              refine lv_bipush (v := 32) hx hb dX0_prepare_42 (by decide) ?_
              refine lv_icmp_ge (tgt := 89) hx hb dX0_prepare_44 (by decide) (fun c24 => ?_) (fun c24 => ?_)
              · skip
                have c24 : 32 ≤ v5_40.toInt := (z_le (by decide : (32 : Int32).toInt = 32) rfl).mp c24
                obtain ⟨x25, ex25⟩ : ∃ y : Int32, y = v4_24 + 1 := ⟨_, rfl⟩
                have tx25 : x25.toInt = v4_24.toInt + 1 := by rw [ex25]; exact z_add rfl (by decide : (1 : Int32).toInt = 1) (by omega) (by omega)
                refine lv_iinc (v := x25) (lv' := [(4, .int x25), (5, .int v5_40), (3, .int x18), (0, .ref (ad 17)), (1, .ref (ad 1)), (2, .int who)]) hx hb dX0_prepare_89 hl (k := 1) rfl (by rw [ex25]; rfl) (by decide) rfl (fun ls hl => ?_)
                refine lv_goto (tgt := 24) hx hb dX0_prepare_92 (by decide) ?_
                exact ih24 x25 ct23 _ _ ls (by omega) (by first | omega | decide) hz hI hP hD hS (lv_sub hl [0, 2, 3, 4, 5] rfl)
              · skip
                have c24 : ¬ (32 ≤ v5_40.toInt) := fun q => c24 ((z_le (by decide : (32 : Int32).toInt = 32) rfl).mpr q)
                refine lv_aload_n hx hb dX0_prepare_47 rfl (lv_at hl 4 rfl) ?_
                refine lv_iload hx hb dX0_prepare_48 (lv_at hl 1 rfl) ?_
                have hs26 := a8_1 hI
                refine va_aldq hx hb hK hP 1 4 (zw_at (by omega) hs26) rfl (z_in rfl (by omega) (by omega)) dX0_prepare_50 ?_
                rw [zF1_at (x := v4_24) (by omega) (by omega)]
                refine lv_iload hx hb dX0_prepare_51 (lv_at hl 0 rfl) ?_
                obtain ⟨we28, se29, h30, h31, hs27⟩ := a8_35 (kc := (0 + 35 + 5 * v4_24.toInt.toNat)) (by omega) hI
                refine zc_i (va_runV (As := [.int v5_40]) (rest := []) ⟨hx, hb, hml, hown, hg⟩ (k_X3_whoBelow l g ad pe ct23 (0 + 35 + 5 * v4_24.toInt.toNat) v5_40 (by omega) hI) (cwV 1 hg (z_gV mm_813 mm_688 mm_689 mm_115 mm_690) rfl rfl rfl (by decide +kernel) ⟨Nat.le_of_ble_eq_true rfl, Nat.le_of_ble_eq_true rfl⟩) ⟨(zR.pre [.ref (ad (0 + 35 + 5 * v4_24.toInt.toNat)), .int v5_40] hP hK hN).1, va_recv hK hP (ci := 3) (q0 := (0 + 35 + 5 * v4_24.toInt.toNat)) rfl (zw_at (by omega) hs27), (zR.pre [.ref (ad (0 + 35 + 5 * v4_24.toInt.toNat)), .int v5_40] hP hK hN).2⟩ rfl rfl hl.1 rfl (lv_room (Nat.le_of_ble_eq_true rfl)) dX0_prepare_53 ⟨(show kq + 0 ≤ 1 by omega), (show nq + 0 ≤ 131072 by omega)⟩) (fun r32 hr32 => ?_)
                refine lv_iload_n hx hb dX0_prepare_56 rfl (lv_at hl 5 rfl) ?_
                refine lv_iand hx hb dX0_prepare_57 ?_
                refine lv_topi (fun x33 ex33 => ?_)
                have tx33 := z_andr (x := r32) (y := who) rfl (by omega)
                rw [← ex33] at tx33
                refine lv_istore (lv' := [(6, .int x33), (5, .int v5_40), (4, .int v4_24), (3, .int x18), (0, .ref (ad 17)), (1, .ref (ad 1)), (2, .int who)]) hx hb dX0_prepare_58 hl (by decide) rfl (fun ls hl => ?_)
                refine lv_aload_n hx hb dX0_prepare_60 rfl (lv_at hl 4 rfl) ?_
                refine lv_iload hx hb dX0_prepare_61 (lv_at hl 0 rfl) ?_
                refine lv_iload_n hx hb dX0_prepare_63 rfl (lv_at hl 3 rfl) ?_
                refine lv_iand hx hb dX0_prepare_64 ?_
                refine lv_topi (fun x34 ex34 => ?_)
                have tx34 := z_andr (x := x33) (y := x18) rfl (by omega)
                rw [← ex34] at tx34
                refine lv_if_ne (tgt := 77) hx hb dX0_prepare_65 (by decide) (fun c35 => ?_) (fun c35 => ?_)
                · skip
                  have c35 : ¬ (x34.toInt = 0) := fun q => c35 ((z_eq rfl (by decide : (0 : Int32).toInt = 0)).mpr q)
                  refine lv_iload hx hb dX0_prepare_77 (lv_at hl 0 rfl) ?_
                  refine lv_iload_n hx hb dX0_prepare_79 rfl (lv_at hl 6 rfl) ?_
                  obtain ⟨spc37, tim38, h39, h40, hs36⟩ := a8_17 hI
                  have hFc := zw_free hD hS hA
                  refine va_callv (va_runV (As := [.int x33, .int who]) (rest := []) ⟨hx, hb, hml, hown, hg⟩ (zs_v hI (k_X0_addSplit l g _ ad pe ct23 x33 who hI)) (cwV 2 hg (z_gV mm_814 mm_816 mm_36 mm_112 mm_817) rfl rfl rfl (by decide +kernel) ⟨Nat.le_of_ble_eq_true rfl, Nat.le_of_ble_eq_true rfl⟩) ⟨(zA.pre [.ref (ad 17), .int x33, .int who] hP hK hD hN).1, va_recv hK hP (ci := 0) (q0 := 17) rfl (zw_at (by omega) hs36), (zA.pre [.ref (ad 17), .int x33, .int who] hP hK hD hN).2⟩ rfl rfl hl.1 rfl (lv_room (Nat.le_of_ble_eq_true rfl)) dX0_prepare_80 ⟨(show kq + 0 ≤ 1 by omega), (show nq + 0 ≤ 131072 by omega)⟩) hS (fun q _ h => hFc q h) hFc (fun _ t H1 locs ht hvm hr41 hB hz1 hk1 hS => ?_)
                  obtain ⟨hB, hzs⟩ := hB
                  rw [ht] at hzs
                  obtain ⟨ct42, hP1, hD1, hI⟩ := hB
                  rw [ht] at hP1
                  have hD := hD1.weaken (fun _ _ _ h => hFc _ h)
                  generalize H1 = H at hP1 hS hzs ⊢
                  have hP := hP1
                  refine W.widen (k := kq) (n := nq) (Nat.le_refl _) (Nat.le_refl _) ?_
                  have hz : zlen (ct42 20) = nL := (hzs.eq hP hI).trans hz
                  obtain ⟨x43, ex43⟩ : ∃ y : Int32, y = v5_40 + 1 := ⟨_, rfl⟩
                  have tx43 : x43.toInt = v5_40.toInt + 1 := by rw [ex43]; exact z_add rfl (by decide : (1 : Int32).toInt = 1) (by omega) (by omega)
                  refine lv_iinc (v := x43) (lv' := [(5, .int x43), (6, .int x33), (4, .int v4_24), (3, .int x18), (0, .ref (ad 17)), (1, .ref (ad 1)), (2, .int who)]) hx hb dX0_prepare_83 hl (k := 1) rfl (by rw [ex43]; rfl) (by decide) rfl (fun ls hl => ?_)
                  refine lv_goto (tgt := 40) hx hb dX0_prepare_86 (by decide) ?_
                  exact ih40 x43 ct42 _ _ ls (by omega) (by first | omega | decide) hz hI hP hD hS (lv_sub hl [0, 2, 3, 4, 5, 6] rfl)
                · skip
                  have c35 : x34.toInt = 0 := (z_eq rfl (by decide : (0 : Int32).toInt = 0)).mp c35
                  refine lv_iload_n hx hb dX0_prepare_68 rfl (lv_at hl 6 rfl) ?_
                  refine lv_iload hx hb dX0_prepare_69 (lv_at hl 0 rfl) ?_
                  refine lv_iconst (v := (-1)) hx hb dX0_prepare_71 (by decide) ?_
                  refine lv_ixor hx hb dX0_prepare_72 ?_
                  refine lv_topi (fun x44 ex44 => ?_)
                  refine lv_iand hx hb dX0_prepare_73 ?_
                  refine lv_topi (fun x45 ex45 => ?_)
                  have tx45 := z_andl (x := who) (y := x44) rfl (by omega)
                  rw [← ex45] at tx45
                  refine lv_goto (tgt := 79) hx hb dX0_prepare_74 (by decide) ?_
                  refine lv_iload_n hx hb dX0_prepare_79 rfl (lv_at hl 6 rfl) ?_
                  obtain ⟨spc47, tim48, h49, h50, hs46⟩ := a8_17 hI
                  have hFc := zw_free hD hS hA
                  refine va_callv (va_runV (As := [.int x45, .int who]) (rest := []) ⟨hx, hb, hml, hown, hg⟩ (zs_v hI (k_X0_addSplit l g _ ad pe ct23 x45 who hI)) (cwV 2 hg (z_gV mm_814 mm_816 mm_36 mm_112 mm_817) rfl rfl rfl (by decide +kernel) ⟨Nat.le_of_ble_eq_true rfl, Nat.le_of_ble_eq_true rfl⟩) ⟨(zA.pre [.ref (ad 17), .int x45, .int who] hP hK hD hN).1, va_recv hK hP (ci := 0) (q0 := 17) rfl (zw_at (by omega) hs46), (zA.pre [.ref (ad 17), .int x45, .int who] hP hK hD hN).2⟩ rfl rfl hl.1 rfl (lv_room (Nat.le_of_ble_eq_true rfl)) dX0_prepare_80 ⟨(show kq + 0 ≤ 1 by omega), (show nq + 0 ≤ 131072 by omega)⟩) hS (fun q _ h => hFc q h) hFc (fun _ t H1 locs ht hvm hr51 hB hz1 hk1 hS => ?_)
                  obtain ⟨hB, hzs⟩ := hB
                  rw [ht] at hzs
                  obtain ⟨ct52, hP1, hD1, hI⟩ := hB
                  rw [ht] at hP1
                  have hD := hD1.weaken (fun _ _ _ h => hFc _ h)
                  generalize H1 = H at hP1 hS hzs ⊢
                  have hP := hP1
                  refine W.widen (k := kq) (n := nq) (Nat.le_refl _) (Nat.le_refl _) ?_
                  have hz : zlen (ct52 20) = nL := (hzs.eq hP hI).trans hz
                  obtain ⟨x53, ex53⟩ : ∃ y : Int32, y = v5_40 + 1 := ⟨_, rfl⟩
                  have tx53 : x53.toInt = v5_40.toInt + 1 := by rw [ex53]; exact z_add rfl (by decide : (1 : Int32).toInt = 1) (by omega) (by omega)
                  refine lv_iinc (v := x53) (lv' := [(5, .int x53), (6, .int x33), (4, .int v4_24), (3, .int x18), (0, .ref (ad 17)), (1, .ref (ad 1)), (2, .int who)]) hx hb dX0_prepare_83 hl (k := 1) rfl (by rw [ex53]; rfl) (by decide) rfl (fun ls hl => ?_)
                  refine lv_goto (tgt := 40) hx hb dX0_prepare_86 (by decide) ?_
                  exact ih40 x53 ct52 _ _ ls (by omega) (by first | omega | decide) hz hI hP hD hS (lv_sub hl [0, 2, 3, 4, 5, 6] rfl)
          exact loop40 ((32 - (0 : Int32).toInt : Int).toNat + 1) (0 : Int32) ct19 _ _ ls (by omega) (by first | omega | decide) hz hI hP hD hS (lv_sub hl [0, 1, 2, 3, 4, 5] rfl)
  exact loop24 ((4 - (0 : Int32).toInt : Int).toNat + 1) (0 : Int32) ct13 _ _ ls (by omega) (by first | omega | decide) hz hI hP hD hS (lv_sub hl [0, 1, 2, 3, 4] rfl)

set_option maxHeartbeats 4000000 in
set_option maxRecDepth 100000 in
theorem k_X8_questions (l : Launch) (g : zG) (sz : Nat) (ad0 : Nat → Nat) (pe : Int32) (ct : Nat → va_E) (b : Int32) (i : Int32) (kn : Int32) (wh : Int32) (hI : Inv8 g ad0 pe ct) : Met l yX8_questions (zW yX8_questions cX8_questions 7 (some .int)) ({ frames := 35, cells := 1, slots := 131072, locals := 885 }) (va_Pc [.ref (ad0 0), .int b, .int i, .int kn, .int wh] (zA g (zw 126 ad0 ct) sz)) (va_Qi (fun (r : Int32) (_ : Unit) => (True)) (fun _ t => ∃ (ad2 : Nat → Nat) (ct2 : Nat → va_E), (∀ j : Nat, j ≠ 20 → ad2 j = ad0 j) ∧ zP g (zw 126 ad2 ct2) t.heap ∧ va_D (va_A (zw 126 ad0 ct) sz) (zw 126 ad2 ct2) ∧ Inv8 g ad2 pe ct2 ∧ ((t.heap.size = sz ∧ zlen (ct2 20) = zlen (ct 20)) ∨ (t.heap.size = sz + 1 ∧ ad2 20 = sz ∧ 2 * zlen (ct 20) ≤ zlen (ct2 20)))) (va_A (zw 126 ad0 ct) sz)) 1 131072 (va_A (zw 126 ad0 ct) sz) := by
  refine Met.ofW (cc := cX8_questions) (maxL := 7) (ret := (some .int)) (by decide) rfl ?_
  intro p e s m args below meth c s₁ B hml hv
  obtain ⟨rfl, hsz, hP, hK, hD0, hN⟩ := hv
  have hx := B.exec
  have hb := B.bytes
  have hr := B.returns
  have hg := zW.law (atoms_spec (ws := (zW yX8_questions cX8_questions 7 (some .int))) B.pre)
  have hown : s.vm.findClass RX8 = some m.cls := findClass_of_methodNamed B.named
  have hlocks := B.notSynchronized
  have hpe0 := hI.1
  subst hsz
  have hD := hD0.self (sz := s.heap.size)
  generalize hAe : va_A (zw 126 ad0 ct) s.heap.size = A at hD ⊢
  have hA : ∀ q : Nat, s.heap.size ≤ q → A q := fun q h => by rw [← hAe]; exact Or.inr h
  have hS : va_S A s.heap s.heap [] := va_S.rf
  have hl := lv_entry ([.ref (ad0 0), .int b, .int i, .int kn, .int wh]) (n := 7) (Nat.le_of_ble_eq_true rfl)
  rw [lg_entry_eq]
  generalize (lg_sl ([.ref (ad0 0), .int b, .int i, .int kn, .int wh]) ++ List.replicate (7 - (lg_sl ([.ref (ad0 0), .int b, .int i, .int kn, .int wh])).length) Slot.unset).toArray = ls at hl ⊢
  have hl : lv_has ls 7 [(0, .ref (ad0 0)), (1, .int b), (2, .int i), (3, .int kn), (4, .int wh)] := hl
  obtain ⟨ad, had⟩ : ∃ f : Nat → Nat, f = ad0 := ⟨_, rfl⟩
  rw [← had] at hP hD hI hl hAe
  have hadq : ∀ j : Nat, j ≠ 20 → ad j = ad0 j := fun j _ => by rw [had]
  have hz : zlen (ct 20) = zlen (ct 20) := rfl
  have rg_b := z_rng b
  have rg_i := z_rng i
  have rg_kn := z_rng kn
  have rg_wh := z_rng wh
  refine lv_aload_n hx hb dX8_questions_0 rfl (lv_at hl 0 rfl) ?_
  refine lv_iload_n hx hb dX8_questions_1 rfl (lv_at hl 1 rfl) ?_
  refine lv_iload_n hx hb dX8_questions_2 rfl (lv_at hl 2 rfl) ?_
  obtain ⟨bk3, dr2, h4, h5, h6, hs1⟩ := a8_0 hI
  refine zc_i (va_runV (As := [.int b, .int i]) (rest := []) ⟨hx, hb, hml, hown, hg⟩ (k_X8_isLine l g ad pe ct b i hI) (cwV 2 hg (z_gV mm_587 mm_589 mm_19 mm_108 mm_590) rfl rfl rfl (by decide +kernel) ⟨Nat.le_of_ble_eq_true rfl, Nat.le_of_ble_eq_true rfl⟩) ⟨(zR.pre [.ref (ad 0), .int b, .int i] hP hK hN).1, va_recv hK hP (ci := 8) (q0 := 0) rfl (zw_at (by omega) hs1), (zR.pre [.ref (ad 0), .int b, .int i] hP hK hN).2⟩ rfl rfl hl.1 rfl (lv_room (Nat.le_of_ble_eq_true rfl)) dX8_questions_3 ⟨Nat.le_of_ble_eq_true rfl, Nat.le_of_ble_eq_true rfl⟩) (fun r7 hr7 => ?_)
  rcases hr7 with hr7 | hr7
  · skip
    obtain ⟨rfl, h8, h9⟩ := hr7
    have h8 : 0 ≤ b.toInt ∧ b.toInt ≤ 3 := h8
    have h9 : 0 ≤ i.toInt ∧ i.toInt ≤ 7 := h9
    refine lv_if_eq (tgt := 26) hx hb dX8_questions_6 (by decide) (fun c10 => ?_) (fun c10 => ?_)
    · skip
      exact absurd c10 (by decide)
    · skip
      refine lv_iload_n hx hb dX8_questions_9 rfl (lv_at hl 3 rfl) ?_
      refine zc_i (va_runS (As := [.int kn]) (rest := []) ⟨hx, hb, hml, hown, hg⟩ (k_X8_areGossips l g ad pe ct kn hI) (va_cwS 1 hg (z_gS mm_652 mm_653 mm_108 mm_654) rfl rfl rfl (by decide +kernel) ⟨Nat.le_of_ble_eq_true rfl, Nat.le_of_ble_eq_true rfl⟩) (zR.pre [.int kn] hP hK hN) rfl rfl hl.1 rfl (lv_room (Nat.le_of_ble_eq_true rfl)) dX8_questions_10 ⟨Nat.le_of_ble_eq_true rfl, Nat.le_of_ble_eq_true rfl⟩) (fun r11 hr11 => ?_)
      rcases hr11 with hr11 | hr11
      · skip
        obtain ⟨rfl, h12, h13⟩ := hr11
        have h12 : 0 ≤ kn.toInt := h12
        have h13 : kn.toInt ≤ 255 := h13
        refine lv_if_eq (tgt := 26) hx hb dX8_questions_13 (by decide) (fun c14 => ?_) (fun c14 => ?_)
        · skip
          exact absurd c14 (by decide)
        · skip
          refine lv_iload hx hb dX8_questions_16 (lv_at hl 4 rfl) ?_
          refine lv_iconst (v := 0) hx hb dX8_questions_18 (by decide) ?_
          refine lv_iconst (v := 2) hx hb dX8_questions_19 (by decide) ?_
          refine zc_i (va_runS (As := [.int wh, .int 0, .int 2]) (rest := []) ⟨hx, hb, hml, hown, hg⟩ (k_X8_within l g ad pe ct wh (0 : Int32) (2 : Int32) hI) (va_cwS 3 hg (z_gS mm_407 mm_408 mm_108 mm_409) rfl rfl rfl (by decide +kernel) ⟨Nat.le_of_ble_eq_true rfl, Nat.le_of_ble_eq_true rfl⟩) (zR.pre [.int wh, .int 0, .int 2] hP hK hN) rfl rfl hl.1 rfl (lv_room (Nat.le_of_ble_eq_true rfl)) dX8_questions_20 ⟨Nat.le_of_ble_eq_true rfl, Nat.le_of_ble_eq_true rfl⟩) (fun r15 hr15 => ?_)
          rcases hr15 with hr15 | hr15
          · skip
            obtain ⟨rfl, h16, h17⟩ := hr15
            have h16 : (0 : Int) ≤ wh.toInt := h16
            have h17 : wh.toInt ≤ (2 : Int) := h17
            refine lv_if_ne (tgt := 28) hx hb dX8_questions_23 (by decide) (fun c18 => ?_) (fun c18 => ?_)
            · skip
              refine lv_aload_n hx hb dX8_questions_28 rfl (lv_at hl 0 rfl) ?_
              refine lv_iload_n hx hb dX8_questions_29 rfl (lv_at hl 1 rfl) ?_
              refine lv_iload_n hx hb dX8_questions_30 rfl (lv_at hl 2 rfl) ?_
              refine zc_i (va_runV (As := [.int b, .int i]) (rest := []) ⟨hx, hb, hml, hown, hg⟩ (k_X8_isLive l g ad pe ct b i hI) (cwV 2 hg (z_gV mm_583 mm_585 mm_18 mm_108 mm_586) rfl rfl rfl (by decide +kernel) ⟨Nat.le_of_ble_eq_true rfl, Nat.le_of_ble_eq_true rfl⟩) ⟨(zR.pre [.ref (ad 0), .int b, .int i] hP hK hN).1, va_recv hK hP (ci := 8) (q0 := 0) rfl (zw_at (by omega) hs1), (zR.pre [.ref (ad 0), .int b, .int i] hP hK hN).2⟩ rfl rfl hl.1 rfl (lv_room (Nat.le_of_ble_eq_true rfl)) dX8_questions_31 ⟨Nat.le_of_ble_eq_true rfl, Nat.le_of_ble_eq_true rfl⟩) (fun r19 hr19 => ?_)
              rcases hr19 with hr19 | hr19
              · skip
                obtain ⟨rfl, h20, h21⟩ := hr19
                have h20 : 0 ≤ b.toInt ∧ b.toInt ≤ 3 := h20
                have h21 : 0 ≤ i.toInt ∧ i.toInt ≤ 7 := h21
                refine lv_if_ne (tgt := 40) hx hb dX8_questions_34 (by decide) (fun c22 => ?_) (fun c22 => ?_)
                · skip
                  refine lv_aload_n hx hb dX8_questions_40 rfl (lv_at hl 0 rfl) ?_
                  refine lv_iload_n hx hb dX8_questions_41 rfl (lv_at hl 1 rfl) ?_
                  refine lv_iload_n hx hb dX8_questions_42 rfl (lv_at hl 3 rfl) ?_
                  have hFc := zw_free hD hS hA
                  refine va_callv (va_runV (As := [.int b, .int kn]) (rest := []) ⟨hx, hb, hml, hown, hg⟩ (zs_v hI (k_X8_fit l g _ ad pe ct b kn (by first | omega | decide) hI)) (cwV 2 hg (z_gV mm_655 mm_657 mm_21 mm_108 mm_658) rfl rfl rfl (by decide +kernel) ⟨Nat.le_of_ble_eq_true rfl, Nat.le_of_ble_eq_true rfl⟩) ⟨(zA.pre [.ref (ad 0), .int b, .int kn] hP hK hD hN).1, va_recv hK hP (ci := 8) (q0 := 0) rfl (zw_at (by omega) hs1), (zA.pre [.ref (ad 0), .int b, .int kn] hP hK hD hN).2⟩ rfl rfl hl.1 rfl (lv_room (Nat.le_of_ble_eq_true rfl)) dX8_questions_43 ⟨Nat.le_of_ble_eq_true rfl, Nat.le_of_ble_eq_true rfl⟩) hS (fun q _ h => hFc q h) hFc (fun _ t H1 locs ht hvm hr23 hB hz1 hk1 hS => ?_)
                  obtain ⟨hB, hzs⟩ := hB
                  rw [ht] at hzs
                  obtain ⟨ct24, hP1, hD1, hI⟩ := hB
                  rw [ht] at hP1
                  have hD := hD1.weaken (fun _ _ _ h => hFc _ h)
                  generalize H1 = H at hP1 hS hzs ⊢
                  have hP := hP1
                  refine W.widen (k := 0) (n := 0) (Nat.le_refl _) (Nat.le_refl _) ?_
                  have hz : zlen (ct24 20) = zlen (ct 20) := (hzs.eq hP hI).trans hz
                  refine lv_aload_n hx hb dX8_questions_46 rfl (lv_at hl 0 rfl) ?_
                  obtain ⟨bk27, dr26, h28, h29, h30, hs25⟩ := a8_0 hI
                  refine va_get (D := g.1) (ci := 8) (v := .ref (ad 10)) (C := RX8) (T := TX8) (N := 13) hx hb hg inG8 hown hK hP 0 (zw_at (by omega) hs25) rfl 6 (by decide) (hg _ mm_366) (fun _ h9 => h9) rfl dX8_questions_47 ?_
                  obtain ⟨lns32, liv33, lak34, fnd35, h36, h37, h38, h39, hs31⟩ := a8_10 hI
                  refine va_get (D := g.1) (ci := 6) (v := .ref (ad 12)) (C := RX6) (T := TX6) (N := 10) hx hb hg inG6 hown hK hP 10 (zw_at (by omega) hs31) rfl 5 (by decide) (hg _ mm_183) (fun _ h9 => h9) rfl dX8_questions_50 ?_
                  refine lv_iload_n hx hb dX8_questions_53 rfl (lv_at hl 2 rfl) ?_
                  obtain ⟨f41, hp42, hs40⟩ := a8_12 hI
                  refine va_iald hx hb hK hP 12 0 (zw_at (by omega) hs40) rfl (z_in rfl (by omega) (by omega)) dX8_questions_54 ?_
                  refine lv_topi (fun y43 ey43 => ?_)
                  have hy43 := hp42 _ (z_clt (x := i) rfl (by omega) (by omega))
                  rw [← ey43] at hy43
                  have hy43 : 0 ≤ y43.toInt ∧ y43.toInt ≤ 65535 := hy43
                  refine lv_istore (lv' := [(5, .int y43), (0, .ref (ad 0)), (1, .int b), (2, .int i), (3, .int kn), (4, .int wh)]) hx hb dX8_questions_55 hl (by decide) rfl (fun ls hl => ?_)
                  refine lv_iload hx hb dX8_questions_57 (lv_at hl 0 rfl) ?_
                  refine lv_if_eq (tgt := 71) hx hb dX8_questions_59 (by decide) (fun c44 => ?_) (fun c44 => ?_)
                  · skip
                    have c44 : y43.toInt = 0 := (z_eq rfl (by decide : (0 : Int32).toInt = 0)).mp c44
                    refine lv_bipush (v := (-2)) hx hb dX8_questions_71 (by decide) ?_
                    have q45 : ((-2) : Int32).toInt = -2 := by decide
                    refine W.know (fun k1 k2 k3 => ?_)
                    refine W.widen (k := 1) (n := 131072) (Nat.le_of_ble_eq_true rfl) (Nat.le_of_ble_eq_true rfl) ?_
                    exact W.iret (v := (-2)) hx hb hr (fun t ht hW => ⟨⟨(-2), (), rfl, trivial, ad, ct24, hadq, by rw [ht]; exact hP, hD, hI, Or.inl ⟨by first | (rw [ht]; omega) | rw [ht], hz⟩⟩, hS.F ht⟩) hS.2.2 dX8_questions_73
                  · skip
                    have c44 : ¬ (y43.toInt = 0) := fun q => c44 ((z_eq rfl (by decide : (0 : Int32).toInt = 0)).mpr q)
                    refine lv_aload_n hx hb dX8_questions_62 rfl (lv_at hl 1 rfl) ?_
                    refine lv_iload hx hb dX8_questions_63 (lv_at hl 0 rfl) ?_
                    refine zc_i (va_runV (As := [.int y43]) (rest := []) ⟨hx, hb, hml, hown, hg⟩ (k_X8_someAlike l g ad pe ct24 y43 hI) (cwV 1 hg (z_gV mm_799 mm_801 mm_34 mm_108 mm_802) rfl rfl rfl (by decide +kernel) ⟨Nat.le_of_ble_eq_true rfl, Nat.le_of_ble_eq_true rfl⟩) ⟨(zR.pre [.ref (ad 0), .int y43] hP hK hN).1, va_recv hK hP (ci := 8) (q0 := 0) rfl (zw_at (by omega) hs25), (zR.pre [.ref (ad 0), .int y43] hP hK hN).2⟩ rfl rfl hl.1 rfl (lv_room (Nat.le_of_ble_eq_true rfl)) dX8_questions_65 ⟨Nat.le_of_ble_eq_true rfl, Nat.le_of_ble_eq_true rfl⟩) (fun r46 hr46 => ?_)
                    rcases hr46 with hr46 | hr46
                    · skip
                      obtain rfl := hr46
                      refine lv_if_eq (tgt := 74) hx hb dX8_questions_68 (by decide) (fun c47 => ?_) (fun c47 => ?_)
                      · skip
                        exact absurd c47 (by decide)
                      · skip
                        refine lv_bipush (v := (-2)) hx hb dX8_questions_71 (by decide) ?_
                        have q48 : ((-2) : Int32).toInt = -2 := by decide
                        refine W.know (fun k1 k2 k3 => ?_)
                        refine W.widen (k := 1) (n := 131072) (Nat.le_of_ble_eq_true rfl) (Nat.le_of_ble_eq_true rfl) ?_
                        exact W.iret (v := (-2)) hx hb hr (fun t ht hW => ⟨⟨(-2), (), rfl, trivial, ad, ct24, hadq, by rw [ht]; exact hP, hD, hI, Or.inl ⟨by first | (rw [ht]; omega) | rw [ht], hz⟩⟩, hS.F ht⟩) hS.2.2 dX8_questions_73
                    · skip
                      obtain rfl := hr46
                      refine lv_if_eq (tgt := 74) hx hb dX8_questions_68 (by decide) (fun c49 => ?_) (fun c49 => ?_)
                      · skip
                        refine lv_aload_n hx hb dX8_questions_74 rfl (lv_at hl 1 rfl) ?_
                        refine va_get (D := g.1) (ci := 8) (v := .ref (ad 17)) (C := RX8) (T := TX8) (N := 13) hx hb hg inG8 hown hK hP 0 (zw_at (by omega) hs25) rfl 7 (by decide) (hg _ mm_367) (fun _ h9 => h9) rfl dX8_questions_75 ?_
                        refine lv_aload_n hx hb dX8_questions_78 rfl (lv_at hl 1 rfl) ?_
                        refine va_get (D := g.1) (ci := 8) (v := .ref (ad 1)) (C := RX8) (T := TX8) (N := 13) hx hb hg inG8 hown hK hP 0 (zw_at (by omega) hs25) rfl 0 (by decide) (hg _ mm_360) (fun _ h9 => h9) rfl dX8_questions_79 ?_
                        refine lv_iload hx hb dX8_questions_82 (lv_at hl 0 rfl) ?_
                        obtain ⟨spc51, tim52, h53, h54, hs50⟩ := a8_17 hI
                        have hFc := zw_free hD hS hA
                        refine W.know (fun k1 k2 k3 => ?_)
                        refine va_callv (va_runV (As := [.ref (ad 1), .int y43]) (rest := []) ⟨hx, hb, hml, hown, hg⟩ (zs_v hI (k_X0_prepare l g _ ad pe ct24 y43 (by first | omega | decide) hI)) (cwV 2 hg (z_gV mm_803 mm_804 mm_805 mm_112 mm_806) rfl rfl rfl (by decide +kernel) ⟨Nat.le_of_ble_eq_true rfl, Nat.le_of_ble_eq_true rfl⟩) ⟨(zA.pre [.ref (ad 17), .ref (ad 1), .int y43] hP hK hD hN).1, va_recv hK hP (ci := 0) (q0 := 17) rfl (zw_at (by omega) hs50), (zA.pre [.ref (ad 17), .ref (ad 1), .int y43] hP hK hD hN).2⟩ rfl rfl hl.1 rfl (lv_room (Nat.le_of_ble_eq_true rfl)) dX8_questions_84 ⟨Nat.le_of_ble_eq_true rfl, Nat.le_of_ble_eq_true rfl⟩) hS (fun q _ h => hFc q h) hFc (fun hr55 t H1 locs ht hvm hr552 hB hz1 hk1 hS => ?_)
                        obtain ⟨⟨ad, ct56, hadk, hP1, hD1, hI, hgr⟩, hzs⟩ := hB
                        rw [ht] at hP1 hgr
                        have hD := hD1.weaken (fun _ _ _ h => hFc _ h)
                        rw [← hadk 0 (by omega)] at hl
                        have hadq : ∀ j : Nat, j ≠ 20 → ad j = ad0 j := fun j hj => (hadk j hj).trans (hadq j hj)
                        have hzl := a8_20 hI
                        obtain ⟨n_q, f_q, hq1, hq2, hq3⟩ := hzl
                        have hq4 : zlen (ct56 20) = n_q := by rw [hq3]; rfl
                        have h20 : H1[ad 20]? = some _ := hP1 20 _ (zw_at (by omega) hq3)
                        obtain ⟨kq, nq, hsz, hnq, hk1q, hnq1, hq⟩ : ∃ kq nq : Nat, H1.size ≤ s.heap.size + kq ∧ hsum H1 s.heap.size ≤ nq ∧ kq ≤ 1 ∧ nq ≤ 131072 ∧ ((kq = 0 ∧ nq = 0 ∧ zlen (ct56 20) = zlen (ct 20)) ∨ (kq = 1 ∧ nq = zlen (ct56 20) ∧ ad 20 = s.heap.size ∧ 2 * zlen (ct 20) ≤ zlen (ct56 20))) := by
                          rcases hgr with ⟨g1, g2⟩ | ⟨g1, g2, g3⟩
                          · exact ⟨0, 0, by omega, by rw [hsum_0 (by omega)]; exact Nat.le_refl _, by omega, by omega, Or.inl ⟨rfl, rfl, by omega⟩⟩
                          · refine ⟨1, n_q, by omega, ?_, by omega, by omega, Or.inr ⟨rfl, by omega, by omega, by omega⟩⟩
                            rw [show s.heap.size = ad 20 by omega, hsum_1 h20, hsum_0 (by omega)]
                            exact Nat.le_of_eq (arrV_size _ _ _)
                        refine W.tight hsz hnq ?_
                        clear h20 hsz hnq
                        generalize H1 = H at hP1 hS hgr ⊢
                        have hP := hP1
                        obtain ⟨nL, hz⟩ : ∃ n, zlen (ct56 20) = n := ⟨_, rfl⟩
                        rw [hz] at hq
                        refine lv_aload_n hx hb dX8_questions_87 rfl (lv_at hl 1 rfl) ?_
                        obtain ⟨bk59, dr58, h60, h61, h62, hs57⟩ := a8_0 hI
                        refine va_get (D := g.1) (ci := 8) (v := .ref (ad 17)) (C := RX8) (T := TX8) (N := 13) hx hb hg inG8 hown hK hP 0 (zw_at (by omega) hs57) rfl 7 (by decide) (hg _ mm_367) (fun _ h9 => h9) rfl dX8_questions_88 ?_
                        refine lv_iload hx hb dX8_questions_91 (lv_at hl 0 rfl) ?_
                        obtain ⟨spc64, tim65, h66, h67, hs63⟩ := a8_17 hI
                        have hFc := zw_free hD hS hA
                        refine va_calli (va_runV (As := [.int y43]) (rest := []) ⟨hx, hb, hml, hown, hg⟩ (zs_i hI (k_X0_fewestFor l g _ ad pe ct56 y43 (by first | omega | decide) hI)) (cwV 1 hg (z_gV mm_818 mm_819 mm_820 mm_112 mm_821) rfl rfl rfl (by decide +kernel) ⟨Nat.le_of_ble_eq_true rfl, Nat.le_of_ble_eq_true rfl⟩) ⟨(zA.pre [.ref (ad 17), .int y43] hP hK hD hN).1, va_recv hK hP (ci := 0) (q0 := 17) rfl (zw_at (by omega) hs63), (zA.pre [.ref (ad 17), .int y43] hP hK hD hN).2⟩ rfl rfl hl.1 rfl (lv_room (Nat.le_of_ble_eq_true rfl)) dX8_questions_93 ⟨(show kq + 0 ≤ 1 by omega), (show nq + 0 ≤ 131072 by omega)⟩) hS (fun q _ h => hFc q h) hFc (fun r68 _ t H1 locs ht hvm hr68 hB hz1 hk1 hS => ?_)
                        obtain ⟨hB, hzs⟩ := hB
                        rw [ht] at hzs
                        obtain ⟨ct69, hP1, hD1, hI⟩ := hB
                        rw [ht] at hP1
                        have hD := hD1.weaken (fun _ _ _ h => hFc _ h)
                        generalize H1 = H at hP1 hS hzs ⊢
                        have hP := hP1
                        refine W.widen (k := kq) (n := nq) (Nat.le_refl _) (Nat.le_refl _) ?_
                        have hz : zlen (ct69 20) = nL := (hzs.eq hP hI).trans hz
                        obtain ⟨hr68_0, hr68_1⟩ := hr68
                        have hr68_0 : 0 ≤ r68.toInt := hr68_0
                        have hr68_1 : r68.toInt ≤ 16 := hr68_1
                        refine lv_istore (lv' := [(6, .int r68), (5, .int y43), (0, .ref (ad 0)), (1, .int b), (2, .int i), (3, .int kn), (4, .int wh)]) hx hb dX8_questions_96 hl (by decide) rfl (fun ls hl => ?_)
                        refine lv_iload hx hb dX8_questions_98 (lv_at hl 6 rfl) ?_
                        refine lv_if_ne (tgt := 106) hx hb dX8_questions_100 (by decide) (fun c70 => ?_) (fun c70 => ?_)
                        · skip
                          have c70 : ¬ (wh.toInt = 0) := fun q => c70 ((z_eq rfl (by decide : (0 : Int32).toInt = 0)).mpr q)
                          refine lv_iload hx hb dX8_questions_106 (lv_at hl 0 rfl) ?_
                          refine lv_if_ne (tgt := 116) hx hb dX8_questions_108 (by decide) (fun c71 => ?_) (fun c71 => ?_)
                          · skip
                            have c71 : ¬ (r68.toInt = 0) := fun q => c71 ((z_eq rfl (by decide : (0 : Int32).toInt = 0)).mpr q)
                            refine lv_aload_n hx hb dX8_questions_116 rfl (lv_at hl 2 rfl) ?_
                            refine lv_iload hx hb dX8_questions_117 (lv_at hl 1 rfl) ?_
                            refine lv_iload hx hb dX8_questions_119 (lv_at hl 0 rfl) ?_
                            refine lv_iload hx hb dX8_questions_121 (lv_at hl 6 rfl) ?_
                            obtain ⟨bk74, dr73, h75, h76, h77, hs72⟩ := a8_0 hI
                            have hFc := zw_free hD hS hA
                            refine va_calli (va_runV (As := [.int y43, .int r68, .int wh]) (rest := []) ⟨hx, hb, hml, hown, hg⟩ (zs_i hI (k_X8_firstQuestion l g _ ad pe ct69 y43 r68 wh (by first | omega | decide) (by first | omega | decide) hI)) (cwV 3 hg (z_gV mm_841 mm_843 mm_41 mm_108 mm_844) rfl rfl rfl (by decide +kernel) ⟨Nat.le_of_ble_eq_true rfl, Nat.le_of_ble_eq_true rfl⟩) ⟨(zA.pre [.ref (ad 0), .int y43, .int r68, .int wh] hP hK hD hN).1, va_recv hK hP (ci := 8) (q0 := 0) rfl (zw_at (by omega) hs72), (zA.pre [.ref (ad 0), .int y43, .int r68, .int wh] hP hK hD hN).2⟩ rfl rfl hl.1 rfl (lv_room (Nat.le_of_ble_eq_true rfl)) dX8_questions_123 ⟨(show kq + 0 ≤ 1 by omega), (show nq + 0 ≤ 131072 by omega)⟩) hS (fun q _ h => hFc q h) hFc (fun r78 _ t H1 locs ht hvm hr78 hB hz1 hk1 hS => ?_)
                            obtain ⟨hB, hzs⟩ := hB
                            rw [ht] at hzs
                            obtain ⟨ct79, hP1, hD1, hI⟩ := hB
                            rw [ht] at hP1
                            have hD := hD1.weaken (fun _ _ _ h => hFc _ h)
                            generalize H1 = H at hP1 hS hzs ⊢
                            have hP := hP1
                            refine W.widen (k := kq) (n := nq) (Nat.le_refl _) (Nat.le_refl _) ?_
                            have hz : zlen (ct79 20) = nL := (hzs.eq hP hI).trans hz
                            refine W.know (fun k1 k2 k3 => ?_)
                            have h20 := zP_lt hP (k := 20) (by omega)
                            refine W.widen (k := 1) (n := 131072) (by omega) (by omega) ?_
                            have hgr2 : (H.size = s.heap.size ∧ zlen (ct79 20) = zlen (ct 20)) ∨ (H.size = s.heap.size + 1 ∧ ad 20 = s.heap.size ∧ 2 * zlen (ct 20) ≤ zlen (ct79 20)) := by
                              rcases hq with ⟨q1, q2, q3⟩ | ⟨q1, q2, q3, q4⟩
                              · exact Or.inl ⟨by omega, by omega⟩
                              · exact Or.inr ⟨by omega, q3, by omega⟩
                            exact W.iret (v := r78) hx hb hr (fun t ht hW => ⟨⟨r78, (), rfl, trivial, ad, ct79, hadq, by rw [ht]; exact hP, hD, hI, by rw [ht]; exact hgr2⟩, hS.F ht⟩) hS.2.2 dX8_questions_126
                          · skip
                            have c71 : r68.toInt = 0 := (z_eq rfl (by decide : (0 : Int32).toInt = 0)).mp c71
                            refine lv_bipush (v := (-3)) hx hb dX8_questions_111 (by decide) ?_
                            refine lv_goto (tgt := 126) hx hb dX8_questions_113 (by decide) ?_
                            have q80 : ((-3) : Int32).toInt = -3 := by decide
                            refine W.know (fun k1 k2 k3 => ?_)
                            have h20 := zP_lt hP (k := 20) (by omega)
                            refine W.widen (k := 1) (n := 131072) (by omega) (by omega) ?_
                            have hgr2 : (H.size = s.heap.size ∧ zlen (ct69 20) = zlen (ct 20)) ∨ (H.size = s.heap.size + 1 ∧ ad 20 = s.heap.size ∧ 2 * zlen (ct 20) ≤ zlen (ct69 20)) := by
                              rcases hq with ⟨q1, q2, q3⟩ | ⟨q1, q2, q3, q4⟩
                              · exact Or.inl ⟨by omega, by omega⟩
                              · exact Or.inr ⟨by omega, q3, by omega⟩
                            exact W.iret (v := (-3)) hx hb hr (fun t ht hW => ⟨⟨(-3), (), rfl, trivial, ad, ct69, hadq, by rw [ht]; exact hP, hD, hI, by rw [ht]; exact hgr2⟩, hS.F ht⟩) hS.2.2 dX8_questions_126
                        · skip
                          have c70 : wh.toInt = 0 := (z_eq rfl (by decide : (0 : Int32).toInt = 0)).mp c70
                          refine lv_iload hx hb dX8_questions_103 (lv_at hl 0 rfl) ?_
                          refine W.know (fun k1 k2 k3 => ?_)
                          have h20 := zP_lt hP (k := 20) (by omega)
                          refine W.widen (k := 1) (n := 131072) (by omega) (by omega) ?_
                          have hgr2 : (H.size = s.heap.size ∧ zlen (ct69 20) = zlen (ct 20)) ∨ (H.size = s.heap.size + 1 ∧ ad 20 = s.heap.size ∧ 2 * zlen (ct 20) ≤ zlen (ct69 20)) := by
                            rcases hq with ⟨q1, q2, q3⟩ | ⟨q1, q2, q3, q4⟩
                            · exact Or.inl ⟨by omega, by omega⟩
                            · exact Or.inr ⟨by omega, q3, by omega⟩
                          exact W.iret (v := r68) hx hb hr (fun t ht hW => ⟨⟨r68, (), rfl, trivial, ad, ct69, hadq, by rw [ht]; exact hP, hD, hI, by rw [ht]; exact hgr2⟩, hS.F ht⟩) hS.2.2 dX8_questions_105
                      · skip
                        exact absurd c49 (by decide)
                · skip
                  exact absurd c22 (by decide)
              · skip
                obtain rfl := hr19
                refine lv_if_ne (tgt := 40) hx hb dX8_questions_34 (by decide) (fun c81 => ?_) (fun c81 => ?_)
                · skip
                  exact absurd c81 (by decide)
                · skip
                  refine lv_bipush (v := (-2)) hx hb dX8_questions_37 (by decide) ?_
                  have q82 : ((-2) : Int32).toInt = -2 := by decide
                  refine W.know (fun k1 k2 k3 => ?_)
                  refine W.widen (k := 1) (n := 131072) (Nat.le_of_ble_eq_true rfl) (Nat.le_of_ble_eq_true rfl) ?_
                  exact W.iret (v := (-2)) hx hb hr (fun t ht hW => ⟨⟨(-2), (), rfl, trivial, ad, ct, hadq, by rw [ht]; exact hP, hD, hI, Or.inl ⟨by first | (rw [ht]; omega) | rw [ht], hz⟩⟩, hS.F ht⟩) hS.2.2 dX8_questions_39
            · skip
              exact absurd c18 (by decide)
          · skip
            obtain ⟨rfl, h83⟩ := hr15
            have h83 : ¬ ((0 : Int) ≤ wh.toInt ∧ wh.toInt ≤ (2 : Int)) := h83
            refine lv_if_ne (tgt := 28) hx hb dX8_questions_23 (by decide) (fun c84 => ?_) (fun c84 => ?_)
            · skip
              exact absurd c84 (by decide)
            · skip
              refine lv_iconst (v := (-1)) hx hb dX8_questions_26 (by decide) ?_
              have q85 : ((-1) : Int32).toInt = -1 := by decide
              refine W.know (fun k1 k2 k3 => ?_)
              refine W.widen (k := 1) (n := 131072) (Nat.le_of_ble_eq_true rfl) (Nat.le_of_ble_eq_true rfl) ?_
              exact W.iret (v := (-1)) hx hb hr (fun t ht hW => ⟨⟨(-1), (), rfl, trivial, ad, ct, hadq, by rw [ht]; exact hP, hD, hI, Or.inl ⟨by first | (rw [ht]; omega) | rw [ht], hz⟩⟩, hS.F ht⟩) hS.2.2 dX8_questions_27
      · skip
        obtain ⟨rfl, h86⟩ := hr11
        have h86 : ¬ (0 ≤ kn.toInt ∧ kn.toInt ≤ 255) := h86
        refine lv_if_eq (tgt := 26) hx hb dX8_questions_13 (by decide) (fun c87 => ?_) (fun c87 => ?_)
        · skip
          refine lv_iconst (v := (-1)) hx hb dX8_questions_26 (by decide) ?_
          have q88 : ((-1) : Int32).toInt = -1 := by decide
          refine W.know (fun k1 k2 k3 => ?_)
          refine W.widen (k := 1) (n := 131072) (Nat.le_of_ble_eq_true rfl) (Nat.le_of_ble_eq_true rfl) ?_
          exact W.iret (v := (-1)) hx hb hr (fun t ht hW => ⟨⟨(-1), (), rfl, trivial, ad, ct, hadq, by rw [ht]; exact hP, hD, hI, Or.inl ⟨by first | (rw [ht]; omega) | rw [ht], hz⟩⟩, hS.F ht⟩) hS.2.2 dX8_questions_27
        · skip
          exact absurd c87 (by decide)
  · skip
    obtain rfl := hr7
    refine lv_if_eq (tgt := 26) hx hb dX8_questions_6 (by decide) (fun c89 => ?_) (fun c89 => ?_)
    · skip
      refine lv_iconst (v := (-1)) hx hb dX8_questions_26 (by decide) ?_
      have q90 : ((-1) : Int32).toInt = -1 := by decide
      refine W.know (fun k1 k2 k3 => ?_)
      refine W.widen (k := 1) (n := 131072) (Nat.le_of_ble_eq_true rfl) (Nat.le_of_ble_eq_true rfl) ?_
      exact W.iret (v := (-1)) hx hb hr (fun t ht hW => ⟨⟨(-1), (), rfl, trivial, ad, ct, hadq, by rw [ht]; exact hP, hD, hI, Or.inl ⟨by first | (rw [ht]; omega) | rw [ht], hz⟩⟩, hS.F ht⟩) hS.2.2 dX8_questions_27
    · skip
      exact absurd c89 (by decide)
