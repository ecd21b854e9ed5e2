set_option maxHeartbeats 4000000 in
set_option maxRecDepth 100000 in
theorem k_X4_next (l : Launch) (g : zG) (ad : Nat → Nat) (pe : Int32) (ct : Nat → va_E) (kg : Nat) (tld : Int32) (ofb : Int32) (hol : Int32) (flt : Int32) (fla : Int32) (ofl : Int32) (len : Int32) (atx : Int32) (ref : Int32) (hf_kg : 99 ≤ kg ∧ kg < 126 ∧ (kg - 99) % 3 = 0) (hI : Inv8 g ad pe ct) (hs0 : ct kg = .inr (4, [.int tld, .int ofb, .int hol, .int flt, .int fla, .int ofl, .ref (ad (kg + 1)), .ref (ad (kg + 2)), .int len, .int atx, .int ref])) : Met l yX4_next (zW yX4_next cX4_next 1 (some .int)) ({ frames := 0, cells := 0, slots := 0, locals := 0 }) (va_Pc [.ref (ad kg)] (zR g (zw 126 ad ct))) (vp_Si (fun r : Int32 => ((r.toInt = -1 ∨ atx.toInt ≤ 99)))) 0 0 (fun _ => False) := by
  refine Met.ofW (cc := cX4_next) (maxL := 1) (ret := (some .int)) (by decide) rfl ?_
  intro p e s m args below meth c s₁ B hml hv
  obtain ⟨rfl, hP, hK, hN⟩ := hv
  have hx := B.exec
  have hb := B.bytes
  have hr := B.returns
  have hg := zW.law (atoms_spec (ws := (zW yX4_next cX4_next 1 (some .int))) B.pre)
  have hown : s.vm.findClass RX4 = some m.cls := findClass_of_methodNamed B.named
  have hlocks := B.notSynchronized
  have hpe0 := hI.1
  have hl := lv_entry ([.ref (ad kg)]) (n := 1) (Nat.le_of_ble_eq_true rfl)
  rw [lg_entry_eq]
  generalize (lg_sl ([.ref (ad kg)]) ++ List.replicate (1 - (lg_sl ([.ref (ad kg)])).length) Slot.unset).toArray = ls at hl ⊢
  have hl : lv_has ls 1 [(0, .ref (ad kg))] := hl
  obtain ⟨tld2, ofb3, hol4, flt5, fla6, ofl7, len8, atx9, ref10, hz11, h12, h13, h14, h15, hz16, hs1⟩ := a8_44 (kc := kg) (by omega) hI
  have bhz11 := z_b01 hz11
  have bhz16 := z_b01 hz16
  skip
  skip
  skip
  skip
  skip
  skip
  skip
  skip
  skip
  have hs17 := hs0
  cases (hs0.symm.trans hs1)
  refine lv_aload_n hx hb dX4_next_0 rfl (lv_at hl 0 rfl) ?_
  refine va_get (D := g.1) (ci := 4) (v := .int flt) (C := RX4) (T := TX4) (N := 11) hx hb hg inG4 hown hK hP kg (zw_at (by omega) hs17) rfl 3 (by decide) (hg _ mm_277) (fun _ h9 => h9) rfl dX4_next_1 ?_
  refine lv_if_ne (tgt := 39) hx hb dX4_next_4 (by decide) (fun c18 => ?_) (fun c18 => ?_)
  · skip
    have c18 : ¬ (flt.toInt = 0) := fun q => c18 ((z_eq rfl (by decide : (0 : Int32).toInt = 0)).mpr q)
    refine lv_iconst (v := (-1)) hx hb dX4_next_39 (by decide) ?_
    have q19 : ((-1) : Int32).toInt = -1 := by decide
    exact W.iret (v := (-1)) hx hb hr (fun t ht hW => ⟨(-1), rfl, by omega, ht⟩) (fun q hq => by cases hq) dX4_next_40
  · skip
    have c18 : flt.toInt = 0 := (z_eq rfl (by decide : (0 : Int32).toInt = 0)).mp c18
    refine lv_aload_n hx hb dX4_next_7 rfl (lv_at hl 0 rfl) ?_
    refine va_get (D := g.1) (ci := 4) (v := .int atx) (C := RX4) (T := TX4) (N := 11) hx hb hg inG4 hown hK hP kg (zw_at (by omega) hs17) rfl 9 (by decide) (hg _ mm_285) (fun _ h9 => h9) rfl dX4_next_8 ?_
    refine lv_aload_n hx hb dX4_next_11 rfl (lv_at hl 0 rfl) ?_
    refine va_get (D := g.1) (ci := 4) (v := .int len) (C := RX4) (T := TX4) (N := 11) hx hb hg inG4 hown hK hP kg (zw_at (by omega) hs17) rfl 8 (by decide) (hg _ mm_284) (fun _ h9 => h9) rfl dX4_next_12 ?_
    refine lv_icmp_ge (tgt := 39) hx hb dX4_next_15 (by decide) (fun c20 => ?_) (fun c20 => ?_)
    · skip
      have c20 : len.toInt ≤ atx.toInt := (z_le rfl rfl).mp c20
      refine lv_iconst (v := (-1)) hx hb dX4_next_39 (by decide) ?_
      have q21 : ((-1) : Int32).toInt = -1 := by decide
      exact W.iret (v := (-1)) hx hb hr (fun t ht hW => ⟨(-1), rfl, by omega, ht⟩) (fun q hq => by cases hq) dX4_next_40
    · skip
      have c20 : ¬ (len.toInt ≤ atx.toInt) := fun q => c20 ((z_le rfl rfl).mpr q)
      refine lv_aload_n hx hb dX4_next_18 rfl (lv_at hl 0 rfl) ?_
      refine va_get (D := g.1) (ci := 4) (v := .int atx) (C := RX4) (T := TX4) (N := 11) hx hb hg inG4 hown hK hP kg (zw_at (by omega) hs17) rfl 9 (by decide) (hg _ mm_285) (fun _ h9 => h9) rfl dX4_next_19 ?_
      refine lv_bipush (v := 100) hx hb dX4_next_22 (by decide) ?_
      refine lv_icmp_ge (tgt := 39) hx hb dX4_next_24 (by decide) (fun c22 => ?_) (fun c22 => ?_)
      · skip
        have c22 : 100 ≤ atx.toInt := (z_le (by decide : (100 : Int32).toInt = 100) rfl).mp c22
        exfalso
        omega
      · skip
        have c22 : ¬ (100 ≤ atx.toInt) := fun q => c22 ((z_le (by decide : (100 : Int32).toInt = 100) rfl).mpr q)
        refine lv_aload_n hx hb dX4_next_27 rfl (lv_at hl 0 rfl) ?_
        refine va_get (D := g.1) (ci := 4) (v := .ref (ad (kg + 2))) (C := RX4) (T := TX4) (N := 11) hx hb hg inG4 hown hK hP kg (zw_at (by omega) hs17) rfl 7 (by decide) (hg _ mm_283) (fun _ h9 => h9) rfl dX4_next_28 ?_
        refine lv_aload_n hx hb dX4_next_31 rfl (lv_at hl 0 rfl) ?_
        refine va_get (D := g.1) (ci := 4) (v := .int atx) (C := RX4) (T := TX4) (N := 11) hx hb hg inG4 hown hK hP kg (zw_at (by omega) hs17) rfl 9 (by decide) (hg _ mm_285) (fun _ h9 => h9) rfl dX4_next_32 ?_
        obtain ⟨f24, hs23⟩ := a8_46 (kc := kg) (by omega) hI
        refine va_iald hx hb hK hP (kg + 2) 0 (zw_at (by omega) hs23) rfl (z_in rfl (by omega) (by omega)) dX4_next_35 ?_
        refine lv_topi (fun y25 ey25 => ?_)
        refine lv_goto (tgt := 40) hx hb dX4_next_36 (by decide) ?_
        exact W.iret (v := y25) hx hb hr (fun t ht hW => ⟨y25, rfl, by omega, ht⟩) (fun q hq => by cases hq) dX4_next_40

set_option maxHeartbeats 4000000 in
set_option maxRecDepth 100000 in
theorem k_X4_fail (l : Launch) (g : zG) (sz : Nat) (ad : Nat → Nat) (pe : Int32) (ct : Nat → va_E) (kg : Nat) (n : Int32) (hf_kg : 99 ≤ kg ∧ kg < 126 ∧ (kg - 99) % 3 = 0) (hI : Inv8 g ad pe ct) : Met l yX4_fail (zW yX4_fail cX4_fail 2 none) ({ frames := 0, cells := 0, slots := 0, locals := 0 }) (va_Pc [.ref (ad kg), .int n] (zA g (zw 126 ad ct) sz)) (va_Qv (fun (_ : Unit) => True) (fun _ t => ∃ ct2 : Nat → va_E, zP g (zw 126 ad ct2) t.heap ∧ va_D (va_A (zw 126 ad ct) sz) (zw 126 ad ct2) ∧ Inv8 g ad pe ct2) (va_A (zw 126 ad ct) sz)) 0 0 (va_A (zw 126 ad ct) sz) := by
  refine Met.ofW (cc := cX4_fail) (maxL := 2) (ret := none) (by decide) rfl ?_
  intro p e s m args below meth c s₁ B hml hv
  obtain ⟨rfl, hsz, hP, hK, hD0, hN⟩ := hv
  have hx := B.exec
  have hb := B.bytes
  have hr := B.returns
  have hg := zW.law (atoms_spec (ws := (zW yX4_fail cX4_fail 2 none)) B.pre)
  have hown : s.vm.findClass RX4 = some m.cls := findClass_of_methodNamed B.named
  have hlocks := B.notSynchronized
  have hpe0 := hI.1
  subst hsz
  have hD := hD0.self (sz := s.heap.size)
  generalize hAe : va_A (zw 126 ad ct) s.heap.size = A at hD ⊢
  have hA : ∀ q : Nat, s.heap.size ≤ q → A q := fun q h => by rw [← hAe]; exact Or.inr h
  have hS : va_S A s.heap s.heap [] := va_S.rf
  have hl := lv_entry ([.ref (ad kg), .int n]) (n := 2) (Nat.le_of_ble_eq_true rfl)
  rw [lg_entry_eq]
  generalize (lg_sl ([.ref (ad kg), .int n]) ++ List.replicate (2 - (lg_sl ([.ref (ad kg), .int n])).length) Slot.unset).toArray = ls at hl ⊢
  have hl : lv_has ls 2 [(0, .ref (ad kg)), (1, .int n)] := hl
  have rg_n := z_rng n
  refine lv_aload_n hx hb dX4_fail_0 rfl (lv_at hl 0 rfl) ?_
  obtain ⟨tld2, ofb3, hol4, flt5, fla6, ofl7, len8, atx9, ref10, hz11, h12, h13, h14, h15, hz16, hs1⟩ := a8_44 (kc := kg) (by omega) hI
  have bhz11 := z_b01 hz11
  have bhz16 := z_b01 hz16
  refine va_get (D := g.1) (ci := 4) (v := .int flt5) (C := RX4) (T := TX4) (N := 11) hx hb hg inG4 hown hK hP kg (zw_at (by omega) hs1) rfl 3 (by decide) (hg _ mm_277) (fun _ h9 => h9) rfl dX4_fail_1 ?_
  refine lv_if_ne (tgt := 20) hx hb dX4_fail_4 (by decide) (fun c17 => ?_) (fun c17 => ?_)
  · skip
    have c17 : ¬ (flt5.toInt = 0) := fun q => c17 ((z_eq rfl (by decide : (0 : Int32).toInt = 0)).mpr q)
    exact W.vret hx hb hr (fun t ht hW => ⟨⟨(), rfl, trivial, ct, by rw [ht]; exact hP, hD, hI⟩, hS.F ht⟩) hS.2.2 dX4_fail_20
  · skip
    have c17 : flt5.toInt = 0 := (z_eq rfl (by decide : (0 : Int32).toInt = 0)).mp c17
    refine lv_aload_n hx hb dX4_fail_7 rfl (lv_at hl 0 rfl) ?_
    refine lv_iload_n hx hb dX4_fail_8 rfl (lv_at hl 1 rfl) ?_
    refine va_put (D := g.1) (ci := 4) (v := .int n) (ty := .int) (C := RX4) (T := TX4) (N := 11) hx hb hg inG4 tyX4 tyX4_ok nmX4 hown hK hP hD hS kg (zw_at (by omega) hs1) rfl 3 (by decide) (hg _ mm_277) (fun _ h9 => h9) rfl (by decide +kernel) rfl rfl (Nat.le_of_ble_eq_true rfl) dX4_fail_9 (fun H locs hP hD hS => ?_)
    have hP : zP g ((zw 126 ad ct).set kg (ad kg, .inr (4, [.int tld2, .int ofb3, .int hol4, .int n, .int fla6, .int ofl7, .ref (ad (kg + 1)), .ref (ad (kg + 2)), .int len8, .int atx9, .int ref10]))) H := hP
    have hD : va_D A ((zw 126 ad ct).set kg (ad kg, .inr (4, [.int tld2, .int ofb3, .int hol4, .int n, .int fla6, .int ofl7, .ref (ad (kg + 1)), .ref (ad (kg + 2)), .int len8, .int atx9, .int ref10]))) := hD
    rw [zw_set (by omega)] at hP hD
    obtain ⟨ct18, ec19⟩ : ∃ z : Nat → va_E, z = va_up ct kg (.inr (4, [.int tld2, .int ofb3, .int hol4, .int n, .int fla6, .int ofl7, .ref (ad (kg + 1)), .ref (ad (kg + 2)), .int len8, .int atx9, .int ref10])) := ⟨_, rfl⟩
    rw [← ec19] at hP hD
    have hI : Inv8 g ad pe ct18 := by rw [ec19]; exact up8 hI (i8_44 (kc := kg) (by omega) ⟨(tld2 : Int32), (ofb3 : Int32), (hol4 : Int32), (n : Int32), (fla6 : Int32), (ofl7 : Int32), (len8 : Int32), (atx9 : Int32), (ref10 : Int32), hz11, (by first | omega | decide), (by first | omega | decide), (by first | omega | decide), (by first | omega | decide), hz16, rfl⟩)
    have hs20 : ct18 kg = .inr (4, [.int tld2, .int ofb3, .int hol4, .int n, .int fla6, .int ofl7, .ref (ad (kg + 1)), .ref (ad (kg + 2)), .int len8, .int atx9, .int ref10]) := by rw [ec19]; exact va_up_self _ _ _
    refine lv_aload_n hx hb dX4_fail_12 rfl (lv_at hl 0 rfl) ?_
    refine lv_aload_n hx hb dX4_fail_13 rfl (lv_at hl 0 rfl) ?_
    refine va_get (D := g.1) (ci := 4) (v := .int atx9) (C := RX4) (T := TX4) (N := 11) hx hb hg inG4 hown hK hP kg (zw_at (by omega) hs20) rfl 9 (by decide) (hg _ mm_285) (fun _ h9 => h9) rfl dX4_fail_14 ?_
    refine va_put (D := g.1) (ci := 4) (v := .int atx9) (ty := .int) (C := RX4) (T := TX4) (N := 11) hx hb hg inG4 tyX4 tyX4_ok nmX4 hown hK hP hD hS kg (zw_at (by omega) hs20) rfl 4 (by decide) (hg _ mm_279) (fun _ h9 => h9) rfl (by decide +kernel) rfl rfl (Nat.le_of_ble_eq_true rfl) dX4_fail_17 (fun H locs hP hD hS => ?_)
    have hP : zP g ((zw 126 ad ct18).set kg (ad kg, .inr (4, [.int tld2, .int ofb3, .int hol4, .int n, .int atx9, .int ofl7, .ref (ad (kg + 1)), .ref (ad (kg + 2)), .int len8, .int atx9, .int ref10]))) H := hP
    have hD : va_D A ((zw 126 ad ct18).set kg (ad kg, .inr (4, [.int tld2, .int ofb3, .int hol4, .int n, .int atx9, .int ofl7, .ref (ad (kg + 1)), .ref (ad (kg + 2)), .int len8, .int atx9, .int ref10]))) := hD
    rw [zw_set (by omega)] at hP hD
    obtain ⟨ct21, ec22⟩ : ∃ z : Nat → va_E, z = va_up ct18 kg (.inr (4, [.int tld2, .int ofb3, .int hol4, .int n, .int atx9, .int ofl7, .ref (ad (kg + 1)), .ref (ad (kg + 2)), .int len8, .int atx9, .int ref10])) := ⟨_, rfl⟩
    rw [← ec22] at hP hD
    have hI : Inv8 g ad pe ct21 := by rw [ec22]; exact up8 hI (i8_44 (kc := kg) (by omega) ⟨(tld2 : Int32), (ofb3 : Int32), (hol4 : Int32), (n : Int32), (atx9 : Int32), (ofl7 : Int32), (len8 : Int32), (atx9 : Int32), (ref10 : Int32), hz11, (by first | omega | decide), (by first | omega | decide), (by first | omega | decide), (by first | omega | decide), hz16, rfl⟩)
    have hs23 : ct21 kg = .inr (4, [.int tld2, .int ofb3, .int hol4, .int n, .int atx9, .int ofl7, .ref (ad (kg + 1)), .ref (ad (kg + 2)), .int len8, .int atx9, .int ref10]) := by rw [ec22]; exact va_up_self _ _ _
    exact W.vret hx hb hr (fun t ht hW => ⟨⟨(), rfl, trivial, ct21, by rw [ht]; exact hP, hD, hI⟩, hS.F ht⟩) hS.2.2 dX4_fail_20

set_option maxHeartbeats 4000000 in
set_option maxRecDepth 100000 in
theorem k_X4_start (l : Launch) (g : zG) (sz : Nat) (ad : Nat → Nat) (pe : Int32) (ct : Nat → va_E) (kg : Nat) (hf_kg : 99 ≤ kg ∧ kg < 126 ∧ (kg - 99) % 3 = 0) (hI : Inv8 g ad pe ct) : Met l yX4_start (zW yX4_start cX4_start 1 none) ({ frames := 0, cells := 0, slots := 0, locals := 0 }) (va_Pc [.ref (ad kg)] (zA g (zw 126 ad ct) sz)) (va_Qv (fun (_ : Unit) => True) (fun _ t => ∃ ct2 : Nat → va_E, zP g (zw 126 ad ct2) t.heap ∧ va_D (va_A (zw 126 ad ct) sz) (zw 126 ad ct2) ∧ Inv8 g ad pe ct2) (va_A (zw 126 ad ct) sz)) 0 0 (va_A (zw 126 ad ct) sz) := by
  refine Met.ofW (cc := cX4_start) (maxL := 1) (ret := none) (by decide) rfl ?_
  intro p e s m args below meth c s₁ B hml hv
  obtain ⟨rfl, hsz, hP, hK, hD0, hN⟩ := hv
  have hx := B.exec
  have hb := B.bytes
  have hr := B.returns
  have hg := zW.law (atoms_spec (ws := (zW yX4_start cX4_start 1 none)) B.pre)
  have hown : s.vm.findClass RX4 = some m.cls := findClass_of_methodNamed B.named
  have hlocks := B.notSynchronized
  have hpe0 := hI.1
  subst hsz
  have hD := hD0.self (sz := s.heap.size)
  generalize hAe : va_A (zw 126 ad ct) s.heap.size = A at hD ⊢
  have hA : ∀ q : Nat, s.heap.size ≤ q → A q := fun q h => by rw [← hAe]; exact Or.inr h
  have hS : va_S A s.heap s.heap [] := va_S.rf
  have hl := lv_entry ([.ref (ad kg)]) (n := 1) (Nat.le_of_ble_eq_true rfl)
  rw [lg_entry_eq]
  generalize (lg_sl ([.ref (ad kg)]) ++ List.replicate (1 - (lg_sl ([.ref (ad kg)])).length) Slot.unset).toArray = ls at hl ⊢
  have hl : lv_has ls 1 [(0, .ref (ad kg))] := hl
  refine lv_aload_n hx hb dX4_start_0 rfl (lv_at hl 0 rfl) ?_
  refine lv_iconst (v := 0) hx hb dX4_start_1 (by decide) ?_
  obtain ⟨tld2, ofb3, hol4, flt5, fla6, ofl7, len8, atx9, ref10, hz11, h12, h13, h14, h15, hz16, hs1⟩ := a8_44 (kc := kg) (by omega) hI
  have bhz11 := z_b01 hz11
  have bhz16 := z_b01 hz16
  refine va_put (D := g.1) (ci := 4) (v := .int 0) (ty := .int) (C := RX4) (T := TX4) (N := 11) hx hb hg inG4 tyX4 tyX4_ok nmX4 hown hK hP hD hS kg (zw_at (by omega) hs1) rfl 9 (by decide) (hg _ mm_285) (fun _ h9 => h9) rfl (by decide +kernel) rfl rfl (Nat.le_of_ble_eq_true rfl) dX4_start_2 (fun H locs hP hD hS => ?_)
  have hP : zP g ((zw 126 ad ct).set kg (ad kg, .inr (4, [.int tld2, .int ofb3, .int hol4, .int flt5, .int fla6, .int ofl7, .ref (ad (kg + 1)), .ref (ad (kg + 2)), .int len8, .int 0, .int ref10]))) H := hP
  have hD : va_D A ((zw 126 ad ct).set kg (ad kg, .inr (4, [.int tld2, .int ofb3, .int hol4, .int flt5, .int fla6, .int ofl7, .ref (ad (kg + 1)), .ref (ad (kg + 2)), .int len8, .int 0, .int ref10]))) := hD
  rw [zw_set (by omega)] at hP hD
  obtain ⟨ct17, ec18⟩ : ∃ z : Nat → va_E, z = va_up ct kg (.inr (4, [.int tld2, .int ofb3, .int hol4, .int flt5, .int fla6, .int ofl7, .ref (ad (kg + 1)), .ref (ad (kg + 2)), .int len8, .int 0, .int ref10])) := ⟨_, rfl⟩
  rw [← ec18] at hP hD
  have hI : Inv8 g ad pe ct17 := by rw [ec18]; exact up8 hI (i8_44 (kc := kg) (by omega) ⟨(tld2 : Int32), (ofb3 : Int32), (hol4 : Int32), (flt5 : Int32), (fla6 : Int32), (ofl7 : Int32), (len8 : Int32), (0 : Int32), (ref10 : Int32), hz11, (by first | omega | decide), (by first | omega | decide), (by first | omega | decide), (by first | omega | decide), hz16, rfl⟩)
  have hs19 : ct17 kg = .inr (4, [.int tld2, .int ofb3, .int hol4, .int flt5, .int fla6, .int ofl7, .ref (ad (kg + 1)), .ref (ad (kg + 2)), .int len8, .int 0, .int ref10]) := by rw [ec18]; exact va_up_self _ _ _
  refine lv_aload_n hx hb dX4_start_5 rfl (lv_at hl 0 rfl) ?_
  refine lv_iconst (v := 0) hx hb dX4_start_6 (by decide) ?_
  refine va_put (D := g.1) (ci := 4) (v := .int 0) (ty := .int) (C := RX4) (T := TX4) (N := 11) hx hb hg inG4 tyX4 tyX4_ok nmX4 hown hK hP hD hS kg (zw_at (by omega) hs19) rfl 3 (by decide) (hg _ mm_277) (fun _ h9 => h9) rfl (by decide +kernel) rfl rfl (Nat.le_of_ble_eq_true rfl) dX4_start_7 (fun H locs hP hD hS => ?_)
  have hP : zP g ((zw 126 ad ct17).set kg (ad kg, .inr (4, [.int tld2, .int ofb3, .int hol4, .int 0, .int fla6, .int ofl7, .ref (ad (kg + 1)), .ref (ad (kg + 2)), .int len8, .int 0, .int ref10]))) H := hP
  have hD : va_D A ((zw 126 ad ct17).set kg (ad kg, .inr (4, [.int tld2, .int ofb3, .int hol4, .int 0, .int fla6, .int ofl7, .ref (ad (kg + 1)), .ref (ad (kg + 2)), .int len8, .int 0, .int ref10]))) := hD
  rw [zw_set (by omega)] at hP hD
  obtain ⟨ct20, ec21⟩ : ∃ z : Nat → va_E, z = va_up ct17 kg (.inr (4, [.int tld2, .int ofb3, .int hol4, .int 0, .int fla6, .int ofl7, .ref (ad (kg + 1)), .ref (ad (kg + 2)), .int len8, .int 0, .int ref10])) := ⟨_, rfl⟩
  rw [← ec21] at hP hD
  have hI : Inv8 g ad pe ct20 := by rw [ec21]; exact up8 hI (i8_44 (kc := kg) (by omega) ⟨(tld2 : Int32), (ofb3 : Int32), (hol4 : Int32), (0 : Int32), (fla6 : Int32), (ofl7 : Int32), (len8 : Int32), (0 : Int32), (ref10 : Int32), hz11, (by first | omega | decide), (by first | omega | decide), (by first | omega | decide), (by first | omega | decide), hz16, rfl⟩)
  have hs22 : ct20 kg = .inr (4, [.int tld2, .int ofb3, .int hol4, .int 0, .int fla6, .int ofl7, .ref (ad (kg + 1)), .ref (ad (kg + 2)), .int len8, .int 0, .int ref10]) := by rw [ec21]; exact va_up_self _ _ _
  refine lv_aload_n hx hb dX4_start_10 rfl (lv_at hl 0 rfl) ?_
  refine lv_iconst (v := 0) hx hb dX4_start_11 (by decide) ?_
  refine va_put (D := g.1) (ci := 4) (v := .int 0) (ty := .boolean) (C := RX4) (T := TX4) (N := 11) hx hb hg inG4 tyX4 tyX4_ok nmX4 hown hK hP hD hS kg (zw_at (by omega) hs22) rfl 10 (by decide) (hg _ mm_286) (fun _ h9 => h9) rfl (by decide +kernel) rfl rfl (Nat.le_of_ble_eq_true rfl) dX4_start_12 (fun H locs hP hD hS => ?_)
  have hP : zP g ((zw 126 ad ct20).set kg (ad kg, .inr (4, [.int tld2, .int ofb3, .int hol4, .int 0, .int fla6, .int ofl7, .ref (ad (kg + 1)), .ref (ad (kg + 2)), .int len8, .int 0, .int 0]))) H := hP
  have hD : va_D A ((zw 126 ad ct20).set kg (ad kg, .inr (4, [.int tld2, .int ofb3, .int hol4, .int 0, .int fla6, .int ofl7, .ref (ad (kg + 1)), .ref (ad (kg + 2)), .int len8, .int 0, .int 0]))) := hD
  rw [zw_set (by omega)] at hP hD
  obtain ⟨ct23, ec24⟩ : ∃ z : Nat → va_E, z = va_up ct20 kg (.inr (4, [.int tld2, .int ofb3, .int hol4, .int 0, .int fla6, .int ofl7, .ref (ad (kg + 1)), .ref (ad (kg + 2)), .int len8, .int 0, .int 0])) := ⟨_, rfl⟩
  rw [← ec24] at hP hD
  have hI : Inv8 g ad pe ct23 := by rw [ec24]; exact up8 hI (i8_44 (kc := kg) (by omega) ⟨(tld2 : Int32), (ofb3 : Int32), (hol4 : Int32), (0 : Int32), (fla6 : Int32), (ofl7 : Int32), (len8 : Int32), (0 : Int32), (0 : Int32), hz11, (by first | omega | decide), (by first | omega | decide), (by first | omega | decide), (by first | omega | decide), (Or.inl rfl), rfl⟩)
  have hs25 : ct23 kg = .inr (4, [.int tld2, .int ofb3, .int hol4, .int 0, .int fla6, .int ofl7, .ref (ad (kg + 1)), .ref (ad (kg + 2)), .int len8, .int 0, .int 0]) := by rw [ec24]; exact va_up_self _ _ _
  exact W.vret hx hb hr (fun t ht hW => ⟨⟨(), rfl, trivial, ct23, by rw [ht]; exact hP, hD, hI⟩, hS.F ht⟩) hS.2.2 dX4_start_15

set_option maxHeartbeats 4000000 in
set_option maxRecDepth 100000 in
theorem k_X4_tellOf (l : Launch) (g : zG) (sz : Nat) (ad : Nat → Nat) (pe : Int32) (ct : Nat → va_E) (kg : Nat) (b : Int32) (i : Int32) (hf_kg : 99 ≤ kg ∧ kg < 126 ∧ (kg - 99) % 3 = 0) (hI : Inv8 g ad pe ct) : Met l yX4_tellOf (zW yX4_tellOf cX4_tellOf 3 none) ({ frames := 0, cells := 0, slots := 0, locals := 0 }) (va_Pc [.ref (ad kg), .int b, .int i] (zA g (zw 126 ad ct) sz)) (va_Qv (fun (_ : Unit) => True) (fun _ t => ∃ ct2 : Nat → va_E, zP g (zw 126 ad ct2) t.heap ∧ va_D (va_A (zw 126 ad ct) sz) (zw 126 ad ct2) ∧ Inv8 g ad pe ct2) (va_A (zw 126 ad ct) sz)) 0 0 (va_A (zw 126 ad ct) sz) := by
  refine Met.ofW (cc := cX4_tellOf) (maxL := 3) (ret := none) (by decide) rfl ?_
  intro p e s m args below meth c s₁ B hml hv
  obtain ⟨rfl, hsz, hP, hK, hD0, hN⟩ := hv
  have hx := B.exec
  have hb := B.bytes
  have hr := B.returns
  have hg := zW.law (atoms_spec (ws := (zW yX4_tellOf cX4_tellOf 3 none)) B.pre)
  have hown : s.vm.findClass RX4 = some m.cls := findClass_of_methodNamed B.named
  have hlocks := B.notSynchronized
  have hpe0 := hI.1
  subst hsz
  have hD := hD0.self (sz := s.heap.size)
  generalize hAe : va_A (zw 126 ad ct) s.heap.size = A at hD ⊢
  have hA : ∀ q : Nat, s.heap.size ≤ q → A q := fun q h => by rw [← hAe]; exact Or.inr h
  have hS : va_S A s.heap s.heap [] := va_S.rf
  have hl := lv_entry ([.ref (ad kg), .int b, .int i]) (n := 3) (Nat.le_of_ble_eq_true rfl)
  rw [lg_entry_eq]
  generalize (lg_sl ([.ref (ad kg), .int b, .int i]) ++ List.replicate (3 - (lg_sl ([.ref (ad kg), .int b, .int i])).length) Slot.unset).toArray = ls at hl ⊢
  have hl : lv_has ls 3 [(0, .ref (ad kg)), (1, .int b), (2, .int i)] := hl
  have rg_b := z_rng b
  have rg_i := z_rng i
  refine lv_aload_n hx hb dX4_tellOf_0 rfl (lv_at hl 0 rfl) ?_
  refine lv_iconst (v := 1) hx hb dX4_tellOf_1 (by decide) ?_
  obtain ⟨tld2, ofb3, hol4, flt5, fla6, ofl7, len8, atx9, ref10, hz11, h12, h13, h14, h15, hz16, hs1⟩ := a8_44 (kc := kg) (by omega) hI
  have bhz11 := z_b01 hz11
  have bhz16 := z_b01 hz16
  refine va_put (D := g.1) (ci := 4) (v := .int 1) (ty := .boolean) (C := RX4) (T := TX4) (N := 11) hx hb hg inG4 tyX4 tyX4_ok nmX4 hown hK hP hD hS kg (zw_at (by omega) hs1) rfl 0 (by decide) (hg _ mm_271) (fun _ h9 => h9) rfl (by decide +kernel) rfl rfl (Nat.le_of_ble_eq_true rfl) dX4_tellOf_2 (fun H locs hP hD hS => ?_)
  have hP : zP g ((zw 126 ad ct).set kg (ad kg, .inr (4, [.int 1, .int ofb3, .int hol4, .int flt5, .int fla6, .int ofl7, .ref (ad (kg + 1)), .ref (ad (kg + 2)), .int len8, .int atx9, .int ref10]))) H := hP
  have hD : va_D A ((zw 126 ad ct).set kg (ad kg, .inr (4, [.int 1, .int ofb3, .int hol4, .int flt5, .int fla6, .int ofl7, .ref (ad (kg + 1)), .ref (ad (kg + 2)), .int len8, .int atx9, .int ref10]))) := hD
  rw [zw_set (by omega)] at hP hD
  obtain ⟨ct17, ec18⟩ : ∃ z : Nat → va_E, z = va_up ct kg (.inr (4, [.int 1, .int ofb3, .int hol4, .int flt5, .int fla6, .int ofl7, .ref (ad (kg + 1)), .ref (ad (kg + 2)), .int len8, .int atx9, .int ref10])) := ⟨_, rfl⟩
  rw [← ec18] at hP hD
  have hI : Inv8 g ad pe ct17 := by rw [ec18]; exact up8 hI (i8_44 (kc := kg) (by omega) ⟨(1 : Int32), (ofb3 : Int32), (hol4 : Int32), (flt5 : Int32), (fla6 : Int32), (ofl7 : Int32), (len8 : Int32), (atx9 : Int32), (ref10 : Int32), (Or.inr rfl), (by first | omega | decide), (by first | omega | decide), (by first | omega | decide), (by first | omega | decide), hz16, rfl⟩)
  have hs19 : ct17 kg = .inr (4, [.int 1, .int ofb3, .int hol4, .int flt5, .int fla6, .int ofl7, .ref (ad (kg + 1)), .ref (ad (kg + 2)), .int len8, .int atx9, .int ref10]) := by rw [ec18]; exact va_up_self _ _ _
  refine lv_aload_n hx hb dX4_tellOf_5 rfl (lv_at hl 0 rfl) ?_
  refine lv_iload_n hx hb dX4_tellOf_6 rfl (lv_at hl 1 rfl) ?_
  refine va_put (D := g.1) (ci := 4) (v := .int b) (ty := .int) (C := RX4) (T := TX4) (N := 11) hx hb hg inG4 tyX4 tyX4_ok nmX4 hown hK hP hD hS kg (zw_at (by omega) hs19) rfl 1 (by decide) (hg _ mm_273) (fun _ h9 => h9) rfl (by decide +kernel) rfl rfl (Nat.le_of_ble_eq_true rfl) dX4_tellOf_7 (fun H locs hP hD hS => ?_)
  have hP : zP g ((zw 126 ad ct17).set kg (ad kg, .inr (4, [.int 1, .int b, .int hol4, .int flt5, .int fla6, .int ofl7, .ref (ad (kg + 1)), .ref (ad (kg + 2)), .int len8, .int atx9, .int ref10]))) H := hP
  have hD : va_D A ((zw 126 ad ct17).set kg (ad kg, .inr (4, [.int 1, .int b, .int hol4, .int flt5, .int fla6, .int ofl7, .ref (ad (kg + 1)), .ref (ad (kg + 2)), .int len8, .int atx9, .int ref10]))) := hD
  rw [zw_set (by omega)] at hP hD
  obtain ⟨ct20, ec21⟩ : ∃ z : Nat → va_E, z = va_up ct17 kg (.inr (4, [.int 1, .int b, .int hol4, .int flt5, .int fla6, .int ofl7, .ref (ad (kg + 1)), .ref (ad (kg + 2)), .int len8, .int atx9, .int ref10])) := ⟨_, rfl⟩
  rw [← ec21] at hP hD
  have hI : Inv8 g ad pe ct20 := by rw [ec21]; exact up8 hI (i8_44 (kc := kg) (by omega) ⟨(1 : Int32), (b : Int32), (hol4 : Int32), (flt5 : Int32), (fla6 : Int32), (ofl7 : Int32), (len8 : Int32), (atx9 : Int32), (ref10 : Int32), (Or.inr rfl), (by first | omega | decide), (by first | omega | decide), (by first | omega | decide), (by first | omega | decide), hz16, rfl⟩)
  have hs22 : ct20 kg = .inr (4, [.int 1, .int b, .int hol4, .int flt5, .int fla6, .int ofl7, .ref (ad (kg + 1)), .ref (ad (kg + 2)), .int len8, .int atx9, .int ref10]) := by rw [ec21]; exact va_up_self _ _ _
  refine lv_aload_n hx hb dX4_tellOf_10 rfl (lv_at hl 0 rfl) ?_
  refine lv_iload_n hx hb dX4_tellOf_11 rfl (lv_at hl 2 rfl) ?_
  refine va_put (D := g.1) (ci := 4) (v := .int i) (ty := .int) (C := RX4) (T := TX4) (N := 11) hx hb hg inG4 tyX4 tyX4_ok nmX4 hown hK hP hD hS kg (zw_at (by omega) hs22) rfl 5 (by decide) (hg _ mm_281) (fun _ h9 => h9) rfl (by decide +kernel) rfl rfl (Nat.le_of_ble_eq_true rfl) dX4_tellOf_12 (fun H locs hP hD hS => ?_)
  have hP : zP g ((zw 126 ad ct20).set kg (ad kg, .inr (4, [.int 1, .int b, .int hol4, .int flt5, .int fla6, .int i, .ref (ad (kg + 1)), .ref (ad (kg + 2)), .int len8, .int atx9, .int ref10]))) H := hP
  have hD : va_D A ((zw 126 ad ct20).set kg (ad kg, .inr (4, [.int 1, .int b, .int hol4, .int flt5, .int fla6, .int i, .ref (ad (kg + 1)), .ref (ad (kg + 2)), .int len8, .int atx9, .int ref10]))) := hD
  rw [zw_set (by omega)] at hP hD
  obtain ⟨ct23, ec24⟩ : ∃ z : Nat → va_E, z = va_up ct20 kg (.inr (4, [.int 1, .int b, .int hol4, .int flt5, .int fla6, .int i, .ref (ad (kg + 1)), .ref (ad (kg + 2)), .int len8, .int atx9, .int ref10])) := ⟨_, rfl⟩
  rw [← ec24] at hP hD
  have hI : Inv8 g ad pe ct23 := by rw [ec24]; exact up8 hI (i8_44 (kc := kg) (by omega) ⟨(1 : Int32), (b : Int32), (hol4 : Int32), (flt5 : Int32), (fla6 : Int32), (i : Int32), (len8 : Int32), (atx9 : Int32), (ref10 : Int32), (Or.inr rfl), (by first | omega | decide), (by first | omega | decide), (by first | omega | decide), (by first | omega | decide), hz16, rfl⟩)
  have hs25 : ct23 kg = .inr (4, [.int 1, .int b, .int hol4, .int flt5, .int fla6, .int i, .ref (ad (kg + 1)), .ref (ad (kg + 2)), .int len8, .int atx9, .int ref10]) := by rw [ec24]; exact va_up_self _ _ _
  refine lv_aload_n hx hb dX4_tellOf_15 rfl (lv_at hl 0 rfl) ?_
  refine lv_iconst (v := 0) hx hb dX4_tellOf_16 (by decide) ?_
  refine va_put (D := g.1) (ci := 4) (v := .int 0) (ty := .int) (C := RX4) (T := TX4) (N := 11) hx hb hg inG4 tyX4 tyX4_ok nmX4 hown hK hP hD hS kg (zw_at (by omega) hs25) rfl 2 (by decide) (hg _ mm_275) (fun _ h9 => h9) rfl (by decide +kernel) rfl rfl (Nat.le_of_ble_eq_true rfl) dX4_tellOf_17 (fun H locs hP hD hS => ?_)
  have hP : zP g ((zw 126 ad ct23).set kg (ad kg, .inr (4, [.int 1, .int b, .int 0, .int flt5, .int fla6, .int i, .ref (ad (kg + 1)), .ref (ad (kg + 2)), .int len8, .int atx9, .int ref10]))) H := hP
  have hD : va_D A ((zw 126 ad ct23).set kg (ad kg, .inr (4, [.int 1, .int b, .int 0, .int flt5, .int fla6, .int i, .ref (ad (kg + 1)), .ref (ad (kg + 2)), .int len8, .int atx9, .int ref10]))) := hD
  rw [zw_set (by omega)] at hP hD
  obtain ⟨ct26, ec27⟩ : ∃ z : Nat → va_E, z = va_up ct23 kg (.inr (4, [.int 1, .int b, .int 0, .int flt5, .int fla6, .int i, .ref (ad (kg + 1)), .ref (ad (kg + 2)), .int len8, .int atx9, .int ref10])) := ⟨_, rfl⟩
  rw [← ec27] at hP hD
  have hI : Inv8 g ad pe ct26 := by rw [ec27]; exact up8 hI (i8_44 (kc := kg) (by omega) ⟨(1 : Int32), (b : Int32), (0 : Int32), (flt5 : Int32), (fla6 : Int32), (i : Int32), (len8 : Int32), (atx9 : Int32), (ref10 : Int32), (Or.inr rfl), (by first | omega | decide), (by first | omega | decide), (by first | omega | decide), (by first | omega | decide), hz16, rfl⟩)
  have hs28 : ct26 kg = .inr (4, [.int 1, .int b, .int 0, .int flt5, .int fla6, .int i, .ref (ad (kg + 1)), .ref (ad (kg + 2)), .int len8, .int atx9, .int ref10]) := by rw [ec27]; exact va_up_self _ _ _
  exact W.vret hx hb hr (fun t ht hW => ⟨⟨(), rfl, trivial, ct26, by rw [ht]; exact hP, hD, hI⟩, hS.F ht⟩) hS.2.2 dX4_tellOf_20

set_option maxHeartbeats 4000000 in
set_option maxRecDepth 100000 in
theorem k_X4_opens (l : Launch) (g : zG) (sz : Nat) (ad : Nat → Nat) (pe : Int32) (ct : Nat → va_E) (kg : Nat) (dp : Int32) (tld : Int32) (ofb : Int32) (hol : Int32) (flt : Int32) (fla : Int32) (ofl : Int32) (len : Int32) (atx : Int32) (ref : Int32) (hf_kg : 99 ≤ kg ∧ kg < 126 ∧ (kg - 99) % 3 = 0) (hI : Inv8 g ad pe ct) (hs0 : ct kg = .inr (4, [.int tld, .int ofb, .int hol, .int flt, .int fla, .int ofl, .ref (ad (kg + 1)), .ref (ad (kg + 2)), .int len, .int atx, .int ref])) (hat : atx.toInt ≤ 99) : Met l yX4_opens (zW yX4_opens cX4_opens 2 (some .boolean)) ({ frames := 1, cells := 0, slots := 0, locals := 21 }) (va_Pc [.ref (ad kg), .int dp] (zA g (zw 126 ad ct) sz)) (va_Qi (fun (r : Int32) (_ : Unit) => (r = 1 ∧ (dp.toInt < 6)) ∨ (r = 0)) (fun _ t => ∃ ct2 : Nat → va_E, zP g (zw 126 ad ct2) t.heap ∧ va_D (va_A (zw 126 ad ct) sz) (zw 126 ad ct2) ∧ Inv8 g ad pe ct2) (va_A (zw 126 ad ct) sz)) 0 0 (va_A (zw 126 ad ct) sz) := by
  refine Met.ofW (cc := cX4_opens) (maxL := 2) (ret := (some .boolean)) (by decide) rfl ?_
  intro p e s m args below meth c s₁ B hml hv
  obtain ⟨rfl, hsz, hP, hK, hD0, hN⟩ := hv
  have hx := B.exec
  have hb := B.bytes
  have hr := B.returns
  have hg := zW.law (atoms_spec (ws := (zW yX4_opens cX4_opens 2 (some .boolean))) B.pre)
  have hown : s.vm.findClass RX4 = some m.cls := findClass_of_methodNamed B.named
  have hlocks := B.notSynchronized
  have hpe0 := hI.1
  subst hsz
  have hD := hD0.self (sz := s.heap.size)
  generalize hAe : va_A (zw 126 ad ct) s.heap.size = A at hD ⊢
  have hA : ∀ q : Nat, s.heap.size ≤ q → A q := fun q h => by rw [← hAe]; exact Or.inr h
  have hS : va_S A s.heap s.heap [] := va_S.rf
  have hl := lv_entry ([.ref (ad kg), .int dp]) (n := 2) (Nat.le_of_ble_eq_true rfl)
  rw [lg_entry_eq]
  generalize (lg_sl ([.ref (ad kg), .int dp]) ++ List.replicate (2 - (lg_sl ([.ref (ad kg), .int dp])).length) Slot.unset).toArray = ls at hl ⊢
  have hl : lv_has ls 2 [(0, .ref (ad kg)), (1, .int dp)] := hl
  obtain ⟨tld2, ofb3, hol4, flt5, fla6, ofl7, len8, atx9, ref10, hz11, h12, h13, h14, h15, hz16, hs1⟩ := a8_44 (kc := kg) (by omega) hI
  have bhz11 := z_b01 hz11
  have bhz16 := z_b01 hz16
  skip
  skip
  skip
  skip
  skip
  skip
  skip
  skip
  skip
  have hs17 := hs0
  cases (hs0.symm.trans hs1)
  have rg_dp := z_rng dp
  refine lv_iload_n hx hb dX4_opens_0 rfl (lv_at hl 1 rfl) ?_
  refine lv_bipush (v := 6) hx hb dX4_opens_1 (by decide) ?_
  refine lv_icmp_lt (tgt := 13) hx hb dX4_opens_3 (by decide) (fun c18 => ?_) (fun c18 => ?_)
  · skip
    have c18 : dp.toInt < 6 := (z_lt rfl (by decide : (6 : Int32).toInt = 6)).mp c18
    refine lv_aload_n hx hb dX4_opens_13 rfl (lv_at hl 0 rfl) ?_
    refine lv_dup hx hb dX4_opens_14 rfl ?_
    refine va_get (D := g.1) (ci := 4) (v := .int atx) (C := RX4) (T := TX4) (N := 11) hx hb hg inG4 hown hK hP kg (zw_at (by omega) hs17) rfl 9 (by decide) (hg _ mm_285) (fun _ h9 => h9) rfl dX4_opens_15 ?_
    refine lv_iconst (v := 1) hx hb dX4_opens_18 (by decide) ?_
    refine lv_iadd hx hb dX4_opens_19 ?_
    refine lv_topi (fun x19 ex19 => ?_)
    have tx19 : x19.toInt = atx.toInt + 1 := by rw [ex19]; exact z_add rfl (by decide : (1 : Int32).toInt = 1) (by omega) (by omega)
    refine va_put (D := g.1) (ci := 4) (v := .int x19) (ty := .int) (C := RX4) (T := TX4) (N := 11) hx hb hg inG4 tyX4 tyX4_ok nmX4 hown hK hP hD hS kg (zw_at (by omega) hs17) rfl 9 (by decide) (hg _ mm_285) (fun _ h9 => h9) rfl (by decide +kernel) rfl rfl (Nat.le_of_ble_eq_true rfl) dX4_opens_20 (fun H locs hP hD hS => ?_)
    have hP : zP g ((zw 126 ad ct).set kg (ad kg, .inr (4, [.int tld, .int ofb, .int hol, .int flt, .int fla, .int ofl, .ref (ad (kg + 1)), .ref (ad (kg + 2)), .int len, .int x19, .int ref]))) H := hP
    have hD : va_D A ((zw 126 ad ct).set kg (ad kg, .inr (4, [.int tld, .int ofb, .int hol, .int flt, .int fla, .int ofl, .ref (ad (kg + 1)), .ref (ad (kg + 2)), .int len, .int x19, .int ref]))) := hD
    rw [zw_set (by omega)] at hP hD
    obtain ⟨ct20, ec21⟩ : ∃ z : Nat → va_E, z = va_up ct kg (.inr (4, [.int tld, .int ofb, .int hol, .int flt, .int fla, .int ofl, .ref (ad (kg + 1)), .ref (ad (kg + 2)), .int len, .int x19, .int ref])) := ⟨_, rfl⟩
    rw [← ec21] at hP hD
    have hI : Inv8 g ad pe ct20 := by rw [ec21]; exact up8 hI (i8_44 (kc := kg) (by omega) ⟨(tld : Int32), (ofb : Int32), (hol : Int32), (flt : Int32), (fla : Int32), (ofl : Int32), (len : Int32), (x19 : Int32), (ref : Int32), hz11, (by first | omega | decide), (by first | omega | decide), (by first | omega | decide), (by first | omega | decide), hz16, rfl⟩)
    have hs22 : ct20 kg = .inr (4, [.int tld, .int ofb, .int hol, .int flt, .int fla, .int ofl, .ref (ad (kg + 1)), .ref (ad (kg + 2)), .int len, .int x19, .int ref]) := by rw [ec21]; exact va_up_self _ _ _
    refine lv_iconst (v := 1) hx hb dX4_opens_23 (by decide) ?_
    have q23 : (1 : Int32).toInt = 1 := by decide
    exact W.zret (v := 1) hx hb hr rfl (fun t ht hW => ⟨⟨1, (), rfl, by first | exact Or.inl ⟨rfl, by omega⟩ | exact Or.inr ⟨rfl, by omega⟩ | exact Or.inl rfl | exact Or.inr rfl | exact Or.inl ⟨rfl, by omega, by omega⟩ | exact (z_01 (by omega) (by omega)).symm, ct20, by rw [ht]; exact hP, hD, hI⟩, hS.F ht⟩) hS.2.2 dX4_opens_24
  · skip
    have c18 : ¬ (dp.toInt < 6) := fun q => c18 ((z_lt rfl (by decide : (6 : Int32).toInt = 6)).mpr q)
    refine lv_aload_n hx hb dX4_opens_6 rfl (lv_at hl 0 rfl) ?_
    refine lv_iconst (v := 5) hx hb dX4_opens_7 (by decide) ?_
    have hFc := zw_free hD hS hA
    refine va_callv (va_runV (As := [.int 5]) (rest := []) ⟨hx, hb, hml, hown, hg⟩ (k_X4_fail l g _ ad pe ct kg (5 : Int32) (by omega) hI) (cwV 1 hg (z_gV mm_483 mm_485 mm_10 mm_114 mm_486) rfl rfl rfl (by decide +kernel) ⟨Nat.le_of_ble_eq_true rfl, Nat.le_of_ble_eq_true rfl⟩) ⟨(zA.pre [.ref (ad kg), .int 5] hP hK hD hN).1, va_recv hK hP (ci := 4) (q0 := kg) rfl (zw_at (by omega) hs17), (zA.pre [.ref (ad kg), .int 5] hP hK hD hN).2⟩ rfl rfl hl.1 rfl (lv_room (Nat.le_of_ble_eq_true rfl)) dX4_opens_8 ⟨Nat.le_of_ble_eq_true rfl, Nat.le_of_ble_eq_true rfl⟩) hS (fun q _ h => hFc q h) hFc (fun _ t H1 locs ht hvm hr24 hB hz1 hk1 hS => ?_)
    obtain ⟨ct25, hP1, hD1, hI⟩ := hB
    rw [ht] at hP1
    have hD := hD1.weaken (fun _ _ _ h => hFc _ h)
    generalize H1 = H at hP1 hS ⊢
    have hP := hP1
    refine W.widen (k := 0) (n := 0) (Nat.le_refl _) (Nat.le_refl _) ?_
    refine lv_iconst (v := 0) hx hb dX4_opens_11 (by decide) ?_
    have q26 : (0 : Int32).toInt = 0 := by decide
    exact W.zret (v := 0) hx hb hr rfl (fun t ht hW => ⟨⟨0, (), rfl, by first | exact Or.inl ⟨rfl, by omega⟩ | exact Or.inr ⟨rfl, by omega⟩ | exact Or.inl rfl | exact Or.inr rfl | exact Or.inl ⟨rfl, by omega, by omega⟩ | exact (z_01 (by omega) (by omega)).symm, ct25, by rw [ht]; exact hP, hD, hI⟩, hS.F ht⟩) hS.2.2 dX4_opens_12

set_option maxHeartbeats 4000000 in
set_option maxRecDepth 100000 in
theorem k_X4_expect (l : Launch) (g : zG) (sz : Nat) (ad : Nat → Nat) (pe : Int32) (ct : Nat → va_E) (kg : Nat) (sg : Int32) (hf_kg : 99 ≤ kg ∧ kg < 126 ∧ (kg - 99) % 3 = 0) (hl_sg : 0 ≤ sg.toInt ∧ sg.toInt ≤ 127) (hI : Inv8 g ad pe ct) : Met l yX4_expect (zW yX4_expect cX4_expect 2 none) ({ frames := 1, cells := 0, slots := 0, locals := 21 }) (va_Pc [.ref (ad kg), .int sg] (zA g (zw 126 ad ct) sz)) (va_Qv (fun (_ : Unit) => True) (fun _ t => ∃ ct2 : Nat → va_E, zP g (zw 126 ad ct2) t.heap ∧ va_D (va_A (zw 126 ad ct) sz) (zw 126 ad ct2) ∧ Inv8 g ad pe ct2) (va_A (zw 126 ad ct) sz)) 0 0 (va_A (zw 126 ad ct) sz) := by
  refine Met.ofW (cc := cX4_expect) (maxL := 2) (ret := none) (by decide) rfl ?_
  intro p e s m args below meth c s₁ B hml hv
  obtain ⟨rfl, hsz, hP, hK, hD0, hN⟩ := hv
  have hx := B.exec
  have hb := B.bytes
  have hr := B.returns
  have hg := zW.law (atoms_spec (ws := (zW yX4_expect cX4_expect 2 none)) B.pre)
  have hown : s.vm.findClass RX4 = some m.cls := findClass_of_methodNamed B.named
  have hlocks := B.notSynchronized
  have hpe0 := hI.1
  subst hsz
  have hD := hD0.self (sz := s.heap.size)
  generalize hAe : va_A (zw 126 ad ct) s.heap.size = A at hD ⊢
  have hA : ∀ q : Nat, s.heap.size ≤ q → A q := fun q h => by rw [← hAe]; exact Or.inr h
  have hS : va_S A s.heap s.heap [] := va_S.rf
  have hl := lv_entry ([.ref (ad kg), .int sg]) (n := 2) (Nat.le_of_ble_eq_true rfl)
  rw [lg_entry_eq]
  generalize (lg_sl ([.ref (ad kg), .int sg]) ++ List.replicate (2 - (lg_sl ([.ref (ad kg), .int sg])).length) Slot.unset).toArray = ls at hl ⊢
  have hl : lv_has ls 2 [(0, .ref (ad kg)), (1, .int sg)] := hl
  refine lv_aload_n hx hb dX4_expect_0 rfl (lv_at hl 0 rfl) ?_
  obtain ⟨tld2, ofb3, hol4, flt5, fla6, ofl7, len8, atx9, ref10, hz11, h12, h13, h14, h15, hz16, hs1⟩ := a8_44 (kc := kg) (by omega) hI
  have bhz11 := z_b01 hz11
  have bhz16 := z_b01 hz16
  refine zc_i (va_runV (As := []) (rest := []) ⟨hx, hb, hml, hown, hg⟩ (k_X4_next l g ad pe ct kg tld2 ofb3 hol4 flt5 fla6 ofl7 len8 atx9 ref10 (by omega) hI hs1) (cwV 0 hg (z_gV mm_475 mm_477 mm_8 mm_114 mm_478) rfl rfl rfl (by decide +kernel) ⟨Nat.le_of_ble_eq_true rfl, Nat.le_of_ble_eq_true rfl⟩) ⟨(zR.pre [.ref (ad kg)] hP hK hN).1, va_recv hK hP (ci := 4) (q0 := kg) rfl (zw_at (by omega) hs1), (zR.pre [.ref (ad kg)] hP hK hN).2⟩ rfl rfl hl.1 rfl (lv_room (Nat.le_of_ble_eq_true rfl)) dX4_expect_1 ⟨Nat.le_of_ble_eq_true rfl, Nat.le_of_ble_eq_true rfl⟩) (fun r17 hr17 => ?_)
  have h18 := hr17
  have h18 : r17.toInt = -1 ∨ atx9.toInt ≤ 99 := h18
  refine lv_iload_n hx hb dX4_expect_4 rfl (lv_at hl 1 rfl) ?_
  refine lv_icmp_ne (tgt := 21) hx hb dX4_expect_5 (by decide) (fun c19 => ?_) (fun c19 => ?_)
  · skip
    have c19 : ¬ (r17.toInt = sg.toInt) := fun q => c19 ((z_eq rfl rfl).mpr q)
    refine lv_aload_n hx hb dX4_expect_21 rfl (lv_at hl 0 rfl) ?_
    refine lv_iconst (v := 1) hx hb dX4_expect_22 (by decide) ?_
    have hFc := zw_free hD hS hA
    refine va_callv (va_runV (As := [.int 1]) (rest := []) ⟨hx, hb, hml, hown, hg⟩ (k_X4_fail l g _ ad pe ct kg (1 : Int32) (by omega) hI) (cwV 1 hg (z_gV mm_483 mm_485 mm_10 mm_114 mm_486) rfl rfl rfl (by decide +kernel) ⟨Nat.le_of_ble_eq_true rfl, Nat.le_of_ble_eq_true rfl⟩) ⟨(zA.pre [.ref (ad kg), .int 1] hP hK hD hN).1, va_recv hK hP (ci := 4) (q0 := kg) rfl (zw_at (by omega) hs1), (zA.pre [.ref (ad kg), .int 1] hP hK hD hN).2⟩ rfl rfl hl.1 rfl (lv_room (Nat.le_of_ble_eq_true rfl)) dX4_expect_23 ⟨Nat.le_of_ble_eq_true rfl, Nat.le_of_ble_eq_true rfl⟩) hS (fun q _ h => hFc q h) hFc (fun _ t H1 locs ht hvm hr20 hB hz1 hk1 hS => ?_)
    obtain ⟨ct21, hP1, hD1, hI⟩ := hB
    rw [ht] at hP1
    have hD := hD1.weaken (fun _ _ _ h => hFc _ h)
    generalize H1 = H at hP1 hS ⊢
    have hP := hP1
    refine W.widen (k := 0) (n := 0) (Nat.le_refl _) (Nat.le_refl _) ?_
    exact W.vret hx hb hr (fun t ht hW => ⟨⟨(), rfl, trivial, ct21, by rw [ht]; exact hP, hD, hI⟩, hS.F ht⟩) hS.2.2 dX4_expect_26
  · skip
    have c19 : r17.toInt = sg.toInt := (z_eq rfl rfl).mp c19
    refine lv_aload_n hx hb dX4_expect_8 rfl (lv_at hl 0 rfl) ?_
    refine lv_dup hx hb dX4_expect_9 rfl ?_
    refine va_get (D := g.1) (ci := 4) (v := .int atx9) (C := RX4) (T := TX4) (N := 11) hx hb hg inG4 hown hK hP kg (zw_at (by omega) hs1) rfl 9 (by decide) (hg _ mm_285) (fun _ h9 => h9) rfl dX4_expect_10 ?_
    refine lv_iconst (v := 1) hx hb dX4_expect_13 (by decide) ?_
    refine lv_iadd hx hb dX4_expect_14 ?_
    refine lv_topi (fun x22 ex22 => ?_)
    have tx22 : x22.toInt = atx9.toInt + 1 := by rw [ex22]; exact z_add rfl (by decide : (1 : Int32).toInt = 1) (by omega) (by omega)
    refine va_put (D := g.1) (ci := 4) (v := .int x22) (ty := .int) (C := RX4) (T := TX4) (N := 11) hx hb hg inG4 tyX4 tyX4_ok nmX4 hown hK hP hD hS kg (zw_at (by omega) hs1) rfl 9 (by decide) (hg _ mm_285) (fun _ h9 => h9) rfl (by decide +kernel) rfl rfl (Nat.le_of_ble_eq_true rfl) dX4_expect_15 (fun H locs hP hD hS => ?_)
    have hP : zP g ((zw 126 ad ct).set kg (ad kg, .inr (4, [.int tld2, .int ofb3, .int hol4, .int flt5, .int fla6, .int ofl7, .ref (ad (kg + 1)), .ref (ad (kg + 2)), .int len8, .int x22, .int ref10]))) H := hP
    have hD : va_D A ((zw 126 ad ct).set kg (ad kg, .inr (4, [.int tld2, .int ofb3, .int hol4, .int flt5, .int fla6, .int ofl7, .ref (ad (kg + 1)), .ref (ad (kg + 2)), .int len8, .int x22, .int ref10]))) := hD
    rw [zw_set (by omega)] at hP hD
    obtain ⟨ct23, ec24⟩ : ∃ z : Nat → va_E, z = va_up ct kg (.inr (4, [.int tld2, .int ofb3, .int hol4, .int flt5, .int fla6, .int ofl7, .ref (ad (kg + 1)), .ref (ad (kg + 2)), .int len8, .int x22, .int ref10])) := ⟨_, rfl⟩
    rw [← ec24] at hP hD
    have hI : Inv8 g ad pe ct23 := by rw [ec24]; exact up8 hI (i8_44 (kc := kg) (by omega) ⟨(tld2 : Int32), (ofb3 : Int32), (hol4 : Int32), (flt5 : Int32), (fla6 : Int32), (ofl7 : Int32), (len8 : Int32), (x22 : Int32), (ref10 : Int32), hz11, (by first | omega | decide), (by first | omega | decide), (by first | omega | decide), (by first | omega | decide), hz16, rfl⟩)
    have hs25 : ct23 kg = .inr (4, [.int tld2, .int ofb3, .int hol4, .int flt5, .int fla6, .int ofl7, .ref (ad (kg + 1)), .ref (ad (kg + 2)), .int len8, .int x22, .int ref10]) := by rw [ec24]; exact va_up_self _ _ _
    refine lv_goto (tgt := 26) hx hb dX4_expect_18 (by decide) ?_
    exact W.vret hx hb hr (fun t ht hW => ⟨⟨(), rfl, trivial, ct23, by rw [ht]; exact hP, hD, hI⟩, hS.F ht⟩) hS.2.2 dX4_expect_26

set_option maxHeartbeats 4000000 in
set_option maxRecDepth 100000 in
theorem k_X4_isDigit (l : Launch) (g : zG) (ad : Nat → Nat) (pe : Int32) (ct : Nat → va_E) (n : Int32) (hI : Inv8 g ad pe ct) : Met l yX4_isDigit (zW yX4_isDigit cX4_isDigit 1 (some .boolean)) ({ frames := 0, cells := 0, slots := 0, locals := 0 }) (va_Pc [.int n] (zR g (zw 126 ad ct))) (vp_Si (fun r : Int32 => (r = 1 ∧ (48 ≤ n.toInt) ∧ (n.toInt ≤ 57)) ∨ (r = 0 ∧ (¬ (48 ≤ n.toInt ∧ n.toInt ≤ 57))))) 0 0 (fun _ => False) := by
  refine Met.ofW (cc := cX4_isDigit) (maxL := 1) (ret := (some .boolean)) (by decide) rfl ?_
  intro p e s m args below meth c s₁ B hml hv
  obtain ⟨rfl, hP, hK, hN⟩ := hv
  have hx := B.exec
  have hb := B.bytes
  have hr := B.returns
  have hg := zW.law (atoms_spec (ws := (zW yX4_isDigit cX4_isDigit 1 (some .boolean))) B.pre)
  have hown : s.vm.findClass RX4 = some m.cls := findClass_of_methodNamed B.named
  have hlocks := B.notSynchronized
  have hpe0 := hI.1
  have hl := lv_entry ([.int n]) (n := 1) (Nat.le_of_ble_eq_true rfl)
  rw [lg_entry_eq]
  generalize (lg_sl ([.int n]) ++ List.replicate (1 - (lg_sl ([.int n])).length) Slot.unset).toArray = ls at hl ⊢
  have hl : lv_has ls 1 [(0, .int n)] := hl
  have rg_n := z_rng n
  refine lv_iload_n hx hb dX4_isDigit_0 rfl (lv_at hl 0 rfl) ?_
  refine lv_bipush (v := 48) hx hb dX4_isDigit_1 (by decide) ?_
  refine lv_icmp_lt (tgt := 16) hx hb dX4_isDigit_3 (by decide) (fun c1 => ?_) (fun c1 => ?_)
  · skip
    have c1 : n.toInt < 48 := (z_lt rfl (by decide : (48 : Int32).toInt = 48)).mp c1
    refine lv_iconst (v := 0) hx hb dX4_isDigit_16 (by decide) ?_
    have q2 : (0 : Int32).toInt = 0 := by decide
    exact W.zret (v := 0) hx hb hr rfl (fun t ht hW => ⟨0, rfl, by first | exact Or.inl ⟨rfl, by omega⟩ | exact Or.inr ⟨rfl, by omega⟩ | exact Or.inl rfl | exact Or.inr rfl | exact Or.inl ⟨rfl, by omega, by omega⟩ | exact (z_01 (by omega) (by omega)).symm, ht⟩) (fun q hq => by cases hq) dX4_isDigit_17
  · skip
    have c1 : ¬ (n.toInt < 48) := fun q => c1 ((z_lt rfl (by decide : (48 : Int32).toInt = 48)).mpr q)
    refine lv_iload_n hx hb dX4_isDigit_6 rfl (lv_at hl 0 rfl) ?_
    refine lv_bipush (v := 57) hx hb dX4_isDigit_7 (by decide) ?_
    refine lv_icmp_gt (tgt := 16) hx hb dX4_isDigit_9 (by decide) (fun c3 => ?_) (fun c3 => ?_)
    · skip
      have c3 : 57 < n.toInt := (z_lt (by decide : (57 : Int32).toInt = 57) rfl).mp c3
      refine lv_iconst (v := 0) hx hb dX4_isDigit_16 (by decide) ?_
      have q4 : (0 : Int32).toInt = 0 := by decide
      exact W.zret (v := 0) hx hb hr rfl (fun t ht hW => ⟨0, rfl, by first | exact Or.inl ⟨rfl, by omega⟩ | exact Or.inr ⟨rfl, by omega⟩ | exact Or.inl rfl | exact Or.inr rfl | exact Or.inl ⟨rfl, by omega, by omega⟩ | exact (z_01 (by omega) (by omega)).symm, ht⟩) (fun q hq => by cases hq) dX4_isDigit_17
    · skip
      have c3 : ¬ (57 < n.toInt) := fun q => c3 ((z_lt (by decide : (57 : Int32).toInt = 57) rfl).mpr q)
      refine lv_iconst (v := 1) hx hb dX4_isDigit_12 (by decide) ?_
      refine lv_goto (tgt := 17) hx hb dX4_isDigit_13 (by decide) ?_
      have q5 : (1 : Int32).toInt = 1 := by decide
      exact W.zret (v := 1) hx hb hr rfl (fun t ht hW => ⟨1, rfl, by first | exact Or.inl ⟨rfl, by omega⟩ | exact Or.inr ⟨rfl, by omega⟩ | exact Or.inl rfl | exact Or.inr rfl | exact Or.inl ⟨rfl, by omega, by omega⟩ | exact (z_01 (by omega) (by omega)).symm, ht⟩) (fun q hq => by cases hq) dX4_isDigit_17

set_option maxHeartbeats 4000000 in
set_option maxRecDepth 100000 in
theorem k_X4_letterOf (l : Launch) (g : zG) (ad : Nat → Nat) (pe : Int32) (ct : Nat → va_E) (sg : Int32) (hI : Inv8 g ad pe ct) : Met l yX4_letterOf (zW yX4_letterOf cX4_letterOf 1 (some .int)) ({ frames := 0, cells := 0, slots := 0, locals := 0 }) (va_Pc [.int sg] (zR g (zw 126 ad ct))) (vp_Si (fun r : Int32 => ((-1 ≤ r.toInt) ∧ (r.toInt ≤ 6) ∧ (r.toInt = -1 ∨ 97 ≤ sg.toInt)))) 0 0 (fun _ => False) := by
  refine Met.ofW (cc := cX4_letterOf) (maxL := 1) (ret := (some .int)) (by decide) rfl ?_
  intro p e s m args below meth c s₁ B hml hv
  obtain ⟨rfl, hP, hK, hN⟩ := hv
  have hx := B.exec
  have hb := B.bytes
  have hr := B.returns
  have hg := zW.law (atoms_spec (ws := (zW yX4_letterOf cX4_letterOf 1 (some .int))) B.pre)
  have hown : s.vm.findClass RX4 = some m.cls := findClass_of_methodNamed B.named
  have hlocks := B.notSynchronized
  have hpe0 := hI.1
  have hl := lv_entry ([.int sg]) (n := 1) (Nat.le_of_ble_eq_true rfl)
  rw [lg_entry_eq]
  generalize (lg_sl ([.int sg]) ++ List.replicate (1 - (lg_sl ([.int sg])).length) Slot.unset).toArray = ls at hl ⊢
  have hl : lv_has ls 1 [(0, .int sg)] := hl
  have rg_sg := z_rng sg
  refine lv_iload_n hx hb dX4_letterOf_0 rfl (lv_at hl 0 rfl) ?_
  rcases (show sg.toInt = 97 ∨ sg.toInt = 98 ∨ sg.toInt = 99 ∨ sg.toInt = 100 ∨ sg.toInt = 101 ∨ sg.toInt = 102 ∨ sg.toInt = 103 ∨ sg.toInt = 104 ∨ sg.toInt = 105 ∨ sg.toInt = 106 ∨ sg.toInt = 107 ∨ sg.toInt = 108 ∨ sg.toInt = 109 ∨ sg.toInt = 110 ∨ sg.toInt = 111 ∨ sg.toInt = 112 ∨ sg.toInt = 113 ∨ sg.toInt = 114 ∨ sg.toInt = 115 ∨ sg.toInt = 116 ∨ sg.toInt = 117 ∨ sg.toInt = 118 ∨ sg.toInt = 119 ∨ sg.toInt < 97 ∨ 119 < sg.toInt by omega) with hw1 | hw1 | hw1 | hw1 | hw1 | hw1 | hw1 | hw1 | hw1 | hw1 | hw1 | hw1 | hw1 | hw1 | hw1 | hw1 | hw1 | hw1 | hw1 | hw1 | hw1 | hw1 | hw1 | hw1
  · skip
    refine lv_tableIn (tgt := 108) (off := 107) hx hb dX4_letterOf_1 (by omega) (by omega) (by rw [hw1]; rfl) (by decide) ?_
    refine lv_iload_n hx hb dX4_letterOf_108 rfl (lv_at hl 0 rfl) ?_
    refine lv_bipush (v := 97) hx hb dX4_letterOf_109 (by decide) ?_
    refine lv_isub hx hb dX4_letterOf_111 ?_
    refine lv_topi (fun x2 ex2 => ?_)
    have tx2 : x2.toInt = sg.toInt - 97 := by rw [ex2]; exact z_sub rfl (by decide : (97 : Int32).toInt = 97) (by omega) (by omega)
    exact W.iret (v := x2) hx hb hr (fun t ht hW => ⟨x2, rfl, ⟨by omega, by omega, by omega⟩, ht⟩) (fun q hq => by cases hq) dX4_letterOf_112
  · skip
    refine lv_tableIn (tgt := 108) (off := 107) hx hb dX4_letterOf_1 (by omega) (by omega) (by rw [hw1]; rfl) (by decide) ?_
    refine lv_iload_n hx hb dX4_letterOf_108 rfl (lv_at hl 0 rfl) ?_
    refine lv_bipush (v := 97) hx hb dX4_letterOf_109 (by decide) ?_
    refine lv_isub hx hb dX4_letterOf_111 ?_
    refine lv_topi (fun x3 ex3 => ?_)
    have tx3 : x3.toInt = sg.toInt - 97 := by rw [ex3]; exact z_sub rfl (by decide : (97 : Int32).toInt = 97) (by omega) (by omega)
    exact W.iret (v := x3) hx hb hr (fun t ht hW => ⟨x3, rfl, ⟨by omega, by omega, by omega⟩, ht⟩) (fun q hq => by cases hq) dX4_letterOf_112
  · skip
    refine lv_tableIn (tgt := 108) (off := 107) hx hb dX4_letterOf_1 (by omega) (by omega) (by rw [hw1]; rfl) (by decide) ?_
    refine lv_iload_n hx hb dX4_letterOf_108 rfl (lv_at hl 0 rfl) ?_
    refine lv_bipush (v := 97) hx hb dX4_letterOf_109 (by decide) ?_
    refine lv_isub hx hb dX4_letterOf_111 ?_
    refine lv_topi (fun x4 ex4 => ?_)
    have tx4 : x4.toInt = sg.toInt - 97 := by rw [ex4]; exact z_sub rfl (by decide : (97 : Int32).toInt = 97) (by omega) (by omega)
    exact W.iret (v := x4) hx hb hr (fun t ht hW => ⟨x4, rfl, ⟨by omega, by omega, by omega⟩, ht⟩) (fun q hq => by cases hq) dX4_letterOf_112
  · skip
    refine lv_tableIn (tgt := 108) (off := 107) hx hb dX4_letterOf_1 (by omega) (by omega) (by rw [hw1]; rfl) (by decide) ?_
    refine lv_iload_n hx hb dX4_letterOf_108 rfl (lv_at hl 0 rfl) ?_
    refine lv_bipush (v := 97) hx hb dX4_letterOf_109 (by decide) ?_
    refine lv_isub hx hb dX4_letterOf_111 ?_
    refine lv_topi (fun x5 ex5 => ?_)
    have tx5 : x5.toInt = sg.toInt - 97 := by rw [ex5]; exact z_sub rfl (by decide : (97 : Int32).toInt = 97) (by omega) (by omega)
    exact W.iret (v := x5) hx hb hr (fun t ht hW => ⟨x5, rfl, ⟨by omega, by omega, by omega⟩, ht⟩) (fun q hq => by cases hq) dX4_letterOf_112
  · skip
    refine lv_tableIn (tgt := 120) (off := 119) hx hb dX4_letterOf_1 (by omega) (by omega) (by rw [hw1]; rfl) (by decide) ?_
    refine lv_iconst (v := (-1)) hx hb dX4_letterOf_120 (by decide) ?_
    have q6 : ((-1) : Int32).toInt = -1 := by decide
    exact W.iret (v := (-1)) hx hb hr (fun t ht hW => ⟨(-1), rfl, ⟨by omega, by omega, by omega⟩, ht⟩) (fun q hq => by cases hq) dX4_letterOf_121
  · skip
    refine lv_tableIn (tgt := 120) (off := 119) hx hb dX4_letterOf_1 (by omega) (by omega) (by rw [hw1]; rfl) (by decide) ?_
    refine lv_iconst (v := (-1)) hx hb dX4_letterOf_120 (by decide) ?_
    have q7 : ((-1) : Int32).toInt = -1 := by decide
    exact W.iret (v := (-1)) hx hb hr (fun t ht hW => ⟨(-1), rfl, ⟨by omega, by omega, by omega⟩, ht⟩) (fun q hq => by cases hq) dX4_letterOf_121
  · skip
    refine lv_tableIn (tgt := 120) (off := 119) hx hb dX4_letterOf_1 (by omega) (by omega) (by rw [hw1]; rfl) (by decide) ?_
    refine lv_iconst (v := (-1)) hx hb dX4_letterOf_120 (by decide) ?_
    have q8 : ((-1) : Int32).toInt = -1 := by decide
    exact W.iret (v := (-1)) hx hb hr (fun t ht hW => ⟨(-1), rfl, ⟨by omega, by omega, by omega⟩, ht⟩) (fun q hq => by cases hq) dX4_letterOf_121
  · skip
    refine lv_tableIn (tgt := 120) (off := 119) hx hb dX4_letterOf_1 (by omega) (by omega) (by rw [hw1]; rfl) (by decide) ?_
    refine lv_iconst (v := (-1)) hx hb dX4_letterOf_120 (by decide) ?_
    have q9 : ((-1) : Int32).toInt = -1 := by decide
    exact W.iret (v := (-1)) hx hb hr (fun t ht hW => ⟨(-1), rfl, ⟨by omega, by omega, by omega⟩, ht⟩) (fun q hq => by cases hq) dX4_letterOf_121
  · skip
    refine lv_tableIn (tgt := 120) (off := 119) hx hb dX4_letterOf_1 (by omega) (by omega) (by rw [hw1]; rfl) (by decide) ?_
    refine lv_iconst (v := (-1)) hx hb dX4_letterOf_120 (by decide) ?_
    have q10 : ((-1) : Int32).toInt = -1 := by decide
    exact W.iret (v := (-1)) hx hb hr (fun t ht hW => ⟨(-1), rfl, ⟨by omega, by omega, by omega⟩, ht⟩) (fun q hq => by cases hq) dX4_letterOf_121
  · skip
    refine lv_tableIn (tgt := 120) (off := 119) hx hb dX4_letterOf_1 (by omega) (by omega) (by rw [hw1]; rfl) (by decide) ?_
    refine lv_iconst (v := (-1)) hx hb dX4_letterOf_120 (by decide) ?_
    have q11 : ((-1) : Int32).toInt = -1 := by decide
    exact W.iret (v := (-1)) hx hb hr (fun t ht hW => ⟨(-1), rfl, ⟨by omega, by omega, by omega⟩, ht⟩) (fun q hq => by cases hq) dX4_letterOf_121
  · skip
    refine lv_tableIn (tgt := 120) (off := 119) hx hb dX4_letterOf_1 (by omega) (by omega) (by rw [hw1]; rfl) (by decide) ?_
    refine lv_iconst (v := (-1)) hx hb dX4_letterOf_120 (by decide) ?_
    have q12 : ((-1) : Int32).toInt = -1 := by decide
    exact W.iret (v := (-1)) hx hb hr (fun t ht hW => ⟨(-1), rfl, ⟨by omega, by omega, by omega⟩, ht⟩) (fun q hq => by cases hq) dX4_letterOf_121
  · skip
    refine lv_tableIn (tgt := 117) (off := 116) hx hb dX4_letterOf_1 (by omega) (by omega) (by rw [hw1]; rfl) (by decide) ?_
    refine lv_bipush (v := 6) hx hb dX4_letterOf_117 (by decide) ?_
    have q13 : (6 : Int32).toInt = 6 := by decide
    exact W.iret (v := 6) hx hb hr (fun t ht hW => ⟨6, rfl, ⟨by omega, by omega, by omega⟩, ht⟩) (fun q hq => by cases hq) dX4_letterOf_119
  · skip
    refine lv_tableIn (tgt := 120) (off := 119) hx hb dX4_letterOf_1 (by omega) (by omega) (by rw [hw1]; rfl) (by decide) ?_
    refine lv_iconst (v := (-1)) hx hb dX4_letterOf_120 (by decide) ?_
    have q14 : ((-1) : Int32).toInt = -1 := by decide
    exact W.iret (v := (-1)) hx hb hr (fun t ht hW => ⟨(-1), rfl, ⟨by omega, by omega, by omega⟩, ht⟩) (fun q hq => by cases hq) dX4_letterOf_121
  · skip
    refine lv_tableIn (tgt := 120) (off := 119) hx hb dX4_letterOf_1 (by omega) (by omega) (by rw [hw1]; rfl) (by decide) ?_
    refine lv_iconst (v := (-1)) hx hb dX4_letterOf_120 (by decide) ?_
    have q15 : ((-1) : Int32).toInt = -1 := by decide
    exact W.iret (v := (-1)) hx hb hr (fun t ht hW => ⟨(-1), rfl, ⟨by omega, by omega, by omega⟩, ht⟩) (fun q hq => by cases hq) dX4_letterOf_121
  · skip
    refine lv_tableIn (tgt := 120) (off := 119) hx hb dX4_letterOf_1 (by omega) (by omega) (by rw [hw1]; rfl) (by decide) ?_
    refine lv_iconst (v := (-1)) hx hb dX4_letterOf_120 (by decide) ?_
    have q16 : ((-1) : Int32).toInt = -1 := by decide
    exact W.iret (v := (-1)) hx hb hr (fun t ht hW => ⟨(-1), rfl, ⟨by omega, by omega, by omega⟩, ht⟩) (fun q hq => by cases hq) dX4_letterOf_121
  · skip
    refine lv_tableIn (tgt := 113) (off := 112) hx hb dX4_letterOf_1 (by omega) (by omega) (by rw [hw1]; rfl) (by decide) ?_
    refine lv_iconst (v := 4) hx hb dX4_letterOf_113 (by decide) ?_
    have q17 : (4 : Int32).toInt = 4 := by decide
    exact W.iret (v := 4) hx hb hr (fun t ht hW => ⟨4, rfl, ⟨by omega, by omega, by omega⟩, ht⟩) (fun q hq => by cases hq) dX4_letterOf_114
  · skip
    refine lv_tableIn (tgt := 120) (off := 119) hx hb dX4_letterOf_1 (by omega) (by omega) (by rw [hw1]; rfl) (by decide) ?_
    refine lv_iconst (v := (-1)) hx hb dX4_letterOf_120 (by decide) ?_
    have q18 : ((-1) : Int32).toInt = -1 := by decide
    exact W.iret (v := (-1)) hx hb hr (fun t ht hW => ⟨(-1), rfl, ⟨by omega, by omega, by omega⟩, ht⟩) (fun q hq => by cases hq) dX4_letterOf_121
  · skip
    refine lv_tableIn (tgt := 120) (off := 119) hx hb dX4_letterOf_1 (by omega) (by omega) (by rw [hw1]; rfl) (by decide) ?_
    refine lv_iconst (v := (-1)) hx hb dX4_letterOf_120 (by decide) ?_
    have q19 : ((-1) : Int32).toInt = -1 := by decide
    exact W.iret (v := (-1)) hx hb hr (fun t ht hW => ⟨(-1), rfl, ⟨by omega, by omega, by omega⟩, ht⟩) (fun q hq => by cases hq) dX4_letterOf_121
  · skip
    refine lv_tableIn (tgt := 120) (off := 119) hx hb dX4_letterOf_1 (by omega) (by omega) (by rw [hw1]; rfl) (by decide) ?_
    refine lv_iconst (v := (-1)) hx hb dX4_letterOf_120 (by decide) ?_
    have q20 : ((-1) : Int32).toInt = -1 := by decide
    exact W.iret (v := (-1)) hx hb hr (fun t ht hW => ⟨(-1), rfl, ⟨by omega, by omega, by omega⟩, ht⟩) (fun q hq => by cases hq) dX4_letterOf_121
  · skip
    refine lv_tableIn (tgt := 120) (off := 119) hx hb dX4_letterOf_1 (by omega) (by omega) (by rw [hw1]; rfl) (by decide) ?_
    refine lv_iconst (v := (-1)) hx hb dX4_letterOf_120 (by decide) ?_
    have q21 : ((-1) : Int32).toInt = -1 := by decide
    exact W.iret (v := (-1)) hx hb hr (fun t ht hW => ⟨(-1), rfl, ⟨by omega, by omega, by omega⟩, ht⟩) (fun q hq => by cases hq) dX4_letterOf_121
  · skip
    refine lv_tableIn (tgt := 120) (off := 119) hx hb dX4_letterOf_1 (by omega) (by omega) (by rw [hw1]; rfl) (by decide) ?_
    refine lv_iconst (v := (-1)) hx hb dX4_letterOf_120 (by decide) ?_
    have q22 : ((-1) : Int32).toInt = -1 := by decide
    exact W.iret (v := (-1)) hx hb hr (fun t ht hW => ⟨(-1), rfl, ⟨by omega, by omega, by omega⟩, ht⟩) (fun q hq => by cases hq) dX4_letterOf_121
  · skip
    refine lv_tableIn (tgt := 120) (off := 119) hx hb dX4_letterOf_1 (by omega) (by omega) (by rw [hw1]; rfl) (by decide) ?_
    refine lv_iconst (v := (-1)) hx hb dX4_letterOf_120 (by decide) ?_
    have q23 : ((-1) : Int32).toInt = -1 := by decide
    exact W.iret (v := (-1)) hx hb hr (fun t ht hW => ⟨(-1), rfl, ⟨by omega, by omega, by omega⟩, ht⟩) (fun q hq => by cases hq) dX4_letterOf_121
  · skip
    refine lv_tableIn (tgt := 115) (off := 114) hx hb dX4_letterOf_1 (by omega) (by omega) (by rw [hw1]; rfl) (by decide) ?_
    refine lv_iconst (v := 5) hx hb dX4_letterOf_115 (by decide) ?_
    have q24 : (5 : Int32).toInt = 5 := by decide
    exact W.iret (v := 5) hx hb hr (fun t ht hW => ⟨5, rfl, ⟨by omega, by omega, by omega⟩, ht⟩) (fun q hq => by cases hq) dX4_letterOf_116
  · skip
    refine lv_tableOut (tgt := 120) hx hb dX4_letterOf_1 (by omega) (by decide) ?_
    refine lv_iconst (v := (-1)) hx hb dX4_letterOf_120 (by decide) ?_
    have q25 : ((-1) : Int32).toInt = -1 := by decide
    exact W.iret (v := (-1)) hx hb hr (fun t ht hW => ⟨(-1), rfl, ⟨by omega, by omega, by omega⟩, ht⟩) (fun q hq => by cases hq) dX4_letterOf_121

set_option maxHeartbeats 4000000 in
set_option maxRecDepth 100000 in
theorem k_X4_numeral (l : Launch) (g : zG) (sz : Nat) (ad : Nat → Nat) (pe : Int32) (ct : Nat → va_E) (kg : Nat) (hf_kg : 99 ≤ kg ∧ kg < 126 ∧ (kg - 99) % 3 = 0) (hI : Inv8 g ad pe ct) : Met l yX4_numeral (zW yX4_numeral cX4_numeral 3 (some .int)) ({ frames := 1, cells := 0, slots := 0, locals := 21 }) (va_Pc [.ref (ad kg)] (zA g (zw 126 ad ct) sz)) (va_Qi (fun (r : Int32) (_ : Unit) => (True)) (fun _ t => ∃ ct2 : Nat → va_E, zP g (zw 126 ad ct2) t.heap ∧ va_D (va_A (zw 126 ad ct) sz) (zw 126 ad ct2) ∧ Inv8 g ad pe ct2) (va_A (zw 126 ad ct) sz)) 0 0 (va_A (zw 126 ad ct) sz) := by
  refine Met.ofW (cc := cX4_numeral) (maxL := 3) (ret := (some .int)) (by decide) rfl ?_
  intro p e s m args below meth c s₁ B hml hv
  obtain ⟨rfl, hsz, hP, hK, hD0, hN⟩ := hv
  have hx := B.exec
  have hb := B.bytes
  have hr := B.returns
  have hg := zW.law (atoms_spec (ws := (zW yX4_numeral cX4_numeral 3 (some .int))) B.pre)
  have hown : s.vm.findClass RX4 = some m.cls := findClass_of_methodNamed B.named
  have hlocks := B.notSynchronized
  have hpe0 := hI.1
  subst hsz
  have hD := hD0.self (sz := s.heap.size)
  generalize hAe : va_A (zw 126 ad ct) s.heap.size = A at hD ⊢
  have hA : ∀ q : Nat, s.heap.size ≤ q → A q := fun q h => by rw [← hAe]; exact Or.inr h
  have hS : va_S A s.heap s.heap [] := va_S.rf
  have hl := lv_entry ([.ref (ad kg)]) (n := 3) (Nat.le_of_ble_eq_true rfl)
  rw [lg_entry_eq]
  generalize (lg_sl ([.ref (ad kg)]) ++ List.replicate (3 - (lg_sl ([.ref (ad kg)])).length) Slot.unset).toArray = ls at hl ⊢
  have hl : lv_has ls 3 [(0, .ref (ad kg))] := hl
  refine lv_iconst (v := 0) hx hb dX4_numeral_0 (by decide) ?_
  refine lv_istore_n (lv' := [(1, .int 0), (0, .ref (ad kg))]) hx hb dX4_numeral_1 rfl hl (by decide) rfl (fun ls hl => ?_)
  refine lv_iconst (v := 0) hx hb dX4_numeral_2 (by decide) ?_
  refine lv_istore_n (lv' := [(2, .int 0), (1, .int 0), (0, .ref (ad kg))]) hx hb dX4_numeral_3 rfl hl (by decide) rfl (fun ls hl => ?_)
  have loop4 : ∀ (n4 : Nat) (v2_4 : Int32) (v1_4 : Int32) (ct1 : Nat → va_E) (H : Heap) (locs : List Loc) (ls : Array Slot), ((5 - v2_4.toInt : Int).toNat < n4) → (0 ≤ v2_4.toInt ∧ v2_4.toInt ≤ 5) → (Inv8 g ad pe ct1) → zP g (zw 126 ad ct1) H → va_D A (zw 126 ad ct1) → va_S A s.heap H locs → lv_has ls 3 [(2, .int v2_4), (1, .int v1_4), (0, .ref (ad kg))] → W p l e (headSpec (zW yX4_numeral cX4_numeral 3 (some .int)) ({ frames := 1, cells := 0, slots := 0, locals := 21 })).room s m ([.ref (ad kg)] : List Value).toArray below meth c H locs 0 0 (MQ below (va_Qi (fun (r : Int32) (_ : Unit) => (True)) (fun _ t => ∃ ct2 : Nat → va_E, zP g (zw 126 ad ct2) t.heap ∧ va_D A (zw 126 ad ct2) ∧ Inv8 g ad pe ct2) A) ([.ref (ad kg)] : List Value).toArray s 0 0 A) (F0 m 4 ls []) := by
    intro n4
    induction n4 with
    | zero =>
      intro v2_4 v1_4 ct1 H locs ls hn4 b2_4 hI hP hD hS hl
      exact absurd hn4 (Nat.not_lt_zero _)
    | succ n4 ih4 =>
      intro v2_4 v1_4 ct1 H locs ls hn4 b2_4 hI hP hD hS hl
      refine lv_iload_n hx hb dX4_numeral_4 rfl (lv_at hl 0 rfl) ?_
      refine lv_iconst (v := 5) hx hb dX4_numeral_5 (by decide) ?_
      refine lv_icmp_ge (tgt := 48) hx hb dX4_numeral_6 (by decide) (fun c2 => ?_) (fun c2 => ?_)
      · skip
        have c2 : 5 ≤ v2_4.toInt := (z_le (by decide : (5 : Int32).toInt = 5) rfl).mp c2
        refine lv_aload_n hx hb dX4_numeral_48 rfl (lv_at hl 2 rfl) ?_
        obtain ⟨tld4, ofb5, hol6, flt7, fla8, ofl9, len10, atx11, ref12, hz13, h14, h15, h16, h17, hz18, hs3⟩ := a8_44 (kc := kg) (by omega) hI
        have bhz13 := z_b01 hz13
        have bhz18 := z_b01 hz18
        refine zc_i (va_runV (As := []) (rest := []) ⟨hx, hb, hml, hown, hg⟩ (k_X4_next l g ad pe ct1 kg tld4 ofb5 hol6 flt7 fla8 ofl9 len10 atx11 ref12 (by omega) hI hs3) (cwV 0 hg (z_gV mm_475 mm_477 mm_8 mm_114 mm_478) rfl rfl rfl (by decide +kernel) ⟨Nat.le_of_ble_eq_true rfl, Nat.le_of_ble_eq_true rfl⟩) ⟨(zR.pre [.ref (ad kg)] hP hK hN).1, va_recv hK hP (ci := 4) (q0 := kg) rfl (zw_at (by omega) hs3), (zR.pre [.ref (ad kg)] hP hK hN).2⟩ rfl rfl hl.1 rfl (lv_room (Nat.le_of_ble_eq_true rfl)) dX4_numeral_49 ⟨Nat.le_of_ble_eq_true rfl, Nat.le_of_ble_eq_true rfl⟩) (fun r19 hr19 => ?_)
        have h20 := hr19
        have h20 : r19.toInt = -1 ∨ atx11.toInt ≤ 99 := h20
        refine zc_i (va_runS (As := [.int r19]) (rest := []) ⟨hx, hb, hml, hown, hg⟩ (k_X4_isDigit l g ad pe ct1 r19 hI) (va_cwS 1 hg (z_gS mm_503 mm_504 mm_114 mm_505) rfl rfl rfl (by decide +kernel) ⟨Nat.le_of_ble_eq_true rfl, Nat.le_of_ble_eq_true rfl⟩) (zR.pre [.int r19] hP hK hN) rfl rfl hl.1 rfl (lv_room (Nat.le_of_ble_eq_true rfl)) dX4_numeral_52 ⟨Nat.le_of_ble_eq_true rfl, Nat.le_of_ble_eq_true rfl⟩) (fun r21 hr21 => ?_)
        rcases hr21 with hr21 | hr21
        · skip
          obtain ⟨rfl, h22, h23⟩ := hr21
          have h22 : 48 ≤ r19.toInt := h22
          have h23 : r19.toInt ≤ 57 := h23
          refine lv_if_eq (tgt := 63) hx hb dX4_numeral_55 (by decide) (fun c24 => ?_) (fun c24 => ?_)
          · skip
            exact absurd c24 (by decide)
          · skip
            refine lv_aload_n hx hb dX4_numeral_58 rfl (lv_at hl 2 rfl) ?_
            refine lv_iconst (v := 2) hx hb dX4_numeral_59 (by decide) ?_
            have hFc := zw_free hD hS hA
            refine va_callv (va_runV (As := [.int 2]) (rest := []) ⟨hx, hb, hml, hown, hg⟩ (k_X4_fail l g _ ad pe ct1 kg (2 : Int32) (by omega) hI) (cwV 1 hg (z_gV mm_483 mm_485 mm_10 mm_114 mm_486) rfl rfl rfl (by decide +kernel) ⟨Nat.le_of_ble_eq_true rfl, Nat.le_of_ble_eq_true rfl⟩) ⟨(zA.pre [.ref (ad kg), .int 2] hP hK hD hN).1, va_recv hK hP (ci := 4) (q0 := kg) rfl (zw_at (by omega) hs3), (zA.pre [.ref (ad kg), .int 2] hP hK hD hN).2⟩ rfl rfl hl.1 rfl (lv_room (Nat.le_of_ble_eq_true rfl)) dX4_numeral_60 ⟨Nat.le_of_ble_eq_true rfl, Nat.le_of_ble_eq_true rfl⟩) hS (fun q _ h => hFc q h) hFc (fun _ t H1 locs ht hvm hr25 hB hz1 hk1 hS => ?_)
            obtain ⟨ct26, hP1, hD1, hI⟩ := hB
            rw [ht] at hP1
            have hD := hD1.weaken (fun _ _ _ h => hFc _ h)
            generalize H1 = H at hP1 hS ⊢
            have hP := hP1
            refine W.widen (k := 0) (n := 0) (Nat.le_refl _) (Nat.le_refl _) ?_
            refine lv_iload_n hx hb dX4_numeral_63 rfl (lv_at hl 1 rfl) ?_
            exact W.iret (v := v1_4) hx hb hr (fun t ht hW => ⟨⟨v1_4, (), rfl, trivial, ct26, by rw [ht]; exact hP, hD, hI⟩, hS.F ht⟩) hS.2.2 dX4_numeral_64
        · skip
          obtain ⟨rfl, h27⟩ := hr21
          have h27 : ¬ (48 ≤ r19.toInt ∧ r19.toInt ≤ 57) := h27
          refine lv_if_eq (tgt := 63) hx hb dX4_numeral_55 (by decide) (fun c28 => ?_) (fun c28 => ?_)
          · skip
            refine lv_iload_n hx hb dX4_numeral_63 rfl (lv_at hl 1 rfl) ?_
            exact W.iret (v := v1_4) hx hb hr (fun t ht hW => ⟨⟨v1_4, (), rfl, trivial, ct1, by rw [ht]; exact hP, hD, hI⟩, hS.F ht⟩) hS.2.2 dX4_numeral_64
          · skip
            exact absurd c28 (by decide)
      · skip
        have c2 : ¬ (5 ≤ v2_4.toInt) := fun q => c2 ((z_le (by decide : (5 : Int32).toInt = 5) rfl).mpr q)
        refine lv_aload_n hx hb dX4_numeral_9 rfl (lv_at hl 2 rfl) ?_
        obtain ⟨tld30, ofb31, hol32, flt33, fla34, ofl35, len36, atx37, ref38, hz39, h40, h41, h42, h43, hz44, hs29⟩ := a8_44 (kc := kg) (by omega) hI
        have bhz39 := z_b01 hz39
        have bhz44 := z_b01 hz44
        refine zc_i (va_runV (As := []) (rest := []) ⟨hx, hb, hml, hown, hg⟩ (k_X4_next l g ad pe ct1 kg tld30 ofb31 hol32 flt33 fla34 ofl35 len36 atx37 ref38 (by omega) hI hs29) (cwV 0 hg (z_gV mm_475 mm_477 mm_8 mm_114 mm_478) rfl rfl rfl (by decide +kernel) ⟨Nat.le_of_ble_eq_true rfl, Nat.le_of_ble_eq_true rfl⟩) ⟨(zR.pre [.ref (ad kg)] hP hK hN).1, va_recv hK hP (ci := 4) (q0 := kg) rfl (zw_at (by omega) hs29), (zR.pre [.ref (ad kg)] hP hK hN).2⟩ rfl rfl hl.1 rfl (lv_room (Nat.le_of_ble_eq_true rfl)) dX4_numeral_10 ⟨Nat.le_of_ble_eq_true rfl, Nat.le_of_ble_eq_true rfl⟩) (fun r45 hr45 => ?_)
        have h46 := hr45
        have h46 : r45.toInt = -1 ∨ atx37.toInt ≤ 99 := h46
        refine zc_i (va_runS (As := [.int r45]) (rest := []) ⟨hx, hb, hml, hown, hg⟩ (k_X4_isDigit l g ad pe ct1 r45 hI) (va_cwS 1 hg (z_gS mm_503 mm_504 mm_114 mm_505) rfl rfl rfl (by decide +kernel) ⟨Nat.le_of_ble_eq_true rfl, Nat.le_of_ble_eq_true rfl⟩) (zR.pre [.int r45] hP hK hN) rfl rfl hl.1 rfl (lv_room (Nat.le_of_ble_eq_true rfl)) dX4_numeral_13 ⟨Nat.le_of_ble_eq_true rfl, Nat.le_of_ble_eq_true rfl⟩) (fun r47 hr47 => ?_)
        rcases hr47 with hr47 | hr47
        · skip
          obtain ⟨rfl, h48, h49⟩ := hr47
          have h48 : 48 ≤ r45.toInt := h48
          have h49 : r45.toInt ≤ 57 := h49
          refine lv_if_eq (tgt := 48) hx hb dX4_numeral_16 (by decide) (fun c50 => ?_) (fun c50 => ?_)
          · skip
            exact absurd c50 (by decide)
          · skip
            refine lv_bipush (v := 10) hx hb dX4_numeral_19 (by decide) ?_
            refine lv_iload_n hx hb dX4_numeral_21 rfl (lv_at hl 1 rfl) ?_
            refine lv_imul hx hb dX4_numeral_22 ?_
            refine lv_topi (fun x51 ex51 => ?_)
            refine lv_aload_n hx hb dX4_numeral_23 rfl (lv_at hl 2 rfl) ?_
            refine zc_i (va_runV (As := []) (rest := [.int x51]) ⟨hx, hb, hml, hown, hg⟩ (k_X4_next l g ad pe ct1 kg tld30 ofb31 hol32 flt33 fla34 ofl35 len36 atx37 ref38 (by omega) hI hs29) (cwV 0 hg (z_gV mm_475 mm_477 mm_8 mm_114 mm_478) rfl rfl rfl (by decide +kernel) ⟨Nat.le_of_ble_eq_true rfl, Nat.le_of_ble_eq_true rfl⟩) ⟨(zR.pre [.ref (ad kg)] hP hK hN).1, va_recv hK hP (ci := 4) (q0 := kg) rfl (zw_at (by omega) hs29), (zR.pre [.ref (ad kg)] hP hK hN).2⟩ rfl rfl hl.1 rfl (lv_room (Nat.le_of_ble_eq_true rfl)) dX4_numeral_24 ⟨Nat.le_of_ble_eq_true rfl, Nat.le_of_ble_eq_true rfl⟩) (fun r52 hr52 => ?_)
            have h53 := hr52
            have h53 : r52.toInt = -1 ∨ atx37.toInt ≤ 99 := h53
            refine lv_iadd hx hb dX4_numeral_27 ?_
            refine lv_topi (fun x54 ex54 => ?_)
            refine lv_bipush (v := 48) hx hb dX4_numeral_28 (by decide) ?_
            refine lv_isub hx hb dX4_numeral_30 ?_
            refine lv_topi (fun x55 ex55 => ?_)
            refine lv_istore_n (lv' := [(1, .int x55), (2, .int v2_4), (0, .ref (ad kg))]) hx hb dX4_numeral_31 rfl hl (by decide) rfl (fun ls hl => ?_)
            refine lv_aload_n hx hb dX4_numeral_32 rfl (lv_at hl 2 rfl) ?_
            refine lv_dup hx hb dX4_numeral_33 rfl ?_
            refine va_get (D := g.1) (ci := 4) (v := .int atx37) (C := RX4) (T := TX4) (N := 11) hx hb hg inG4 hown hK hP kg (zw_at (by omega) hs29) rfl 9 (by decide) (hg _ mm_285) (fun _ h9 => h9) rfl dX4_numeral_34 ?_
            refine lv_iconst (v := 1) hx hb dX4_numeral_37 (by decide) ?_
            refine lv_iadd hx hb dX4_numeral_38 ?_
            refine lv_topi (fun x56 ex56 => ?_)
            have tx56 : x56.toInt = atx37.toInt + 1 := by rw [ex56]; exact z_add rfl (by decide : (1 : Int32).toInt = 1) (by omega) (by omega)
            refine va_put (D := g.1) (ci := 4) (v := .int x56) (ty := .int) (C := RX4) (T := TX4) (N := 11) hx hb hg inG4 tyX4 tyX4_ok nmX4 hown hK hP hD hS kg (zw_at (by omega) hs29) rfl 9 (by decide) (hg _ mm_285) (fun _ h9 => h9) rfl (by decide +kernel) rfl rfl (Nat.le_of_ble_eq_true rfl) dX4_numeral_39 (fun H locs hP hD hS => ?_)
            have hP : zP g ((zw 126 ad ct1).set kg (ad kg, .inr (4, [.int tld30, .int ofb31, .int hol32, .int flt33, .int fla34, .int ofl35, .ref (ad (kg + 1)), .ref (ad (kg + 2)), .int len36, .int x56, .int ref38]))) H := hP
            have hD : va_D A ((zw 126 ad ct1).set kg (ad kg, .inr (4, [.int tld30, .int ofb31, .int hol32, .int flt33, .int fla34, .int ofl35, .ref (ad (kg + 1)), .ref (ad (kg + 2)), .int len36, .int x56, .int ref38]))) := hD
            rw [zw_set (by omega)] at hP hD
            obtain ⟨ct57, ec58⟩ : ∃ z : Nat → va_E, z = va_up ct1 kg (.inr (4, [.int tld30, .int ofb31, .int hol32, .int flt33, .int fla34, .int ofl35, .ref (ad (kg + 1)), .ref (ad (kg + 2)), .int len36, .int x56, .int ref38])) := ⟨_, rfl⟩
            rw [← ec58] at hP hD
            have hI : Inv8 g ad pe ct57 := by rw [ec58]; exact up8 hI (i8_44 (kc := kg) (by omega) ⟨(tld30 : Int32), (ofb31 : Int32), (hol32 : Int32), (flt33 : Int32), (fla34 : Int32), (ofl35 : Int32), (len36 : Int32), (x56 : Int32), (ref38 : Int32), hz39, (by first | omega | decide), (by first | omega | decide), (by first | omega | decide), (by first | omega | decide), hz44, rfl⟩)
            have hs59 : ct57 kg = .inr (4, [.int tld30, .int ofb31, .int hol32, .int flt33, .int fla34, .int ofl35, .ref (ad (kg + 1)), .ref (ad (kg + 2)), .int len36, .int x56, .int ref38]) := by rw [ec58]; exact va_up_self _ _ _
            obtain ⟨x60, ex60⟩ : ∃ y : Int32, y = v2_4 + 1 := ⟨_, rfl⟩
            have tx60 : x60.toInt = v2_4.toInt + 1 := by rw [ex60]; exact z_add rfl (by decide : (1 : Int32).toInt = 1) (by omega) (by omega)
            refine lv_iinc (v := x60) (lv' := [(2, .int x60), (1, .int x55), (0, .ref (ad kg))]) hx hb dX4_numeral_42 hl (k := 1) rfl (by rw [ex60]; rfl) (by decide) rfl (fun ls hl => ?_)
            refine lv_goto (tgt := 4) hx hb dX4_numeral_45 (by decide) ?_
            exact ih4 x60 x55 ct57 _ _ ls (by omega) (by first | omega | decide) hI hP hD hS (lv_sub hl [0, 1, 2] rfl)
        · skip
          obtain ⟨rfl, h61⟩ := hr47
          have h61 : ¬ (48 ≤ r45.toInt ∧ r45.toInt ≤ 57) := h61
          refine lv_if_eq (tgt := 48) hx hb dX4_numeral_16 (by decide) (fun c62 => ?_) (fun c62 => ?_)
          · skip
            refine lv_aload_n hx hb dX4_numeral_48 rfl (lv_at hl 2 rfl) ?_
            refine zc_i (va_runV (As := []) (rest := []) ⟨hx, hb, hml, hown, hg⟩ (k_X4_next l g ad pe ct1 kg tld30 ofb31 hol32 flt33 fla34 ofl35 len36 atx37 ref38 (by omega) hI hs29) (cwV 0 hg (z_gV mm_475 mm_477 mm_8 mm_114 mm_478) rfl rfl rfl (by decide +kernel) ⟨Nat.le_of_ble_eq_true rfl, Nat.le_of_ble_eq_true rfl⟩) ⟨(zR.pre [.ref (ad kg)] hP hK hN).1, va_recv hK hP (ci := 4) (q0 := kg) rfl (zw_at (by omega) hs29), (zR.pre [.ref (ad kg)] hP hK hN).2⟩ rfl rfl hl.1 rfl (lv_room (Nat.le_of_ble_eq_true rfl)) dX4_numeral_49 ⟨Nat.le_of_ble_eq_true rfl, Nat.le_of_ble_eq_true rfl⟩) (fun r63 hr63 => ?_)
            have h64 := hr63
            have h64 : r63.toInt = -1 ∨ atx37.toInt ≤ 99 := h64
            refine zc_i (va_runS (As := [.int r63]) (rest := []) ⟨hx, hb, hml, hown, hg⟩ (k_X4_isDigit l g ad pe ct1 r63 hI) (va_cwS 1 hg (z_gS mm_503 mm_504 mm_114 mm_505) rfl rfl rfl (by decide +kernel) ⟨Nat.le_of_ble_eq_true rfl, Nat.le_of_ble_eq_true rfl⟩) (zR.pre [.int r63] hP hK hN) rfl rfl hl.1 rfl (lv_room (Nat.le_of_ble_eq_true rfl)) dX4_numeral_52 ⟨Nat.le_of_ble_eq_true rfl, Nat.le_of_ble_eq_true rfl⟩) (fun r65 hr65 => ?_)
            rcases hr65 with hr65 | hr65
            · skip
              obtain ⟨rfl, h66, h67⟩ := hr65
              have h66 : 48 ≤ r63.toInt := h66
              have h67 : r63.toInt ≤ 57 := h67
              refine lv_if_eq (tgt := 63) hx hb dX4_numeral_55 (by decide) (fun c68 => ?_) (fun c68 => ?_)
              · skip
                exact absurd c68 (by decide)
              · skip
                refine lv_aload_n hx hb dX4_numeral_58 rfl (lv_at hl 2 rfl) ?_
                refine lv_iconst (v := 2) hx hb dX4_numeral_59 (by decide) ?_
                have hFc := zw_free hD hS hA
                refine va_callv (va_runV (As := [.int 2]) (rest := []) ⟨hx, hb, hml, hown, hg⟩ (k_X4_fail l g _ ad pe ct1 kg (2 : Int32) (by omega) hI) (cwV 1 hg (z_gV mm_483 mm_485 mm_10 mm_114 mm_486) rfl rfl rfl (by decide +kernel) ⟨Nat.le_of_ble_eq_true rfl, Nat.le_of_ble_eq_true rfl⟩) ⟨(zA.pre [.ref (ad kg), .int 2] hP hK hD hN).1, va_recv hK hP (ci := 4) (q0 := kg) rfl (zw_at (by omega) hs29), (zA.pre [.ref (ad kg), .int 2] hP hK hD hN).2⟩ rfl rfl hl.1 rfl (lv_room (Nat.le_of_ble_eq_true rfl)) dX4_numeral_60 ⟨Nat.le_of_ble_eq_true rfl, Nat.le_of_ble_eq_true rfl⟩) hS (fun q _ h => hFc q h) hFc (fun _ t H1 locs ht hvm hr69 hB hz1 hk1 hS => ?_)
                obtain ⟨ct70, hP1, hD1, hI⟩ := hB
                rw [ht] at hP1
                have hD := hD1.weaken (fun _ _ _ h => hFc _ h)
                generalize H1 = H at hP1 hS ⊢
                have hP := hP1
                refine W.widen (k := 0) (n := 0) (Nat.le_refl _) (Nat.le_refl _) ?_
                refine lv_iload_n hx hb dX4_numeral_63 rfl (lv_at hl 1 rfl) ?_
                exact W.iret (v := v1_4) hx hb hr (fun t ht hW => ⟨⟨v1_4, (), rfl, trivial, ct70, by rw [ht]; exact hP, hD, hI⟩, hS.F ht⟩) hS.2.2 dX4_numeral_64
            · skip
              obtain ⟨rfl, h71⟩ := hr65
              have h71 : ¬ (48 ≤ r63.toInt ∧ r63.toInt ≤ 57) := h71
              refine lv_if_eq (tgt := 63) hx hb dX4_numeral_55 (by decide) (fun c72 => ?_) (fun c72 => ?_)
              · skip
                refine lv_iload_n hx hb dX4_numeral_63 rfl (lv_at hl 1 rfl) ?_
                exact W.iret (v := v1_4) hx hb hr (fun t ht hW => ⟨⟨v1_4, (), rfl, trivial, ct1, by rw [ht]; exact hP, hD, hI⟩, hS.F ht⟩) hS.2.2 dX4_numeral_64
              · skip
                exact absurd c72 (by decide)
          · skip
            exact absurd c62 (by decide)
  exact loop4 ((5 - (0 : Int32).toInt : Int).toNat + 1) (0 : Int32) (0 : Int32) ct _ _ ls (by omega) (by first | omega | decide) hI hP hD hS (lv_sub hl [0, 1, 2] rfl)
