set_option maxHeartbeats 4000000 in
set_option maxRecDepth 100000 in
theorem k_X4_write (l : Launch) (g : zG) (sz : Nat) (ad : Nat → Nat) (pe : Int32) (ct : Nat → va_E) (kg : Nat) (n : Int32) (hf_kg : 99 ≤ kg ∧ kg < 126 ∧ (kg - 99) % 3 = 0) (hl_n : 1 ≤ n.toInt ∧ n.toInt ≤ 100) (hI : Inv8 g ad pe ct) : Met l yX4_write (zW yX4_write cX4_write 4 none) ({ frames := 2, cells := 0, slots := 0, locals := 43 }) (va_Pc [.ref (ad kg), .ref (ad 3), .int n] (zA g (zw 126 ad ct) sz)) (va_Qv (fun (_ : Unit) => True) (fun _ t => ∃ ct2 : Nat → va_E, zP g (zw 126 ad ct2) t.heap ∧ va_D (va_A (zw 126 ad ct) sz) (zw 126 ad ct2) ∧ Inv8 g ad pe ct2) (va_A (zw 126 ad ct) sz)) 0 0 (va_A (zw 126 ad ct) sz) := by
  refine Met.ofW (cc := cX4_write) (maxL := 4) (ret := none) (by decide) rfl ?_
  intro p e s m args below meth c s₁ B hml hv
  obtain ⟨rfl, hsz, hP, hK, hD0, hN⟩ := hv
  have hx := B.exec
  have hb := B.bytes
  have hr := B.returns
  have hg := zW.law (atoms_spec (ws := (zW yX4_write cX4_write 4 none)) B.pre)
  have hown : s.vm.findClass RX4 = some m.cls := findClass_of_methodNamed B.named
  have hlocks := B.notSynchronized
  have hpe0 := hI.1
  subst hsz
  have hD := hD0.self (sz := s.heap.size)
  generalize hAe : va_A (zw 126 ad ct) s.heap.size = A at hD ⊢
  have hA : ∀ q : Nat, s.heap.size ≤ q → A q := fun q h => by rw [← hAe]; exact Or.inr h
  have hS : va_S A s.heap s.heap [] := va_S.rf
  have hl := lv_entry ([.ref (ad kg), .ref (ad 3), .int n]) (n := 4) (Nat.le_of_ble_eq_true rfl)
  rw [lg_entry_eq]
  generalize (lg_sl ([.ref (ad kg), .ref (ad 3), .int n]) ++ List.replicate (4 - (lg_sl ([.ref (ad kg), .ref (ad 3), .int n])).length) Slot.unset).toArray = ls at hl ⊢
  have hl : lv_has ls 4 [(0, .ref (ad kg)), (1, .ref (ad 3)), (2, .int n)] := hl
  refine lv_aload_n hx hb dX4_write_0 rfl (lv_at hl 0 rfl) ?_
  refine lv_iconst (v := 0) hx hb dX4_write_1 (by decide) ?_
  obtain ⟨tld2, ofb3, hol4, flt5, fla6, ofl7, len8, atx9, ref10, hz11, h12, h13, h14, h15, hz16, hs1⟩ := a8_44 (kc := kg) (by omega) hI
  have bhz11 := z_b01 hz11
  have bhz16 := z_b01 hz16
  refine va_put (D := g.1) (ci := 4) (v := .int 0) (ty := .boolean) (C := RX4) (T := TX4) (N := 11) hx hb hg inG4 tyX4 tyX4_ok nmX4 hown hK hP hD hS kg (zw_at (by omega) hs1) rfl 0 (by decide) (hg _ mm_271) (fun _ h9 => h9) rfl (by decide +kernel) rfl rfl (Nat.le_of_ble_eq_true rfl) dX4_write_2 (fun H locs hP hD hS => ?_)
  have hP : zP g ((zw 126 ad ct).set kg (ad kg, .inr (4, [.int 0, .int ofb3, .int hol4, .int flt5, .int fla6, .int ofl7, .ref (ad (kg + 1)), .ref (ad (kg + 2)), .int len8, .int atx9, .int ref10]))) H := hP
  have hD : va_D A ((zw 126 ad ct).set kg (ad kg, .inr (4, [.int 0, .int ofb3, .int hol4, .int flt5, .int fla6, .int ofl7, .ref (ad (kg + 1)), .ref (ad (kg + 2)), .int len8, .int atx9, .int ref10]))) := hD
  rw [zw_set (by omega)] at hP hD
  obtain ⟨ct17, ec18⟩ : ∃ z : Nat → va_E, z = va_up ct kg (.inr (4, [.int 0, .int ofb3, .int hol4, .int flt5, .int fla6, .int ofl7, .ref (ad (kg + 1)), .ref (ad (kg + 2)), .int len8, .int atx9, .int ref10])) := ⟨_, rfl⟩
  rw [← ec18] at hP hD
  have hI : Inv8 g ad pe ct17 := by rw [ec18]; exact up8 hI (i8_44 (kc := kg) (by omega) ⟨(0 : Int32), (ofb3 : Int32), (hol4 : Int32), (flt5 : Int32), (fla6 : Int32), (ofl7 : Int32), (len8 : Int32), (atx9 : Int32), (ref10 : Int32), (Or.inl rfl), (by first | omega | decide), (by first | omega | decide), (by first | omega | decide), (by first | omega | decide), hz16, rfl⟩)
  have hs19 : ct17 kg = .inr (4, [.int 0, .int ofb3, .int hol4, .int flt5, .int fla6, .int ofl7, .ref (ad (kg + 1)), .ref (ad (kg + 2)), .int len8, .int atx9, .int ref10]) := by rw [ec18]; exact va_up_self _ _ _
  refine lv_aload_n hx hb dX4_write_5 rfl (lv_at hl 0 rfl) ?_
  refine lv_iload_n hx hb dX4_write_6 rfl (lv_at hl 2 rfl) ?_
  refine lv_bipush (v := 100) hx hb dX4_write_7 (by decide) ?_
  refine va_mmin hx hb (hml.trans hl.1.symm) hown (hg _ mm_632) (hg _ mm_633) (hg _ mm_118) (hg _ mm_634) (Nat.le_of_ble_eq_true rfl) (Nat.le_of_ble_eq_true rfl) (Nat.le_of_ble_eq_true rfl) (Nat.le_of_ble_eq_true rfl) dX4_write_9 ?_
  refine lv_topi (fun x20 ex20 => ?_)
  have tx20 := z_min (x := n) (y := 100) rfl (by decide : (100 : Int32).toInt = 100)
  rw [← ex20] at tx20
  refine va_put (D := g.1) (ci := 4) (v := .int x20) (ty := .int) (C := RX4) (T := TX4) (N := 11) hx hb hg inG4 tyX4 tyX4_ok nmX4 hown hK hP hD hS kg (zw_at (by omega) hs19) rfl 8 (by decide) (hg _ mm_284) (fun _ h9 => h9) rfl (by decide +kernel) rfl rfl (Nat.le_of_ble_eq_true rfl) dX4_write_12 (fun H locs hP hD hS => ?_)
  have hP : zP g ((zw 126 ad ct17).set kg (ad kg, .inr (4, [.int 0, .int ofb3, .int hol4, .int flt5, .int fla6, .int ofl7, .ref (ad (kg + 1)), .ref (ad (kg + 2)), .int x20, .int atx9, .int ref10]))) H := hP
  have hD : va_D A ((zw 126 ad ct17).set kg (ad kg, .inr (4, [.int 0, .int ofb3, .int hol4, .int flt5, .int fla6, .int ofl7, .ref (ad (kg + 1)), .ref (ad (kg + 2)), .int x20, .int atx9, .int ref10]))) := hD
  rw [zw_set (by omega)] at hP hD
  obtain ⟨ct21, ec22⟩ : ∃ z : Nat → va_E, z = va_up ct17 kg (.inr (4, [.int 0, .int ofb3, .int hol4, .int flt5, .int fla6, .int ofl7, .ref (ad (kg + 1)), .ref (ad (kg + 2)), .int x20, .int atx9, .int ref10])) := ⟨_, rfl⟩
  rw [← ec22] at hP hD
  have hI : Inv8 g ad pe ct21 := by rw [ec22]; exact up8 hI (i8_44 (kc := kg) (by omega) ⟨(0 : Int32), (ofb3 : Int32), (hol4 : Int32), (flt5 : Int32), (fla6 : Int32), (ofl7 : Int32), (x20 : Int32), (atx9 : Int32), (ref10 : Int32), (Or.inl rfl), (by first | omega | decide), (by first | omega | decide), (by first | omega | decide), (by first | omega | decide), hz16, rfl⟩)
  have hs23 : ct21 kg = .inr (4, [.int 0, .int ofb3, .int hol4, .int flt5, .int fla6, .int ofl7, .ref (ad (kg + 1)), .ref (ad (kg + 2)), .int x20, .int atx9, .int ref10]) := by rw [ec22]; exact va_up_self _ _ _
  refine lv_iconst (v := 0) hx hb dX4_write_15 (by decide) ?_
  refine lv_istore_n (lv' := [(3, .int 0), (0, .ref (ad kg)), (1, .ref (ad 3)), (2, .int n)]) hx hb dX4_write_16 rfl hl (by decide) rfl (fun ls hl => ?_)
  have loop17 : ∀ (n17 : Nat) (v3_17 : Int32) (ct24 : Nat → va_E) (H : Heap) (locs : List Loc) (ls : Array Slot), ((100 - v3_17.toInt : Int).toNat < n17) → (0 ≤ v3_17.toInt ∧ v3_17.toInt ≤ 100) → (Inv8 g ad pe ct24) → zP g (zw 126 ad ct24) H → va_D A (zw 126 ad ct24) → va_S A s.heap H locs → lv_has ls 4 [(3, .int v3_17), (0, .ref (ad kg)), (1, .ref (ad 3)), (2, .int n)] → W p l e (headSpec (zW yX4_write cX4_write 4 none) ({ frames := 2, cells := 0, slots := 0, locals := 43 })).room s m ([.ref (ad kg), .ref (ad 3), .int n] : List Value).toArray below meth c H locs 0 0 (MQ below (va_Qv (fun (_ : Unit) => True) (fun _ t => ∃ ct2 : Nat → va_E, zP g (zw 126 ad ct2) t.heap ∧ va_D A (zw 126 ad ct2) ∧ Inv8 g ad pe ct2) A) ([.ref (ad kg), .ref (ad 3), .int n] : List Value).toArray s 0 0 A) (F0 m 17 ls []) := by
    intro n17
    induction n17 with
    | zero =>
      intro v3_17 ct24 H locs ls hn17 b3_17 hI hP hD hS hl
      exact absurd hn17 (Nat.not_lt_zero _)
    | succ n17 ih17 =>
      intro v3_17 ct24 H locs ls hn17 b3_17 hI hP hD hS hl
      refine lv_iload_n hx hb dX4_write_17 rfl (lv_at hl 0 rfl) ?_
      refine lv_aload_n hx hb dX4_write_18 rfl (lv_at hl 1 rfl) ?_
      obtain ⟨tld26, ofb27, hol28, flt29, fla30, ofl31, len32, atx33, ref34, hz35, h36, h37, h38, h39, hz40, hs25⟩ := a8_44 (kc := kg) (by omega) hI
      have bhz35 := z_b01 hz35
      have bhz40 := z_b01 hz40
      refine va_get (D := g.1) (ci := 4) (v := .int len32) (C := RX4) (T := TX4) (N := 11) hx hb hg inG4 hown hK hP kg (zw_at (by omega) hs25) rfl 8 (by decide) (hg _ mm_284) (fun _ h9 => h9) rfl dX4_write_19 ?_
      refine lv_icmp_ge (tgt := 42) hx hb dX4_write_22 (by decide) (fun c41 => ?_) (fun c41 => ?_)
      · skip
        have c41 : len32.toInt ≤ v3_17.toInt := (z_le rfl rfl).mp c41
        exact W.vret hx hb hr (fun t ht hW => ⟨⟨(), rfl, trivial, ct24, by rw [ht]; exact hP, hD, hI⟩, hS.F ht⟩) hS.2.2 dX4_write_42
      · skip
        have c41 : ¬ (len32.toInt ≤ v3_17.toInt) := fun q => c41 ((z_le rfl rfl).mpr q)
        refine lv_aload_n hx hb dX4_write_25 rfl (lv_at hl 1 rfl) ?_
        refine va_get (D := g.1) (ci := 4) (v := .ref (ad (kg + 2))) (C := RX4) (T := TX4) (N := 11) hx hb hg inG4 hown hK hP kg (zw_at (by omega) hs25) rfl 7 (by decide) (hg _ mm_283) (fun _ h9 => h9) rfl dX4_write_26 ?_
        refine lv_iload_n hx hb dX4_write_29 rfl (lv_at hl 0 rfl) ?_
        refine lv_aload_n hx hb dX4_write_30 rfl (lv_at hl 2 rfl) ?_
        refine lv_iload_n hx hb dX4_write_31 rfl (lv_at hl 0 rfl) ?_
        obtain ⟨len43, h44, h45, hs42⟩ := a8_3 hI
        refine zc_i (va_runV (As := [.int v3_17]) (rest := [.int v3_17, .ref (ad (kg + 2))]) ⟨hx, hb, hml, hown, hg⟩ (k_X7_byteAt l g ad pe ct24 v3_17 hI) (cwV 1 hg (z_gV mm_635 mm_553 mm_554 mm_109 mm_555) rfl rfl rfl (by decide +kernel) ⟨Nat.le_of_ble_eq_true rfl, Nat.le_of_ble_eq_true rfl⟩) ⟨(zR.pre [.ref (ad 3), .int v3_17] hP hK hN).1, va_recv hK hP (ci := 7) (q0 := 3) rfl (zw_at (by omega) hs42), (zR.pre [.ref (ad 3), .int v3_17] hP hK hN).2⟩ rfl rfl hl.1 rfl (lv_room (Nat.le_of_ble_eq_true rfl)) dX4_write_32 ⟨Nat.le_of_ble_eq_true rfl, Nat.le_of_ble_eq_true rfl⟩) (fun r46 hr46 => ?_)
        obtain ⟨f48, hs47⟩ := a8_46 (kc := kg) (by omega) hI
        refine va_iast hx hb hK hP hD hS (kg + 2) 0 (zw_at (by omega) hs47) rfl (z_in rfl (by omega) (by omega)) dX4_write_35 (fun H locs hP hD hS => ?_)
        have hP : zP g ((zw 126 ad ct24).set (kg + 2) (ad (kg + 2), .inl (g.2 0, 100, .inl (upd f48 (Int32.toNatClampNeg v3_17) r46)))) H := hP
        have hD : va_D A ((zw 126 ad ct24).set (kg + 2) (ad (kg + 2), .inl (g.2 0, 100, .inl (upd f48 (Int32.toNatClampNeg v3_17) r46)))) := hD
        rw [zw_set (by omega)] at hP hD
        obtain ⟨ct50, ec51⟩ : ∃ z : Nat → va_E, z = va_up ct24 (kg + 2) (.inl (g.2 0, 100, .inl (upd f48 (Int32.toNatClampNeg v3_17) r46))) := ⟨_, rfl⟩
        rw [← ec51] at hP hD
        have hI : Inv8 g ad pe ct50 := by rw [ec51]; exact up8 hI (i8_46 (kc := kg) (by omega) ⟨_, rfl⟩)
        have hs52 : ct50 kg = .inr (4, [.int tld26, .int ofb27, .int hol28, .int flt29, .int fla30, .int ofl31, .ref (ad (kg + 1)), .ref (ad (kg + 2)), .int len32, .int atx33, .int ref34]) := by rw [ec51, va_up_ne _ _ (by omega)]; exact hs25
        have hs53 : ct50 3 = .inr (7, [.int len43, .ref (ad 4)]) := by rw [ec51, va_up_ne _ _ (by omega)]; exact hs42
        have hs54 : ct50 (kg + 2) = .inl (g.2 0, 100, .inl (upd f48 (Int32.toNatClampNeg v3_17) r46)) := by rw [ec51]; exact va_up_self _ _ _
        obtain ⟨x55, ex55⟩ : ∃ y : Int32, y = v3_17 + 1 := ⟨_, rfl⟩
        have tx55 : x55.toInt = v3_17.toInt + 1 := by rw [ex55]; exact z_add rfl (by decide : (1 : Int32).toInt = 1) (by omega) (by omega)
        refine lv_iinc (v := x55) (lv' := [(3, .int x55), (0, .ref (ad kg)), (1, .ref (ad 3)), (2, .int n)]) hx hb dX4_write_36 hl (k := 0) rfl (by rw [ex55]; rfl) (by decide) rfl (fun ls hl => ?_)
        refine lv_goto (tgt := 17) hx hb dX4_write_39 (by decide) ?_
        exact ih17 x55 ct50 _ _ ls (by omega) (by first | omega | decide) hI hP hD hS (lv_sub hl [0, 1, 2, 3] rfl)
  exact loop17 ((100 - (0 : Int32).toInt : Int).toNat + 1) (0 : Int32) ct21 _ _ ls (by omega) (by first | omega | decide) hI hP hD hS (lv_sub hl [0, 1, 2, 3] rfl)

set_option maxHeartbeats 4000000 in
set_option maxRecDepth 100000 in
theorem k_X4_read (l : Launch) (g : zG) (sz : Nat) (ad : Nat → Nat) (pe : Int32) (ct : Nat → va_E) (kg : Nat) (hf_kg : 99 ≤ kg ∧ kg < 126 ∧ (kg - 99) % 3 = 0) (hI : Inv8 g ad pe ct) : Met l yX4_read (zW yX4_read cX4_read 1 none) ({ frames := 26, cells := 0, slots := 0, locals := 650 }) (va_Pc [.ref (ad kg)] (zA g (zw 126 ad ct) sz)) (va_Qv (fun (_ : Unit) => True) (fun _ t => ∃ ct2 : Nat → va_E, zP g (zw 126 ad ct2) t.heap ∧ va_D (va_A (zw 126 ad ct) sz) (zw 126 ad ct2) ∧ Inv8 g ad pe ct2) (va_A (zw 126 ad ct) sz)) 0 0 (va_A (zw 126 ad ct) sz) := by
  refine Met.ofW (cc := cX4_read) (maxL := 1) (ret := none) (by decide) rfl ?_
  intro p e s m args below meth c s₁ B hml hv
  obtain ⟨rfl, hsz, hP, hK, hD0, hN⟩ := hv
  have hx := B.exec
  have hb := B.bytes
  have hr := B.returns
  have hg := zW.law (atoms_spec (ws := (zW yX4_read cX4_read 1 none)) B.pre)
  have hown : s.vm.findClass RX4 = some m.cls := findClass_of_methodNamed B.named
  have hlocks := B.notSynchronized
  have hpe0 := hI.1
  subst hsz
  have hD := hD0.self (sz := s.heap.size)
  generalize hAe : va_A (zw 126 ad ct) s.heap.size = A at hD ⊢
  have hA : ∀ q : Nat, s.heap.size ≤ q → A q := fun q h => by rw [← hAe]; exact Or.inr h
  have hS : va_S A s.heap s.heap [] := va_S.rf
  have hl := lv_entry ([.ref (ad kg)]) (n := 1) (Nat.le_of_ble_eq_true rfl)
  rw [lg_entry_eq]
  generalize (lg_sl ([.ref (ad kg)]) ++ List.replicate (1 - (lg_sl ([.ref (ad kg)])).length) Slot.unset).toArray = ls at hl ⊢
  have hl : lv_has ls 1 [(0, .ref (ad kg))] := hl
  refine lv_aload_n hx hb dX4_read_0 rfl (lv_at hl 0 rfl) ?_
  obtain ⟨tld2, ofb3, hol4, flt5, fla6, ofl7, len8, atx9, ref10, hz11, h12, h13, h14, h15, hz16, hs1⟩ := a8_44 (kc := kg) (by omega) hI
  have bhz11 := z_b01 hz11
  have bhz16 := z_b01 hz16
  have hFc := zw_free hD hS hA
  refine va_callv (va_runV (As := []) (rest := []) ⟨hx, hb, hml, hown, hg⟩ (k_X4_start l g _ ad pe ct kg (by omega) hI) (cwV 0 hg (z_gV mm_459 mm_461 mm_4 mm_114 mm_462) rfl rfl rfl (by decide +kernel) ⟨Nat.le_of_ble_eq_true rfl, Nat.le_of_ble_eq_true rfl⟩) ⟨(zA.pre [.ref (ad kg)] hP hK hD hN).1, va_recv hK hP (ci := 4) (q0 := kg) rfl (zw_at (by omega) hs1), (zA.pre [.ref (ad kg)] hP hK hD hN).2⟩ rfl rfl hl.1 rfl (lv_room (Nat.le_of_ble_eq_true rfl)) dX4_read_1 ⟨Nat.le_of_ble_eq_true rfl, Nat.le_of_ble_eq_true rfl⟩) hS (fun q _ h => hFc q h) hFc (fun _ t H1 locs ht hvm hr17 hB hz1 hk1 hS => ?_)
  obtain ⟨ct18, hP1, hD1, hI⟩ := hB
  rw [ht] at hP1
  have hD := hD1.weaken (fun _ _ _ h => hFc _ h)
  generalize H1 = H at hP1 hS ⊢
  have hP := hP1
  refine W.widen (k := 0) (n := 0) (Nat.le_refl _) (Nat.le_refl _) ?_
  refine lv_aload_n hx hb dX4_read_4 rfl (lv_at hl 0 rfl) ?_
  refine lv_iconst (v := 0) hx hb dX4_read_5 (by decide) ?_
  refine lv_iconst (v := 0) hx hb dX4_read_6 (by decide) ?_
  obtain ⟨tld20, ofb21, hol22, flt23, fla24, ofl25, len26, atx27, ref28, hz29, h30, h31, h32, h33, hz34, hs19⟩ := a8_44 (kc := kg) (by omega) hI
  have bhz29 := z_b01 hz29
  have bhz34 := z_b01 hz34
  have hFc := zw_free hD hS hA
  refine va_calli (va_runV (As := [.int 0, .int 0]) (rest := []) ⟨hx, hb, hml, hown, hg⟩ (k_X4_anyOf_0 l g _ ad pe ct18 kg (0 : Int32) (by omega) hI) (cwV 2 hg (z_gV mm_463 mm_465 mm_5 mm_114 mm_466) rfl rfl rfl (by decide +kernel) ⟨Nat.le_of_ble_eq_true rfl, Nat.le_of_ble_eq_true rfl⟩) ⟨(zA.pre [.ref (ad kg), .int 0, .int 0] hP hK hD hN).1, va_recv hK hP (ci := 4) (q0 := kg) rfl (zw_at (by omega) hs19), (zA.pre [.ref (ad kg), .int 0, .int 0] hP hK hD hN).2⟩ rfl rfl hl.1 rfl (lv_room (Nat.le_of_ble_eq_true rfl)) dX4_read_7 ⟨Nat.le_of_ble_eq_true rfl, Nat.le_of_ble_eq_true rfl⟩) hS (fun q _ h => hFc q h) hFc (fun r35 _ t H1 locs ht hvm hr35 hB hz1 hk1 hS => ?_)
  obtain ⟨ct36, hP1, hD1, hI⟩ := hB
  rw [ht] at hP1
  have hD := hD1.weaken (fun _ _ _ h => hFc _ h)
  generalize H1 = H at hP1 hS ⊢
  have hP := hP1
  refine W.widen (k := 0) (n := 0) (Nat.le_refl _) (Nat.le_refl _) ?_
  rcases hr35 with hr35 | hr35
  · skip
    obtain rfl := hr35
    refine lv_pop hx hb dX4_read_10 rfl ?_
    refine lv_aload_n hx hb dX4_read_11 rfl (lv_at hl 0 rfl) ?_
    obtain ⟨tld38, ofb39, hol40, flt41, fla42, ofl43, len44, atx45, ref46, hz47, h48, h49, h50, h51, hz52, hs37⟩ := a8_44 (kc := kg) (by omega) hI
    have bhz47 := z_b01 hz47
    have bhz52 := z_b01 hz52
    refine va_get (D := g.1) (ci := 4) (v := .int atx45) (C := RX4) (T := TX4) (N := 11) hx hb hg inG4 hown hK hP kg (zw_at (by omega) hs37) rfl 9 (by decide) (hg _ mm_285) (fun _ h9 => h9) rfl dX4_read_12 ?_
    refine lv_aload_n hx hb dX4_read_15 rfl (lv_at hl 0 rfl) ?_
    refine va_get (D := g.1) (ci := 4) (v := .int len44) (C := RX4) (T := TX4) (N := 11) hx hb hg inG4 hown hK hP kg (zw_at (by omega) hs37) rfl 8 (by decide) (hg _ mm_284) (fun _ h9 => h9) rfl dX4_read_16 ?_
    refine lv_icmp_ge (tgt := 27) hx hb dX4_read_19 (by decide) (fun c53 => ?_) (fun c53 => ?_)
    · skip
      have c53 : len44.toInt ≤ atx45.toInt := (z_le rfl rfl).mp c53
      exact W.vret hx hb hr (fun t ht hW => ⟨⟨(), rfl, trivial, ct36, by rw [ht]; exact hP, hD, hI⟩, hS.F ht⟩) hS.2.2 dX4_read_27
    · skip
      have c53 : ¬ (len44.toInt ≤ atx45.toInt) := fun q => c53 ((z_le rfl rfl).mpr q)
      refine lv_aload_n hx hb dX4_read_22 rfl (lv_at hl 0 rfl) ?_
      refine lv_iconst (v := 1) hx hb dX4_read_23 (by decide) ?_
      have hFc := zw_free hD hS hA
      refine va_callv (va_runV (As := [.int 1]) (rest := []) ⟨hx, hb, hml, hown, hg⟩ (k_X4_fail l g _ ad pe ct36 kg (1 : Int32) (by omega) hI) (cwV 1 hg (z_gV mm_483 mm_485 mm_10 mm_114 mm_486) rfl rfl rfl (by decide +kernel) ⟨Nat.le_of_ble_eq_true rfl, Nat.le_of_ble_eq_true rfl⟩) ⟨(zA.pre [.ref (ad kg), .int 1] hP hK hD hN).1, va_recv hK hP (ci := 4) (q0 := kg) rfl (zw_at (by omega) hs37), (zA.pre [.ref (ad kg), .int 1] hP hK hD hN).2⟩ rfl rfl hl.1 rfl (lv_room (Nat.le_of_ble_eq_true rfl)) dX4_read_24 ⟨Nat.le_of_ble_eq_true rfl, Nat.le_of_ble_eq_true rfl⟩) hS (fun q _ h => hFc q h) hFc (fun _ t H1 locs ht hvm hr54 hB hz1 hk1 hS => ?_)
      obtain ⟨ct55, hP1, hD1, hI⟩ := hB
      rw [ht] at hP1
      have hD := hD1.weaken (fun _ _ _ h => hFc _ h)
      generalize H1 = H at hP1 hS ⊢
      have hP := hP1
      refine W.widen (k := 0) (n := 0) (Nat.le_refl _) (Nat.le_refl _) ?_
      exact W.vret hx hb hr (fun t ht hW => ⟨⟨(), rfl, trivial, ct55, by rw [ht]; exact hP, hD, hI⟩, hS.F ht⟩) hS.2.2 dX4_read_27
  · skip
    obtain rfl := hr35
    refine lv_pop hx hb dX4_read_10 rfl ?_
    refine lv_aload_n hx hb dX4_read_11 rfl (lv_at hl 0 rfl) ?_
    obtain ⟨tld57, ofb58, hol59, flt60, fla61, ofl62, len63, atx64, ref65, hz66, h67, h68, h69, h70, hz71, hs56⟩ := a8_44 (kc := kg) (by omega) hI
    have bhz66 := z_b01 hz66
    have bhz71 := z_b01 hz71
    refine va_get (D := g.1) (ci := 4) (v := .int atx64) (C := RX4) (T := TX4) (N := 11) hx hb hg inG4 hown hK hP kg (zw_at (by omega) hs56) rfl 9 (by decide) (hg _ mm_285) (fun _ h9 => h9) rfl dX4_read_12 ?_
    refine lv_aload_n hx hb dX4_read_15 rfl (lv_at hl 0 rfl) ?_
    refine va_get (D := g.1) (ci := 4) (v := .int len63) (C := RX4) (T := TX4) (N := 11) hx hb hg inG4 hown hK hP kg (zw_at (by omega) hs56) rfl 8 (by decide) (hg _ mm_284) (fun _ h9 => h9) rfl dX4_read_16 ?_
    refine lv_icmp_ge (tgt := 27) hx hb dX4_read_19 (by decide) (fun c72 => ?_) (fun c72 => ?_)
    · skip
      have c72 : len63.toInt ≤ atx64.toInt := (z_le rfl rfl).mp c72
      exact W.vret hx hb hr (fun t ht hW => ⟨⟨(), rfl, trivial, ct36, by rw [ht]; exact hP, hD, hI⟩, hS.F ht⟩) hS.2.2 dX4_read_27
    · skip
      have c72 : ¬ (len63.toInt ≤ atx64.toInt) := fun q => c72 ((z_le rfl rfl).mpr q)
      refine lv_aload_n hx hb dX4_read_22 rfl (lv_at hl 0 rfl) ?_
      refine lv_iconst (v := 1) hx hb dX4_read_23 (by decide) ?_
      have hFc := zw_free hD hS hA
      refine va_callv (va_runV (As := [.int 1]) (rest := []) ⟨hx, hb, hml, hown, hg⟩ (k_X4_fail l g _ ad pe ct36 kg (1 : Int32) (by omega) hI) (cwV 1 hg (z_gV mm_483 mm_485 mm_10 mm_114 mm_486) rfl rfl rfl (by decide +kernel) ⟨Nat.le_of_ble_eq_true rfl, Nat.le_of_ble_eq_true rfl⟩) ⟨(zA.pre [.ref (ad kg), .int 1] hP hK hD hN).1, va_recv hK hP (ci := 4) (q0 := kg) rfl (zw_at (by omega) hs56), (zA.pre [.ref (ad kg), .int 1] hP hK hD hN).2⟩ rfl rfl hl.1 rfl (lv_room (Nat.le_of_ble_eq_true rfl)) dX4_read_24 ⟨Nat.le_of_ble_eq_true rfl, Nat.le_of_ble_eq_true rfl⟩) hS (fun q _ h => hFc q h) hFc (fun _ t H1 locs ht hvm hr73 hB hz1 hk1 hS => ?_)
      obtain ⟨ct74, hP1, hD1, hI⟩ := hB
      rw [ht] at hP1
      have hD := hD1.weaken (fun _ _ _ h => hFc _ h)
      generalize H1 = H at hP1 hS ⊢
      have hP := hP1
      refine W.widen (k := 0) (n := 0) (Nat.le_refl _) (Nat.le_refl _) ?_
      exact W.vret hx hb hr (fun t ht hW => ⟨⟨(), rfl, trivial, ct74, by rw [ht]; exact hP, hD, hI⟩, hS.F ht⟩) hS.2.2 dX4_read_27

set_option maxHeartbeats 4000000 in
set_option maxRecDepth 100000 in
theorem k_X4_judge (l : Launch) (g : zG) (sz : Nat) (ad : Nat → Nat) (pe : Int32) (ct : Nat → va_E) (kg : Nat) (hf_kg : 99 ≤ kg ∧ kg < 126 ∧ (kg - 99) % 3 = 0) (hI : Inv8 g ad pe ct) : Met l yX4_judge (zW yX4_judge cX4_judge 3 none) ({ frames := 26, cells := 0, slots := 0, locals := 650 }) (va_Pc [.ref (ad kg), .ref (ad 34)] (zA g (zw 126 ad ct) sz)) (va_Qv (fun (_ : Unit) => True) (fun _ t => ∃ ct2 : Nat → va_E, zP g (zw 126 ad ct2) t.heap ∧ va_D (va_A (zw 126 ad ct) sz) (zw 126 ad ct2) ∧ Inv8 g ad pe ct2) (va_A (zw 126 ad ct) sz)) 0 0 (va_A (zw 126 ad ct) sz) := by
  refine Met.ofW (cc := cX4_judge) (maxL := 3) (ret := none) (by decide) rfl ?_
  intro p e s m args below meth c s₁ B hml hv
  obtain ⟨rfl, hsz, hP, hK, hD0, hN⟩ := hv
  have hx := B.exec
  have hb := B.bytes
  have hr := B.returns
  have hg := zW.law (atoms_spec (ws := (zW yX4_judge cX4_judge 3 none)) B.pre)
  have hown : s.vm.findClass RX4 = some m.cls := findClass_of_methodNamed B.named
  have hlocks := B.notSynchronized
  have hpe0 := hI.1
  subst hsz
  have hD := hD0.self (sz := s.heap.size)
  generalize hAe : va_A (zw 126 ad ct) s.heap.size = A at hD ⊢
  have hA : ∀ q : Nat, s.heap.size ≤ q → A q := fun q h => by rw [← hAe]; exact Or.inr h
  have hS : va_S A s.heap s.heap [] := va_S.rf
  have hl := lv_entry ([.ref (ad kg), .ref (ad 34)]) (n := 3) (Nat.le_of_ble_eq_true rfl)
  rw [lg_entry_eq]
  generalize (lg_sl ([.ref (ad kg), .ref (ad 34)]) ++ List.replicate (3 - (lg_sl ([.ref (ad kg), .ref (ad 34)])).length) Slot.unset).toArray = ls at hl ⊢
  have hl : lv_has ls 3 [(0, .ref (ad kg)), (1, .ref (ad 34))] := hl
  refine lv_iconst (v := 0) hx hb dX4_judge_0 (by decide) ?_
  refine lv_istore_n (lv' := [(2, .int 0), (0, .ref (ad kg)), (1, .ref (ad 34))]) hx hb dX4_judge_1 rfl hl (by decide) rfl (fun ls hl => ?_)
  have loop2 : ∀ (n2 : Nat) (v2_2 : Int32) (ct1 : Nat → va_E) (H : Heap) (locs : List Loc) (ls : Array Slot), ((7 - v2_2.toInt : Int).toNat < n2) → (0 ≤ v2_2.toInt ∧ v2_2.toInt ≤ 7) → (Inv8 g ad pe ct1) → zP g (zw 126 ad ct1) H → va_D A (zw 126 ad ct1) → va_S A s.heap H locs → lv_has ls 3 [(2, .int v2_2), (0, .ref (ad kg)), (1, .ref (ad 34))] → W p l e (headSpec (zW yX4_judge cX4_judge 3 none) ({ frames := 26, cells := 0, slots := 0, locals := 650 })).room s m ([.ref (ad kg), .ref (ad 34)] : List Value).toArray below meth c H locs 0 0 (MQ below (va_Qv (fun (_ : Unit) => True) (fun _ t => ∃ ct2 : Nat → va_E, zP g (zw 126 ad ct2) t.heap ∧ va_D A (zw 126 ad ct2) ∧ Inv8 g ad pe ct2) A) ([.ref (ad kg), .ref (ad 34)] : List Value).toArray s 0 0 A) (F0 m 2 ls []) := by
    intro n2
    induction n2 with
    | zero =>
      intro v2_2 ct1 H locs ls hn2 b2_2 hI hP hD hS hl
      exact absurd hn2 (Nat.not_lt_zero _)
    | succ n2 ih2 =>
      intro v2_2 ct1 H locs ls hn2 b2_2 hI hP hD hS hl
      refine lv_iload_n hx hb dX4_judge_2 rfl (lv_at hl 0 rfl) ?_
      refine lv_aload_n hx hb dX4_judge_3 rfl (lv_at hl 1 rfl) ?_
      obtain ⟨tld3, ofb4, hol5, flt6, fla7, ofl8, len9, atx10, ref11, hz12, h13, h14, h15, h16, hz17, hs2⟩ := a8_44 (kc := kg) (by omega) hI
      have bhz12 := z_b01 hz12
      have bhz17 := z_b01 hz17
      refine va_get (D := g.1) (ci := 4) (v := .ref (ad (kg + 1))) (C := RX4) (T := TX4) (N := 11) hx hb hg inG4 hown hK hP kg (zw_at (by omega) hs2) rfl 6 (by decide) (hg _ mm_282) (fun _ h9 => h9) rfl dX4_judge_4 ?_
      obtain ⟨f19, hs18⟩ := a8_45 (kc := kg) (by omega) hI
      refine va_alen hx hb hK hP (kg + 1) 0 (zw_at (by omega) hs18) (ty := .int) rfl (v := 7) (show Int32.ofNat 7 = (7 : Int32) from by decide) dX4_judge_7 ?_
      refine lv_icmp_ge (tgt := 32) hx hb dX4_judge_8 (by decide) (fun c20 => ?_) (fun c20 => ?_)
      · skip
        have c20 : 7 ≤ v2_2.toInt := (z_le (by decide : (7 : Int32).toInt = 7) rfl).mp c20
        refine lv_aload_n hx hb dX4_judge_32 rfl (lv_at hl 1 rfl) ?_
        refine va_get (D := g.1) (ci := 4) (v := .ref (ad (kg + 1))) (C := RX4) (T := TX4) (N := 11) hx hb hg inG4 hown hK hP kg (zw_at (by omega) hs2) rfl 6 (by decide) (hg _ mm_282) (fun _ h9 => h9) rfl dX4_judge_33 ?_
        refine lv_bipush (v := 6) hx hb dX4_judge_36 (by decide) ?_
        refine lv_aload_n hx hb dX4_judge_38 rfl (lv_at hl 1 rfl) ?_
        refine va_get (D := g.1) (ci := 4) (v := .int ofl8) (C := RX4) (T := TX4) (N := 11) hx hb hg inG4 hown hK hP kg (zw_at (by omega) hs2) rfl 5 (by decide) (hg _ mm_281) (fun _ h9 => h9) rfl dX4_judge_39 ?_
        refine va_iast hx hb hK hP hD hS (kg + 1) 0 (zw_at (by omega) hs18) rfl (z_in (by decide : (6 : Int32).toInt = 6) (by omega) (by omega)) dX4_judge_42 (fun H locs hP hD hS => ?_)
        have hP : zP g ((zw 126 ad ct1).set (kg + 1) (ad (kg + 1), .inl (g.2 0, 7, .inl (upd f19 (Int32.toNatClampNeg 6) ofl8)))) H := hP
        have hD : va_D A ((zw 126 ad ct1).set (kg + 1) (ad (kg + 1), .inl (g.2 0, 7, .inl (upd f19 (Int32.toNatClampNeg 6) ofl8)))) := hD
        rw [zw_set (by omega)] at hP hD
        obtain ⟨ct22, ec23⟩ : ∃ z : Nat → va_E, z = va_up ct1 (kg + 1) (.inl (g.2 0, 7, .inl (upd f19 (Int32.toNatClampNeg 6) ofl8))) := ⟨_, rfl⟩
        rw [← ec23] at hP hD
        have hI : Inv8 g ad pe ct22 := by rw [ec23]; exact up8 hI (i8_45 (kc := kg) (by omega) ⟨_, rfl⟩)
        have hs24 : ct22 kg = .inr (4, [.int tld3, .int ofb4, .int hol5, .int flt6, .int fla7, .int ofl8, .ref (ad (kg + 1)), .ref (ad (kg + 2)), .int len9, .int atx10, .int ref11]) := by rw [ec23, va_up_ne _ _ (by omega)]; exact hs2
        have hs25 : ct22 (kg + 1) = .inl (g.2 0, 7, .inl (upd f19 (Int32.toNatClampNeg 6) ofl8)) := by rw [ec23]; exact va_up_self _ _ _
        refine lv_aload_n hx hb dX4_judge_43 rfl (lv_at hl 1 rfl) ?_
        have hFc := zw_free hD hS hA
        refine va_callv (va_runV (As := []) (rest := []) ⟨hx, hb, hml, hown, hg⟩ (k_X4_start l g _ ad pe ct22 kg (by omega) hI) (cwV 0 hg (z_gV mm_459 mm_461 mm_4 mm_114 mm_462) rfl rfl rfl (by decide +kernel) ⟨Nat.le_of_ble_eq_true rfl, Nat.le_of_ble_eq_true rfl⟩) ⟨(zA.pre [.ref (ad kg)] hP hK hD hN).1, va_recv hK hP (ci := 4) (q0 := kg) rfl (zw_at (by omega) hs24), (zA.pre [.ref (ad kg)] hP hK hD hN).2⟩ rfl rfl hl.1 rfl (lv_room (Nat.le_of_ble_eq_true rfl)) dX4_judge_44 ⟨Nat.le_of_ble_eq_true rfl, Nat.le_of_ble_eq_true rfl⟩) hS (fun q _ h => hFc q h) hFc (fun _ t H1 locs ht hvm hr26 hB hz1 hk1 hS => ?_)
        obtain ⟨ct27, hP1, hD1, hI⟩ := hB
        rw [ht] at hP1
        have hD := hD1.weaken (fun _ _ _ h => hFc _ h)
        generalize H1 = H at hP1 hS ⊢
        have hP := hP1
        refine W.widen (k := 0) (n := 0) (Nat.le_refl _) (Nat.le_refl _) ?_
        refine lv_aload_n hx hb dX4_judge_47 rfl (lv_at hl 1 rfl) ?_
        refine lv_iconst (v := 0) hx hb dX4_judge_48 (by decide) ?_
        refine lv_iconst (v := 1) hx hb dX4_judge_49 (by decide) ?_
        obtain ⟨tld29, ofb30, hol31, flt32, fla33, ofl34, len35, atx36, ref37, hz38, h39, h40, h41, h42, hz43, hs28⟩ := a8_44 (kc := kg) (by omega) hI
        have bhz38 := z_b01 hz38
        have bhz43 := z_b01 hz43
        have hFc := zw_free hD hS hA
        refine va_calli (va_runV (As := [.int 0, .int 1]) (rest := []) ⟨hx, hb, hml, hown, hg⟩ (k_X4_anyOf_0 l g _ ad pe ct27 kg (1 : Int32) (by omega) hI) (cwV 2 hg (z_gV mm_463 mm_465 mm_5 mm_114 mm_466) rfl rfl rfl (by decide +kernel) ⟨Nat.le_of_ble_eq_true rfl, Nat.le_of_ble_eq_true rfl⟩) ⟨(zA.pre [.ref (ad kg), .int 0, .int 1] hP hK hD hN).1, va_recv hK hP (ci := 4) (q0 := kg) rfl (zw_at (by omega) hs28), (zA.pre [.ref (ad kg), .int 0, .int 1] hP hK hD hN).2⟩ rfl rfl hl.1 rfl (lv_room (Nat.le_of_ble_eq_true rfl)) dX4_judge_50 ⟨Nat.le_of_ble_eq_true rfl, Nat.le_of_ble_eq_true rfl⟩) hS (fun q _ h => hFc q h) hFc (fun r44 _ t H1 locs ht hvm hr44 hB hz1 hk1 hS => ?_)
        obtain ⟨ct45, hP1, hD1, hI⟩ := hB
        rw [ht] at hP1
        have hD := hD1.weaken (fun _ _ _ h => hFc _ h)
        generalize H1 = H at hP1 hS ⊢
        have hP := hP1
        refine W.widen (k := 0) (n := 0) (Nat.le_refl _) (Nat.le_refl _) ?_
        rcases hr44 with hr44 | hr44
        · skip
          obtain rfl := hr44
          refine lv_if_eq (tgt := 67) hx hb dX4_judge_53 (by decide) (fun c46 => ?_) (fun c46 => ?_)
          · skip
            exact absurd c46 (by decide)
          · skip
            refine lv_aload_n hx hb dX4_judge_56 rfl (lv_at hl 1 rfl) ?_
            obtain ⟨tld48, ofb49, hol50, flt51, fla52, ofl53, len54, atx55, ref56, hz57, h58, h59, h60, h61, hz62, hs47⟩ := a8_44 (kc := kg) (by omega) hI
            have bhz57 := z_b01 hz57
            have bhz62 := z_b01 hz62
            refine va_get (D := g.1) (ci := 4) (v := .int ref56) (C := RX4) (T := TX4) (N := 11) hx hb hg inG4 hown hK hP kg (zw_at (by omega) hs47) rfl 10 (by decide) (hg _ mm_286) (fun _ h9 => h9) rfl dX4_judge_57 ?_
            refine lv_if_ne (tgt := 67) hx hb dX4_judge_60 (by decide) (fun c63 => ?_) (fun c63 => ?_)
            · skip
              have c63 : ¬ (ref56.toInt = 0) := fun q => c63 ((z_eq rfl (by decide : (0 : Int32).toInt = 0)).mpr q)
              refine lv_iconst (v := 0) hx hb dX4_judge_67 (by decide) ?_
              refine lv_istore_n (lv' := [(2, .int 0), (0, .ref (ad kg)), (1, .ref (ad 34))]) hx hb dX4_judge_68 rfl hl (by decide) rfl (fun ls hl => ?_)
              refine lv_aload_n hx hb dX4_judge_69 rfl (lv_at hl 1 rfl) ?_
              refine lv_iload_n hx hb dX4_judge_70 rfl (lv_at hl 0 rfl) ?_
              refine lv_if_eq (tgt := 90) hx hb dX4_judge_71 (by decide) (fun c64 => ?_) (fun c64 => ?_)
              · skip
                refine lv_aload_n hx hb dX4_judge_90 rfl (lv_at hl 1 rfl) ?_
                refine va_get (D := g.1) (ci := 4) (v := .int hol50) (C := RX4) (T := TX4) (N := 11) hx hb hg inG4 hown hK hP kg (zw_at (by omega) hs47) rfl 2 (by decide) (hg _ mm_275) (fun _ h9 => h9) rfl dX4_judge_91 ?_
                refine lv_iconst (v := 1) hx hb dX4_judge_94 (by decide) ?_
                refine lv_aload_n hx hb dX4_judge_95 rfl (lv_at hl 1 rfl) ?_
                refine va_get (D := g.1) (ci := 4) (v := .ref (ad (kg + 1))) (C := RX4) (T := TX4) (N := 11) hx hb hg inG4 hown hK hP kg (zw_at (by omega) hs47) rfl 6 (by decide) (hg _ mm_282) (fun _ h9 => h9) rfl dX4_judge_96 ?_
                refine lv_iconst (v := 4) hx hb dX4_judge_99 (by decide) ?_
                obtain ⟨f66, hs65⟩ := a8_45 (kc := kg) (by omega) hI
                refine va_iald hx hb hK hP (kg + 1) 0 (zw_at (by omega) hs65) rfl (z_in (by decide : (4 : Int32).toInt = 4) (by omega) (by omega)) dX4_judge_100 ?_
                refine lv_topi (fun y67 ey67 => ?_)
                refine lv_ishl hx hb dX4_judge_101 ?_
                refine lv_topi (fun x68 ex68 => ?_)
                refine lv_iconst (v := (-1)) hx hb dX4_judge_102 (by decide) ?_
                refine lv_ixor hx hb dX4_judge_103 ?_
                refine lv_topi (fun x69 ex69 => ?_)
                refine lv_iand hx hb dX4_judge_104 ?_
                refine lv_topi (fun x70 ex70 => ?_)
                refine va_put (D := g.1) (ci := 4) (v := .int x70) (ty := .int) (C := RX4) (T := TX4) (N := 11) hx hb hg inG4 tyX4 tyX4_ok nmX4 hown hK hP hD hS kg (zw_at (by omega) hs47) rfl 2 (by decide) (hg _ mm_275) (fun _ h9 => h9) rfl (by decide +kernel) rfl rfl (Nat.le_of_ble_eq_true rfl) dX4_judge_105 (fun H locs hP hD hS => ?_)
                have hP : zP g ((zw 126 ad ct45).set kg (ad kg, .inr (4, [.int tld48, .int ofb49, .int x70, .int flt51, .int fla52, .int ofl53, .ref (ad (kg + 1)), .ref (ad (kg + 2)), .int len54, .int atx55, .int ref56]))) H := hP
                have hD : va_D A ((zw 126 ad ct45).set kg (ad kg, .inr (4, [.int tld48, .int ofb49, .int x70, .int flt51, .int fla52, .int ofl53, .ref (ad (kg + 1)), .ref (ad (kg + 2)), .int len54, .int atx55, .int ref56]))) := hD
                rw [zw_set (by omega)] at hP hD
                obtain ⟨ct71, ec72⟩ : ∃ z : Nat → va_E, z = va_up ct45 kg (.inr (4, [.int tld48, .int ofb49, .int x70, .int flt51, .int fla52, .int ofl53, .ref (ad (kg + 1)), .ref (ad (kg + 2)), .int len54, .int atx55, .int ref56])) := ⟨_, rfl⟩
                rw [← ec72] at hP hD
                have hI : Inv8 g ad pe ct71 := by rw [ec72]; exact up8 hI (i8_44 (kc := kg) (by omega) ⟨(tld48 : Int32), (ofb49 : Int32), (x70 : Int32), (flt51 : Int32), (fla52 : Int32), (ofl53 : Int32), (len54 : Int32), (atx55 : Int32), (ref56 : Int32), hz57, (by first | omega | decide), (by first | omega | decide), (by first | omega | decide), (by first | omega | decide), hz62, rfl⟩)
                have hs73 : ct71 (kg + 1) = .inl (g.2 0, 7, .inl f66) := by rw [ec72, va_up_ne _ _ (by omega)]; exact hs65
                have hs74 : ct71 kg = .inr (4, [.int tld48, .int ofb49, .int x70, .int flt51, .int fla52, .int ofl53, .ref (ad (kg + 1)), .ref (ad (kg + 2)), .int len54, .int atx55, .int ref56]) := by rw [ec72]; exact va_up_self _ _ _
                exact W.vret hx hb hr (fun t ht hW => ⟨⟨(), rfl, trivial, ct71, by rw [ht]; exact hP, hD, hI⟩, hS.F ht⟩) hS.2.2 dX4_judge_108
              · skip
                exact absurd c64 (by decide)
            · skip
              have c63 : ref56.toInt = 0 := (z_eq rfl (by decide : (0 : Int32).toInt = 0)).mp c63
              refine lv_iconst (v := 1) hx hb dX4_judge_63 (by decide) ?_
              refine lv_goto (tgt := 68) hx hb dX4_judge_64 (by decide) ?_
              refine lv_istore_n (lv' := [(2, .int 1), (0, .ref (ad kg)), (1, .ref (ad 34))]) hx hb dX4_judge_68 rfl hl (by decide) rfl (fun ls hl => ?_)
              refine lv_aload_n hx hb dX4_judge_69 rfl (lv_at hl 1 rfl) ?_
              refine lv_iload_n hx hb dX4_judge_70 rfl (lv_at hl 0 rfl) ?_
              refine lv_if_eq (tgt := 90) hx hb dX4_judge_71 (by decide) (fun c75 => ?_) (fun c75 => ?_)
              · skip
                exact absurd c75 (by decide)
              · skip
                refine lv_aload_n hx hb dX4_judge_74 rfl (lv_at hl 1 rfl) ?_
                refine va_get (D := g.1) (ci := 4) (v := .int hol50) (C := RX4) (T := TX4) (N := 11) hx hb hg inG4 hown hK hP kg (zw_at (by omega) hs47) rfl 2 (by decide) (hg _ mm_275) (fun _ h9 => h9) rfl dX4_judge_75 ?_
                refine lv_iconst (v := 1) hx hb dX4_judge_78 (by decide) ?_
                refine lv_aload_n hx hb dX4_judge_79 rfl (lv_at hl 1 rfl) ?_
                refine va_get (D := g.1) (ci := 4) (v := .ref (ad (kg + 1))) (C := RX4) (T := TX4) (N := 11) hx hb hg inG4 hown hK hP kg (zw_at (by omega) hs47) rfl 6 (by decide) (hg _ mm_282) (fun _ h9 => h9) rfl dX4_judge_80 ?_
                refine lv_iconst (v := 4) hx hb dX4_judge_83 (by decide) ?_
                obtain ⟨f77, hs76⟩ := a8_45 (kc := kg) (by omega) hI
                refine va_iald hx hb hK hP (kg + 1) 0 (zw_at (by omega) hs76) rfl (z_in (by decide : (4 : Int32).toInt = 4) (by omega) (by omega)) dX4_judge_84 ?_
                refine lv_topi (fun y78 ey78 => ?_)
                refine lv_ishl hx hb dX4_judge_85 ?_
                refine lv_topi (fun x79 ex79 => ?_)
                refine lv_ior hx hb dX4_judge_86 ?_
                refine lv_topi (fun x80 ex80 => ?_)
                refine lv_goto (tgt := 105) hx hb dX4_judge_87 (by decide) ?_
                refine va_put (D := g.1) (ci := 4) (v := .int x80) (ty := .int) (C := RX4) (T := TX4) (N := 11) hx hb hg inG4 tyX4 tyX4_ok nmX4 hown hK hP hD hS kg (zw_at (by omega) hs47) rfl 2 (by decide) (hg _ mm_275) (fun _ h9 => h9) rfl (by decide +kernel) rfl rfl (Nat.le_of_ble_eq_true rfl) dX4_judge_105 (fun H locs hP hD hS => ?_)
                have hP : zP g ((zw 126 ad ct45).set kg (ad kg, .inr (4, [.int tld48, .int ofb49, .int x80, .int flt51, .int fla52, .int ofl53, .ref (ad (kg + 1)), .ref (ad (kg + 2)), .int len54, .int atx55, .int ref56]))) H := hP
                have hD : va_D A ((zw 126 ad ct45).set kg (ad kg, .inr (4, [.int tld48, .int ofb49, .int x80, .int flt51, .int fla52, .int ofl53, .ref (ad (kg + 1)), .ref (ad (kg + 2)), .int len54, .int atx55, .int ref56]))) := hD
                rw [zw_set (by omega)] at hP hD
                obtain ⟨ct81, ec82⟩ : ∃ z : Nat → va_E, z = va_up ct45 kg (.inr (4, [.int tld48, .int ofb49, .int x80, .int flt51, .int fla52, .int ofl53, .ref (ad (kg + 1)), .ref (ad (kg + 2)), .int len54, .int atx55, .int ref56])) := ⟨_, rfl⟩
                rw [← ec82] at hP hD
                have hI : Inv8 g ad pe ct81 := by rw [ec82]; exact up8 hI (i8_44 (kc := kg) (by omega) ⟨(tld48 : Int32), (ofb49 : Int32), (x80 : Int32), (flt51 : Int32), (fla52 : Int32), (ofl53 : Int32), (len54 : Int32), (atx55 : Int32), (ref56 : Int32), hz57, (by first | omega | decide), (by first | omega | decide), (by first | omega | decide), (by first | omega | decide), hz62, rfl⟩)
                have hs83 : ct81 (kg + 1) = .inl (g.2 0, 7, .inl f77) := by rw [ec82, va_up_ne _ _ (by omega)]; exact hs76
                have hs84 : ct81 kg = .inr (4, [.int tld48, .int ofb49, .int x80, .int flt51, .int fla52, .int ofl53, .ref (ad (kg + 1)), .ref (ad (kg + 2)), .int len54, .int atx55, .int ref56]) := by rw [ec82]; exact va_up_self _ _ _
                exact W.vret hx hb hr (fun t ht hW => ⟨⟨(), rfl, trivial, ct81, by rw [ht]; exact hP, hD, hI⟩, hS.F ht⟩) hS.2.2 dX4_judge_108
        · skip
          obtain rfl := hr44
          refine lv_if_eq (tgt := 67) hx hb dX4_judge_53 (by decide) (fun c85 => ?_) (fun c85 => ?_)
          · skip
            refine lv_iconst (v := 0) hx hb dX4_judge_67 (by decide) ?_
            refine lv_istore_n (lv' := [(2, .int 0), (0, .ref (ad kg)), (1, .ref (ad 34))]) hx hb dX4_judge_68 rfl hl (by decide) rfl (fun ls hl => ?_)
            refine lv_aload_n hx hb dX4_judge_69 rfl (lv_at hl 1 rfl) ?_
            refine lv_iload_n hx hb dX4_judge_70 rfl (lv_at hl 0 rfl) ?_
            refine lv_if_eq (tgt := 90) hx hb dX4_judge_71 (by decide) (fun c86 => ?_) (fun c86 => ?_)
            · skip
              refine lv_aload_n hx hb dX4_judge_90 rfl (lv_at hl 1 rfl) ?_
              obtain ⟨tld88, ofb89, hol90, flt91, fla92, ofl93, len94, atx95, ref96, hz97, h98, h99, h100, h101, hz102, hs87⟩ := a8_44 (kc := kg) (by omega) hI
              have bhz97 := z_b01 hz97
              have bhz102 := z_b01 hz102
              refine va_get (D := g.1) (ci := 4) (v := .int hol90) (C := RX4) (T := TX4) (N := 11) hx hb hg inG4 hown hK hP kg (zw_at (by omega) hs87) rfl 2 (by decide) (hg _ mm_275) (fun _ h9 => h9) rfl dX4_judge_91 ?_
              refine lv_iconst (v := 1) hx hb dX4_judge_94 (by decide) ?_
              refine lv_aload_n hx hb dX4_judge_95 rfl (lv_at hl 1 rfl) ?_
              refine va_get (D := g.1) (ci := 4) (v := .ref (ad (kg + 1))) (C := RX4) (T := TX4) (N := 11) hx hb hg inG4 hown hK hP kg (zw_at (by omega) hs87) rfl 6 (by decide) (hg _ mm_282) (fun _ h9 => h9) rfl dX4_judge_96 ?_
              refine lv_iconst (v := 4) hx hb dX4_judge_99 (by decide) ?_
              obtain ⟨f104, hs103⟩ := a8_45 (kc := kg) (by omega) hI
              refine va_iald hx hb hK hP (kg + 1) 0 (zw_at (by omega) hs103) rfl (z_in (by decide : (4 : Int32).toInt = 4) (by omega) (by omega)) dX4_judge_100 ?_
              refine lv_topi (fun y105 ey105 => ?_)
              refine lv_ishl hx hb dX4_judge_101 ?_
              refine lv_topi (fun x106 ex106 => ?_)
              refine lv_iconst (v := (-1)) hx hb dX4_judge_102 (by decide) ?_
              refine lv_ixor hx hb dX4_judge_103 ?_
              refine lv_topi (fun x107 ex107 => ?_)
              refine lv_iand hx hb dX4_judge_104 ?_
              refine lv_topi (fun x108 ex108 => ?_)
              refine va_put (D := g.1) (ci := 4) (v := .int x108) (ty := .int) (C := RX4) (T := TX4) (N := 11) hx hb hg inG4 tyX4 tyX4_ok nmX4 hown hK hP hD hS kg (zw_at (by omega) hs87) rfl 2 (by decide) (hg _ mm_275) (fun _ h9 => h9) rfl (by decide +kernel) rfl rfl (Nat.le_of_ble_eq_true rfl) dX4_judge_105 (fun H locs hP hD hS => ?_)
              have hP : zP g ((zw 126 ad ct45).set kg (ad kg, .inr (4, [.int tld88, .int ofb89, .int x108, .int flt91, .int fla92, .int ofl93, .ref (ad (kg + 1)), .ref (ad (kg + 2)), .int len94, .int atx95, .int ref96]))) H := hP
              have hD : va_D A ((zw 126 ad ct45).set kg (ad kg, .inr (4, [.int tld88, .int ofb89, .int x108, .int flt91, .int fla92, .int ofl93, .ref (ad (kg + 1)), .ref (ad (kg + 2)), .int len94, .int atx95, .int ref96]))) := hD
              rw [zw_set (by omega)] at hP hD
              obtain ⟨ct109, ec110⟩ : ∃ z : Nat → va_E, z = va_up ct45 kg (.inr (4, [.int tld88, .int ofb89, .int x108, .int flt91, .int fla92, .int ofl93, .ref (ad (kg + 1)), .ref (ad (kg + 2)), .int len94, .int atx95, .int ref96])) := ⟨_, rfl⟩
              rw [← ec110] at hP hD
              have hI : Inv8 g ad pe ct109 := by rw [ec110]; exact up8 hI (i8_44 (kc := kg) (by omega) ⟨(tld88 : Int32), (ofb89 : Int32), (x108 : Int32), (flt91 : Int32), (fla92 : Int32), (ofl93 : Int32), (len94 : Int32), (atx95 : Int32), (ref96 : Int32), hz97, (by first | omega | decide), (by first | omega | decide), (by first | omega | decide), (by first | omega | decide), hz102, rfl⟩)
              have hs111 : ct109 (kg + 1) = .inl (g.2 0, 7, .inl f104) := by rw [ec110, va_up_ne _ _ (by omega)]; exact hs103
              have hs112 : ct109 kg = .inr (4, [.int tld88, .int ofb89, .int x108, .int flt91, .int fla92, .int ofl93, .ref (ad (kg + 1)), .ref (ad (kg + 2)), .int len94, .int atx95, .int ref96]) := by rw [ec110]; exact va_up_self _ _ _
              exact W.vret hx hb hr (fun t ht hW => ⟨⟨(), rfl, trivial, ct109, by rw [ht]; exact hP, hD, hI⟩, hS.F ht⟩) hS.2.2 dX4_judge_108
            · skip
              exact absurd c86 (by decide)
          · skip
            exact absurd c85 (by decide)
      · skip
        have c20 : ¬ (7 ≤ v2_2.toInt) := fun q => c20 ((z_le (by decide : (7 : Int32).toInt = 7) rfl).mpr q)
        refine lv_iload_n hx hb dX4_judge_11 rfl (lv_at hl 0 rfl) ?_
        refine lv_aload_n hx hb dX4_judge_12 rfl (lv_at hl 2 rfl) ?_
        obtain ⟨f114, hs113⟩ := a8_34 hI
        refine va_alen hx hb hK hP 34 0 (zw_at (by omega) hs113) (ty := .int) rfl (v := 7) (show Int32.ofNat 7 = (7 : Int32) from by decide) dX4_judge_13 ?_
        refine lv_icmp_ge (tgt := 32) hx hb dX4_judge_14 (by decide) (fun c115 => ?_) (fun c115 => ?_)
        · skip
          have c115 : 7 ≤ v2_2.toInt := (z_le (by decide : (7 : Int32).toInt = 7) rfl).mp c115
          exfalso
          omega
        · skip
          have c115 : ¬ (7 ≤ v2_2.toInt) := fun q => c115 ((z_le (by decide : (7 : Int32).toInt = 7) rfl).mpr q)
          refine lv_aload_n hx hb dX4_judge_17 rfl (lv_at hl 1 rfl) ?_
          refine va_get (D := g.1) (ci := 4) (v := .ref (ad (kg + 1))) (C := RX4) (T := TX4) (N := 11) hx hb hg inG4 hown hK hP kg (zw_at (by omega) hs2) rfl 6 (by decide) (hg _ mm_282) (fun _ h9 => h9) rfl dX4_judge_18 ?_
          refine lv_iload_n hx hb dX4_judge_21 rfl (lv_at hl 0 rfl) ?_
          refine lv_aload_n hx hb dX4_judge_22 rfl (lv_at hl 2 rfl) ?_
          refine lv_iload_n hx hb dX4_judge_23 rfl (lv_at hl 0 rfl) ?_
          refine va_iald hx hb hK hP 34 0 (zw_at (by omega) hs113) rfl (z_in rfl (by omega) (by omega)) dX4_judge_24 ?_
          refine lv_topi (fun y116 ey116 => ?_)
          refine va_iast hx hb hK hP hD hS (kg + 1) 0 (zw_at (by omega) hs18) rfl (z_in rfl (by omega) (by omega)) dX4_judge_25 (fun H locs hP hD hS => ?_)
          have hP : zP g ((zw 126 ad ct1).set (kg + 1) (ad (kg + 1), .inl (g.2 0, 7, .inl (upd f19 (Int32.toNatClampNeg v2_2) y116)))) H := hP
          have hD : va_D A ((zw 126 ad ct1).set (kg + 1) (ad (kg + 1), .inl (g.2 0, 7, .inl (upd f19 (Int32.toNatClampNeg v2_2) y116)))) := hD
          rw [zw_set (by omega)] at hP hD
          obtain ⟨ct118, ec119⟩ : ∃ z : Nat → va_E, z = va_up ct1 (kg + 1) (.inl (g.2 0, 7, .inl (upd f19 (Int32.toNatClampNeg v2_2) y116))) := ⟨_, rfl⟩
          rw [← ec119] at hP hD
          have hI : Inv8 g ad pe ct118 := by rw [ec119]; exact up8 hI (i8_45 (kc := kg) (by omega) ⟨_, rfl⟩)
          have hs120 : ct118 kg = .inr (4, [.int tld3, .int ofb4, .int hol5, .int flt6, .int fla7, .int ofl8, .ref (ad (kg + 1)), .ref (ad (kg + 2)), .int len9, .int atx10, .int ref11]) := by rw [ec119, va_up_ne _ _ (by omega)]; exact hs2
          have hs121 : ct118 34 = .inl (g.2 0, 7, .inl f114) := by rw [ec119, va_up_ne _ _ (by omega)]; exact hs113
          have hs122 : ct118 (kg + 1) = .inl (g.2 0, 7, .inl (upd f19 (Int32.toNatClampNeg v2_2) y116)) := by rw [ec119]; exact va_up_self _ _ _
          obtain ⟨x123, ex123⟩ : ∃ y : Int32, y = v2_2 + 1 := ⟨_, rfl⟩
          have tx123 : x123.toInt = v2_2.toInt + 1 := by rw [ex123]; exact z_add rfl (by decide : (1 : Int32).toInt = 1) (by omega) (by omega)
          refine lv_iinc (v := x123) (lv' := [(2, .int x123), (0, .ref (ad kg)), (1, .ref (ad 34))]) hx hb dX4_judge_26 hl (k := 0) rfl (by rw [ex123]; rfl) (by decide) rfl (fun ls hl => ?_)
          refine lv_goto (tgt := 2) hx hb dX4_judge_29 (by decide) ?_
          exact ih2 x123 ct118 _ _ ls (by omega) (by first | omega | decide) hI hP hD hS (lv_sub hl [0, 1, 2] rfl)
  exact loop2 ((7 - (0 : Int32).toInt : Int).toNat + 1) (0 : Int32) ct _ _ ls (by omega) (by first | omega | decide) hI hP hD hS (lv_sub hl [0, 1, 2] rfl)

set_option maxHeartbeats 4000000 in
set_option maxRecDepth 100000 in
theorem k_X8_toldGossips (l : Launch) (g : zG) (ad : Nat → Nat) (pe : Int32) (ct : Nat → va_E) (hI : Inv8 g ad pe ct) : Met l yX8_toldGossips (zW yX8_toldGossips cX8_toldGossips 3 (some .int)) ({ frames := 0, cells := 0, slots := 0, locals := 0 }) (va_Pc [.ref (ad 0)] (zR g (zw 126 ad ct))) (vp_Si (fun r : Int32 => (True))) 0 0 (fun _ => False) := by
  refine Met.ofW (cc := cX8_toldGossips) (maxL := 3) (ret := (some .int)) (by decide) rfl ?_
  intro p e s m args below meth c s₁ B hml hv
  obtain ⟨rfl, hP, hK, hN⟩ := hv
  have hx := B.exec
  have hb := B.bytes
  have hr := B.returns
  have hg := zW.law (atoms_spec (ws := (zW yX8_toldGossips cX8_toldGossips 3 (some .int))) B.pre)
  have hown : s.vm.findClass RX8 = some m.cls := findClass_of_methodNamed B.named
  have hlocks := B.notSynchronized
  have hpe0 := hI.1
  have hl := lv_entry ([.ref (ad 0)]) (n := 3) (Nat.le_of_ble_eq_true rfl)
  rw [lg_entry_eq]
  generalize (lg_sl ([.ref (ad 0)]) ++ List.replicate (3 - (lg_sl ([.ref (ad 0)])).length) Slot.unset).toArray = ls at hl ⊢
  have hl : lv_has ls 3 [(0, .ref (ad 0))] := hl
  refine lv_iconst (v := 0) hx hb dX8_toldGossips_0 (by decide) ?_
  refine lv_istore_n (lv' := [(1, .int 0), (0, .ref (ad 0))]) hx hb dX8_toldGossips_1 rfl hl (by decide) rfl (fun ls hl => ?_)
  refine lv_iconst (v := 0) hx hb dX8_toldGossips_2 (by decide) ?_
  refine lv_istore_n (lv' := [(2, .int 0), (1, .int 0), (0, .ref (ad 0))]) hx hb dX8_toldGossips_3 rfl hl (by decide) rfl (fun ls hl => ?_)
  have loop4 : ∀ (n4 : Nat) (v2_4 : Int32) (v1_4 : Int32) (ls : Array Slot), ((8 - v2_4.toInt : Int).toNat < n4) → (0 ≤ v2_4.toInt ∧ v2_4.toInt ≤ 8) → lv_has ls 3 [(2, .int v2_4), (1, .int v1_4), (0, .ref (ad 0))] → W p l e (headSpec (zW yX8_toldGossips cX8_toldGossips 3 (some .int)) ({ frames := 0, cells := 0, slots := 0, locals := 0 })).room s m ([.ref (ad 0)] : List Value).toArray below meth c s.heap [] 0 0 (MQ below (vp_Si (fun r : Int32 => (True))) ([.ref (ad 0)] : List Value).toArray s 0 0 (fun _ => False)) (F0 m 4 ls []) := by
    intro n4
    induction n4 with
    | zero =>
      intro v2_4 v1_4 ls hn4 b2_4 hl
      exact absurd hn4 (Nat.not_lt_zero _)
    | succ n4 ih4 =>
      intro v2_4 v1_4 ls hn4 b2_4 hl
      refine lv_iload_n hx hb dX8_toldGossips_4 rfl (lv_at hl 0 rfl) ?_
      refine lv_bipush (v := 8) hx hb dX8_toldGossips_5 (by decide) ?_
      refine lv_icmp_ge (tgt := 34) hx hb dX8_toldGossips_7 (by decide) (fun c1 => ?_) (fun c1 => ?_)
      · skip
        have c1 : 8 ≤ v2_4.toInt := (z_le (by decide : (8 : Int32).toInt = 8) rfl).mp c1
        refine lv_iload_n hx hb dX8_toldGossips_34 rfl (lv_at hl 1 rfl) ?_
        exact W.iret (v := v1_4) hx hb hr (fun t ht hW => ⟨v1_4, rfl, trivial, ht⟩) (fun q hq => by cases hq) dX8_toldGossips_35
      · skip
        have c1 : ¬ (8 ≤ v2_4.toInt) := fun q => c1 ((z_le (by decide : (8 : Int32).toInt = 8) rfl).mpr q)
        refine lv_aload_n hx hb dX8_toldGossips_10 rfl (lv_at hl 2 rfl) ?_
        obtain ⟨bk4, dr3, h5, h6, h7, hs2⟩ := a8_0 hI
        refine va_get (D := g.1) (ci := 8) (v := .ref (ad 9)) (C := RX8) (T := TX8) (N := 13) hx hb hg inG8 hown hK hP 0 (zw_at (by omega) hs2) rfl 5 (by decide) (hg _ mm_365) (fun _ h9 => h9) rfl dX8_toldGossips_11 ?_
        refine lv_iload_n hx hb dX8_toldGossips_14 rfl (lv_at hl 0 rfl) ?_
        obtain ⟨f9, hgf10, hs8⟩ := a8_9 hI
        refine va_aldq hx hb hK hP 9 6 (zw_at (by omega) hs8) rfl (z_in rfl (by omega) (by omega)) dX8_toldGossips_15 ?_
        obtain ⟨j11, hj11, ej11⟩ := hgf10 _ (z_clt (x := v2_4) rfl (by omega) (by omega))
        rw [ej11]
        refine W.eq (g2 := F0 m 16 ls [.ref (ad (99 + 3 * j11))]) rfl ?_
        obtain ⟨tld13, ofb14, hol15, flt16, fla17, ofl18, len19, atx20, ref21, hz22, h23, h24, h25, h26, hz27, hs12⟩ := a8_44 (kc := (99 + 3 * j11)) (by omega) hI
        have bhz22 := z_b01 hz22
        have bhz27 := z_b01 hz27
        refine va_get (D := g.1) (ci := 4) (v := .int tld13) (C := RX4) (T := TX4) (N := 11) hx hb hg inG4 hown hK hP (99 + 3 * j11) (zw_at (by omega) hs12) rfl 0 (by decide) (hg _ mm_272) (fun _ h9 => h9) rfl dX8_toldGossips_16 ?_
        refine lv_if_eq (tgt := 28) hx hb dX8_toldGossips_19 (by decide) (fun c28 => ?_) (fun c28 => ?_)
        · skip
          have c28 : tld13.toInt = 0 := (z_eq rfl (by decide : (0 : Int32).toInt = 0)).mp c28
          obtain ⟨x29, ex29⟩ : ∃ y : Int32, y = v2_4 + 1 := ⟨_, rfl⟩
          have tx29 : x29.toInt = v2_4.toInt + 1 := by rw [ex29]; exact z_add rfl (by decide : (1 : Int32).toInt = 1) (by omega) (by omega)
          refine lv_iinc (v := x29) (lv' := [(2, .int x29), (1, .int v1_4), (0, .ref (ad 0))]) hx hb dX8_toldGossips_28 hl (k := 0) rfl (by rw [ex29]; rfl) (by decide) rfl (fun ls hl => ?_)
          refine lv_goto (tgt := 4) hx hb dX8_toldGossips_31 (by decide) ?_
          exact ih4 x29 v1_4 ls (by omega) (by first | omega | decide) (lv_sub hl [0, 1, 2] rfl)
        · skip
          have c28 : ¬ (tld13.toInt = 0) := fun q => c28 ((z_eq rfl (by decide : (0 : Int32).toInt = 0)).mpr q)
          refine lv_iload_n hx hb dX8_toldGossips_22 rfl (lv_at hl 1 rfl) ?_
          refine lv_iconst (v := 1) hx hb dX8_toldGossips_23 (by decide) ?_
          refine lv_iload_n hx hb dX8_toldGossips_24 rfl (lv_at hl 0 rfl) ?_
          refine lv_ishl hx hb dX8_toldGossips_25 ?_
          refine lv_topi (fun x30 ex30 => ?_)
          have tx30 := z_shl1 (y := v2_4) rfl (by omega) (k := 7) (by decide) (by omega)
          rw [← ex30] at tx30
          refine lv_ior hx hb dX8_toldGossips_26 ?_
          refine lv_topi (fun x31 ex31 => ?_)
          refine lv_istore_n (lv' := [(1, .int x31), (2, .int v2_4), (0, .ref (ad 0))]) hx hb dX8_toldGossips_27 rfl hl (by decide) rfl (fun ls hl => ?_)
          obtain ⟨x32, ex32⟩ : ∃ y : Int32, y = v2_4 + 1 := ⟨_, rfl⟩
          have tx32 : x32.toInt = v2_4.toInt + 1 := by rw [ex32]; exact z_add rfl (by decide : (1 : Int32).toInt = 1) (by omega) (by omega)
          refine lv_iinc (v := x32) (lv' := [(2, .int x32), (1, .int x31), (0, .ref (ad 0))]) hx hb dX8_toldGossips_28 hl (k := 1) rfl (by rw [ex32]; rfl) (by decide) rfl (fun ls hl => ?_)
          refine lv_goto (tgt := 4) hx hb dX8_toldGossips_31 (by decide) ?_
          exact ih4 x32 x31 ls (by omega) (by first | omega | decide) (lv_sub hl [0, 1, 2] rfl)
  exact loop4 ((8 - (0 : Int32).toInt : Int).toNat + 1) (0 : Int32) (0 : Int32) ls (by omega) (by first | omega | decide) (lv_sub hl [0, 1, 2] rfl)

set_option maxHeartbeats 4000000 in
set_option maxRecDepth 100000 in
theorem k_X8_spell (l : Launch) (g : zG) (sz : Nat) (ad : Nat → Nat) (pe : Int32) (ct : Nat → va_E) (p0 : Int32) (hI : Inv8 g ad pe ct) : Met l yX8_spell (zW yX8_spell cX8_spell 3 none) ({ frames := 1, cells := 0, slots := 0, locals := 21 }) (va_Pc [.ref (ad 0), .int p0] (zA g (zw 126 ad ct) sz)) (va_Qv (fun (_ : Unit) => True) (fun _ t => ∃ ct2 : Nat → va_E, zP g (zw 126 ad ct2) t.heap ∧ va_D (va_A (zw 126 ad ct) sz) (zw 126 ad ct2) ∧ Inv8 g ad pe ct2) (va_A (zw 126 ad ct) sz)) 0 0 (va_A (zw 126 ad ct) sz) := by
  refine Met.ofW (cc := cX8_spell) (maxL := 3) (ret := none) (by decide) rfl ?_
  intro p e s m args below meth c s₁ B hml hv
  obtain ⟨rfl, hsz, hP, hK, hD0, hN⟩ := hv
  have hx := B.exec
  have hb := B.bytes
  have hr := B.returns
  have hg := zW.law (atoms_spec (ws := (zW yX8_spell cX8_spell 3 none)) B.pre)
  have hown : s.vm.findClass RX8 = some m.cls := findClass_of_methodNamed B.named
  have hlocks := B.notSynchronized
  have hpe0 := hI.1
  subst hsz
  have hD := hD0.self (sz := s.heap.size)
  generalize hAe : va_A (zw 126 ad ct) s.heap.size = A at hD ⊢
  have hA : ∀ q : Nat, s.heap.size ≤ q → A q := fun q h => by rw [← hAe]; exact Or.inr h
  have hS : va_S A s.heap s.heap [] := va_S.rf
  have hl := lv_entry ([.ref (ad 0), .int p0]) (n := 3) (Nat.le_of_ble_eq_true rfl)
  rw [lg_entry_eq]
  generalize (lg_sl ([.ref (ad 0), .int p0]) ++ List.replicate (3 - (lg_sl ([.ref (ad 0), .int p0])).length) Slot.unset).toArray = ls at hl ⊢
  have hl : lv_has ls 3 [(0, .ref (ad 0)), (1, .int p0)] := hl
  have rg_p0 := z_rng p0
  refine lv_iconst (v := 0) hx hb dX8_spell_0 (by decide) ?_
  refine lv_istore_n (lv' := [(2, .int 0), (0, .ref (ad 0)), (1, .int p0)]) hx hb dX8_spell_1 rfl hl (by decide) rfl (fun ls hl => ?_)
  have loop2 : ∀ (n2 : Nat) (v2_2 : Int32) (ct1 : Nat → va_E) (H : Heap) (locs : List Loc) (ls : Array Slot), ((4 - v2_2.toInt : Int).toNat < n2) → (0 ≤ v2_2.toInt ∧ v2_2.toInt ≤ 4) → (Inv8 g ad pe ct1) → zP g (zw 126 ad ct1) H → va_D A (zw 126 ad ct1) → va_S A s.heap H locs → lv_has ls 3 [(2, .int v2_2), (0, .ref (ad 0)), (1, .int p0)] → W p l e (headSpec (zW yX8_spell cX8_spell 3 none) ({ frames := 1, cells := 0, slots := 0, locals := 21 })).room s m ([.ref (ad 0), .int p0] : List Value).toArray below meth c H locs 0 0 (MQ below (va_Qv (fun (_ : Unit) => True) (fun _ t => ∃ ct2 : Nat → va_E, zP g (zw 126 ad ct2) t.heap ∧ va_D A (zw 126 ad ct2) ∧ Inv8 g ad pe ct2) A) ([.ref (ad 0), .int p0] : List Value).toArray s 0 0 A) (F0 m 2 ls []) := by
    intro n2
    induction n2 with
    | zero =>
      intro v2_2 ct1 H locs ls hn2 b2_2 hI hP hD hS hl
      exact absurd hn2 (Nat.not_lt_zero _)
    | succ n2 ih2 =>
      intro v2_2 ct1 H locs ls hn2 b2_2 hI hP hD hS hl
      refine lv_iload_n hx hb dX8_spell_2 rfl (lv_at hl 0 rfl) ?_
      refine lv_iconst (v := 4) hx hb dX8_spell_3 (by decide) ?_
      refine lv_icmp_ge (tgt := 29) hx hb dX8_spell_4 (by decide) (fun c2 => ?_) (fun c2 => ?_)
      · skip
        have c2 : 4 ≤ v2_2.toInt := (z_le (by decide : (4 : Int32).toInt = 4) rfl).mp c2
        refine lv_aload_n hx hb dX8_spell_29 rfl (lv_at hl 1 rfl) ?_
        obtain ⟨bk5, dr4, h6, h7, h8, hs3⟩ := a8_0 hI
        refine va_get (D := g.1) (ci := 8) (v := .ref (ad 34)) (C := RX8) (T := TX8) (N := 13) hx hb hg inG8 hown hK hP 0 (zw_at (by omega) hs3) rfl 9 (by decide) (hg _ mm_369) (fun _ h9 => h9) rfl dX8_spell_30 ?_
        refine lv_iconst (v := 4) hx hb dX8_spell_33 (by decide) ?_
        refine lv_iload_n hx hb dX8_spell_34 rfl (lv_at hl 2 rfl) ?_
        obtain ⟨f10, hs9⟩ := a8_34 hI
        refine va_iast hx hb hK hP hD hS 34 0 (zw_at (by omega) hs9) rfl (z_in (by decide : (4 : Int32).toInt = 4) (by omega) (by omega)) dX8_spell_35 (fun H locs hP hD hS => ?_)
        have hP : zP g ((zw 126 ad ct1).set 34 (ad 34, .inl (g.2 0, 7, .inl (upd f10 (Int32.toNatClampNeg 4) p0)))) H := hP
        have hD : va_D A ((zw 126 ad ct1).set 34 (ad 34, .inl (g.2 0, 7, .inl (upd f10 (Int32.toNatClampNeg 4) p0)))) := hD
        rw [zw_set (by omega)] at hP hD
        obtain ⟨ct12, ec13⟩ : ∃ z : Nat → va_E, z = va_up ct1 34 (.inl (g.2 0, 7, .inl (upd f10 (Int32.toNatClampNeg 4) p0))) := ⟨_, rfl⟩
        rw [← ec13] at hP hD
        have hI : Inv8 g ad pe ct12 := by rw [ec13]; exact up8 hI (i8_34 ⟨_, rfl⟩)
        have hs14 : ct12 0 = .inr (8, [.ref (ad 1), .ref (ad 2), .ref (ad 3), .ref (ad 5), .ref (ad 6), .ref (ad 9), .ref (ad 10), .ref (ad 17), .ref (ad 21), .ref (ad 34), .ref (ad (99 + 3 * dr4)), .int pe, .int bk5]) := by rw [ec13, va_up_ne _ _ (by omega)]; exact hs3
        have hs15 : ct12 34 = .inl (g.2 0, 7, .inl (upd f10 (Int32.toNatClampNeg 4) p0)) := by rw [ec13]; exact va_up_self _ _ _
        refine lv_aload_n hx hb dX8_spell_36 rfl (lv_at hl 1 rfl) ?_
        refine va_get (D := g.1) (ci := 8) (v := .ref (ad 34)) (C := RX8) (T := TX8) (N := 13) hx hb hg inG8 hown hK hP 0 (zw_at (by omega) hs14) rfl 9 (by decide) (hg _ mm_369) (fun _ h9 => h9) rfl dX8_spell_37 ?_
        refine lv_iconst (v := 5) hx hb dX8_spell_40 (by decide) ?_
        refine lv_aload_n hx hb dX8_spell_41 rfl (lv_at hl 1 rfl) ?_
        refine lv_iload_n hx hb dX8_spell_42 rfl (lv_at hl 2 rfl) ?_
        refine zc_i (va_runV (As := [.int p0]) (rest := [.int 5, .ref (ad 34)]) ⟨hx, hb, hml, hown, hg⟩ (k_X8_isPerson l g ad pe ct12 p0 hI) (cwV 1 hg (z_gV mm_451 mm_453 mm_3 mm_108 mm_454) rfl rfl rfl (by decide +kernel) ⟨Nat.le_of_ble_eq_true rfl, Nat.le_of_ble_eq_true rfl⟩) ⟨(zR.pre [.ref (ad 0), .int p0] hP hK hN).1, va_recv hK hP (ci := 8) (q0 := 0) rfl (zw_at (by omega) hs14), (zR.pre [.ref (ad 0), .int p0] hP hK hN).2⟩ rfl rfl hl.1 rfl (lv_room (Nat.le_of_ble_eq_true rfl)) dX8_spell_43 ⟨Nat.le_of_ble_eq_true rfl, Nat.le_of_ble_eq_true rfl⟩) (fun r16 hr16 => ?_)
        rcases hr16 with hr16 | hr16
        · skip
          obtain ⟨rfl, h17, h18⟩ := hr16
          have h17 : 0 ≤ p0.toInt := h17
          have h18 : p0.toInt < pe.toInt := h18
          refine lv_if_eq (tgt := 58) hx hb dX8_spell_46 (by decide) (fun c19 => ?_) (fun c19 => ?_)
          · skip
            exact absurd c19 (by decide)
          · skip
            refine lv_aload_n hx hb dX8_spell_49 rfl (lv_at hl 1 rfl) ?_
            refine va_get (D := g.1) (ci := 8) (v := .ref (ad 2)) (C := RX8) (T := TX8) (N := 13) hx hb hg inG8 hown hK hP 0 (zw_at (by omega) hs14) rfl 1 (by decide) (hg _ mm_361) (fun _ h9 => h9) rfl dX8_spell_50 ?_
            refine lv_iload_n hx hb dX8_spell_53 rfl (lv_at hl 2 rfl) ?_
            obtain ⟨f21, hs20⟩ := a8_2 hI
            refine va_iald hx hb hK hP 2 0 (zw_at (by omega) hs20) rfl (z_in rfl (by omega) (by omega)) dX8_spell_54 ?_
            refine lv_topi (fun y22 ey22 => ?_)
            refine lv_goto (tgt := 59) hx hb dX8_spell_55 (by decide) ?_
            refine va_iast hx hb hK hP hD hS 34 0 (zw_at (by omega) hs15) rfl (z_in (by decide : (5 : Int32).toInt = 5) (by omega) (by omega)) dX8_spell_59 (fun H locs hP hD hS => ?_)
            have hP : zP g ((zw 126 ad ct12).set 34 (ad 34, .inl (g.2 0, 7, .inl (upd (upd f10 (Int32.toNatClampNeg 4) p0) (Int32.toNatClampNeg 5) y22)))) H := hP
            have hD : va_D A ((zw 126 ad ct12).set 34 (ad 34, .inl (g.2 0, 7, .inl (upd (upd f10 (Int32.toNatClampNeg 4) p0) (Int32.toNatClampNeg 5) y22)))) := hD
            rw [zw_set (by omega)] at hP hD
            obtain ⟨ct24, ec25⟩ : ∃ z : Nat → va_E, z = va_up ct12 34 (.inl (g.2 0, 7, .inl (upd (upd f10 (Int32.toNatClampNeg 4) p0) (Int32.toNatClampNeg 5) y22))) := ⟨_, rfl⟩
            rw [← ec25] at hP hD
            have hI : Inv8 g ad pe ct24 := by rw [ec25]; exact up8 hI (i8_34 ⟨_, rfl⟩)
            have hs26 : ct24 0 = .inr (8, [.ref (ad 1), .ref (ad 2), .ref (ad 3), .ref (ad 5), .ref (ad 6), .ref (ad 9), .ref (ad 10), .ref (ad 17), .ref (ad 21), .ref (ad 34), .ref (ad (99 + 3 * dr4)), .int pe, .int bk5]) := by rw [ec25, va_up_ne _ _ (by omega)]; exact hs14
            have hs27 : ct24 2 = .inl (g.2 0, 16, .inl f21) := by rw [ec25, va_up_ne _ _ (by omega)]; exact hs20
            have hs28 : ct24 34 = .inl (g.2 0, 7, .inl (upd (upd f10 (Int32.toNatClampNeg 4) p0) (Int32.toNatClampNeg 5) y22)) := by rw [ec25]; exact va_up_self _ _ _
            exact W.vret hx hb hr (fun t ht hW => ⟨⟨(), rfl, trivial, ct24, by rw [ht]; exact hP, hD, hI⟩, hS.F ht⟩) hS.2.2 dX8_spell_60
        · skip
          obtain ⟨rfl, h29⟩ := hr16
          have h29 : ¬ (0 ≤ p0.toInt ∧ p0.toInt < pe.toInt) := h29
          refine lv_if_eq (tgt := 58) hx hb dX8_spell_46 (by decide) (fun c30 => ?_) (fun c30 => ?_)
          · skip
            refine lv_iconst (v := 0) hx hb dX8_spell_58 (by decide) ?_
            refine va_iast hx hb hK hP hD hS 34 0 (zw_at (by omega) hs15) rfl (z_in (by decide : (5 : Int32).toInt = 5) (by omega) (by omega)) dX8_spell_59 (fun H locs hP hD hS => ?_)
            have hP : zP g ((zw 126 ad ct12).set 34 (ad 34, .inl (g.2 0, 7, .inl (upd (upd f10 (Int32.toNatClampNeg 4) p0) (Int32.toNatClampNeg 5) 0)))) H := hP
            have hD : va_D A ((zw 126 ad ct12).set 34 (ad 34, .inl (g.2 0, 7, .inl (upd (upd f10 (Int32.toNatClampNeg 4) p0) (Int32.toNatClampNeg 5) 0)))) := hD
            rw [zw_set (by omega)] at hP hD
            obtain ⟨ct32, ec33⟩ : ∃ z : Nat → va_E, z = va_up ct12 34 (.inl (g.2 0, 7, .inl (upd (upd f10 (Int32.toNatClampNeg 4) p0) (Int32.toNatClampNeg 5) 0))) := ⟨_, rfl⟩
            rw [← ec33] at hP hD
            have hI : Inv8 g ad pe ct32 := by rw [ec33]; exact up8 hI (i8_34 ⟨_, rfl⟩)
            have hs34 : ct32 0 = .inr (8, [.ref (ad 1), .ref (ad 2), .ref (ad 3), .ref (ad 5), .ref (ad 6), .ref (ad 9), .ref (ad 10), .ref (ad 17), .ref (ad 21), .ref (ad 34), .ref (ad (99 + 3 * dr4)), .int pe, .int bk5]) := by rw [ec33, va_up_ne _ _ (by omega)]; exact hs14
            have hs35 : ct32 34 = .inl (g.2 0, 7, .inl (upd (upd f10 (Int32.toNatClampNeg 4) p0) (Int32.toNatClampNeg 5) 0)) := by rw [ec33]; exact va_up_self _ _ _
            exact W.vret hx hb hr (fun t ht hW => ⟨⟨(), rfl, trivial, ct32, by rw [ht]; exact hP, hD, hI⟩, hS.F ht⟩) hS.2.2 dX8_spell_60
          · skip
            exact absurd c30 (by decide)
      · skip
        have c2 : ¬ (4 ≤ v2_2.toInt) := fun q => c2 ((z_le (by decide : (4 : Int32).toInt = 4) rfl).mpr q)
        refine lv_aload_n hx hb dX8_spell_7 rfl (lv_at hl 1 rfl) ?_
        obtain ⟨bk38, dr37, h39, h40, h41, hs36⟩ := a8_0 hI
        refine va_get (D := g.1) (ci := 8) (v := .ref (ad 34)) (C := RX8) (T := TX8) (N := 13) hx hb hg inG8 hown hK hP 0 (zw_at (by omega) hs36) rfl 9 (by decide) (hg _ mm_369) (fun _ h9 => h9) rfl dX8_spell_8 ?_
        refine lv_iload_n hx hb dX8_spell_11 rfl (lv_at hl 0 rfl) ?_
        refine lv_aload_n hx hb dX8_spell_12 rfl (lv_at hl 1 rfl) ?_
        refine va_get (D := g.1) (ci := 8) (v := .ref (ad 1)) (C := RX8) (T := TX8) (N := 13) hx hb hg inG8 hown hK hP 0 (zw_at (by omega) hs36) rfl 0 (by decide) (hg _ mm_360) (fun _ h9 => h9) rfl dX8_spell_13 ?_
        refine lv_iload_n hx hb dX8_spell_16 rfl (lv_at hl 0 rfl) ?_
        have hs42 := a8_1 hI
        refine va_aldq hx hb hK hP 1 4 (zw_at (by omega) hs42) rfl (z_in rfl (by omega) (by omega)) dX8_spell_17 ?_
        rw [zF1_at (x := v2_2) (by omega) (by omega)]
        refine lv_iload_n hx hb dX8_spell_18 rfl (lv_at hl 2 rfl) ?_
        obtain ⟨we44, se45, h46, h47, hs43⟩ := a8_35 (kc := (0 + 35 + 5 * v2_2.toInt.toNat)) (by omega) hI
        refine zc_i (va_runV (As := [.int p0]) (rest := [.int v2_2, .ref (ad 34)]) ⟨hx, hb, hml, hown, hg⟩ (k_X3_valueOf l g ad pe ct1 (0 + 35 + 5 * v2_2.toInt.toNat) p0 (by omega) hI) (cwV 1 hg (z_gV mm_447 mm_448 mm_449 mm_115 mm_450) rfl rfl rfl (by decide +kernel) ⟨Nat.le_of_ble_eq_true rfl, Nat.le_of_ble_eq_true rfl⟩) ⟨(zR.pre [.ref (ad (0 + 35 + 5 * v2_2.toInt.toNat)), .int p0] hP hK hN).1, va_recv hK hP (ci := 3) (q0 := (0 + 35 + 5 * v2_2.toInt.toNat)) rfl (zw_at (by omega) hs43), (zR.pre [.ref (ad (0 + 35 + 5 * v2_2.toInt.toNat)), .int p0] hP hK hN).2⟩ rfl rfl hl.1 rfl (lv_room (Nat.le_of_ble_eq_true rfl)) dX8_spell_19 ⟨Nat.le_of_ble_eq_true rfl, Nat.le_of_ble_eq_true rfl⟩) (fun r48 hr48 => ?_)
        obtain ⟨f50, hs49⟩ := a8_34 hI
        refine va_iast hx hb hK hP hD hS 34 0 (zw_at (by omega) hs49) rfl (z_in rfl (by omega) (by omega)) dX8_spell_22 (fun H locs hP hD hS => ?_)
        have hP : zP g ((zw 126 ad ct1).set 34 (ad 34, .inl (g.2 0, 7, .inl (upd f50 (Int32.toNatClampNeg v2_2) r48)))) H := hP
        have hD : va_D A ((zw 126 ad ct1).set 34 (ad 34, .inl (g.2 0, 7, .inl (upd f50 (Int32.toNatClampNeg v2_2) r48)))) := hD
        rw [zw_set (by omega)] at hP hD
        obtain ⟨ct52, ec53⟩ : ∃ z : Nat → va_E, z = va_up ct1 34 (.inl (g.2 0, 7, .inl (upd f50 (Int32.toNatClampNeg v2_2) r48))) := ⟨_, rfl⟩
        rw [← ec53] at hP hD
        have hI : Inv8 g ad pe ct52 := by rw [ec53]; exact up8 hI (i8_34 ⟨_, rfl⟩)
        have hs54 : ct52 0 = .inr (8, [.ref (ad 1), .ref (ad 2), .ref (ad 3), .ref (ad 5), .ref (ad 6), .ref (ad 9), .ref (ad 10), .ref (ad 17), .ref (ad 21), .ref (ad 34), .ref (ad (99 + 3 * dr37)), .int pe, .int bk38]) := by rw [ec53, va_up_ne _ _ (by omega)]; exact hs36
        have hs55 : ct52 1 = .inl (g.2 4, 4, .inr (.inr (.inr (.inr (zF1 ad 0))))) := by rw [ec53, va_up_ne _ _ (by omega)]; exact hs42
        have hs56 : ct52 (0 + 35 + 5 * v2_2.toInt.toNat) = .inr (3, [.int we44, .ref (ad ((0 + 35 + 5 * v2_2.toInt.toNat) + 1)), .ref (ad ((0 + 35 + 5 * v2_2.toInt.toNat) + 2)), .ref (ad ((0 + 35 + 5 * v2_2.toInt.toNat) + 3)), .ref (ad ((0 + 35 + 5 * v2_2.toInt.toNat) + 4)), .int se45]) := by rw [ec53, va_up_ne _ _ (by omega)]; exact hs43
        have hs57 : ct52 34 = .inl (g.2 0, 7, .inl (upd f50 (Int32.toNatClampNeg v2_2) r48)) := by rw [ec53]; exact va_up_self _ _ _
        obtain ⟨x58, ex58⟩ : ∃ y : Int32, y = v2_2 + 1 := ⟨_, rfl⟩
        have tx58 : x58.toInt = v2_2.toInt + 1 := by rw [ex58]; exact z_add rfl (by decide : (1 : Int32).toInt = 1) (by omega) (by omega)
        refine lv_iinc (v := x58) (lv' := [(2, .int x58), (0, .ref (ad 0)), (1, .int p0)]) hx hb dX8_spell_23 hl (k := 0) rfl (by rw [ex58]; rfl) (by decide) rfl (fun ls hl => ?_)
        refine lv_goto (tgt := 2) hx hb dX8_spell_26 (by decide) ?_
        exact ih2 x58 ct52 _ _ ls (by omega) (by first | omega | decide) hI hP hD hS (lv_sub hl [0, 1, 2] rfl)
  exact loop2 ((4 - (0 : Int32).toInt : Int).toNat + 1) (0 : Int32) ct _ _ ls (by omega) (by first | omega | decide) hI hP hD hS (lv_sub hl [0, 1, 2] rfl)

set_option maxHeartbeats 4000000 in
set_option maxRecDepth 100000 in
theorem k_X8_judgeAll (l : Launch) (g : zG) (sz : Nat) (ad : Nat → Nat) (pe : Int32) (ct : Nat → va_E) (p0 : Int32) (hI : Inv8 g ad pe ct) : Met l yX8_judgeAll (zW yX8_judgeAll cX8_judgeAll 3 none) ({ frames := 27, cells := 0, slots := 0, locals := 672 }) (va_Pc [.ref (ad 0), .int p0] (zA g (zw 126 ad ct) sz)) (va_Qv (fun (_ : Unit) => True) (fun _ t => ∃ ct2 : Nat → va_E, zP g (zw 126 ad ct2) t.heap ∧ va_D (va_A (zw 126 ad ct) sz) (zw 126 ad ct2) ∧ Inv8 g ad pe ct2) (va_A (zw 126 ad ct) sz)) 0 0 (va_A (zw 126 ad ct) sz) := by
  refine Met.ofW (cc := cX8_judgeAll) (maxL := 3) (ret := none) (by decide) rfl ?_
  intro p e s m args below meth c s₁ B hml hv
  obtain ⟨rfl, hsz, hP, hK, hD0, hN⟩ := hv
  have hx := B.exec
  have hb := B.bytes
  have hr := B.returns
  have hg := zW.law (atoms_spec (ws := (zW yX8_judgeAll cX8_judgeAll 3 none)) B.pre)
  have hown : s.vm.findClass RX8 = some m.cls := findClass_of_methodNamed B.named
  have hlocks := B.notSynchronized
  have hpe0 := hI.1
  subst hsz
  have hD := hD0.self (sz := s.heap.size)
  generalize hAe : va_A (zw 126 ad ct) s.heap.size = A at hD ⊢
  have hA : ∀ q : Nat, s.heap.size ≤ q → A q := fun q h => by rw [← hAe]; exact Or.inr h
  have hS : va_S A s.heap s.heap [] := va_S.rf
  have hl := lv_entry ([.ref (ad 0), .int p0]) (n := 3) (Nat.le_of_ble_eq_true rfl)
  rw [lg_entry_eq]
  generalize (lg_sl ([.ref (ad 0), .int p0]) ++ List.replicate (3 - (lg_sl ([.ref (ad 0), .int p0])).length) Slot.unset).toArray = ls at hl ⊢
  have hl : lv_has ls 3 [(0, .ref (ad 0)), (1, .int p0)] := hl
  have rg_p0 := z_rng p0
  refine lv_aload_n hx hb dX8_judgeAll_0 rfl (lv_at hl 0 rfl) ?_
  refine lv_iload_n hx hb dX8_judgeAll_1 rfl (lv_at hl 1 rfl) ?_
  obtain ⟨bk3, dr2, h4, h5, h6, hs1⟩ := a8_0 hI
  have hFc := zw_free hD hS hA
  refine va_callv (va_runV (As := [.int p0]) (rest := []) ⟨hx, hb, hml, hown, hg⟩ (k_X8_spell l g _ ad pe ct p0 hI) (cwV 1 hg (z_gV mm_443 mm_445 mm_2 mm_108 mm_446) rfl rfl rfl (by decide +kernel) ⟨Nat.le_of_ble_eq_true rfl, Nat.le_of_ble_eq_true rfl⟩) ⟨(zA.pre [.ref (ad 0), .int p0] hP hK hD hN).1, va_recv hK hP (ci := 8) (q0 := 0) rfl (zw_at (by omega) hs1), (zA.pre [.ref (ad 0), .int p0] hP hK hD hN).2⟩ rfl rfl hl.1 rfl (lv_room (Nat.le_of_ble_eq_true rfl)) dX8_judgeAll_2 ⟨Nat.le_of_ble_eq_true rfl, Nat.le_of_ble_eq_true rfl⟩) hS (fun q _ h => hFc q h) hFc (fun _ t H1 locs ht hvm hr7 hB hz1 hk1 hS => ?_)
  obtain ⟨ct8, hP1, hD1, hI⟩ := hB
  rw [ht] at hP1
  have hD := hD1.weaken (fun _ _ _ h => hFc _ h)
  generalize H1 = H at hP1 hS ⊢
  have hP := hP1
  refine W.widen (k := 0) (n := 0) (Nat.le_refl _) (Nat.le_refl _) ?_
  refine lv_iconst (v := 0) hx hb dX8_judgeAll_5 (by decide) ?_
  refine lv_istore_n (lv' := [(2, .int 0), (0, .ref (ad 0)), (1, .int p0)]) hx hb dX8_judgeAll_6 rfl hl (by decide) rfl (fun ls hl => ?_)
  have loop7 : ∀ (n7 : Nat) (v2_7 : Int32) (ct9 : Nat → va_E) (H : Heap) (locs : List Loc) (ls : Array Slot), ((8 - v2_7.toInt : Int).toNat < n7) → (0 ≤ v2_7.toInt ∧ v2_7.toInt ≤ 8) → (Inv8 g ad pe ct9) → zP g (zw 126 ad ct9) H → va_D A (zw 126 ad ct9) → va_S A s.heap H locs → lv_has ls 3 [(2, .int v2_7), (0, .ref (ad 0)), (1, .int p0)] → W p l e (headSpec (zW yX8_judgeAll cX8_judgeAll 3 none) ({ frames := 27, cells := 0, slots := 0, locals := 672 })).room s m ([.ref (ad 0), .int p0] : List Value).toArray below meth c H locs 0 0 (MQ below (va_Qv (fun (_ : Unit) => True) (fun _ t => ∃ ct2 : Nat → va_E, zP g (zw 126 ad ct2) t.heap ∧ va_D A (zw 126 ad ct2) ∧ Inv8 g ad pe ct2) A) ([.ref (ad 0), .int p0] : List Value).toArray s 0 0 A) (F0 m 7 ls []) := by
    intro n7
    induction n7 with
    | zero =>
      intro v2_7 ct9 H locs ls hn7 b2_7 hI hP hD hS hl
      exact absurd hn7 (Nat.not_lt_zero _)
    | succ n7 ih7 =>
      intro v2_7 ct9 H locs ls hn7 b2_7 hI hP hD hS hl
      refine lv_iload_n hx hb dX8_judgeAll_7 rfl (lv_at hl 0 rfl) ?_
      refine lv_bipush (v := 8) hx hb dX8_judgeAll_8 (by decide) ?_
      refine lv_icmp_ge (tgt := 44) hx hb dX8_judgeAll_10 (by decide) (fun c10 => ?_) (fun c10 => ?_)
      · skip
        have c10 : 8 ≤ v2_7.toInt := (z_le (by decide : (8 : Int32).toInt = 8) rfl).mp c10
        exact W.vret hx hb hr (fun t ht hW => ⟨⟨(), rfl, trivial, ct9, by rw [ht]; exact hP, hD, hI⟩, hS.F ht⟩) hS.2.2 dX8_judgeAll_44
      · skip
        have c10 : ¬ (8 ≤ v2_7.toInt) := fun q => c10 ((z_le (by decide : (8 : Int32).toInt = 8) rfl).mpr q)
        refine lv_aload_n hx hb dX8_judgeAll_13 rfl (lv_at hl 1 rfl) ?_
        obtain ⟨bk13, dr12, h14, h15, h16, hs11⟩ := a8_0 hI
        refine va_get (D := g.1) (ci := 8) (v := .ref (ad 9)) (C := RX8) (T := TX8) (N := 13) hx hb hg inG8 hown hK hP 0 (zw_at (by omega) hs11) rfl 5 (by decide) (hg _ mm_365) (fun _ h9 => h9) rfl dX8_judgeAll_14 ?_
        refine lv_iload_n hx hb dX8_judgeAll_17 rfl (lv_at hl 0 rfl) ?_
        obtain ⟨f18, hgf19, hs17⟩ := a8_9 hI
        refine va_aldq hx hb hK hP 9 6 (zw_at (by omega) hs17) rfl (z_in rfl (by omega) (by omega)) dX8_judgeAll_18 ?_
        obtain ⟨j20, hj20, ej20⟩ := hgf19 _ (z_clt (x := v2_7) rfl (by omega) (by omega))
        rw [ej20]
        refine W.eq (g2 := F0 m 19 ls [.ref (ad (99 + 3 * j20))]) rfl ?_
        obtain ⟨tld22, ofb23, hol24, flt25, fla26, ofl27, len28, atx29, ref30, hz31, h32, h33, h34, h35, hz36, hs21⟩ := a8_44 (kc := (99 + 3 * j20)) (by omega) hI
        have bhz31 := z_b01 hz31
        have bhz36 := z_b01 hz36
        refine va_get (D := g.1) (ci := 4) (v := .int tld22) (C := RX4) (T := TX4) (N := 11) hx hb hg inG4 hown hK hP (99 + 3 * j20) (zw_at (by omega) hs21) rfl 0 (by decide) (hg _ mm_272) (fun _ h9 => h9) rfl dX8_judgeAll_19 ?_
        refine lv_if_eq (tgt := 38) hx hb dX8_judgeAll_22 (by decide) (fun c37 => ?_) (fun c37 => ?_)
        · skip
          have c37 : tld22.toInt = 0 := (z_eq rfl (by decide : (0 : Int32).toInt = 0)).mp c37
          obtain ⟨x38, ex38⟩ : ∃ y : Int32, y = v2_7 + 1 := ⟨_, rfl⟩
          have tx38 : x38.toInt = v2_7.toInt + 1 := by rw [ex38]; exact z_add rfl (by decide : (1 : Int32).toInt = 1) (by omega) (by omega)
          refine lv_iinc (v := x38) (lv' := [(2, .int x38), (0, .ref (ad 0)), (1, .int p0)]) hx hb dX8_judgeAll_38 hl (k := 0) rfl (by rw [ex38]; rfl) (by decide) rfl (fun ls hl => ?_)
          refine lv_goto (tgt := 7) hx hb dX8_judgeAll_41 (by decide) ?_
          exact ih7 x38 ct9 _ _ ls (by omega) (by first | omega | decide) hI hP hD hS (lv_sub hl [0, 1, 2] rfl)
        · skip
          have c37 : ¬ (tld22.toInt = 0) := fun q => c37 ((z_eq rfl (by decide : (0 : Int32).toInt = 0)).mpr q)
          refine lv_aload_n hx hb dX8_judgeAll_25 rfl (lv_at hl 1 rfl) ?_
          refine va_get (D := g.1) (ci := 8) (v := .ref (ad 9)) (C := RX8) (T := TX8) (N := 13) hx hb hg inG8 hown hK hP 0 (zw_at (by omega) hs11) rfl 5 (by decide) (hg _ mm_365) (fun _ h9 => h9) rfl dX8_judgeAll_26 ?_
          refine lv_iload_n hx hb dX8_judgeAll_29 rfl (lv_at hl 0 rfl) ?_
          refine va_aldq hx hb hK hP 9 6 (zw_at (by omega) hs17) rfl (z_in rfl (by omega) (by omega)) dX8_judgeAll_30 ?_
          obtain ⟨j39, hj39, ej39⟩ := hgf19 _ (z_clt (x := v2_7) rfl (by omega) (by omega))
          rw [ej39]
          refine W.eq (g2 := F0 m 31 ls [.ref (ad (99 + 3 * j39))]) rfl ?_
          refine lv_aload_n hx hb dX8_judgeAll_31 rfl (lv_at hl 1 rfl) ?_
          refine va_get (D := g.1) (ci := 8) (v := .ref (ad 34)) (C := RX8) (T := TX8) (N := 13) hx hb hg inG8 hown hK hP 0 (zw_at (by omega) hs11) rfl 9 (by decide) (hg _ mm_369) (fun _ h9 => h9) rfl dX8_judgeAll_32 ?_
          obtain ⟨tld41, ofb42, hol43, flt44, fla45, ofl46, len47, atx48, ref49, hz50, h51, h52, h53, h54, hz55, hs40⟩ := a8_44 (kc := (99 + 3 * j39)) (by omega) hI
          have bhz50 := z_b01 hz50
          have bhz55 := z_b01 hz55
          have hFc := zw_free hD hS hA
          refine va_callv (va_runV (As := [.ref (ad 34)]) (rest := []) ⟨hx, hb, hml, hown, hg⟩ (k_X4_judge l g _ ad pe ct9 (99 + 3 * j39) (by omega) hI) (cwV 1 hg (z_gV mm_455 mm_456 mm_457 mm_114 mm_458) rfl rfl rfl (by decide +kernel) ⟨Nat.le_of_ble_eq_true rfl, Nat.le_of_ble_eq_true rfl⟩) ⟨(zA.pre [.ref (ad (99 + 3 * j39)), .ref (ad 34)] hP hK hD hN).1, va_recv hK hP (ci := 4) (q0 := (99 + 3 * j39)) rfl (zw_at (by omega) hs40), (zA.pre [.ref (ad (99 + 3 * j39)), .ref (ad 34)] hP hK hD hN).2⟩ rfl rfl hl.1 rfl (lv_room (Nat.le_of_ble_eq_true rfl)) dX8_judgeAll_35 ⟨Nat.le_of_ble_eq_true rfl, Nat.le_of_ble_eq_true rfl⟩) hS (fun q _ h => hFc q h) hFc (fun _ t H1 locs ht hvm hr56 hB hz1 hk1 hS => ?_)
          obtain ⟨ct57, hP1, hD1, hI⟩ := hB
          rw [ht] at hP1
          have hD := hD1.weaken (fun _ _ _ h => hFc _ h)
          generalize H1 = H at hP1 hS ⊢
          have hP := hP1
          refine W.widen (k := 0) (n := 0) (Nat.le_refl _) (Nat.le_refl _) ?_
          obtain ⟨x58, ex58⟩ : ∃ y : Int32, y = v2_7 + 1 := ⟨_, rfl⟩
          have tx58 : x58.toInt = v2_7.toInt + 1 := by rw [ex58]; exact z_add rfl (by decide : (1 : Int32).toInt = 1) (by omega) (by omega)
          refine lv_iinc (v := x58) (lv' := [(2, .int x58), (0, .ref (ad 0)), (1, .int p0)]) hx hb dX8_judgeAll_38 hl (k := 0) rfl (by rw [ex58]; rfl) (by decide) rfl (fun ls hl => ?_)
          refine lv_goto (tgt := 7) hx hb dX8_judgeAll_41 (by decide) ?_
          exact ih7 x58 ct57 _ _ ls (by omega) (by first | omega | decide) hI hP hD hS (lv_sub hl [0, 1, 2] rfl)
  exact loop7 ((8 - (0 : Int32).toInt : Int).toNat + 1) (0 : Int32) ct8 _ _ ls (by omega) (by first | omega | decide) hI hP hD hS (lv_sub hl [0, 1, 2] rfl)
