set_option maxHeartbeats 4000000 in
set_option maxRecDepth 100000 in
theorem k_X7_byteAt (l : Launch) (g : zG) (ad : Nat → Nat) (pe : Int32) (ct : Nat → va_E) (at0 : Int32) (hI : Inv8 g ad pe ct) : Met l yX7_byteAt (zW yX7_byteAt cX7_byteAt 2 (some .int)) ({ frames := 1, cells := 0, slots := 0, locals := 22 }) (va_Pc [.ref (ad 3), .int at0] (zR g (zw 126 ad ct))) (vp_Si (fun r : Int32 => (True))) 0 0 (fun _ => False) := by
  refine Met.ofW (cc := cX7_byteAt) (maxL := 2) (ret := (some .int)) (by decide) rfl ?_
  intro p e s m args below meth c s₁ B hml hv
  obtain ⟨rfl, hP, hK, hN⟩ := hv
  have hx := B.exec
  have hb := B.bytes
  have hr := B.returns
  have hg := zW.law (atoms_spec (ws := (zW yX7_byteAt cX7_byteAt 2 (some .int))) B.pre)
  have hown : s.vm.findClass RX7 = some m.cls := findClass_of_methodNamed B.named
  have hlocks := B.notSynchronized
  have hpe0 := hI.1
  have hl := lv_entry ([.ref (ad 3), .int at0]) (n := 2) (Nat.le_of_ble_eq_true rfl)
  rw [lg_entry_eq]
  generalize (lg_sl ([.ref (ad 3), .int at0]) ++ List.replicate (2 - (lg_sl ([.ref (ad 3), .int at0])).length) Slot.unset).toArray = ls at hl ⊢
  have hl : lv_has ls 2 [(0, .ref (ad 3)), (1, .int at0)] := hl
  have rg_at0 := z_rng at0
  refine lv_iload_n hx hb dX7_byteAt_0 rfl (lv_at hl 1 rfl) ?_
  refine lv_iconst (v := 0) hx hb dX7_byteAt_1 (by decide) ?_
  refine lv_aload_n hx hb dX7_byteAt_2 rfl (lv_at hl 0 rfl) ?_
  obtain ⟨len2, h3, h4, hs1⟩ := a8_3 hI
  refine va_get (D := g.1) (ci := 7) (v := .int len2) (C := RX7) (T := TX7) (N := 2) hx hb hg inG7 hown hK hP 3 (zw_at (by omega) hs1) rfl 0 (by decide) (hg _ mm_136) (fun _ h9 => h9) rfl dX7_byteAt_3 ?_
  refine lv_iconst (v := 1) hx hb dX7_byteAt_6 (by decide) ?_
  refine lv_isub hx hb dX7_byteAt_7 ?_
  refine lv_topi (fun x5 ex5 => ?_)
  have tx5 : x5.toInt = len2.toInt - 1 := by rw [ex5]; exact z_sub rfl (by decide : (1 : Int32).toInt = 1) (by omega) (by omega)
  refine zc_i (va_runSN (As := [.int at0, .int 0, .int x5]) (rest := []) ⟨hx, hb, hml, hown, hg⟩ (k_X8_within l g ad pe ct at0 (0 : Int32) x5 hI) ⟨va_cnB 3 hg (z_gN mm_409) rfl rfl rfl (hN.at 9 rfl) (hg _ mm_108) (by decide +kernel) ⟨Nat.le_of_ble_eq_true rfl, Nat.le_of_ble_eq_true rfl⟩, (hg _ mm_408), trivial⟩ (zR.pre [.int at0, .int 0, .int x5] hP hK hN) rfl rfl hl.1 rfl (lv_room (Nat.le_of_ble_eq_true rfl)) dX7_byteAt_8 ⟨Nat.le_of_ble_eq_true rfl, Nat.le_of_ble_eq_true rfl⟩) (fun r6 hr6 => ?_)
  rcases hr6 with hr6 | hr6
  · skip
    obtain ⟨rfl, h7, h8⟩ := hr6
    have h7 : (0 : Int) ≤ at0.toInt := h7
    have h8 : at0.toInt ≤ x5.toInt := h8
    refine lv_if_eq (tgt := 23) hx hb dX7_byteAt_11 (by decide) (fun c9 => ?_) (fun c9 => ?_)
    · skip
      exact absurd c9 (by decide)
    · skip
      refine lv_aload_n hx hb dX7_byteAt_14 rfl (lv_at hl 0 rfl) ?_
      refine va_get (D := g.1) (ci := 7) (v := .ref (ad 4)) (C := RX7) (T := TX7) (N := 2) hx hb hg inG7 hown hK hP 3 (zw_at (by omega) hs1) rfl 1 (by decide) (hg _ mm_138) (fun _ h9 => h9) rfl dX7_byteAt_15 ?_
      refine lv_iload_n hx hb dX7_byteAt_18 rfl (lv_at hl 1 rfl) ?_
      obtain ⟨f11, hs10⟩ := a8_4 hI
      refine va_iald hx hb hK hP 4 0 (zw_at (by omega) hs10) rfl (z_in rfl (by omega) (by omega)) dX7_byteAt_19 ?_
      refine lv_topi (fun y12 ey12 => ?_)
      refine lv_goto (tgt := 24) hx hb dX7_byteAt_20 (by decide) ?_
      exact W.iret (v := y12) hx hb hr (fun t ht hW => ⟨y12, rfl, trivial, ht⟩) (fun q hq => by cases hq) dX7_byteAt_24
  · skip
    obtain ⟨rfl, h13⟩ := hr6
    have h13 : ¬ ((0 : Int) ≤ at0.toInt ∧ at0.toInt ≤ x5.toInt) := h13
    refine lv_if_eq (tgt := 23) hx hb dX7_byteAt_11 (by decide) (fun c14 => ?_) (fun c14 => ?_)
    · skip
      refine lv_iconst (v := 0) hx hb dX7_byteAt_23 (by decide) ?_
      have q15 : (0 : Int32).toInt = 0 := by decide
      exact W.iret (v := 0) hx hb hr (fun t ht hW => ⟨0, rfl, trivial, ht⟩) (fun q hq => by cases hq) dX7_byteAt_24
    · skip
      exact absurd c14 (by decide)

set_option maxHeartbeats 4000000 in
set_option maxRecDepth 100000 in
theorem k_X7_number (l : Launch) (g : zG) (ad : Nat → Nat) (pe : Int32) (ct : Nat → va_E) (at0 : Int32) (hI : Inv8 g ad pe ct) : Met l yX7_number (zW yX7_number cX7_number 2 (some .int)) ({ frames := 2, cells := 0, slots := 0, locals := 43 }) (va_Pc [.ref (ad 3), .int at0] (zR g (zw 126 ad ct))) (vp_Si (fun r : Int32 => (True))) 0 0 (fun _ => False) := by
  refine Met.ofW (cc := cX7_number) (maxL := 2) (ret := (some .int)) (by decide) rfl ?_
  intro p e s m args below meth c s₁ B hml hv
  obtain ⟨rfl, hP, hK, hN⟩ := hv
  have hx := B.exec
  have hb := B.bytes
  have hr := B.returns
  have hg := zW.law (atoms_spec (ws := (zW yX7_number cX7_number 2 (some .int))) B.pre)
  have hown : s.vm.findClass RX7 = some m.cls := findClass_of_methodNamed B.named
  have hlocks := B.notSynchronized
  have hpe0 := hI.1
  have hl := lv_entry ([.ref (ad 3), .int at0]) (n := 2) (Nat.le_of_ble_eq_true rfl)
  rw [lg_entry_eq]
  generalize (lg_sl ([.ref (ad 3), .int at0]) ++ List.replicate (2 - (lg_sl ([.ref (ad 3), .int at0])).length) Slot.unset).toArray = ls at hl ⊢
  have hl : lv_has ls 2 [(0, .ref (ad 3)), (1, .int at0)] := hl
  have rg_at0 := z_rng at0
  refine lv_aload_n hx hb dX7_number_0 rfl (lv_at hl 0 rfl) ?_
  refine lv_iload_n hx hb dX7_number_1 rfl (lv_at hl 1 rfl) ?_
  obtain ⟨len2, h3, h4, hs1⟩ := a8_3 hI
  refine zc_i (va_runV (As := [.int at0]) (rest := []) ⟨hx, hb, hml, hown, hg⟩ (k_X7_byteAt l g ad pe ct at0 hI) (cwV 1 hg (z_gV mm_942 mm_553 mm_554 mm_109 mm_555) rfl rfl rfl (by decide +kernel) ⟨Nat.le_of_ble_eq_true rfl, Nat.le_of_ble_eq_true rfl⟩) ⟨(zR.pre [.ref (ad 3), .int at0] hP hK hN).1, va_recv hK hP (ci := 7) (q0 := 3) rfl (zw_at (by omega) hs1), (zR.pre [.ref (ad 3), .int at0] hP hK hN).2⟩ rfl rfl hl.1 rfl (lv_room (Nat.le_of_ble_eq_true rfl)) dX7_number_2 ⟨Nat.le_of_ble_eq_true rfl, Nat.le_of_ble_eq_true rfl⟩) (fun r5 hr5 => ?_)
  refine lv_bipush (v := 24) hx hb dX7_number_5 (by decide) ?_
  refine lv_ishl hx hb dX7_number_7 ?_
  refine lv_topi (fun x6 ex6 => ?_)
  refine lv_aload_n hx hb dX7_number_8 rfl (lv_at hl 0 rfl) ?_
  refine lv_iload_n hx hb dX7_number_9 rfl (lv_at hl 1 rfl) ?_
  refine lv_iconst (v := 1) hx hb dX7_number_10 (by decide) ?_
  refine lv_iadd hx hb dX7_number_11 ?_
  refine lv_topi (fun x7 ex7 => ?_)
  refine zc_i (va_runV (As := [.int x7]) (rest := [.int x6]) ⟨hx, hb, hml, hown, hg⟩ (k_X7_byteAt l g ad pe ct x7 hI) (cwV 1 hg (z_gV mm_942 mm_553 mm_554 mm_109 mm_555) rfl rfl rfl (by decide +kernel) ⟨Nat.le_of_ble_eq_true rfl, Nat.le_of_ble_eq_true rfl⟩) ⟨(zR.pre [.ref (ad 3), .int x7] hP hK hN).1, va_recv hK hP (ci := 7) (q0 := 3) rfl (zw_at (by omega) hs1), (zR.pre [.ref (ad 3), .int x7] hP hK hN).2⟩ rfl rfl hl.1 rfl (lv_room (Nat.le_of_ble_eq_true rfl)) dX7_number_12 ⟨Nat.le_of_ble_eq_true rfl, Nat.le_of_ble_eq_true rfl⟩) (fun r8 hr8 => ?_)
  refine lv_bipush (v := 16) hx hb dX7_number_15 (by decide) ?_
  refine lv_ishl hx hb dX7_number_17 ?_
  refine lv_topi (fun x9 ex9 => ?_)
  refine lv_ior hx hb dX7_number_18 ?_
  refine lv_topi (fun x10 ex10 => ?_)
  refine lv_aload_n hx hb dX7_number_19 rfl (lv_at hl 0 rfl) ?_
  refine lv_iload_n hx hb dX7_number_20 rfl (lv_at hl 1 rfl) ?_
  refine lv_iconst (v := 2) hx hb dX7_number_21 (by decide) ?_
  refine lv_iadd hx hb dX7_number_22 ?_
  refine lv_topi (fun x11 ex11 => ?_)
  refine zc_i (va_runV (As := [.int x11]) (rest := [.int x10]) ⟨hx, hb, hml, hown, hg⟩ (k_X7_byteAt l g ad pe ct x11 hI) (cwV 1 hg (z_gV mm_942 mm_553 mm_554 mm_109 mm_555) rfl rfl rfl (by decide +kernel) ⟨Nat.le_of_ble_eq_true rfl, Nat.le_of_ble_eq_true rfl⟩) ⟨(zR.pre [.ref (ad 3), .int x11] hP hK hN).1, va_recv hK hP (ci := 7) (q0 := 3) rfl (zw_at (by omega) hs1), (zR.pre [.ref (ad 3), .int x11] hP hK hN).2⟩ rfl rfl hl.1 rfl (lv_room (Nat.le_of_ble_eq_true rfl)) dX7_number_23 ⟨Nat.le_of_ble_eq_true rfl, Nat.le_of_ble_eq_true rfl⟩) (fun r12 hr12 => ?_)
  refine lv_bipush (v := 8) hx hb dX7_number_26 (by decide) ?_
  refine lv_ishl hx hb dX7_number_28 ?_
  refine lv_topi (fun x13 ex13 => ?_)
  refine lv_ior hx hb dX7_number_29 ?_
  refine lv_topi (fun x14 ex14 => ?_)
  refine lv_aload_n hx hb dX7_number_30 rfl (lv_at hl 0 rfl) ?_
  refine lv_iload_n hx hb dX7_number_31 rfl (lv_at hl 1 rfl) ?_
  refine lv_iconst (v := 3) hx hb dX7_number_32 (by decide) ?_
  refine lv_iadd hx hb dX7_number_33 ?_
  refine lv_topi (fun x15 ex15 => ?_)
  refine zc_i (va_runV (As := [.int x15]) (rest := [.int x14]) ⟨hx, hb, hml, hown, hg⟩ (k_X7_byteAt l g ad pe ct x15 hI) (cwV 1 hg (z_gV mm_942 mm_553 mm_554 mm_109 mm_555) rfl rfl rfl (by decide +kernel) ⟨Nat.le_of_ble_eq_true rfl, Nat.le_of_ble_eq_true rfl⟩) ⟨(zR.pre [.ref (ad 3), .int x15] hP hK hN).1, va_recv hK hP (ci := 7) (q0 := 3) rfl (zw_at (by omega) hs1), (zR.pre [.ref (ad 3), .int x15] hP hK hN).2⟩ rfl rfl hl.1 rfl (lv_room (Nat.le_of_ble_eq_true rfl)) dX7_number_34 ⟨Nat.le_of_ble_eq_true rfl, Nat.le_of_ble_eq_true rfl⟩) (fun r16 hr16 => ?_)
  refine lv_ior hx hb dX7_number_37 ?_
  refine lv_topi (fun x17 ex17 => ?_)
  exact W.iret (v := x17) hx hb hr (fun t ht hW => ⟨x17, rfl, trivial, ht⟩) (fun q hq => by cases hq) dX7_number_38

set_option maxHeartbeats 4000000 in
set_option maxRecDepth 100000 in
theorem k_X7_clear (l : Launch) (g : zG) (sz : Nat) (ad : Nat → Nat) (pe : Int32) (ct : Nat → va_E) (hI : Inv8 g ad pe ct) : Met l yX7_clear (zW yX7_clear cX7_clear 1 none) ({ frames := 0, cells := 0, slots := 0, locals := 0 }) (va_Pc [.ref (ad 3)] (zA g (zw 126 ad ct) sz)) (va_Qv (fun (_ : Unit) => True) (fun _ t => ∃ ct2 : Nat → va_E, zP g (zw 126 ad ct2) t.heap ∧ va_D (va_A (zw 126 ad ct) sz) (zw 126 ad ct2) ∧ Inv8 g ad pe ct2 ∧ (ct2 0 = ct 0)) (va_A (zw 126 ad ct) sz)) 0 0 (va_A (zw 126 ad ct) sz) := by
  refine Met.ofW (cc := cX7_clear) (maxL := 1) (ret := none) (by decide) rfl ?_
  intro p e s m args below meth c s₁ B hml hv
  obtain ⟨rfl, hsz, hP, hK, hD0, hN⟩ := hv
  have hx := B.exec
  have hb := B.bytes
  have hr := B.returns
  have hg := zW.law (atoms_spec (ws := (zW yX7_clear cX7_clear 1 none)) B.pre)
  have hown : s.vm.findClass RX7 = some m.cls := findClass_of_methodNamed B.named
  have hlocks := B.notSynchronized
  have hpe0 := hI.1
  subst hsz
  have hD := hD0.self (sz := s.heap.size)
  generalize hAe : va_A (zw 126 ad ct) s.heap.size = A at hD ⊢
  have hA : ∀ q : Nat, s.heap.size ≤ q → A q := fun q h => by rw [← hAe]; exact Or.inr h
  have hS : va_S A s.heap s.heap [] := va_S.rf
  have hl := lv_entry ([.ref (ad 3)]) (n := 1) (Nat.le_of_ble_eq_true rfl)
  rw [lg_entry_eq]
  generalize (lg_sl ([.ref (ad 3)]) ++ List.replicate (1 - (lg_sl ([.ref (ad 3)])).length) Slot.unset).toArray = ls at hl ⊢
  have hl : lv_has ls 1 [(0, .ref (ad 3))] := hl
  have hk0 : ct 0 = ct 0 := rfl
  obtain ⟨bk3, dr2, h4, h5, h6, hs1⟩ := a8_0 hI
  refine lv_aload_n hx hb dX7_clear_0 rfl (lv_at hl 0 rfl) ?_
  refine lv_iconst (v := 0) hx hb dX7_clear_1 (by decide) ?_
  obtain ⟨len8, h9, h10, hs7⟩ := a8_3 hI
  refine va_put (D := g.1) (ci := 7) (v := .int 0) (ty := .int) (C := RX7) (T := TX7) (N := 2) hx hb hg inG7 tyX7 tyX7_ok nmX7 hown hK hP hD hS 3 (zw_at (by omega) hs7) rfl 0 (by decide) (hg _ mm_136) (fun _ h9 => h9) rfl (by decide +kernel) rfl rfl (Nat.le_of_ble_eq_true rfl) dX7_clear_2 (fun H locs hP hD hS => ?_)
  have hP : zP g ((zw 126 ad ct).set 3 (ad 3, .inr (7, [.int 0, .ref (ad 4)]))) H := hP
  have hD : va_D A ((zw 126 ad ct).set 3 (ad 3, .inr (7, [.int 0, .ref (ad 4)]))) := hD
  rw [zw_set (by omega)] at hP hD
  obtain ⟨ct11, ec12⟩ : ∃ z : Nat → va_E, z = va_up ct 3 (.inr (7, [.int 0, .ref (ad 4)])) := ⟨_, rfl⟩
  rw [← ec12] at hP hD
  have hI : Inv8 g ad pe ct11 := by rw [ec12]; exact up8 hI (i8_3 ⟨(0 : Int32), (by first | omega | decide), (by first | omega | decide), rfl⟩)
  have hk0 : ct11 0 = ct 0 := by rw [ec12]; exact (va_up_ne _ _ (by omega)).trans hk0
  have hs13 : ct11 0 = .inr (8, [.ref (ad 1), .ref (ad 2), .ref (ad 3), .ref (ad 5), .ref (ad 6), .ref (ad 9), .ref (ad 10), .ref (ad 17), .ref (ad 21), .ref (ad 34), .ref (ad (99 + 3 * dr2)), .int pe, .int bk3]) := by rw [ec12, va_up_ne _ _ (by omega)]; exact hs1
  have hs14 : ct11 3 = .inr (7, [.int 0, .ref (ad 4)]) := by rw [ec12]; exact va_up_self _ _ _
  exact W.vret hx hb hr (fun t ht hW => ⟨⟨(), rfl, trivial, ct11, by rw [ht]; exact hP, hD, hI, (by assumption)⟩, hS.F ht⟩) hS.2.2 dX7_clear_5

set_option maxHeartbeats 4000000 in
set_option maxRecDepth 100000 in
theorem k_X7_append (l : Launch) (g : zG) (sz : Nat) (ad : Nat → Nat) (pe : Int32) (ct : Nat → va_E) (n : Int32) (hI : Inv8 g ad pe ct) : Met l yX7_append (zW yX7_append cX7_append 3 none) ({ frames := 0, cells := 0, slots := 0, locals := 0 }) (va_Pc [.ref (ad 3), .int n] (zA g (zw 126 ad ct) sz)) (va_Qv (fun (_ : Unit) => True) (fun _ t => ∃ ct2 : Nat → va_E, zP g (zw 126 ad ct2) t.heap ∧ va_D (va_A (zw 126 ad ct) sz) (zw 126 ad ct2) ∧ Inv8 g ad pe ct2) (va_A (zw 126 ad ct) sz)) 0 0 (va_A (zw 126 ad ct) sz) := by
  refine Met.ofW (cc := cX7_append) (maxL := 3) (ret := none) (by decide) rfl ?_
  intro p e s m args below meth c s₁ B hml hv
  obtain ⟨rfl, hsz, hP, hK, hD0, hN⟩ := hv
  have hx := B.exec
  have hb := B.bytes
  have hr := B.returns
  have hg := zW.law (atoms_spec (ws := (zW yX7_append cX7_append 3 none)) B.pre)
  have hown : s.vm.findClass RX7 = some m.cls := findClass_of_methodNamed B.named
  have hlocks := B.notSynchronized
  have hpe0 := hI.1
  subst hsz
  have hD := hD0.self (sz := s.heap.size)
  generalize hAe : va_A (zw 126 ad ct) s.heap.size = A at hD ⊢
  have hA : ∀ q : Nat, s.heap.size ≤ q → A q := fun q h => by rw [← hAe]; exact Or.inr h
  have hS : va_S A s.heap s.heap [] := va_S.rf
  have hl := lv_entry ([.ref (ad 3), .int n]) (n := 3) (Nat.le_of_ble_eq_true rfl)
  rw [lg_entry_eq]
  generalize (lg_sl ([.ref (ad 3), .int n]) ++ List.replicate (3 - (lg_sl ([.ref (ad 3), .int n])).length) Slot.unset).toArray = ls at hl ⊢
  have hl : lv_has ls 3 [(0, .ref (ad 3)), (1, .int n)] := hl
  have rg_n := z_rng n
  refine lv_bipush (v := 24) hx hb dX7_append_0 (by decide) ?_
  refine lv_istore_n (lv' := [(2, .int 24), (0, .ref (ad 3)), (1, .int n)]) hx hb dX7_append_2 rfl hl (by decide) rfl (fun ls hl => ?_)
  have loop3 : ∀ (n3 : Nat) (v2_3 : Int32) (ct1 : Nat → va_E) (H : Heap) (locs : List Loc) (ls : Array Slot), ((v2_3.toInt + 8 : Int).toNat < n3) → (-8 ≤ v2_3.toInt ∧ v2_3.toInt ≤ 24) → (Inv8 g ad pe ct1) → zP g (zw 126 ad ct1) H → va_D A (zw 126 ad ct1) → va_S A s.heap H locs → lv_has ls 3 [(2, .int v2_3), (0, .ref (ad 3)), (1, .int n)] → W p l e (headSpec (zW yX7_append cX7_append 3 none) ({ frames := 0, cells := 0, slots := 0, locals := 0 })).room s m ([.ref (ad 3), .int n] : List Value).toArray below meth c H locs 0 0 (MQ below (va_Qv (fun (_ : Unit) => True) (fun _ t => ∃ ct2 : Nat → va_E, zP g (zw 126 ad ct2) t.heap ∧ va_D A (zw 126 ad ct2) ∧ Inv8 g ad pe ct2) A) ([.ref (ad 3), .int n] : List Value).toArray s 0 0 A) (F0 m 3 ls []) := by
    intro n3
    induction n3 with
    | zero =>
      intro v2_3 ct1 H locs ls hn3 b2_3 hI hP hD hS hl
      exact absurd hn3 (Nat.not_lt_zero _)
    | succ n3 ih3 =>
      intro v2_3 ct1 H locs ls hn3 b2_3 hI hP hD hS hl
      refine lv_iload_n hx hb dX7_append_3 rfl (lv_at hl 0 rfl) ?_
      refine lv_if_lt (tgt := 49) hx hb dX7_append_4 (by decide) (fun c2 => ?_) (fun c2 => ?_)
      · skip
        have c2 : v2_3.toInt < 0 := (z_lt rfl (by decide : (0 : Int32).toInt = 0)).mp c2
        exact W.vret hx hb hr (fun t ht hW => ⟨⟨(), rfl, trivial, ct1, by rw [ht]; exact hP, hD, hI⟩, hS.F ht⟩) hS.2.2 dX7_append_49
      · skip
        have c2 : ¬ (v2_3.toInt < 0) := fun q => c2 ((z_lt rfl (by decide : (0 : Int32).toInt = 0)).mpr q)
        refine lv_aload_n hx hb dX7_append_7 rfl (lv_at hl 1 rfl) ?_
        obtain ⟨len4, h5, h6, hs3⟩ := a8_3 hI
        refine va_get (D := g.1) (ci := 7) (v := .int len4) (C := RX7) (T := TX7) (N := 2) hx hb hg inG7 hown hK hP 3 (zw_at (by omega) hs3) rfl 0 (by decide) (hg _ mm_136) (fun _ h9 => h9) rfl dX7_append_8 ?_
        refine lv_sipush (v := 200) hx hb dX7_append_11 (by decide) ?_
        refine lv_icmp_ge (tgt := 49) hx hb dX7_append_14 (by decide) (fun c7 => ?_) (fun c7 => ?_)
        · skip
          have c7 : 200 ≤ len4.toInt := (z_le (by decide : (200 : Int32).toInt = 200) rfl).mp c7
          exact W.vret hx hb hr (fun t ht hW => ⟨⟨(), rfl, trivial, ct1, by rw [ht]; exact hP, hD, hI⟩, hS.F ht⟩) hS.2.2 dX7_append_49
        · skip
          have c7 : ¬ (200 ≤ len4.toInt) := fun q => c7 ((z_le (by decide : (200 : Int32).toInt = 200) rfl).mpr q)
          refine lv_aload_n hx hb dX7_append_17 rfl (lv_at hl 1 rfl) ?_
          refine va_get (D := g.1) (ci := 7) (v := .ref (ad 4)) (C := RX7) (T := TX7) (N := 2) hx hb hg inG7 hown hK hP 3 (zw_at (by omega) hs3) rfl 1 (by decide) (hg _ mm_138) (fun _ h9 => h9) rfl dX7_append_18 ?_
          refine lv_aload_n hx hb dX7_append_21 rfl (lv_at hl 1 rfl) ?_
          refine va_get (D := g.1) (ci := 7) (v := .int len4) (C := RX7) (T := TX7) (N := 2) hx hb hg inG7 hown hK hP 3 (zw_at (by omega) hs3) rfl 0 (by decide) (hg _ mm_136) (fun _ h9 => h9) rfl dX7_append_22 ?_
          refine lv_iload_n hx hb dX7_append_25 rfl (lv_at hl 2 rfl) ?_
          refine lv_iload_n hx hb dX7_append_26 rfl (lv_at hl 0 rfl) ?_
          refine lv_iushr hx hb dX7_append_27 rfl ?_
          refine lv_topi (fun x8 ex8 => ?_)
          refine lv_sipush (v := 255) hx hb dX7_append_28 (by decide) ?_
          refine lv_iand hx hb dX7_append_31 ?_
          refine lv_topi (fun x9 ex9 => ?_)
          have tx9 := z_andr (x := x8) (y := 255) (by decide : (255 : Int32).toInt = 255) (by omega)
          rw [← ex9] at tx9
          obtain ⟨f11, hs10⟩ := a8_4 hI
          refine va_iast hx hb hK hP hD hS 4 0 (zw_at (by omega) hs10) rfl (z_in rfl (by omega) (by omega)) dX7_append_32 (fun H locs hP hD hS => ?_)
          have hP : zP g ((zw 126 ad ct1).set 4 (ad 4, .inl (g.2 0, 200, .inl (upd f11 (Int32.toNatClampNeg len4) x9)))) H := hP
          have hD : va_D A ((zw 126 ad ct1).set 4 (ad 4, .inl (g.2 0, 200, .inl (upd f11 (Int32.toNatClampNeg len4) x9)))) := hD
          rw [zw_set (by omega)] at hP hD
          obtain ⟨ct13, ec14⟩ : ∃ z : Nat → va_E, z = va_up ct1 4 (.inl (g.2 0, 200, .inl (upd f11 (Int32.toNatClampNeg len4) x9))) := ⟨_, rfl⟩
          rw [← ec14] at hP hD
          have hI : Inv8 g ad pe ct13 := by rw [ec14]; exact up8 hI (i8_4 ⟨_, rfl⟩)
          have hs15 : ct13 3 = .inr (7, [.int len4, .ref (ad 4)]) := by rw [ec14, va_up_ne _ _ (by omega)]; exact hs3
          have hs16 : ct13 4 = .inl (g.2 0, 200, .inl (upd f11 (Int32.toNatClampNeg len4) x9)) := by rw [ec14]; exact va_up_self _ _ _
          refine lv_aload_n hx hb dX7_append_33 rfl (lv_at hl 1 rfl) ?_
          refine lv_dup hx hb dX7_append_34 rfl ?_
          refine va_get (D := g.1) (ci := 7) (v := .int len4) (C := RX7) (T := TX7) (N := 2) hx hb hg inG7 hown hK hP 3 (zw_at (by omega) hs15) rfl 0 (by decide) (hg _ mm_136) (fun _ h9 => h9) rfl dX7_append_35 ?_
          refine lv_iconst (v := 1) hx hb dX7_append_38 (by decide) ?_
          refine lv_iadd hx hb dX7_append_39 ?_
          refine lv_topi (fun x17 ex17 => ?_)
          have tx17 : x17.toInt = len4.toInt + 1 := by rw [ex17]; exact z_add rfl (by decide : (1 : Int32).toInt = 1) (by omega) (by omega)
          refine va_put (D := g.1) (ci := 7) (v := .int x17) (ty := .int) (C := RX7) (T := TX7) (N := 2) hx hb hg inG7 tyX7 tyX7_ok nmX7 hown hK hP hD hS 3 (zw_at (by omega) hs15) rfl 0 (by decide) (hg _ mm_136) (fun _ h9 => h9) rfl (by decide +kernel) rfl rfl (Nat.le_of_ble_eq_true rfl) dX7_append_40 (fun H locs hP hD hS => ?_)
          have hP : zP g ((zw 126 ad ct13).set 3 (ad 3, .inr (7, [.int x17, .ref (ad 4)]))) H := hP
          have hD : va_D A ((zw 126 ad ct13).set 3 (ad 3, .inr (7, [.int x17, .ref (ad 4)]))) := hD
          rw [zw_set (by omega)] at hP hD
          obtain ⟨ct18, ec19⟩ : ∃ z : Nat → va_E, z = va_up ct13 3 (.inr (7, [.int x17, .ref (ad 4)])) := ⟨_, rfl⟩
          rw [← ec19] at hP hD
          have hI : Inv8 g ad pe ct18 := by rw [ec19]; exact up8 hI (i8_3 ⟨(x17 : Int32), (by first | omega | decide), (by first | omega | decide), rfl⟩)
          have hs20 : ct18 4 = .inl (g.2 0, 200, .inl (upd f11 (Int32.toNatClampNeg len4) x9)) := by rw [ec19, va_up_ne _ _ (by omega)]; exact hs16
          have hs21 : ct18 3 = .inr (7, [.int x17, .ref (ad 4)]) := by rw [ec19]; exact va_up_self _ _ _
          obtain ⟨x22, ex22⟩ : ∃ y : Int32, y = v2_3 + (-8) := ⟨_, rfl⟩
          have tx22 : x22.toInt = v2_3.toInt + (-8) := by rw [ex22]; exact z_add rfl (by decide : ((-8) : Int32).toInt = (-8)) (by omega) (by omega)
          refine lv_iinc (v := x22) (lv' := [(2, .int x22), (0, .ref (ad 3)), (1, .int n)]) hx hb dX7_append_43 hl (k := 0) rfl (by rw [ex22]; rfl) (by decide) rfl (fun ls hl => ?_)
          refine lv_goto (tgt := 3) hx hb dX7_append_46 (by decide) ?_
          exact ih3 x22 ct18 _ _ ls (by omega) (by first | omega | decide) hI hP hD hS (lv_sub hl [0, 1, 2] rfl)
  exact loop3 (((24 : Int32).toInt + 8 : Int).toNat + 1) (24 : Int32) ct _ _ ls (by omega) (by first | omega | decide) hI hP hD hS (lv_sub hl [0, 1, 2] rfl)

set_option maxHeartbeats 4000000 in
set_option maxRecDepth 100000 in
theorem k_X2_add (l : Launch) (g : zG) (sz : Nat) (ad : Nat → Nat) (pe : Int32) (ct : Nat → va_E) (kb : Nat) (ow : Int32) (hf_kb : 55 ≤ kb ∧ kb < 99 ∧ (kb - 55) % 11 = 0) (hI : Inv8 g ad pe ct) : Met l yX2_add (zW yX2_add cX2_add 2 none) ({ frames := 0, cells := 0, slots := 0, locals := 0 }) (va_Pc [.ref (ad kb), .int ow] (zA g (zw 126 ad ct) sz)) (va_Qv (fun (_ : Unit) => True) (fun _ t => ∃ ct2 : Nat → va_E, zP g (zw 126 ad ct2) t.heap ∧ va_D (va_A (zw 126 ad ct) sz) (zw 126 ad ct2) ∧ Inv8 g ad pe ct2 ∧ (ct2 0 = ct 0)) (va_A (zw 126 ad ct) sz)) 0 0 (va_A (zw 126 ad ct) sz) := by
  refine Met.ofW (cc := cX2_add) (maxL := 2) (ret := none) (by decide) rfl ?_
  intro p e s m args below meth c s₁ B hml hv
  obtain ⟨rfl, hsz, hP, hK, hD0, hN⟩ := hv
  have hx := B.exec
  have hb := B.bytes
  have hr := B.returns
  have hg := zW.law (atoms_spec (ws := (zW yX2_add cX2_add 2 none)) B.pre)
  have hown : s.vm.findClass RX2 = some m.cls := findClass_of_methodNamed B.named
  have hlocks := B.notSynchronized
  have hpe0 := hI.1
  subst hsz
  have hD := hD0.self (sz := s.heap.size)
  generalize hAe : va_A (zw 126 ad ct) s.heap.size = A at hD ⊢
  have hA : ∀ q : Nat, s.heap.size ≤ q → A q := fun q h => by rw [← hAe]; exact Or.inr h
  have hS : va_S A s.heap s.heap [] := va_S.rf
  have hl := lv_entry ([.ref (ad kb), .int ow]) (n := 2) (Nat.le_of_ble_eq_true rfl)
  rw [lg_entry_eq]
  generalize (lg_sl ([.ref (ad kb), .int ow]) ++ List.replicate (2 - (lg_sl ([.ref (ad kb), .int ow])).length) Slot.unset).toArray = ls at hl ⊢
  have hl : lv_has ls 2 [(0, .ref (ad kb)), (1, .int ow)] := hl
  have hk0 : ct 0 = ct 0 := rfl
  obtain ⟨bk3, dr2, h4, h5, h6, hs1⟩ := a8_0 hI
  have rg_ow := z_rng ow
  refine lv_aload_n hx hb dX2_add_0 rfl (lv_at hl 0 rfl) ?_
  obtain ⟨lns8, liv9, shw10, h11, h12, h13, h14, hz15, hs7⟩ := a8_40 (kc := kb) (by omega) hI
  have bhz15 := z_b01 hz15
  refine va_get (D := g.1) (ci := 2) (v := .int lns8) (C := RX2) (T := TX2) (N := 5) hx hb hg inG2 hown hK hP kb (zw_at (by omega) hs7) rfl 0 (by decide) (hg _ mm_341) (fun _ h9 => h9) rfl dX2_add_1 ?_
  refine lv_bipush (v := 8) hx hb dX2_add_4 (by decide) ?_
  refine lv_icmp_ge (tgt := 44) hx hb dX2_add_6 (by decide) (fun c16 => ?_) (fun c16 => ?_)
  · skip
    have c16 : 8 ≤ lns8.toInt := (z_le (by decide : (8 : Int32).toInt = 8) rfl).mp c16
    exact W.vret hx hb hr (fun t ht hW => ⟨⟨(), rfl, trivial, ct, by rw [ht]; exact hP, hD, hI, (by assumption)⟩, hS.F ht⟩) hS.2.2 dX2_add_44
  · skip
    have c16 : ¬ (8 ≤ lns8.toInt) := fun q => c16 ((z_le (by decide : (8 : Int32).toInt = 8) rfl).mpr q)
    refine lv_aload_n hx hb dX2_add_9 rfl (lv_at hl 0 rfl) ?_
    refine va_get (D := g.1) (ci := 2) (v := .ref (ad (kb + 1))) (C := RX2) (T := TX2) (N := 5) hx hb hg inG2 hown hK hP kb (zw_at (by omega) hs7) rfl 3 (by decide) (hg _ mm_347) (fun _ h9 => h9) rfl dX2_add_10 ?_
    refine lv_aload_n hx hb dX2_add_13 rfl (lv_at hl 0 rfl) ?_
    refine va_get (D := g.1) (ci := 2) (v := .int lns8) (C := RX2) (T := TX2) (N := 5) hx hb hg inG2 hown hK hP kb (zw_at (by omega) hs7) rfl 0 (by decide) (hg _ mm_341) (fun _ h9 => h9) rfl dX2_add_14 ?_
    refine lv_iload_n hx hb dX2_add_17 rfl (lv_at hl 1 rfl) ?_
    obtain ⟨f18, hs17⟩ := a8_41 (kc := kb) (by omega) hI
    refine va_iast hx hb hK hP hD hS (kb + 1) 0 (zw_at (by omega) hs17) rfl (z_in rfl (by omega) (by omega)) dX2_add_18 (fun H locs hP hD hS => ?_)
    have hP : zP g ((zw 126 ad ct).set (kb + 1) (ad (kb + 1), .inl (g.2 0, 8, .inl (upd f18 (Int32.toNatClampNeg lns8) ow)))) H := hP
    have hD : va_D A ((zw 126 ad ct).set (kb + 1) (ad (kb + 1), .inl (g.2 0, 8, .inl (upd f18 (Int32.toNatClampNeg lns8) ow)))) := hD
    rw [zw_set (by omega)] at hP hD
    obtain ⟨ct20, ec21⟩ : ∃ z : Nat → va_E, z = va_up ct (kb + 1) (.inl (g.2 0, 8, .inl (upd f18 (Int32.toNatClampNeg lns8) ow))) := ⟨_, rfl⟩
    rw [← ec21] at hP hD
    have hI : Inv8 g ad pe ct20 := by rw [ec21]; exact up8 hI (i8_41 (kc := kb) (by omega) ⟨_, rfl⟩)
    have hk0 : ct20 0 = ct 0 := by rw [ec21]; exact (va_up_ne _ _ (by omega)).trans hk0
    have hs22 : ct20 0 = .inr (8, [.ref (ad 1), .ref (ad 2), .ref (ad 3), .ref (ad 5), .ref (ad 6), .ref (ad 9), .ref (ad 10), .ref (ad 17), .ref (ad 21), .ref (ad 34), .ref (ad (99 + 3 * dr2)), .int pe, .int bk3]) := by rw [ec21, va_up_ne _ _ (by omega)]; exact hs1
    have hs23 : ct20 kb = .inr (2, [.int lns8, .int liv9, .int shw10, .ref (ad (kb + 1)), .ref (ad (kb + 2))]) := by rw [ec21, va_up_ne _ _ (by omega)]; exact hs7
    have hs24 : ct20 (kb + 1) = .inl (g.2 0, 8, .inl (upd f18 (Int32.toNatClampNeg lns8) ow)) := by rw [ec21]; exact va_up_self _ _ _
    refine lv_aload_n hx hb dX2_add_19 rfl (lv_at hl 0 rfl) ?_
    refine lv_dup hx hb dX2_add_20 rfl ?_
    refine va_get (D := g.1) (ci := 2) (v := .int liv9) (C := RX2) (T := TX2) (N := 5) hx hb hg inG2 hown hK hP kb (zw_at (by omega) hs23) rfl 1 (by decide) (hg _ mm_343) (fun _ h9 => h9) rfl dX2_add_21 ?_
    refine lv_iconst (v := 1) hx hb dX2_add_24 (by decide) ?_
    refine lv_aload_n hx hb dX2_add_25 rfl (lv_at hl 0 rfl) ?_
    refine va_get (D := g.1) (ci := 2) (v := .int lns8) (C := RX2) (T := TX2) (N := 5) hx hb hg inG2 hown hK hP kb (zw_at (by omega) hs23) rfl 0 (by decide) (hg _ mm_341) (fun _ h9 => h9) rfl dX2_add_26 ?_
    refine lv_ishl hx hb dX2_add_29 ?_
    refine lv_topi (fun x25 ex25 => ?_)
    have tx25 := z_shl1 (y := lns8) rfl (by omega) (k := 7) (by decide) (by omega)
    rw [← ex25] at tx25
    refine lv_ior hx hb dX2_add_30 ?_
    refine lv_topi (fun x26 ex26 => ?_)
    have tx26 := z_or (x := liv9) (y := x25) rfl rfl (k := 8) (N := 256) (by decide) (by decide) (by omega) (by omega) (by omega) (by omega)
    rw [← ex26] at tx26
    refine va_put (D := g.1) (ci := 2) (v := .int x26) (ty := .int) (C := RX2) (T := TX2) (N := 5) hx hb hg inG2 tyX2 tyX2_ok nmX2 hown hK hP hD hS kb (zw_at (by omega) hs23) rfl 1 (by decide) (hg _ mm_343) (fun _ h9 => h9) rfl (by decide +kernel) rfl rfl (Nat.le_of_ble_eq_true rfl) dX2_add_31 (fun H locs hP hD hS => ?_)
    have hP : zP g ((zw 126 ad ct20).set kb (ad kb, .inr (2, [.int lns8, .int x26, .int shw10, .ref (ad (kb + 1)), .ref (ad (kb + 2))]))) H := hP
    have hD : va_D A ((zw 126 ad ct20).set kb (ad kb, .inr (2, [.int lns8, .int x26, .int shw10, .ref (ad (kb + 1)), .ref (ad (kb + 2))]))) := hD
    rw [zw_set (by omega)] at hP hD
    obtain ⟨ct27, ec28⟩ : ∃ z : Nat → va_E, z = va_up ct20 kb (.inr (2, [.int lns8, .int x26, .int shw10, .ref (ad (kb + 1)), .ref (ad (kb + 2))])) := ⟨_, rfl⟩
    rw [← ec28] at hP hD
    have hI : Inv8 g ad pe ct27 := by rw [ec28]; exact up8 hI (i8_40 (kc := kb) (by omega) ⟨(lns8 : Int32), (x26 : Int32), (shw10 : Int32), (by first | omega | decide), (by first | omega | decide), (by first | omega | decide), (by first | omega | decide), hz15, rfl⟩)
    have hk0 : ct27 0 = ct 0 := by rw [ec28]; exact (va_up_ne _ _ (by omega)).trans hk0
    have hs29 : ct27 0 = .inr (8, [.ref (ad 1), .ref (ad 2), .ref (ad 3), .ref (ad 5), .ref (ad 6), .ref (ad 9), .ref (ad 10), .ref (ad 17), .ref (ad 21), .ref (ad 34), .ref (ad (99 + 3 * dr2)), .int pe, .int bk3]) := by rw [ec28, va_up_ne _ _ (by omega)]; exact hs22
    have hs30 : ct27 (kb + 1) = .inl (g.2 0, 8, .inl (upd f18 (Int32.toNatClampNeg lns8) ow)) := by rw [ec28, va_up_ne _ _ (by omega)]; exact hs24
    have hs31 : ct27 kb = .inr (2, [.int lns8, .int x26, .int shw10, .ref (ad (kb + 1)), .ref (ad (kb + 2))]) := by rw [ec28]; exact va_up_self _ _ _
    refine lv_aload_n hx hb dX2_add_34 rfl (lv_at hl 0 rfl) ?_
    refine lv_dup hx hb dX2_add_35 rfl ?_
    refine va_get (D := g.1) (ci := 2) (v := .int lns8) (C := RX2) (T := TX2) (N := 5) hx hb hg inG2 hown hK hP kb (zw_at (by omega) hs31) rfl 0 (by decide) (hg _ mm_341) (fun _ h9 => h9) rfl dX2_add_36 ?_
    refine lv_iconst (v := 1) hx hb dX2_add_39 (by decide) ?_
    refine lv_iadd hx hb dX2_add_40 ?_
    refine lv_topi (fun x32 ex32 => ?_)
    have tx32 : x32.toInt = lns8.toInt + 1 := by rw [ex32]; exact z_add rfl (by decide : (1 : Int32).toInt = 1) (by omega) (by omega)
    refine va_put (D := g.1) (ci := 2) (v := .int x32) (ty := .int) (C := RX2) (T := TX2) (N := 5) hx hb hg inG2 tyX2 tyX2_ok nmX2 hown hK hP hD hS kb (zw_at (by omega) hs31) rfl 0 (by decide) (hg _ mm_341) (fun _ h9 => h9) rfl (by decide +kernel) rfl rfl (Nat.le_of_ble_eq_true rfl) dX2_add_41 (fun H locs hP hD hS => ?_)
    have hP : zP g ((zw 126 ad ct27).set kb (ad kb, .inr (2, [.int x32, .int x26, .int shw10, .ref (ad (kb + 1)), .ref (ad (kb + 2))]))) H := hP
    have hD : va_D A ((zw 126 ad ct27).set kb (ad kb, .inr (2, [.int x32, .int x26, .int shw10, .ref (ad (kb + 1)), .ref (ad (kb + 2))]))) := hD
    rw [zw_set (by omega)] at hP hD
    obtain ⟨ct33, ec34⟩ : ∃ z : Nat → va_E, z = va_up ct27 kb (.inr (2, [.int x32, .int x26, .int shw10, .ref (ad (kb + 1)), .ref (ad (kb + 2))])) := ⟨_, rfl⟩
    rw [← ec34] at hP hD
    have hI : Inv8 g ad pe ct33 := by rw [ec34]; exact up8 hI (i8_40 (kc := kb) (by omega) ⟨(x32 : Int32), (x26 : Int32), (shw10 : Int32), (by first | omega | decide), (by first | omega | decide), (by first | omega | decide), (by first | omega | decide), hz15, rfl⟩)
    have hk0 : ct33 0 = ct 0 := by rw [ec34]; exact (va_up_ne _ _ (by omega)).trans hk0
    have hs35 : ct33 0 = .inr (8, [.ref (ad 1), .ref (ad 2), .ref (ad 3), .ref (ad 5), .ref (ad 6), .ref (ad 9), .ref (ad 10), .ref (ad 17), .ref (ad 21), .ref (ad 34), .ref (ad (99 + 3 * dr2)), .int pe, .int bk3]) := by rw [ec34, va_up_ne _ _ (by omega)]; exact hs29
    have hs36 : ct33 (kb + 1) = .inl (g.2 0, 8, .inl (upd f18 (Int32.toNatClampNeg lns8) ow)) := by rw [ec34, va_up_ne _ _ (by omega)]; exact hs30
    have hs37 : ct33 kb = .inr (2, [.int x32, .int x26, .int shw10, .ref (ad (kb + 1)), .ref (ad (kb + 2))]) := by rw [ec34]; exact va_up_self _ _ _
    exact W.vret hx hb hr (fun t ht hW => ⟨⟨(), rfl, trivial, ct33, by rw [ht]; exact hP, hD, hI, (by assumption)⟩, hS.F ht⟩) hS.2.2 dX2_add_44

set_option maxHeartbeats 4000000 in
set_option maxRecDepth 100000 in
theorem k_X2_owner (l : Launch) (g : zG) (ad : Nat → Nat) (pe : Int32) (ct : Nat → va_E) (kb : Nat) (i : Int32) (hf_kb : 55 ≤ kb ∧ kb < 99 ∧ (kb - 55) % 11 = 0) (hI : Inv8 g ad pe ct) : Met l yX2_owner (zW yX2_owner cX2_owner 2 (some .int)) ({ frames := 1, cells := 0, slots := 0, locals := 22 }) (va_Pc [.ref (ad kb), .int i] (zR g (zw 126 ad ct))) (vp_Si (fun r : Int32 => (True))) 0 0 (fun _ => False) := by
  refine Met.ofW (cc := cX2_owner) (maxL := 2) (ret := (some .int)) (by decide) rfl ?_
  intro p e s m args below meth c s₁ B hml hv
  obtain ⟨rfl, hP, hK, hN⟩ := hv
  have hx := B.exec
  have hb := B.bytes
  have hr := B.returns
  have hg := zW.law (atoms_spec (ws := (zW yX2_owner cX2_owner 2 (some .int))) B.pre)
  have hown : s.vm.findClass RX2 = some m.cls := findClass_of_methodNamed B.named
  have hlocks := B.notSynchronized
  have hpe0 := hI.1
  have hl := lv_entry ([.ref (ad kb), .int i]) (n := 2) (Nat.le_of_ble_eq_true rfl)
  rw [lg_entry_eq]
  generalize (lg_sl ([.ref (ad kb), .int i]) ++ List.replicate (2 - (lg_sl ([.ref (ad kb), .int i])).length) Slot.unset).toArray = ls at hl ⊢
  have hl : lv_has ls 2 [(0, .ref (ad kb)), (1, .int i)] := hl
  have rg_i := z_rng i
  refine lv_iload_n hx hb dX2_owner_0 rfl (lv_at hl 1 rfl) ?_
  refine lv_iconst (v := 0) hx hb dX2_owner_1 (by decide) ?_
  refine lv_aload_n hx hb dX2_owner_2 rfl (lv_at hl 0 rfl) ?_
  obtain ⟨lns2, liv3, shw4, h5, h6, h7, h8, hz9, hs1⟩ := a8_40 (kc := kb) (by omega) hI
  have bhz9 := z_b01 hz9
  refine va_get (D := g.1) (ci := 2) (v := .int lns2) (C := RX2) (T := TX2) (N := 5) hx hb hg inG2 hown hK hP kb (zw_at (by omega) hs1) rfl 0 (by decide) (hg _ mm_341) (fun _ h9 => h9) rfl dX2_owner_3 ?_
  refine lv_iconst (v := 1) hx hb dX2_owner_6 (by decide) ?_
  refine lv_isub hx hb dX2_owner_7 ?_
  refine lv_topi (fun x10 ex10 => ?_)
  have tx10 : x10.toInt = lns2.toInt - 1 := by rw [ex10]; exact z_sub rfl (by decide : (1 : Int32).toInt = 1) (by omega) (by omega)
  refine zc_i (va_runSN (As := [.int i, .int 0, .int x10]) (rest := []) ⟨hx, hb, hml, hown, hg⟩ (k_X8_within l g ad pe ct i (0 : Int32) x10 hI) ⟨va_cnB 3 hg (z_gN mm_409) rfl rfl rfl (hN.at 10 rfl) (hg _ mm_108) (by decide +kernel) ⟨Nat.le_of_ble_eq_true rfl, Nat.le_of_ble_eq_true rfl⟩, (hg _ mm_408), trivial⟩ (zR.pre [.int i, .int 0, .int x10] hP hK hN) rfl rfl hl.1 rfl (lv_room (Nat.le_of_ble_eq_true rfl)) dX2_owner_8 ⟨Nat.le_of_ble_eq_true rfl, Nat.le_of_ble_eq_true rfl⟩) (fun r11 hr11 => ?_)
  rcases hr11 with hr11 | hr11
  · skip
    obtain ⟨rfl, h12, h13⟩ := hr11
    have h12 : (0 : Int) ≤ i.toInt := h12
    have h13 : i.toInt ≤ x10.toInt := h13
    refine lv_if_eq (tgt := 23) hx hb dX2_owner_11 (by decide) (fun c14 => ?_) (fun c14 => ?_)
    · skip
      exact absurd c14 (by decide)
    · skip
      refine lv_aload_n hx hb dX2_owner_14 rfl (lv_at hl 0 rfl) ?_
      refine va_get (D := g.1) (ci := 2) (v := .ref (ad (kb + 1))) (C := RX2) (T := TX2) (N := 5) hx hb hg inG2 hown hK hP kb (zw_at (by omega) hs1) rfl 3 (by decide) (hg _ mm_347) (fun _ h9 => h9) rfl dX2_owner_15 ?_
      refine lv_iload_n hx hb dX2_owner_18 rfl (lv_at hl 1 rfl) ?_
      obtain ⟨f16, hs15⟩ := a8_41 (kc := kb) (by omega) hI
      refine va_iald hx hb hK hP (kb + 1) 0 (zw_at (by omega) hs15) rfl (z_in rfl (by omega) (by omega)) dX2_owner_19 ?_
      refine lv_topi (fun y17 ey17 => ?_)
      refine lv_goto (tgt := 24) hx hb dX2_owner_20 (by decide) ?_
      exact W.iret (v := y17) hx hb hr (fun t ht hW => ⟨y17, rfl, trivial, ht⟩) (fun q hq => by cases hq) dX2_owner_24
  · skip
    obtain ⟨rfl, h18⟩ := hr11
    have h18 : ¬ ((0 : Int) ≤ i.toInt ∧ i.toInt ≤ x10.toInt) := h18
    refine lv_if_eq (tgt := 23) hx hb dX2_owner_11 (by decide) (fun c19 => ?_) (fun c19 => ?_)
    · skip
      refine lv_iconst (v := (-1)) hx hb dX2_owner_23 (by decide) ?_
      have q20 : ((-1) : Int32).toInt = -1 := by decide
      exact W.iret (v := (-1)) hx hb hr (fun t ht hW => ⟨(-1), rfl, trivial, ht⟩) (fun q hq => by cases hq) dX2_owner_24
    · skip
      exact absurd c19 (by decide)

set_option maxHeartbeats 4000000 in
set_option maxRecDepth 100000 in
theorem k_X2_put (l : Launch) (g : zG) (sz : Nat) (ad : Nat → Nat) (pe : Int32) (ct : Nat → va_E) (kb : Nat) (i : Int32) (c0 : Int32) (nd : Int32) (hf_kb : 55 ≤ kb ∧ kb < 99 ∧ (kb - 55) % 11 = 0) (hI : Inv8 g ad pe ct) : Met l yX2_put (zW yX2_put cX2_put 4 none) ({ frames := 1, cells := 0, slots := 0, locals := 22 }) (va_Pc [.ref (ad kb), .int i, .int c0, .int nd] (zA g (zw 126 ad ct) sz)) (va_Qv (fun (_ : Unit) => True) (fun _ t => ∃ ct2 : Nat → va_E, zP g (zw 126 ad ct2) t.heap ∧ va_D (va_A (zw 126 ad ct) sz) (zw 126 ad ct2) ∧ Inv8 g ad pe ct2 ∧ (ct2 0 = ct 0)) (va_A (zw 126 ad ct) sz)) 0 0 (va_A (zw 126 ad ct) sz) := by
  refine Met.ofW (cc := cX2_put) (maxL := 4) (ret := none) (by decide) rfl ?_
  intro p e s m args below meth c s₁ B hml hv
  obtain ⟨rfl, hsz, hP, hK, hD0, hN⟩ := hv
  have hx := B.exec
  have hb := B.bytes
  have hr := B.returns
  have hg := zW.law (atoms_spec (ws := (zW yX2_put cX2_put 4 none)) B.pre)
  have hown : s.vm.findClass RX2 = some m.cls := findClass_of_methodNamed B.named
  have hlocks := B.notSynchronized
  have hpe0 := hI.1
  subst hsz
  have hD := hD0.self (sz := s.heap.size)
  generalize hAe : va_A (zw 126 ad ct) s.heap.size = A at hD ⊢
  have hA : ∀ q : Nat, s.heap.size ≤ q → A q := fun q h => by rw [← hAe]; exact Or.inr h
  have hS : va_S A s.heap s.heap [] := va_S.rf
  have hl := lv_entry ([.ref (ad kb), .int i, .int c0, .int nd]) (n := 4) (Nat.le_of_ble_eq_true rfl)
  rw [lg_entry_eq]
  generalize (lg_sl ([.ref (ad kb), .int i, .int c0, .int nd]) ++ List.replicate (4 - (lg_sl ([.ref (ad kb), .int i, .int c0, .int nd])).length) Slot.unset).toArray = ls at hl ⊢
  have hl : lv_has ls 4 [(0, .ref (ad kb)), (1, .int i), (2, .int c0), (3, .int nd)] := hl
  have hk0 : ct 0 = ct 0 := rfl
  obtain ⟨bk3, dr2, h4, h5, h6, hs1⟩ := a8_0 hI
  have rg_i := z_rng i
  have rg_c0 := z_rng c0
  have rg_nd := z_rng nd
  refine lv_iload_n hx hb dX2_put_0 rfl (lv_at hl 1 rfl) ?_
  refine lv_iconst (v := 0) hx hb dX2_put_1 (by decide) ?_
  refine lv_aload_n hx hb dX2_put_2 rfl (lv_at hl 0 rfl) ?_
  obtain ⟨lns8, liv9, shw10, h11, h12, h13, h14, hz15, hs7⟩ := a8_40 (kc := kb) (by omega) hI
  have bhz15 := z_b01 hz15
  refine va_get (D := g.1) (ci := 2) (v := .int lns8) (C := RX2) (T := TX2) (N := 5) hx hb hg inG2 hown hK hP kb (zw_at (by omega) hs7) rfl 0 (by decide) (hg _ mm_341) (fun _ h9 => h9) rfl dX2_put_3 ?_
  refine lv_iconst (v := 1) hx hb dX2_put_6 (by decide) ?_
  refine lv_isub hx hb dX2_put_7 ?_
  refine lv_topi (fun x16 ex16 => ?_)
  have tx16 : x16.toInt = lns8.toInt - 1 := by rw [ex16]; exact z_sub rfl (by decide : (1 : Int32).toInt = 1) (by omega) (by omega)
  refine zc_i (va_runSN (As := [.int i, .int 0, .int x16]) (rest := []) ⟨hx, hb, hml, hown, hg⟩ (k_X8_within l g ad pe ct i (0 : Int32) x16 hI) ⟨va_cnB 3 hg (z_gN mm_409) rfl rfl rfl (hN.at 10 rfl) (hg _ mm_108) (by decide +kernel) ⟨Nat.le_of_ble_eq_true rfl, Nat.le_of_ble_eq_true rfl⟩, (hg _ mm_408), trivial⟩ (zR.pre [.int i, .int 0, .int x16] hP hK hN) rfl rfl hl.1 rfl (lv_room (Nat.le_of_ble_eq_true rfl)) dX2_put_8 ⟨Nat.le_of_ble_eq_true rfl, Nat.le_of_ble_eq_true rfl⟩) (fun r17 hr17 => ?_)
  rcases hr17 with hr17 | hr17
  · skip
    obtain ⟨rfl, h18, h19⟩ := hr17
    have h18 : (0 : Int) ≤ i.toInt := h18
    have h19 : i.toInt ≤ x16.toInt := h19
    refine lv_if_eq (tgt := 30) hx hb dX2_put_11 (by decide) (fun c20 => ?_) (fun c20 => ?_)
    · skip
      exact absurd c20 (by decide)
    · skip
      refine lv_iload_n hx hb dX2_put_14 rfl (lv_at hl 2 rfl) ?_
      refine zc_i (va_runSN (As := [.int c0]) (rest := []) ⟨hx, hb, hml, hown, hg⟩ (k_X8_isColumn l g ad pe ct c0 hI) ⟨va_cnB 1 hg (z_gN mm_406) rfl rfl rfl (hN.at 11 rfl) (hg _ mm_108) (by decide +kernel) ⟨Nat.le_of_ble_eq_true rfl, Nat.le_of_ble_eq_true rfl⟩, (hg _ mm_405), trivial⟩ (zR.pre [.int c0] hP hK hN) rfl rfl hl.1 rfl (lv_room (Nat.le_of_ble_eq_true rfl)) dX2_put_15 ⟨Nat.le_of_ble_eq_true rfl, Nat.le_of_ble_eq_true rfl⟩) (fun r21 hr21 => ?_)
      rcases hr21 with hr21 | hr21
      · skip
        obtain ⟨rfl, h22, h23⟩ := hr21
        have h22 : 0 ≤ c0.toInt := h22
        have h23 : c0.toInt ≤ 3 := h23
        refine lv_if_eq (tgt := 30) hx hb dX2_put_18 (by decide) (fun c24 => ?_) (fun c24 => ?_)
        · skip
          exact absurd c24 (by decide)
        · skip
          refine lv_aload_n hx hb dX2_put_21 rfl (lv_at hl 0 rfl) ?_
          refine va_get (D := g.1) (ci := 2) (v := .ref (ad (kb + 2))) (C := RX2) (T := TX2) (N := 5) hx hb hg inG2 hown hK hP kb (zw_at (by omega) hs7) rfl 4 (by decide) (hg _ mm_348) (fun _ h9 => h9) rfl dX2_put_22 ?_
          refine lv_iload_n hx hb dX2_put_25 rfl (lv_at hl 1 rfl) ?_
          have hs25 := a8_42 (kc := kb) (by omega) hI
          refine z_aldII hx hb hK hP (kb + 2) 7 (zw_at (by omega) hs25) rfl (z_in rfl (by omega) (by omega)) dX2_put_26 ?_
          rw [zF42_at (x := i) (by omega) (by omega)]
          refine lv_iload_n hx hb dX2_put_27 rfl (lv_at hl 2 rfl) ?_
          refine lv_iload_n hx hb dX2_put_28 rfl (lv_at hl 3 rfl) ?_
          obtain ⟨f27, hs26⟩ := a8_43 (kc := ((kb + 2) + 1 + 1 * i.toInt.toNat)) (by omega) hI
          refine va_iast hx hb hK hP hD hS ((kb + 2) + 1 + 1 * i.toInt.toNat) 0 (zw_at (by omega) hs26) rfl (z_in rfl (by omega) (by omega)) dX2_put_29 (fun H locs hP hD hS => ?_)
          have hP : zP g ((zw 126 ad ct).set ((kb + 2) + 1 + 1 * i.toInt.toNat) (ad ((kb + 2) + 1 + 1 * i.toInt.toNat), .inl (g.2 0, 4, .inl (upd f27 (Int32.toNatClampNeg c0) nd)))) H := hP
          have hD : va_D A ((zw 126 ad ct).set ((kb + 2) + 1 + 1 * i.toInt.toNat) (ad ((kb + 2) + 1 + 1 * i.toInt.toNat), .inl (g.2 0, 4, .inl (upd f27 (Int32.toNatClampNeg c0) nd)))) := hD
          rw [zw_set (by omega)] at hP hD
          obtain ⟨ct29, ec30⟩ : ∃ z : Nat → va_E, z = va_up ct ((kb + 2) + 1 + 1 * i.toInt.toNat) (.inl (g.2 0, 4, .inl (upd f27 (Int32.toNatClampNeg c0) nd))) := ⟨_, rfl⟩
          rw [← ec30] at hP hD
          have hI : Inv8 g ad pe ct29 := by rw [ec30]; exact up8 hI (i8_43 (kc := ((kb + 2) + 1 + 1 * i.toInt.toNat)) (by omega) ⟨_, rfl⟩)
          have hk0 : ct29 0 = ct 0 := by rw [ec30]; exact (va_up_ne _ _ (by omega)).trans hk0
          have hs31 : ct29 0 = .inr (8, [.ref (ad 1), .ref (ad 2), .ref (ad 3), .ref (ad 5), .ref (ad 6), .ref (ad 9), .ref (ad 10), .ref (ad 17), .ref (ad 21), .ref (ad 34), .ref (ad (99 + 3 * dr2)), .int pe, .int bk3]) := by rw [ec30, va_up_ne _ _ (by omega)]; exact hs1
          have hs32 : ct29 ((kb + 2) + 1 + 1 * i.toInt.toNat) = .inl (g.2 0, 4, .inl (upd f27 (Int32.toNatClampNeg c0) nd)) := by rw [ec30]; exact va_up_self _ _ _
          exact W.vret hx hb hr (fun t ht hW => ⟨⟨(), rfl, trivial, ct29, by rw [ht]; exact hP, hD, hI, (by assumption)⟩, hS.F ht⟩) hS.2.2 dX2_put_30
      · skip
        obtain ⟨rfl, h33⟩ := hr21
        have h33 : ¬ (0 ≤ c0.toInt ∧ c0.toInt ≤ 3) := h33
        refine lv_if_eq (tgt := 30) hx hb dX2_put_18 (by decide) (fun c34 => ?_) (fun c34 => ?_)
        · skip
          exact W.vret hx hb hr (fun t ht hW => ⟨⟨(), rfl, trivial, ct, by rw [ht]; exact hP, hD, hI, (by assumption)⟩, hS.F ht⟩) hS.2.2 dX2_put_30
        · skip
          exact absurd c34 (by decide)
  · skip
    obtain ⟨rfl, h35⟩ := hr17
    have h35 : ¬ ((0 : Int) ≤ i.toInt ∧ i.toInt ≤ x16.toInt) := h35
    refine lv_if_eq (tgt := 30) hx hb dX2_put_11 (by decide) (fun c36 => ?_) (fun c36 => ?_)
    · skip
      exact W.vret hx hb hr (fun t ht hW => ⟨⟨(), rfl, trivial, ct, by rw [ht]; exact hP, hD, hI, (by assumption)⟩, hS.F ht⟩) hS.2.2 dX2_put_30
    · skip
      exact absurd c36 (by decide)

set_option maxHeartbeats 4000000 in
set_option maxRecDepth 100000 in
theorem k_X2_nodeAt (l : Launch) (g : zG) (ad : Nat → Nat) (pe : Int32) (ct : Nat → va_E) (kb : Nat) (i : Int32) (c0 : Int32) (hf_kb : 55 ≤ kb ∧ kb < 99 ∧ (kb - 55) % 11 = 0) (hI : Inv8 g ad pe ct) : Met l yX2_nodeAt (zW yX2_nodeAt cX2_nodeAt 3 (some .int)) ({ frames := 0, cells := 0, slots := 0, locals := 0 }) (va_Pc [.ref (ad kb), .int i, .int c0] (zR g (zw 126 ad ct))) (vp_Si (fun r : Int32 => (True))) 0 0 (fun _ => False) := by
  refine Met.ofW (cc := cX2_nodeAt) (maxL := 3) (ret := (some .int)) (by decide) rfl ?_
  intro p e s m args below meth c s₁ B hml hv
  obtain ⟨rfl, hP, hK, hN⟩ := hv
  have hx := B.exec
  have hb := B.bytes
  have hr := B.returns
  have hg := zW.law (atoms_spec (ws := (zW yX2_nodeAt cX2_nodeAt 3 (some .int))) B.pre)
  have hown : s.vm.findClass RX2 = some m.cls := findClass_of_methodNamed B.named
  have hlocks := B.notSynchronized
  have hpe0 := hI.1
  have hl := lv_entry ([.ref (ad kb), .int i, .int c0]) (n := 3) (Nat.le_of_ble_eq_true rfl)
  rw [lg_entry_eq]
  generalize (lg_sl ([.ref (ad kb), .int i, .int c0]) ++ List.replicate (3 - (lg_sl ([.ref (ad kb), .int i, .int c0])).length) Slot.unset).toArray = ls at hl ⊢
  have hl : lv_has ls 3 [(0, .ref (ad kb)), (1, .int i), (2, .int c0)] := hl
  have rg_i := z_rng i
  have rg_c0 := z_rng c0
  refine lv_iload_n hx hb dX2_nodeAt_0 rfl (lv_at hl 1 rfl) ?_
  refine lv_if_lt (tgt := 32) hx hb dX2_nodeAt_1 (by decide) (fun c1 => ?_) (fun c1 => ?_)
  · skip
    have c1 : i.toInt < 0 := (z_lt rfl (by decide : (0 : Int32).toInt = 0)).mp c1
    refine lv_iconst (v := (-1)) hx hb dX2_nodeAt_32 (by decide) ?_
    have q2 : ((-1) : Int32).toInt = -1 := by decide
    exact W.iret (v := (-1)) hx hb hr (fun t ht hW => ⟨(-1), rfl, trivial, ht⟩) (fun q hq => by cases hq) dX2_nodeAt_33
  · skip
    have c1 : ¬ (i.toInt < 0) := fun q => c1 ((z_lt rfl (by decide : (0 : Int32).toInt = 0)).mpr q)
    refine lv_iload_n hx hb dX2_nodeAt_4 rfl (lv_at hl 1 rfl) ?_
    refine lv_aload_n hx hb dX2_nodeAt_5 rfl (lv_at hl 0 rfl) ?_
    obtain ⟨lns4, liv5, shw6, h7, h8, h9, h10, hz11, hs3⟩ := a8_40 (kc := kb) (by omega) hI
    have bhz11 := z_b01 hz11
    refine va_get (D := g.1) (ci := 2) (v := .int lns4) (C := RX2) (T := TX2) (N := 5) hx hb hg inG2 hown hK hP kb (zw_at (by omega) hs3) rfl 0 (by decide) (hg _ mm_341) (fun _ h9 => h9) rfl dX2_nodeAt_6 ?_
    refine lv_icmp_ge (tgt := 32) hx hb dX2_nodeAt_9 (by decide) (fun c12 => ?_) (fun c12 => ?_)
    · skip
      have c12 : lns4.toInt ≤ i.toInt := (z_le rfl rfl).mp c12
      refine lv_iconst (v := (-1)) hx hb dX2_nodeAt_32 (by decide) ?_
      have q13 : ((-1) : Int32).toInt = -1 := by decide
      exact W.iret (v := (-1)) hx hb hr (fun t ht hW => ⟨(-1), rfl, trivial, ht⟩) (fun q hq => by cases hq) dX2_nodeAt_33
    · skip
      have c12 : ¬ (lns4.toInt ≤ i.toInt) := fun q => c12 ((z_le rfl rfl).mpr q)
      refine lv_iload_n hx hb dX2_nodeAt_12 rfl (lv_at hl 2 rfl) ?_
      refine lv_if_lt (tgt := 32) hx hb dX2_nodeAt_13 (by decide) (fun c14 => ?_) (fun c14 => ?_)
      · skip
        have c14 : c0.toInt < 0 := (z_lt rfl (by decide : (0 : Int32).toInt = 0)).mp c14
        refine lv_iconst (v := (-1)) hx hb dX2_nodeAt_32 (by decide) ?_
        have q15 : ((-1) : Int32).toInt = -1 := by decide
        exact W.iret (v := (-1)) hx hb hr (fun t ht hW => ⟨(-1), rfl, trivial, ht⟩) (fun q hq => by cases hq) dX2_nodeAt_33
      · skip
        have c14 : ¬ (c0.toInt < 0) := fun q => c14 ((z_lt rfl (by decide : (0 : Int32).toInt = 0)).mpr q)
        refine lv_iload_n hx hb dX2_nodeAt_16 rfl (lv_at hl 2 rfl) ?_
        refine lv_iconst (v := 4) hx hb dX2_nodeAt_17 (by decide) ?_
        refine lv_icmp_ge (tgt := 32) hx hb dX2_nodeAt_18 (by decide) (fun c16 => ?_) (fun c16 => ?_)
        · skip
          have c16 : 4 ≤ c0.toInt := (z_le (by decide : (4 : Int32).toInt = 4) rfl).mp c16
          refine lv_iconst (v := (-1)) hx hb dX2_nodeAt_32 (by decide) ?_
          have q17 : ((-1) : Int32).toInt = -1 := by decide
          exact W.iret (v := (-1)) hx hb hr (fun t ht hW => ⟨(-1), rfl, trivial, ht⟩) (fun q hq => by cases hq) dX2_nodeAt_33
        · skip
          have c16 : ¬ (4 ≤ c0.toInt) := fun q => c16 ((z_le (by decide : (4 : Int32).toInt = 4) rfl).mpr q)
          refine lv_aload_n hx hb dX2_nodeAt_21 rfl (lv_at hl 0 rfl) ?_
          refine va_get (D := g.1) (ci := 2) (v := .ref (ad (kb + 2))) (C := RX2) (T := TX2) (N := 5) hx hb hg inG2 hown hK hP kb (zw_at (by omega) hs3) rfl 4 (by decide) (hg _ mm_348) (fun _ h9 => h9) rfl dX2_nodeAt_22 ?_
          refine lv_iload_n hx hb dX2_nodeAt_25 rfl (lv_at hl 1 rfl) ?_
          have hs18 := a8_42 (kc := kb) (by omega) hI
          refine z_aldII hx hb hK hP (kb + 2) 7 (zw_at (by omega) hs18) rfl (z_in rfl (by omega) (by omega)) dX2_nodeAt_26 ?_
          rw [zF42_at (x := i) (by omega) (by omega)]
          refine lv_iload_n hx hb dX2_nodeAt_27 rfl (lv_at hl 2 rfl) ?_
          obtain ⟨f20, hs19⟩ := a8_43 (kc := ((kb + 2) + 1 + 1 * i.toInt.toNat)) (by omega) hI
          refine va_iald hx hb hK hP ((kb + 2) + 1 + 1 * i.toInt.toNat) 0 (zw_at (by omega) hs19) rfl (z_in rfl (by omega) (by omega)) dX2_nodeAt_28 ?_
          refine lv_topi (fun y21 ey21 => ?_)
          refine lv_goto (tgt := 33) hx hb dX2_nodeAt_29 (by decide) ?_
          exact W.iret (v := y21) hx hb hr (fun t ht hW => ⟨y21, rfl, trivial, ht⟩) (fun q hq => by cases hq) dX2_nodeAt_33

set_option maxHeartbeats 4000000 in
set_option maxRecDepth 100000 in
theorem k_X2_exchange (l : Launch) (g : zG) (sz : Nat) (ad : Nat → Nat) (pe : Int32) (ct : Nat → va_E) (kb : Nat) (i : Int32) (j : Int32) (c0 : Int32) (hf_kb : 55 ≤ kb ∧ kb < 99 ∧ (kb - 55) % 11 = 0) (hI : Inv8 g ad pe ct) : Met l yX2_exchange (zW yX2_exchange cX2_exchange 5 none) ({ frames := 2, cells := 0, slots := 0, locals := 45 }) (va_Pc [.ref (ad kb), .int i, .int j, .int c0] (zA g (zw 126 ad ct) sz)) (va_Qv (fun (_ : Unit) => True) (fun _ t => ∃ ct2 : Nat → va_E, zP g (zw 126 ad ct2) t.heap ∧ va_D (va_A (zw 126 ad ct) sz) (zw 126 ad ct2) ∧ Inv8 g ad pe ct2) (va_A (zw 126 ad ct) sz)) 0 0 (va_A (zw 126 ad ct) sz) := by
  refine Met.ofW (cc := cX2_exchange) (maxL := 5) (ret := none) (by decide) rfl ?_
  intro p e s m args below meth c s₁ B hml hv
  obtain ⟨rfl, hsz, hP, hK, hD0, hN⟩ := hv
  have hx := B.exec
  have hb := B.bytes
  have hr := B.returns
  have hg := zW.law (atoms_spec (ws := (zW yX2_exchange cX2_exchange 5 none)) B.pre)
  have hown : s.vm.findClass RX2 = some m.cls := findClass_of_methodNamed B.named
  have hlocks := B.notSynchronized
  have hpe0 := hI.1
  subst hsz
  have hD := hD0.self (sz := s.heap.size)
  generalize hAe : va_A (zw 126 ad ct) s.heap.size = A at hD ⊢
  have hA : ∀ q : Nat, s.heap.size ≤ q → A q := fun q h => by rw [← hAe]; exact Or.inr h
  have hS : va_S A s.heap s.heap [] := va_S.rf
  have hl := lv_entry ([.ref (ad kb), .int i, .int j, .int c0]) (n := 5) (Nat.le_of_ble_eq_true rfl)
  rw [lg_entry_eq]
  generalize (lg_sl ([.ref (ad kb), .int i, .int j, .int c0]) ++ List.replicate (5 - (lg_sl ([.ref (ad kb), .int i, .int j, .int c0])).length) Slot.unset).toArray = ls at hl ⊢
  have hl : lv_has ls 5 [(0, .ref (ad kb)), (1, .int i), (2, .int j), (3, .int c0)] := hl
  have rg_i := z_rng i
  have rg_j := z_rng j
  have rg_c0 := z_rng c0
  refine lv_aload_n hx hb dX2_exchange_0 rfl (lv_at hl 0 rfl) ?_
  refine lv_iload_n hx hb dX2_exchange_1 rfl (lv_at hl 1 rfl) ?_
  refine lv_iload_n hx hb dX2_exchange_2 rfl (lv_at hl 3 rfl) ?_
  obtain ⟨lns2, liv3, shw4, h5, h6, h7, h8, hz9, hs1⟩ := a8_40 (kc := kb) (by omega) hI
  have bhz9 := z_b01 hz9
  refine zc_i (va_runV (As := [.int i, .int c0]) (rest := []) ⟨hx, hb, hml, hown, hg⟩ (k_X2_nodeAt l g ad pe ct kb i c0 (by omega) hI) (cwV 2 hg (z_gV mm_607 mm_600 mm_601 mm_116 mm_602) rfl rfl rfl (by decide +kernel) ⟨Nat.le_of_ble_eq_true rfl, Nat.le_of_ble_eq_true rfl⟩) ⟨(zR.pre [.ref (ad kb), .int i, .int c0] hP hK hN).1, va_recv hK hP (ci := 2) (q0 := kb) rfl (zw_at (by omega) hs1), (zR.pre [.ref (ad kb), .int i, .int c0] hP hK hN).2⟩ rfl rfl hl.1 rfl (lv_room (Nat.le_of_ble_eq_true rfl)) dX2_exchange_3 ⟨Nat.le_of_ble_eq_true rfl, Nat.le_of_ble_eq_true rfl⟩) (fun r10 hr10 => ?_)
  refine lv_istore (lv' := [(4, .int r10), (0, .ref (ad kb)), (1, .int i), (2, .int j), (3, .int c0)]) hx hb dX2_exchange_6 hl (by decide) rfl (fun ls hl => ?_)
  refine lv_aload_n hx hb dX2_exchange_8 rfl (lv_at hl 1 rfl) ?_
  refine lv_iload_n hx hb dX2_exchange_9 rfl (lv_at hl 2 rfl) ?_
  refine lv_iload_n hx hb dX2_exchange_10 rfl (lv_at hl 4 rfl) ?_
  refine lv_aload_n hx hb dX2_exchange_11 rfl (lv_at hl 1 rfl) ?_
  refine lv_iload_n hx hb dX2_exchange_12 rfl (lv_at hl 3 rfl) ?_
  refine lv_iload_n hx hb dX2_exchange_13 rfl (lv_at hl 4 rfl) ?_
  refine zc_i (va_runV (As := [.int j, .int c0]) (rest := [.int c0, .int i, .ref (ad kb)]) ⟨hx, hb, hml, hown, hg⟩ (k_X2_nodeAt l g ad pe ct kb j c0 (by omega) hI) (cwV 2 hg (z_gV mm_607 mm_600 mm_601 mm_116 mm_602) rfl rfl rfl (by decide +kernel) ⟨Nat.le_of_ble_eq_true rfl, Nat.le_of_ble_eq_true rfl⟩) ⟨(zR.pre [.ref (ad kb), .int j, .int c0] hP hK hN).1, va_recv hK hP (ci := 2) (q0 := kb) rfl (zw_at (by omega) hs1), (zR.pre [.ref (ad kb), .int j, .int c0] hP hK hN).2⟩ rfl rfl hl.1 rfl (lv_room (Nat.le_of_ble_eq_true rfl)) dX2_exchange_14 ⟨Nat.le_of_ble_eq_true rfl, Nat.le_of_ble_eq_true rfl⟩) (fun r11 hr11 => ?_)
  have hFc := zw_free hD hS hA
  refine va_callv (va_runV (As := [.int i, .int c0, .int r11]) (rest := []) ⟨hx, hb, hml, hown, hg⟩ (k_X2_put l g _ ad pe ct kb i c0 r11 (by omega) hI) (cwV 3 hg (z_gV mm_608 mm_571 mm_572 mm_116 mm_573) rfl rfl rfl (by decide +kernel) ⟨Nat.le_of_ble_eq_true rfl, Nat.le_of_ble_eq_true rfl⟩) ⟨(zA.pre [.ref (ad kb), .int i, .int c0, .int r11] hP hK hD hN).1, va_recv hK hP (ci := 2) (q0 := kb) rfl (zw_at (by omega) hs1), (zA.pre [.ref (ad kb), .int i, .int c0, .int r11] hP hK hD hN).2⟩ rfl rfl hl.1 rfl (lv_room (Nat.le_of_ble_eq_true rfl)) dX2_exchange_17 ⟨Nat.le_of_ble_eq_true rfl, Nat.le_of_ble_eq_true rfl⟩) hS (fun q _ h => hFc q h) hFc (fun _ t H1 locs ht hvm hr12 hB hz1 hk1 hS => ?_)
  obtain ⟨ct13, hP1, hD1, hI, hk14⟩ := hB
  rw [ht] at hP1
  have hD := hD1.weaken (fun _ _ _ h => hFc _ h)
  generalize H1 = H at hP1 hS ⊢
  have hP := hP1
  refine W.widen (k := 0) (n := 0) (Nat.le_refl _) (Nat.le_refl _) ?_
  refine lv_aload_n hx hb dX2_exchange_20 rfl (lv_at hl 1 rfl) ?_
  refine lv_iload_n hx hb dX2_exchange_21 rfl (lv_at hl 3 rfl) ?_
  refine lv_iload_n hx hb dX2_exchange_22 rfl (lv_at hl 4 rfl) ?_
  refine lv_iload hx hb dX2_exchange_23 (lv_at hl 0 rfl) ?_
  obtain ⟨lns16, liv17, shw18, h19, h20, h21, h22, hz23, hs15⟩ := a8_40 (kc := kb) (by omega) hI
  have bhz23 := z_b01 hz23
  have hFc := zw_free hD hS hA
  refine va_callv (va_runV (As := [.int j, .int c0, .int r10]) (rest := []) ⟨hx, hb, hml, hown, hg⟩ (k_X2_put l g _ ad pe ct13 kb j c0 r10 (by omega) hI) (cwV 3 hg (z_gV mm_608 mm_571 mm_572 mm_116 mm_573) rfl rfl rfl (by decide +kernel) ⟨Nat.le_of_ble_eq_true rfl, Nat.le_of_ble_eq_true rfl⟩) ⟨(zA.pre [.ref (ad kb), .int j, .int c0, .int r10] hP hK hD hN).1, va_recv hK hP (ci := 2) (q0 := kb) rfl (zw_at (by omega) hs15), (zA.pre [.ref (ad kb), .int j, .int c0, .int r10] hP hK hD hN).2⟩ rfl rfl hl.1 rfl (lv_room (Nat.le_of_ble_eq_true rfl)) dX2_exchange_25 ⟨Nat.le_of_ble_eq_true rfl, Nat.le_of_ble_eq_true rfl⟩) hS (fun q _ h => hFc q h) hFc (fun _ t H1 locs ht hvm hr24 hB hz1 hk1 hS => ?_)
  obtain ⟨ct25, hP1, hD1, hI, hk26⟩ := hB
  rw [ht] at hP1
  have hD := hD1.weaken (fun _ _ _ h => hFc _ h)
  generalize H1 = H at hP1 hS ⊢
  have hP := hP1
  refine W.widen (k := 0) (n := 0) (Nat.le_refl _) (Nat.le_refl _) ?_
  exact W.vret hx hb hr (fun t ht hW => ⟨⟨(), rfl, trivial, ct25, by rw [ht]; exact hP, hD, hI⟩, hS.F ht⟩) hS.2.2 dX2_exchange_28

set_option maxHeartbeats 4000000 in
set_option maxRecDepth 100000 in
theorem k_X5_add (l : Launch) (g : zG) (sz : Nat) (ad : Nat → Nat) (pe : Int32) (ct : Nat → va_E) (o1 : Int32) (o2 : Int32) (hI : Inv8 g ad pe ct) : Met l yX5_add (zW yX5_add cX5_add 3 none) ({ frames := 0, cells := 0, slots := 0, locals := 0 }) (va_Pc [.ref (ad 6), .int o1, .int o2] (zA g (zw 126 ad ct) sz)) (va_Qv (fun (_ : Unit) => True) (fun _ t => ∃ ct2 : Nat → va_E, zP g (zw 126 ad ct2) t.heap ∧ va_D (va_A (zw 126 ad ct) sz) (zw 126 ad ct2) ∧ Inv8 g ad pe ct2) (va_A (zw 126 ad ct) sz)) 0 0 (va_A (zw 126 ad ct) sz) := by
  refine Met.ofW (cc := cX5_add) (maxL := 3) (ret := none) (by decide) rfl ?_
  intro p e s m args below meth c s₁ B hml hv
  obtain ⟨rfl, hsz, hP, hK, hD0, hN⟩ := hv
  have hx := B.exec
  have hb := B.bytes
  have hr := B.returns
  have hg := zW.law (atoms_spec (ws := (zW yX5_add cX5_add 3 none)) B.pre)
  have hown : s.vm.findClass RX5 = some m.cls := findClass_of_methodNamed B.named
  have hlocks := B.notSynchronized
  have hpe0 := hI.1
  subst hsz
  have hD := hD0.self (sz := s.heap.size)
  generalize hAe : va_A (zw 126 ad ct) s.heap.size = A at hD ⊢
  have hA : ∀ q : Nat, s.heap.size ≤ q → A q := fun q h => by rw [← hAe]; exact Or.inr h
  have hS : va_S A s.heap s.heap [] := va_S.rf
  have hl := lv_entry ([.ref (ad 6), .int o1, .int o2]) (n := 3) (Nat.le_of_ble_eq_true rfl)
  rw [lg_entry_eq]
  generalize (lg_sl ([.ref (ad 6), .int o1, .int o2]) ++ List.replicate (3 - (lg_sl ([.ref (ad 6), .int o1, .int o2])).length) Slot.unset).toArray = ls at hl ⊢
  have hl : lv_has ls 3 [(0, .ref (ad 6)), (1, .int o1), (2, .int o2)] := hl
  have rg_o1 := z_rng o1
  have rg_o2 := z_rng o2
  refine lv_aload_n hx hb dX5_add_0 rfl (lv_at hl 0 rfl) ?_
  obtain ⟨num2, h3, h4, hs1⟩ := a8_6 hI
  refine va_get (D := g.1) (ci := 5) (v := .int num2) (C := RX5) (T := TX5) (N := 3) hx hb hg inG5 hown hK hP 6 (zw_at (by omega) hs1) rfl 0 (by decide) (hg _ mm_153) (fun _ h9 => h9) rfl dX5_add_1 ?_
  refine lv_bipush (v := 40) hx hb dX5_add_4 (by decide) ?_
  refine lv_icmp_ge (tgt := 39) hx hb dX5_add_6 (by decide) (fun c5 => ?_) (fun c5 => ?_)
  · skip
    have c5 : 40 ≤ num2.toInt := (z_le (by decide : (40 : Int32).toInt = 40) rfl).mp c5
    exact W.vret hx hb hr (fun t ht hW => ⟨⟨(), rfl, trivial, ct, by rw [ht]; exact hP, hD, hI⟩, hS.F ht⟩) hS.2.2 dX5_add_39
  · skip
    have c5 : ¬ (40 ≤ num2.toInt) := fun q => c5 ((z_le (by decide : (40 : Int32).toInt = 40) rfl).mpr q)
    refine lv_aload_n hx hb dX5_add_9 rfl (lv_at hl 0 rfl) ?_
    refine va_get (D := g.1) (ci := 5) (v := .ref (ad 7)) (C := RX5) (T := TX5) (N := 3) hx hb hg inG5 hown hK hP 6 (zw_at (by omega) hs1) rfl 1 (by decide) (hg _ mm_155) (fun _ h9 => h9) rfl dX5_add_10 ?_
    refine lv_aload_n hx hb dX5_add_13 rfl (lv_at hl 0 rfl) ?_
    refine va_get (D := g.1) (ci := 5) (v := .int num2) (C := RX5) (T := TX5) (N := 3) hx hb hg inG5 hown hK hP 6 (zw_at (by omega) hs1) rfl 0 (by decide) (hg _ mm_153) (fun _ h9 => h9) rfl dX5_add_14 ?_
    refine lv_iload_n hx hb dX5_add_17 rfl (lv_at hl 1 rfl) ?_
    obtain ⟨f7, hs6⟩ := a8_7 hI
    refine va_iast hx hb hK hP hD hS 7 0 (zw_at (by omega) hs6) rfl (z_in rfl (by omega) (by omega)) dX5_add_18 (fun H locs hP hD hS => ?_)
    have hP : zP g ((zw 126 ad ct).set 7 (ad 7, .inl (g.2 0, 40, .inl (upd f7 (Int32.toNatClampNeg num2) o1)))) H := hP
    have hD : va_D A ((zw 126 ad ct).set 7 (ad 7, .inl (g.2 0, 40, .inl (upd f7 (Int32.toNatClampNeg num2) o1)))) := hD
    rw [zw_set (by omega)] at hP hD
    obtain ⟨ct9, ec10⟩ : ∃ z : Nat → va_E, z = va_up ct 7 (.inl (g.2 0, 40, .inl (upd f7 (Int32.toNatClampNeg num2) o1))) := ⟨_, rfl⟩
    rw [← ec10] at hP hD
    have hI : Inv8 g ad pe ct9 := by rw [ec10]; exact up8 hI (i8_7 ⟨_, rfl⟩)
    have hs11 : ct9 6 = .inr (5, [.int num2, .ref (ad 7), .ref (ad 8)]) := by rw [ec10, va_up_ne _ _ (by omega)]; exact hs1
    have hs12 : ct9 7 = .inl (g.2 0, 40, .inl (upd f7 (Int32.toNatClampNeg num2) o1)) := by rw [ec10]; exact va_up_self _ _ _
    refine lv_aload_n hx hb dX5_add_19 rfl (lv_at hl 0 rfl) ?_
    refine va_get (D := g.1) (ci := 5) (v := .ref (ad 8)) (C := RX5) (T := TX5) (N := 3) hx hb hg inG5 hown hK hP 6 (zw_at (by omega) hs11) rfl 2 (by decide) (hg _ mm_156) (fun _ h9 => h9) rfl dX5_add_20 ?_
    refine lv_aload_n hx hb dX5_add_23 rfl (lv_at hl 0 rfl) ?_
    refine va_get (D := g.1) (ci := 5) (v := .int num2) (C := RX5) (T := TX5) (N := 3) hx hb hg inG5 hown hK hP 6 (zw_at (by omega) hs11) rfl 0 (by decide) (hg _ mm_153) (fun _ h9 => h9) rfl dX5_add_24 ?_
    refine lv_iload_n hx hb dX5_add_27 rfl (lv_at hl 2 rfl) ?_
    obtain ⟨f14, hs13⟩ := a8_8 hI
    refine va_iast hx hb hK hP hD hS 8 0 (zw_at (by omega) hs13) rfl (z_in rfl (by omega) (by omega)) dX5_add_28 (fun H locs hP hD hS => ?_)
    have hP : zP g ((zw 126 ad ct9).set 8 (ad 8, .inl (g.2 0, 40, .inl (upd f14 (Int32.toNatClampNeg num2) o2)))) H := hP
    have hD : va_D A ((zw 126 ad ct9).set 8 (ad 8, .inl (g.2 0, 40, .inl (upd f14 (Int32.toNatClampNeg num2) o2)))) := hD
    rw [zw_set (by omega)] at hP hD
    obtain ⟨ct16, ec17⟩ : ∃ z : Nat → va_E, z = va_up ct9 8 (.inl (g.2 0, 40, .inl (upd f14 (Int32.toNatClampNeg num2) o2))) := ⟨_, rfl⟩
    rw [← ec17] at hP hD
    have hI : Inv8 g ad pe ct16 := by rw [ec17]; exact up8 hI (i8_8 ⟨_, rfl⟩)
    have hs18 : ct16 6 = .inr (5, [.int num2, .ref (ad 7), .ref (ad 8)]) := by rw [ec17, va_up_ne _ _ (by omega)]; exact hs11
    have hs19 : ct16 7 = .inl (g.2 0, 40, .inl (upd f7 (Int32.toNatClampNeg num2) o1)) := by rw [ec17, va_up_ne _ _ (by omega)]; exact hs12
    have hs20 : ct16 8 = .inl (g.2 0, 40, .inl (upd f14 (Int32.toNatClampNeg num2) o2)) := by rw [ec17]; exact va_up_self _ _ _
    refine lv_aload_n hx hb dX5_add_29 rfl (lv_at hl 0 rfl) ?_
    refine lv_dup hx hb dX5_add_30 rfl ?_
    refine va_get (D := g.1) (ci := 5) (v := .int num2) (C := RX5) (T := TX5) (N := 3) hx hb hg inG5 hown hK hP 6 (zw_at (by omega) hs18) rfl 0 (by decide) (hg _ mm_153) (fun _ h9 => h9) rfl dX5_add_31 ?_
    refine lv_iconst (v := 1) hx hb dX5_add_34 (by decide) ?_
    refine lv_iadd hx hb dX5_add_35 ?_
    refine lv_topi (fun x21 ex21 => ?_)
    have tx21 : x21.toInt = num2.toInt + 1 := by rw [ex21]; exact z_add rfl (by decide : (1 : Int32).toInt = 1) (by omega) (by omega)
    refine va_put (D := g.1) (ci := 5) (v := .int x21) (ty := .int) (C := RX5) (T := TX5) (N := 3) hx hb hg inG5 tyX5 tyX5_ok nmX5 hown hK hP hD hS 6 (zw_at (by omega) hs18) rfl 0 (by decide) (hg _ mm_153) (fun _ h9 => h9) rfl (by decide +kernel) rfl rfl (Nat.le_of_ble_eq_true rfl) dX5_add_36 (fun H locs hP hD hS => ?_)
    have hP : zP g ((zw 126 ad ct16).set 6 (ad 6, .inr (5, [.int x21, .ref (ad 7), .ref (ad 8)]))) H := hP
    have hD : va_D A ((zw 126 ad ct16).set 6 (ad 6, .inr (5, [.int x21, .ref (ad 7), .ref (ad 8)]))) := hD
    rw [zw_set (by omega)] at hP hD
    obtain ⟨ct22, ec23⟩ : ∃ z : Nat → va_E, z = va_up ct16 6 (.inr (5, [.int x21, .ref (ad 7), .ref (ad 8)])) := ⟨_, rfl⟩
    rw [← ec23] at hP hD
    have hI : Inv8 g ad pe ct22 := by rw [ec23]; exact up8 hI (i8_6 ⟨(x21 : Int32), (by first | omega | decide), (by first | omega | decide), rfl⟩)
    have hs24 : ct22 7 = .inl (g.2 0, 40, .inl (upd f7 (Int32.toNatClampNeg num2) o1)) := by rw [ec23, va_up_ne _ _ (by omega)]; exact hs19
    have hs25 : ct22 8 = .inl (g.2 0, 40, .inl (upd f14 (Int32.toNatClampNeg num2) o2)) := by rw [ec23, va_up_ne _ _ (by omega)]; exact hs20
    have hs26 : ct22 6 = .inr (5, [.int x21, .ref (ad 7), .ref (ad 8)]) := by rw [ec23]; exact va_up_self _ _ _
    exact W.vret hx hb hr (fun t ht hW => ⟨⟨(), rfl, trivial, ct22, by rw [ht]; exact hP, hD, hI⟩, hS.F ht⟩) hS.2.2 dX5_add_39

set_option maxHeartbeats 4000000 in
set_option maxRecDepth 100000 in
theorem k_X5_reached (l : Launch) (g : zG) (ad : Nat → Nat) (pe : Int32) (ct : Nat → va_E) (pl : Int32) (al : Int32) (hI : Inv8 g ad pe ct) : Met l yX5_reached (zW yX5_reached cX5_reached 9 (some .int)) ({ frames := 0, cells := 0, slots := 0, locals := 0 }) (va_Pc [.ref (ad 6), .int pl, .int al] (zR g (zw 126 ad ct))) (vp_Si (fun r : Int32 => (True))) 0 0 (fun _ => False) := by
  refine Met.ofW (cc := cX5_reached) (maxL := 9) (ret := (some .int)) (by decide) rfl ?_
  intro p e s m args below meth c s₁ B hml hv
  obtain ⟨rfl, hP, hK, hN⟩ := hv
  have hx := B.exec
  have hb := B.bytes
  have hr := B.returns
  have hg := zW.law (atoms_spec (ws := (zW yX5_reached cX5_reached 9 (some .int))) B.pre)
  have hown : s.vm.findClass RX5 = some m.cls := findClass_of_methodNamed B.named
  have hlocks := B.notSynchronized
  have hpe0 := hI.1
  have hl := lv_entry ([.ref (ad 6), .int pl, .int al]) (n := 9) (Nat.le_of_ble_eq_true rfl)
  rw [lg_entry_eq]
  generalize (lg_sl ([.ref (ad 6), .int pl, .int al]) ++ List.replicate (9 - (lg_sl ([.ref (ad 6), .int pl, .int al])).length) Slot.unset).toArray = ls at hl ⊢
  have hl : lv_has ls 9 [(0, .ref (ad 6)), (1, .int pl), (2, .int al)] := hl
  have rg_pl := z_rng pl
  have rg_al := z_rng al
  refine lv_iconst (v := 1) hx hb dX5_reached_0 (by decide) ?_
  refine lv_iload_n hx hb dX5_reached_1 rfl (lv_at hl 1 rfl) ?_
  refine lv_ishl hx hb dX5_reached_2 ?_
  refine lv_topi (fun x1 ex1 => ?_)
  refine lv_istore_n (lv' := [(3, .int x1), (0, .ref (ad 6)), (1, .int pl), (2, .int al)]) hx hb dX5_reached_3 rfl hl (by decide) rfl (fun ls hl => ?_)
  refine lv_iconst (v := 1) hx hb dX5_reached_4 (by decide) ?_
  refine lv_istore (lv' := [(4, .int 1), (3, .int x1), (0, .ref (ad 6)), (1, .int pl), (2, .int al)]) hx hb dX5_reached_5 hl (by decide) rfl (fun ls hl => ?_)
  refine lv_iconst (v := 0) hx hb dX5_reached_7 (by decide) ?_
  refine lv_istore (lv' := [(5, .int 0), (4, .int 1), (3, .int x1), (0, .ref (ad 6)), (1, .int pl), (2, .int al)]) hx hb dX5_reached_8 hl (by decide) rfl (fun ls hl => ?_)
  have loop10 : ∀ (n10 : Nat) (v5_10 : Int32) (v4_10 : Int32) (v3_10 : Int32) (ls : Array Slot), ((32 - v5_10.toInt : Int).toNat < n10) → (0 ≤ v5_10.toInt ∧ v5_10.toInt ≤ 32) → lv_has ls 9 [(5, .int v5_10), (4, .int v4_10), (3, .int v3_10), (0, .ref (ad 6)), (1, .int pl), (2, .int al)] → W p l e (headSpec (zW yX5_reached cX5_reached 9 (some .int)) ({ frames := 0, cells := 0, slots := 0, locals := 0 })).room s m ([.ref (ad 6), .int pl, .int al] : List Value).toArray below meth c s.heap [] 0 0 (MQ below (vp_Si (fun r : Int32 => (True))) ([.ref (ad 6), .int pl, .int al] : List Value).toArray s 0 0 (fun _ => False)) (F0 m 10 ls []) := by
    intro n10
    induction n10 with
    | zero =>
      intro v5_10 v4_10 v3_10 ls hn10 b5_10 hl
      exact absurd hn10 (Nat.not_lt_zero _)
    | succ n10 ih10 =>
      intro v5_10 v4_10 v3_10 ls hn10 b5_10 hl
      refine lv_iload hx hb dX5_reached_10 (lv_at hl 0 rfl) ?_
      refine lv_bipush (v := 32) hx hb dX5_reached_12 (by decide) ?_
      refine lv_icmp_ge (tgt := 97) hx hb dX5_reached_14 (by decide) (fun c2 => ?_) (fun c2 => ?_)
      · skip
        have c2 : 32 ≤ v5_10.toInt := (z_le (by decide : (32 : Int32).toInt = 32) rfl).mp c2
        refine lv_iload_n hx hb dX5_reached_97 rfl (lv_at hl 2 rfl) ?_
        exact W.iret (v := v3_10) hx hb hr (fun t ht hW => ⟨v3_10, rfl, trivial, ht⟩) (fun q hq => by cases hq) dX5_reached_98
      · skip
        have c2 : ¬ (32 ≤ v5_10.toInt) := fun q => c2 ((z_le (by decide : (32 : Int32).toInt = 32) rfl).mpr q)
        refine lv_iload hx hb dX5_reached_17 (lv_at hl 1 rfl) ?_
        refine lv_if_eq (tgt := 97) hx hb dX5_reached_19 (by decide) (fun c3 => ?_) (fun c3 => ?_)
        · skip
          have c3 : v4_10.toInt = 0 := (z_eq rfl (by decide : (0 : Int32).toInt = 0)).mp c3
          refine lv_iload_n hx hb dX5_reached_97 rfl (lv_at hl 2 rfl) ?_
          exact W.iret (v := v3_10) hx hb hr (fun t ht hW => ⟨v3_10, rfl, trivial, ht⟩) (fun q hq => by cases hq) dX5_reached_98
        · skip
          have c3 : ¬ (v4_10.toInt = 0) := fun q => c3 ((z_eq rfl (by decide : (0 : Int32).toInt = 0)).mpr q)
          refine lv_iload_n hx hb dX5_reached_22 rfl (lv_at hl 2 rfl) ?_
          refine lv_istore (lv' := [(6, .int v3_10), (5, .int v5_10), (4, .int v4_10), (3, .int v3_10), (0, .ref (ad 6)), (1, .int pl), (2, .int al)]) hx hb dX5_reached_23 hl (by decide) rfl (fun ls hl => ?_)
          refine lv_iconst (v := 0) hx hb dX5_reached_25 (by decide) ?_
          refine lv_istore (lv' := [(7, .int 0), (6, .int v3_10), (5, .int v5_10), (4, .int v4_10), (3, .int v3_10), (0, .ref (ad 6)), (1, .int pl), (2, .int al)]) hx hb dX5_reached_26 hl (by decide) rfl (fun ls hl => ?_)
          have loop28 : ∀ (n28 : Nat) (v7_28 : Int32) (v3_28 : Int32) (ls : Array Slot), ((40 - v7_28.toInt : Int).toNat < n28) → (0 ≤ v7_28.toInt ∧ v7_28.toInt ≤ 40) → lv_has ls 9 [(7, .int v7_28), (6, .int v3_10), (5, .int v5_10), (4, .int v4_10), (3, .int v3_28), (0, .ref (ad 6)), (1, .int pl), (2, .int al)] → W p l e (headSpec (zW yX5_reached cX5_reached 9 (some .int)) ({ frames := 0, cells := 0, slots := 0, locals := 0 })).room s m ([.ref (ad 6), .int pl, .int al] : List Value).toArray below meth c s.heap [] 0 0 (MQ below (vp_Si (fun r : Int32 => (True))) ([.ref (ad 6), .int pl, .int al] : List Value).toArray s 0 0 (fun _ => False)) (F0 m 28 ls []) := by
            intro n28
            induction n28 with
            | zero =>
              intro v7_28 v3_28 ls hn28 b7_28 hl
              exact absurd hn28 (Nat.not_lt_zero _)
            | succ n28 ih28 =>
              intro v7_28 v3_28 ls hn28 b7_28 hl
              refine lv_iload hx hb dX5_reached_28 (lv_at hl 0 rfl) ?_
              refine lv_aload_n hx hb dX5_reached_30 rfl (lv_at hl 5 rfl) ?_
              obtain ⟨num5, h6, h7, hs4⟩ := a8_6 hI
              refine va_get (D := g.1) (ci := 5) (v := .int num5) (C := RX5) (T := TX5) (N := 3) hx hb hg inG5 hown hK hP 6 (zw_at (by omega) hs4) rfl 0 (by decide) (hg _ mm_153) (fun _ h9 => h9) rfl dX5_reached_31 ?_
              refine lv_icmp_ge (tgt := 78) hx hb dX5_reached_34 (by decide) (fun c8 => ?_) (fun c8 => ?_)
              · skip
                have c8 : num5.toInt ≤ v7_28.toInt := (z_le rfl rfl).mp c8
                refine lv_iload_n hx hb dX5_reached_78 rfl (lv_at hl 4 rfl) ?_
                refine lv_iload hx hb dX5_reached_79 (lv_at hl 1 rfl) ?_
                refine lv_icmp_eq (tgt := 88) hx hb dX5_reached_81 (by decide) (fun c9 => ?_) (fun c9 => ?_)
                · skip
                  have c9 : v3_28.toInt = v3_10.toInt := (z_eq rfl rfl).mp c9
                  refine lv_iconst (v := 0) hx hb dX5_reached_88 (by decide) ?_
                  refine lv_istore (lv' := [(4, .int 0), (7, .int v7_28), (6, .int v3_10), (5, .int v5_10), (3, .int v3_28), (0, .ref (ad 6)), (1, .int pl), (2, .int al)]) hx hb dX5_reached_89 hl (by decide) rfl (fun ls hl => ?_)
                  obtain ⟨x10, ex10⟩ : ∃ y : Int32, y = v5_10 + 1 := ⟨_, rfl⟩
                  have tx10 : x10.toInt = v5_10.toInt + 1 := by rw [ex10]; exact z_add rfl (by decide : (1 : Int32).toInt = 1) (by omega) (by omega)
                  refine lv_iinc (v := x10) (lv' := [(5, .int x10), (4, .int 0), (7, .int v7_28), (6, .int v3_10), (3, .int v3_28), (0, .ref (ad 6)), (1, .int pl), (2, .int al)]) hx hb dX5_reached_91 hl (k := 3) rfl (by rw [ex10]; rfl) (by decide) rfl (fun ls hl => ?_)
                  refine lv_goto (tgt := 10) hx hb dX5_reached_94 (by decide) ?_
                  exact ih10 x10 (0 : Int32) v3_28 ls (by omega) (by first | omega | decide) (lv_sub hl [0, 1, 4, 5, 6, 7] rfl)
                · skip
                  have c9 : ¬ (v3_28.toInt = v3_10.toInt) := fun q => c9 ((z_eq rfl rfl).mpr q)
                  refine lv_iconst (v := 1) hx hb dX5_reached_84 (by decide) ?_
                  refine lv_goto (tgt := 89) hx hb dX5_reached_85 (by decide) ?_
                  refine lv_istore (lv' := [(4, .int 1), (7, .int v7_28), (6, .int v3_10), (5, .int v5_10), (3, .int v3_28), (0, .ref (ad 6)), (1, .int pl), (2, .int al)]) hx hb dX5_reached_89 hl (by decide) rfl (fun ls hl => ?_)
                  obtain ⟨x11, ex11⟩ : ∃ y : Int32, y = v5_10 + 1 := ⟨_, rfl⟩
                  have tx11 : x11.toInt = v5_10.toInt + 1 := by rw [ex11]; exact z_add rfl (by decide : (1 : Int32).toInt = 1) (by omega) (by omega)
                  refine lv_iinc (v := x11) (lv' := [(5, .int x11), (4, .int 1), (7, .int v7_28), (6, .int v3_10), (3, .int v3_28), (0, .ref (ad 6)), (1, .int pl), (2, .int al)]) hx hb dX5_reached_91 hl (k := 3) rfl (by rw [ex11]; rfl) (by decide) rfl (fun ls hl => ?_)
                  refine lv_goto (tgt := 10) hx hb dX5_reached_94 (by decide) ?_
                  exact ih10 x11 (1 : Int32) v3_28 ls (by omega) (by first | omega | decide) (lv_sub hl [0, 1, 4, 5, 6, 7] rfl)
              · skip
                have c8 : ¬ (num5.toInt ≤ v7_28.toInt) := fun q => c8 ((z_le rfl rfl).mpr q)
                refine lv_iconst (v := 1) hx hb dX5_reached_37 (by decide) ?_
                refine lv_aload_n hx hb dX5_reached_38 rfl (lv_at hl 5 rfl) ?_
                refine va_get (D := g.1) (ci := 5) (v := .ref (ad 7)) (C := RX5) (T := TX5) (N := 3) hx hb hg inG5 hown hK hP 6 (zw_at (by omega) hs4) rfl 1 (by decide) (hg _ mm_155) (fun _ h9 => h9) rfl dX5_reached_39 ?_
                refine lv_iload hx hb dX5_reached_42 (lv_at hl 0 rfl) ?_
                obtain ⟨f13, hs12⟩ := a8_7 hI
                refine va_iald hx hb hK hP 7 0 (zw_at (by omega) hs12) rfl (z_in rfl (by omega) (by omega)) dX5_reached_44 ?_
                refine lv_topi (fun y14 ey14 => ?_)
                refine lv_ishl hx hb dX5_reached_45 ?_
                refine lv_topi (fun x15 ex15 => ?_)
                refine lv_iconst (v := 1) hx hb dX5_reached_46 (by decide) ?_
                refine lv_aload_n hx hb dX5_reached_47 rfl (lv_at hl 5 rfl) ?_
                refine va_get (D := g.1) (ci := 5) (v := .ref (ad 8)) (C := RX5) (T := TX5) (N := 3) hx hb hg inG5 hown hK hP 6 (zw_at (by omega) hs4) rfl 2 (by decide) (hg _ mm_156) (fun _ h9 => h9) rfl dX5_reached_48 ?_
                refine lv_iload hx hb dX5_reached_51 (lv_at hl 0 rfl) ?_
                obtain ⟨f17, hs16⟩ := a8_8 hI
                refine va_iald hx hb hK hP 8 0 (zw_at (by omega) hs16) rfl (z_in rfl (by omega) (by omega)) dX5_reached_53 ?_
                refine lv_topi (fun y18 ey18 => ?_)
                refine lv_ishl hx hb dX5_reached_54 ?_
                refine lv_topi (fun x19 ex19 => ?_)
                refine lv_ior hx hb dX5_reached_55 ?_
                refine lv_topi (fun x20 ex20 => ?_)
                refine lv_istore (lv' := [(8, .int x20), (7, .int v7_28), (6, .int v3_10), (5, .int v5_10), (4, .int v4_10), (3, .int v3_28), (0, .ref (ad 6)), (1, .int pl), (2, .int al)]) hx hb dX5_reached_56 hl (by decide) rfl (fun ls hl => ?_)
                refine lv_iload_n hx hb dX5_reached_58 rfl (lv_at hl 5 rfl) ?_
                refine lv_iload hx hb dX5_reached_59 (lv_at hl 0 rfl) ?_
                refine lv_iand hx hb dX5_reached_61 ?_
                refine lv_topi (fun x21 ex21 => ?_)
                refine lv_if_eq (tgt := 72) hx hb dX5_reached_62 (by decide) (fun c22 => ?_) (fun c22 => ?_)
                · skip
                  have c22 : x21.toInt = 0 := (z_eq rfl (by decide : (0 : Int32).toInt = 0)).mp c22
                  obtain ⟨x23, ex23⟩ : ∃ y : Int32, y = v7_28 + 1 := ⟨_, rfl⟩
                  have tx23 : x23.toInt = v7_28.toInt + 1 := by rw [ex23]; exact z_add rfl (by decide : (1 : Int32).toInt = 1) (by omega) (by omega)
                  refine lv_iinc (v := x23) (lv' := [(7, .int x23), (8, .int x20), (6, .int v3_10), (5, .int v5_10), (4, .int v4_10), (3, .int v3_28), (0, .ref (ad 6)), (1, .int pl), (2, .int al)]) hx hb dX5_reached_72 hl (k := 1) rfl (by rw [ex23]; rfl) (by decide) rfl (fun ls hl => ?_)
                  refine lv_goto (tgt := 28) hx hb dX5_reached_75 (by decide) ?_
                  exact ih28 x23 v3_28 ls (by omega) (by first | omega | decide) (lv_sub hl [0, 2, 3, 4, 5, 6, 7, 8] rfl)
                · skip
                  have c22 : ¬ (x21.toInt = 0) := fun q => c22 ((z_eq rfl (by decide : (0 : Int32).toInt = 0)).mpr q)
                  refine lv_iload_n hx hb dX5_reached_65 rfl (lv_at hl 5 rfl) ?_
                  refine lv_iload hx hb dX5_reached_66 (lv_at hl 0 rfl) ?_
                  refine lv_iload_n hx hb dX5_reached_68 rfl (lv_at hl 8 rfl) ?_
                  refine lv_iand hx hb dX5_reached_69 ?_
                  refine lv_topi (fun x24 ex24 => ?_)
                  refine lv_ior hx hb dX5_reached_70 ?_
                  refine lv_topi (fun x25 ex25 => ?_)
                  refine lv_istore_n (lv' := [(3, .int x25), (8, .int x20), (7, .int v7_28), (6, .int v3_10), (5, .int v5_10), (4, .int v4_10), (0, .ref (ad 6)), (1, .int pl), (2, .int al)]) hx hb dX5_reached_71 rfl hl (by decide) rfl (fun ls hl => ?_)
                  obtain ⟨x26, ex26⟩ : ∃ y : Int32, y = v7_28 + 1 := ⟨_, rfl⟩
                  have tx26 : x26.toInt = v7_28.toInt + 1 := by rw [ex26]; exact z_add rfl (by decide : (1 : Int32).toInt = 1) (by omega) (by omega)
                  refine lv_iinc (v := x26) (lv' := [(7, .int x26), (3, .int x25), (8, .int x20), (6, .int v3_10), (5, .int v5_10), (4, .int v4_10), (0, .ref (ad 6)), (1, .int pl), (2, .int al)]) hx hb dX5_reached_72 hl (k := 2) rfl (by rw [ex26]; rfl) (by decide) rfl (fun ls hl => ?_)
                  refine lv_goto (tgt := 28) hx hb dX5_reached_75 (by decide) ?_
                  exact ih28 x26 x25 ls (by omega) (by first | omega | decide) (lv_sub hl [0, 3, 4, 5, 1, 6, 7, 8] rfl)
          exact loop28 ((40 - (0 : Int32).toInt : Int).toNat + 1) (0 : Int32) v3_10 ls (by omega) (by first | omega | decide) (lv_sub hl [0, 1, 2, 3, 4, 5, 6, 7] rfl)
  exact loop10 ((32 - (0 : Int32).toInt : Int).toNat + 1) (0 : Int32) (1 : Int32) x1 ls (by omega) (by first | omega | decide) (lv_sub hl [0, 1, 2, 3, 4, 5] rfl)

set_option maxHeartbeats 4000000 in
set_option maxRecDepth 100000 in
theorem k_X4_isOf (l : Launch) (g : zG) (ad : Nat → Nat) (pe : Int32) (ct : Nat → va_E) (kg : Nat) (b : Int32) (i : Int32) (hf_kg : 99 ≤ kg ∧ kg < 126 ∧ (kg - 99) % 3 = 0) (hI : Inv8 g ad pe ct) : Met l yX4_isOf (zW yX4_isOf cX4_isOf 3 (some .boolean)) ({ frames := 0, cells := 0, slots := 0, locals := 0 }) (va_Pc [.ref (ad kg), .int b, .int i] (zR g (zw 126 ad ct))) (vp_Si (fun r : Int32 => (True))) 0 0 (fun _ => False) := by
  refine Met.ofW (cc := cX4_isOf) (maxL := 3) (ret := (some .boolean)) (by decide) rfl ?_
  intro p e s m args below meth c s₁ B hml hv
  obtain ⟨rfl, hP, hK, hN⟩ := hv
  have hx := B.exec
  have hb := B.bytes
  have hr := B.returns
  have hg := zW.law (atoms_spec (ws := (zW yX4_isOf cX4_isOf 3 (some .boolean))) B.pre)
  have hown : s.vm.findClass RX4 = some m.cls := findClass_of_methodNamed B.named
  have hlocks := B.notSynchronized
  have hpe0 := hI.1
  have hl := lv_entry ([.ref (ad kg), .int b, .int i]) (n := 3) (Nat.le_of_ble_eq_true rfl)
  rw [lg_entry_eq]
  generalize (lg_sl ([.ref (ad kg), .int b, .int i]) ++ List.replicate (3 - (lg_sl ([.ref (ad kg), .int b, .int i])).length) Slot.unset).toArray = ls at hl ⊢
  have hl : lv_has ls 3 [(0, .ref (ad kg)), (1, .int b), (2, .int i)] := hl
  have rg_b := z_rng b
  have rg_i := z_rng i
  refine lv_aload_n hx hb dX4_isOf_0 rfl (lv_at hl 0 rfl) ?_
  obtain ⟨tld2, ofb3, hol4, flt5, fla6, ofl7, len8, atx9, ref10, hz11, h12, h13, h14, h15, hz16, hs1⟩ := a8_44 (kc := kg) (by omega) hI
  have bhz11 := z_b01 hz11
  have bhz16 := z_b01 hz16
  refine va_get (D := g.1) (ci := 4) (v := .int tld2) (C := RX4) (T := TX4) (N := 11) hx hb hg inG4 hown hK hP kg (zw_at (by omega) hs1) rfl 0 (by decide) (hg _ mm_271) (fun _ h9 => h9) rfl dX4_isOf_1 ?_
  refine lv_if_eq (tgt := 27) hx hb dX4_isOf_4 (by decide) (fun c17 => ?_) (fun c17 => ?_)
  · skip
    have c17 : tld2.toInt = 0 := (z_eq rfl (by decide : (0 : Int32).toInt = 0)).mp c17
    refine lv_iconst (v := 0) hx hb dX4_isOf_27 (by decide) ?_
    have q18 : (0 : Int32).toInt = 0 := by decide
    exact W.zret (v := 0) hx hb hr rfl (fun t ht hW => ⟨0, rfl, trivial, ht⟩) (fun q hq => by cases hq) dX4_isOf_28
  · skip
    have c17 : ¬ (tld2.toInt = 0) := fun q => c17 ((z_eq rfl (by decide : (0 : Int32).toInt = 0)).mpr q)
    refine lv_aload_n hx hb dX4_isOf_7 rfl (lv_at hl 0 rfl) ?_
    refine va_get (D := g.1) (ci := 4) (v := .int ofb3) (C := RX4) (T := TX4) (N := 11) hx hb hg inG4 hown hK hP kg (zw_at (by omega) hs1) rfl 1 (by decide) (hg _ mm_273) (fun _ h9 => h9) rfl dX4_isOf_8 ?_
    refine lv_iload_n hx hb dX4_isOf_11 rfl (lv_at hl 1 rfl) ?_
    refine lv_icmp_ne (tgt := 27) hx hb dX4_isOf_12 (by decide) (fun c19 => ?_) (fun c19 => ?_)
    · skip
      have c19 : ¬ (ofb3.toInt = b.toInt) := fun q => c19 ((z_eq rfl rfl).mpr q)
      refine lv_iconst (v := 0) hx hb dX4_isOf_27 (by decide) ?_
      have q20 : (0 : Int32).toInt = 0 := by decide
      exact W.zret (v := 0) hx hb hr rfl (fun t ht hW => ⟨0, rfl, trivial, ht⟩) (fun q hq => by cases hq) dX4_isOf_28
    · skip
      have c19 : ofb3.toInt = b.toInt := (z_eq rfl rfl).mp c19
      refine lv_aload_n hx hb dX4_isOf_15 rfl (lv_at hl 0 rfl) ?_
      refine va_get (D := g.1) (ci := 4) (v := .int ofl7) (C := RX4) (T := TX4) (N := 11) hx hb hg inG4 hown hK hP kg (zw_at (by omega) hs1) rfl 5 (by decide) (hg _ mm_281) (fun _ h9 => h9) rfl dX4_isOf_16 ?_
      refine lv_iload_n hx hb dX4_isOf_19 rfl (lv_at hl 2 rfl) ?_
      refine lv_icmp_ne (tgt := 27) hx hb dX4_isOf_20 (by decide) (fun c21 => ?_) (fun c21 => ?_)
      · skip
        have c21 : ¬ (ofl7.toInt = i.toInt) := fun q => c21 ((z_eq rfl rfl).mpr q)
        refine lv_iconst (v := 0) hx hb dX4_isOf_27 (by decide) ?_
        have q22 : (0 : Int32).toInt = 0 := by decide
        exact W.zret (v := 0) hx hb hr rfl (fun t ht hW => ⟨0, rfl, trivial, ht⟩) (fun q hq => by cases hq) dX4_isOf_28
      · skip
        have c21 : ofl7.toInt = i.toInt := (z_eq rfl rfl).mp c21
        refine lv_iconst (v := 1) hx hb dX4_isOf_23 (by decide) ?_
        refine lv_goto (tgt := 28) hx hb dX4_isOf_24 (by decide) ?_
        have q23 : (1 : Int32).toInt = 1 := by decide
        exact W.zret (v := 1) hx hb hr rfl (fun t ht hW => ⟨1, rfl, trivial, ht⟩) (fun q hq => by cases hq) dX4_isOf_28
