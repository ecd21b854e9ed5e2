set_option maxHeartbeats 4000000 in
set_option maxRecDepth 100000 in
theorem k_X0_fewestFor (l : Launch) (g : zG) (sz : Nat) (ad : Nat → Nat) (pe : Int32) (ct : Nat → va_E) (who : Int32) (hl_who : 0 ≤ who.toInt ∧ who.toInt ≤ 65535) (hI : Inv8 g ad pe ct) : Met l yX0_fewestFor (zW yX0_fewestFor cX0_fewestFor 4 (some .int)) ({ frames := 34, cells := 0, slots := 0, locals := 862 }) (va_Pc [.ref (ad 17), .int who] (zA g (zw 126 ad ct) sz)) (va_Qi (fun (r : Int32) (_ : Unit) => ((0 ≤ r.toInt) ∧ (r.toInt ≤ 16))) (fun _ t => ∃ ct2 : Nat → va_E, zP g (zw 126 ad ct2) t.heap ∧ va_D (va_A (zw 126 ad ct) sz) (zw 126 ad ct2) ∧ Inv8 g ad pe ct2) (va_A (zw 126 ad ct) sz)) 0 0 (va_A (zw 126 ad ct) sz) := by
  refine Met.ofW (cc := cX0_fewestFor) (maxL := 4) (ret := (some .int)) (by decide) rfl ?_
  intro p e s m args below meth c s₁ B hml hv
  obtain ⟨rfl, hsz, hP, hK, hD0, hN⟩ := hv
  have hx := B.exec
  have hb := B.bytes
  have hr := B.returns
  have hg := zW.law (atoms_spec (ws := (zW yX0_fewestFor cX0_fewestFor 4 (some .int))) B.pre)
  have hown : s.vm.findClass RX0 = some m.cls := findClass_of_methodNamed B.named
  have hlocks := B.notSynchronized
  have hpe0 := hI.1
  subst hsz
  have hD := hD0.self (sz := s.heap.size)
  generalize hAe : va_A (zw 126 ad ct) s.heap.size = A at hD ⊢
  have hA : ∀ q : Nat, s.heap.size ≤ q → A q := fun q h => by rw [← hAe]; exact Or.inr h
  have hS : va_S A s.heap s.heap [] := va_S.rf
  have hl := lv_entry ([.ref (ad 17), .int who]) (n := 4) (Nat.le_of_ble_eq_true rfl)
  rw [lg_entry_eq]
  generalize (lg_sl ([.ref (ad 17), .int who]) ++ List.replicate (4 - (lg_sl ([.ref (ad 17), .int who])).length) Slot.unset).toArray = ls at hl ⊢
  have hl : lv_has ls 4 [(0, .ref (ad 17)), (1, .int who)] := hl
  have hz : zlen (ct 20) = zlen (ct 20) := rfl
  refine lv_iconst (v := 0) hx hb dX0_fewestFor_0 (by decide) ?_
  refine lv_istore_n (lv' := [(2, .int 0), (0, .ref (ad 17)), (1, .int who)]) hx hb dX0_fewestFor_1 rfl hl (by decide) rfl (fun ls hl => ?_)
  refine lv_iconst (v := 0) hx hb dX0_fewestFor_2 (by decide) ?_
  refine lv_istore_n (lv' := [(3, .int 0), (2, .int 0), (0, .ref (ad 17)), (1, .int who)]) hx hb dX0_fewestFor_3 rfl hl (by decide) rfl (fun ls hl => ?_)
  have loop4 : ∀ (n4 : Nat) (v3_4 : Int32) (v2_4 : Int32) (ct1 : Nat → va_E) (H : Heap) (locs : List Loc) (ls : Array Slot), ((16 - v3_4.toInt : Int).toNat < n4) → (0 ≤ v3_4.toInt ∧ v3_4.toInt ≤ 16) → (0 ≤ v2_4.toInt ∧ v2_4.toInt ≤ 16) → (v2_4.toInt = v3_4.toInt) → (zlen (ct1 20) = zlen (ct 20)) → (Inv8 g ad pe ct1) → zP g (zw 126 ad ct1) H → va_D A (zw 126 ad ct1) → va_S A s.heap H locs → lv_has ls 4 [(3, .int v3_4), (2, .int v2_4), (0, .ref (ad 17)), (1, .int who)] → W p l e (headSpec (zW yX0_fewestFor cX0_fewestFor 4 (some .int)) ({ frames := 34, cells := 0, slots := 0, locals := 862 })).room s m ([.ref (ad 17), .int who] : List Value).toArray below meth c H locs 0 0 (MQ below (va_Qi (fun (r : Int32) (_ : Unit) => ((0 ≤ r.toInt) ∧ (r.toInt ≤ 16))) (fun _ t => ∃ ct2 : Nat → va_E, zP g (zw 126 ad ct2) t.heap ∧ va_D A (zw 126 ad ct2) ∧ Inv8 g ad pe ct2) A) ([.ref (ad 17), .int who] : List Value).toArray s 0 0 A) (F0 m 4 ls []) := by
    intro n4
    induction n4 with
    | zero =>
      intro v3_4 v2_4 ct1 H locs ls hn4 b3_4 b2_4 j0_4 hz hI hP hD hS hl
      exact absurd hn4 (Nat.not_lt_zero _)
    | succ n4 ih4 =>
      intro v3_4 v2_4 ct1 H locs ls hn4 b3_4 b2_4 j0_4 hz hI hP hD hS hl
      refine lv_iload_n hx hb dX0_fewestFor_4 rfl (lv_at hl 0 rfl) ?_
      refine lv_bipush (v := 16) hx hb dX0_fewestFor_5 (by decide) ?_
      refine lv_icmp_ge (tgt := 28) hx hb dX0_fewestFor_7 (by decide) (fun c2 => ?_) (fun c2 => ?_)
      · skip
        have c2 : 16 ≤ v3_4.toInt := (z_le (by decide : (16 : Int32).toInt = 16) rfl).mp c2
        refine lv_iload_n hx hb dX0_fewestFor_28 rfl (lv_at hl 1 rfl) ?_
        exact W.iret (v := v2_4) hx hb hr (fun t ht hW => ⟨⟨v2_4, (), rfl, ⟨by first | omega | decide, by first | omega | decide⟩, ct1, by rw [ht]; exact hP, hD, hI⟩, hS.F ht⟩) hS.2.2 dX0_fewestFor_29
      · skip
        have c2 : ¬ (16 ≤ v3_4.toInt) := fun q => c2 ((z_le (by decide : (16 : Int32).toInt = 16) rfl).mpr q)
        refine lv_aload_n hx hb dX0_fewestFor_10 rfl (lv_at hl 2 rfl) ?_
        refine lv_iload_n hx hb dX0_fewestFor_11 rfl (lv_at hl 3 rfl) ?_
        refine lv_iload_n hx hb dX0_fewestFor_12 rfl (lv_at hl 1 rfl) ?_
        obtain ⟨spc4, tim5, h6, h7, hs3⟩ := a8_17 hI
        have hFc := zw_free hD hS hA
        refine va_calli (va_runV (As := [.int who, .int v2_4]) (rest := []) ⟨hx, hb, hml, hown, hg⟩ (zs_i hI (k_X0_areEnough_16 l g _ ad pe ct1 who v2_4 (by first | omega | decide) (by first | omega | decide) hI)) (cwV 2 hg (z_gV mm_822 mm_824 mm_37 mm_112 mm_825) rfl rfl rfl (by decide +kernel) ⟨Nat.le_of_ble_eq_true rfl, Nat.le_of_ble_eq_true rfl⟩) ⟨(zA.pre [.ref (ad 17), .int who, .int v2_4] hP hK hD hN).1, va_recv hK hP (ci := 0) (q0 := 17) rfl (zw_at (by omega) hs3), (zA.pre [.ref (ad 17), .int who, .int v2_4] hP hK hD hN).2⟩ rfl rfl hl.1 rfl (lv_room (Nat.le_of_ble_eq_true rfl)) dX0_fewestFor_13 ⟨Nat.le_of_ble_eq_true rfl, Nat.le_of_ble_eq_true rfl⟩) hS (fun q _ h => hFc q h) hFc (fun r8 _ t H1 locs ht hvm hr8 hB hz1 hk1 hS => ?_)
        obtain ⟨hB, hzs⟩ := hB
        rw [ht] at hzs
        obtain ⟨ct9, hP1, hD1, hI⟩ := hB
        rw [ht] at hP1
        have hD := hD1.weaken (fun _ _ _ h => hFc _ h)
        generalize H1 = H at hP1 hS hzs ⊢
        have hP := hP1
        refine W.widen (k := 0) (n := 0) (Nat.le_refl _) (Nat.le_refl _) ?_
        have hz : zlen (ct9 20) = zlen (ct 20) := (hzs.eq hP hI).trans hz
        rcases hr8 with hr8 | hr8
        · skip
          obtain rfl := hr8
          refine lv_if_ne (tgt := 28) hx hb dX0_fewestFor_16 (by decide) (fun c10 => ?_) (fun c10 => ?_)
          · skip
            refine lv_iload_n hx hb dX0_fewestFor_28 rfl (lv_at hl 1 rfl) ?_
            exact W.iret (v := v2_4) hx hb hr (fun t ht hW => ⟨⟨v2_4, (), rfl, ⟨by first | omega | decide, by first | omega | decide⟩, ct9, by rw [ht]; exact hP, hD, hI⟩, hS.F ht⟩) hS.2.2 dX0_fewestFor_29
          · skip
            exact absurd c10 (by decide)
        · skip
          obtain rfl := hr8
          refine lv_if_ne (tgt := 28) hx hb dX0_fewestFor_16 (by decide) (fun c11 => ?_) (fun c11 => ?_)
          · skip
            exact absurd c11 (by decide)
          · skip
            obtain ⟨x12, ex12⟩ : ∃ y : Int32, y = v2_4 + 1 := ⟨_, rfl⟩
            have tx12 : x12.toInt = v2_4.toInt + 1 := by rw [ex12]; exact z_add rfl (by decide : (1 : Int32).toInt = 1) (by omega) (by omega)
            refine lv_iinc (v := x12) (lv' := [(2, .int x12), (3, .int v3_4), (0, .ref (ad 17)), (1, .int who)]) hx hb dX0_fewestFor_19 hl (k := 1) rfl (by rw [ex12]; rfl) (by decide) rfl (fun ls hl => ?_)
            obtain ⟨x13, ex13⟩ : ∃ y : Int32, y = v3_4 + 1 := ⟨_, rfl⟩
            have tx13 : x13.toInt = v3_4.toInt + 1 := by rw [ex13]; exact z_add rfl (by decide : (1 : Int32).toInt = 1) (by omega) (by omega)
            refine lv_iinc (v := x13) (lv' := [(3, .int x13), (2, .int x12), (0, .ref (ad 17)), (1, .int who)]) hx hb dX0_fewestFor_22 hl (k := 1) rfl (by rw [ex13]; rfl) (by decide) rfl (fun ls hl => ?_)
            refine lv_goto (tgt := 4) hx hb dX0_fewestFor_25 (by decide) ?_
            exact ih4 x13 x12 ct9 _ _ ls (by omega) (by first | omega | decide) (by first | omega | decide) (by first | omega | decide) hz hI hP hD hS (lv_sub hl [0, 1, 2, 3] rfl)
  exact loop4 ((16 - (0 : Int32).toInt : Int).toNat + 1) (0 : Int32) (0 : Int32) ct _ _ ls (by omega) (by first | omega | decide) (by first | omega | decide) (by first | omega | decide) hz hI hP hD hS (lv_sub hl [0, 1, 2, 3] rfl)

set_option maxHeartbeats 4000000 in
set_option maxRecDepth 100000 in
theorem k_X0_isFirst (l : Launch) (g : zG) (sz : Nat) (ad : Nat → Nat) (pe : Int32) (ct : Nat → va_E) (who : Int32) (told : Int32) (n : Int32) (hl_who : 0 ≤ who.toInt ∧ who.toInt ≤ 65535) (hl_n : -2147483648 ≤ n.toInt ∧ n.toInt ≤ 16) (hI : Inv8 g ad pe ct) : Met l yX0_isFirst (zW yX0_isFirst cX0_isFirst 4 (some .boolean)) ({ frames := 33, cells := 0, slots := 0, locals := 836 }) (va_Pc [.ref (ad 17), .int who, .int told, .int n] (zA g (zw 126 ad ct) sz)) (va_Qi (fun (r : Int32) (_ : Unit) => (r = 1) ∨ (r = 0)) (fun _ t => ∃ ct2 : Nat → va_E, zP g (zw 126 ad ct2) t.heap ∧ va_D (va_A (zw 126 ad ct) sz) (zw 126 ad ct2) ∧ Inv8 g ad pe ct2) (va_A (zw 126 ad ct) sz)) 0 0 (va_A (zw 126 ad ct) sz) := by
  refine Met.ofW (cc := cX0_isFirst) (maxL := 4) (ret := (some .boolean)) (by decide) rfl ?_
  intro p e s m args below meth c s₁ B hml hv
  obtain ⟨rfl, hsz, hP, hK, hD0, hN⟩ := hv
  have hx := B.exec
  have hb := B.bytes
  have hr := B.returns
  have hg := zW.law (atoms_spec (ws := (zW yX0_isFirst cX0_isFirst 4 (some .boolean))) B.pre)
  have hown : s.vm.findClass RX0 = some m.cls := findClass_of_methodNamed B.named
  have hlocks := B.notSynchronized
  have hpe0 := hI.1
  subst hsz
  have hD := hD0.self (sz := s.heap.size)
  generalize hAe : va_A (zw 126 ad ct) s.heap.size = A at hD ⊢
  have hA : ∀ q : Nat, s.heap.size ≤ q → A q := fun q h => by rw [← hAe]; exact Or.inr h
  have hS : va_S A s.heap s.heap [] := va_S.rf
  have hl := lv_entry ([.ref (ad 17), .int who, .int told, .int n]) (n := 4) (Nat.le_of_ble_eq_true rfl)
  rw [lg_entry_eq]
  generalize (lg_sl ([.ref (ad 17), .int who, .int told, .int n]) ++ List.replicate (4 - (lg_sl ([.ref (ad 17), .int who, .int told, .int n])).length) Slot.unset).toArray = ls at hl ⊢
  have hl : lv_has ls 4 [(0, .ref (ad 17)), (1, .int who), (2, .int told), (3, .int n)] := hl
  have hz : zlen (ct 20) = zlen (ct 20) := rfl
  have rg_told := z_rng told
  refine lv_aload_n hx hb dX0_isFirst_0 rfl (lv_at hl 0 rfl) ?_
  refine lv_iload_n hx hb dX0_isFirst_1 rfl (lv_at hl 1 rfl) ?_
  refine lv_iload_n hx hb dX0_isFirst_2 rfl (lv_at hl 2 rfl) ?_
  refine lv_iload_n hx hb dX0_isFirst_3 rfl (lv_at hl 3 rfl) ?_
  obtain ⟨spc2, tim3, h4, h5, hs1⟩ := a8_17 hI
  have hFc := zw_free hD hS hA
  refine va_calli (va_runV (As := [.int who, .int told, .int n]) (rest := []) ⟨hx, hb, hml, hown, hg⟩ (zs_i hI (k_X0_areEnoughBy_16 l g _ ad pe ct who told n (by first | omega | decide) (by first | omega | decide) hI)) (cwV 3 hg (z_gV mm_837 mm_839 mm_40 mm_112 mm_840) rfl rfl rfl (by decide +kernel) ⟨Nat.le_of_ble_eq_true rfl, Nat.le_of_ble_eq_true rfl⟩) ⟨(zA.pre [.ref (ad 17), .int who, .int told, .int n] hP hK hD hN).1, va_recv hK hP (ci := 0) (q0 := 17) rfl (zw_at (by omega) hs1), (zA.pre [.ref (ad 17), .int who, .int told, .int n] hP hK hD hN).2⟩ rfl rfl hl.1 rfl (lv_room (Nat.le_of_ble_eq_true rfl)) dX0_isFirst_4 ⟨Nat.le_of_ble_eq_true rfl, Nat.le_of_ble_eq_true rfl⟩) hS (fun q _ h => hFc q h) hFc (fun r6 _ t H1 locs ht hvm hr6 hB hz1 hk1 hS => ?_)
  obtain ⟨hB, hzs⟩ := hB
  rw [ht] at hzs
  obtain ⟨ct7, hP1, hD1, hI⟩ := hB
  rw [ht] at hP1
  have hD := hD1.weaken (fun _ _ _ h => hFc _ h)
  generalize H1 = H at hP1 hS hzs ⊢
  have hP := hP1
  refine W.widen (k := 0) (n := 0) (Nat.le_refl _) (Nat.le_refl _) ?_
  have hz : zlen (ct7 20) = zlen (ct 20) := (hzs.eq hP hI).trans hz
  rcases hr6 with hr6 | hr6
  · skip
    obtain rfl := hr6
    have q8 : (1 : Int32).toInt = 1 := by decide
    exact W.zret (v := 1) hx hb hr rfl (fun t ht hW => ⟨⟨1, (), rfl, by first | exact Or.inl ⟨rfl, by omega⟩ | exact Or.inr ⟨rfl, by omega⟩ | exact Or.inl rfl | exact Or.inr rfl | exact Or.inl ⟨rfl, by omega, by omega⟩ | exact (z_01 (by omega) (by omega)).symm, ct7, by rw [ht]; exact hP, hD, hI⟩, hS.F ht⟩) hS.2.2 dX0_isFirst_7
  · skip
    obtain rfl := hr6
    have q9 : (0 : Int32).toInt = 0 := by decide
    exact W.zret (v := 0) hx hb hr rfl (fun t ht hW => ⟨⟨0, (), rfl, by first | exact Or.inl ⟨rfl, by omega⟩ | exact Or.inr ⟨rfl, by omega⟩ | exact Or.inl rfl | exact Or.inr rfl | exact Or.inl ⟨rfl, by omega, by omega⟩ | exact (z_01 (by omega) (by omega)).symm, ct7, by rw [ht]; exact hP, hD, hI⟩, hS.F ht⟩) hS.2.2 dX0_isFirst_7

set_option maxHeartbeats 4000000 in
set_option maxRecDepth 100000 in
theorem k_X0_addSplit (l : Launch) (g : zG) (sz : Nat) (ad : Nat → Nat) (pe : Int32) (ct : Nat → va_E) (sp : Int32) (so : Int32) (hI : Inv8 g ad pe ct) : Met l yX0_addSplit (zW yX0_addSplit cX0_addSplit 5 none) ({ frames := 0, cells := 0, slots := 0, locals := 0 }) (va_Pc [.ref (ad 17), .int sp, .int so] (zA g (zw 126 ad ct) sz)) (va_Qv (fun (_ : Unit) => True) (fun _ t => ∃ ct2 : Nat → va_E, zP g (zw 126 ad ct2) t.heap ∧ va_D (va_A (zw 126 ad ct) sz) (zw 126 ad ct2) ∧ Inv8 g ad pe ct2) (va_A (zw 126 ad ct) sz)) 0 0 (va_A (zw 126 ad ct) sz) := by
  refine Met.ofW (cc := cX0_addSplit) (maxL := 5) (ret := none) (by decide) rfl ?_
  intro p e s m args below meth c s₁ B hml hv
  obtain ⟨rfl, hsz, hP, hK, hD0, hN⟩ := hv
  have hx := B.exec
  have hb := B.bytes
  have hr := B.returns
  have hg := zW.law (atoms_spec (ws := (zW yX0_addSplit cX0_addSplit 5 none)) B.pre)
  have hown : s.vm.findClass RX0 = some m.cls := findClass_of_methodNamed B.named
  have hlocks := B.notSynchronized
  have hpe0 := hI.1
  subst hsz
  have hD := hD0.self (sz := s.heap.size)
  generalize hAe : va_A (zw 126 ad ct) s.heap.size = A at hD ⊢
  have hA : ∀ q : Nat, s.heap.size ≤ q → A q := fun q h => by rw [← hAe]; exact Or.inr h
  have hS : va_S A s.heap s.heap [] := va_S.rf
  have hl := lv_entry ([.ref (ad 17), .int sp, .int so]) (n := 5) (Nat.le_of_ble_eq_true rfl)
  rw [lg_entry_eq]
  generalize (lg_sl ([.ref (ad 17), .int sp, .int so]) ++ List.replicate (5 - (lg_sl ([.ref (ad 17), .int sp, .int so])).length) Slot.unset).toArray = ls at hl ⊢
  have hl : lv_has ls 5 [(0, .ref (ad 17)), (1, .int sp), (2, .int so)] := hl
  have hz : zlen (ct 20) = zlen (ct 20) := rfl
  have rg_sp := z_rng sp
  have rg_so := z_rng so
  refine lv_iload_n hx hb dX0_addSplit_0 rfl (lv_at hl 1 rfl) ?_
  refine lv_iload_n hx hb dX0_addSplit_1 rfl (lv_at hl 2 rfl) ?_
  refine lv_icmp_ne (tgt := 9) hx hb dX0_addSplit_2 (by decide) (fun c1 => ?_) (fun c1 => ?_)
  · skip
    have c1 : ¬ (sp.toInt = so.toInt) := fun q => c1 ((z_eq rfl rfl).mpr q)
    refine lv_iconst (v := 0) hx hb dX0_addSplit_9 (by decide) ?_
    refine lv_istore_n (lv' := [(3, .int 0), (0, .ref (ad 17)), (1, .int sp), (2, .int so)]) hx hb dX0_addSplit_10 rfl hl (by decide) rfl (fun ls hl => ?_)
    refine lv_iconst (v := 0) hx hb dX0_addSplit_11 (by decide) ?_
    refine lv_istore (lv' := [(4, .int 0), (3, .int 0), (0, .ref (ad 17)), (1, .int sp), (2, .int so)]) hx hb dX0_addSplit_12 hl (by decide) rfl (fun ls hl => ?_)
    have loop14 : ∀ (n14 : Nat) (v4_14 : Int32) (v3_14 : Int32) (ct2 : Nat → va_E) (H : Heap) (locs : List Loc) (ls : Array Slot), ((128 - v4_14.toInt : Int).toNat < n14) → (0 ≤ v4_14.toInt ∧ v4_14.toInt ≤ 128) → (0 ≤ v3_14.toInt ∧ v3_14.toInt ≤ 1) → (zlen (ct2 20) = zlen (ct 20)) → (Inv8 g ad pe ct2) → zP g (zw 126 ad ct2) H → va_D A (zw 126 ad ct2) → va_S A s.heap H locs → lv_has ls 5 [(4, .int v4_14), (3, .int v3_14), (0, .ref (ad 17)), (1, .int sp), (2, .int so)] → W p l e (headSpec (zW yX0_addSplit cX0_addSplit 5 none) ({ frames := 0, cells := 0, slots := 0, locals := 0 })).room s m ([.ref (ad 17), .int sp, .int so] : List Value).toArray below meth c H locs 0 0 (MQ below (va_Qv (fun (_ : Unit) => True) (fun _ t => ∃ ct2 : Nat → va_E, zP g (zw 126 ad ct2) t.heap ∧ va_D A (zw 126 ad ct2) ∧ Inv8 g ad pe ct2) A) ([.ref (ad 17), .int sp, .int so] : List Value).toArray s 0 0 A) (F0 m 14 ls []) := by
      intro n14
      induction n14 with
      | zero =>
        intro v4_14 v3_14 ct2 H locs ls hn14 b4_14 b3_14 hz hI hP hD hS hl
        exact absurd hn14 (Nat.not_lt_zero _)
      | succ n14 ih14 =>
        intro v4_14 v3_14 ct2 H locs ls hn14 b4_14 b3_14 hz hI hP hD hS hl
        refine lv_iload hx hb dX0_addSplit_14 (lv_at hl 0 rfl) ?_
        refine lv_aload_n hx hb dX0_addSplit_16 rfl (lv_at hl 2 rfl) ?_
        obtain ⟨spc4, tim5, h6, h7, hs3⟩ := a8_17 hI
        refine va_get (D := g.1) (ci := 0) (v := .int spc4) (C := RX0) (T := TX0) (N := 5) hx hb hg inG0 hown hK hP 17 (zw_at (by omega) hs3) rfl 1 (by decide) (hg _ mm_218) (fun _ h9 => h9) rfl dX0_addSplit_17 ?_
        refine lv_icmp_ge (tgt := 50) hx hb dX0_addSplit_20 (by decide) (fun c8 => ?_) (fun c8 => ?_)
        · skip
          have c8 : spc4.toInt ≤ v4_14.toInt := (z_le rfl rfl).mp c8
          refine lv_iload_n hx hb dX0_addSplit_50 rfl (lv_at hl 1 rfl) ?_
          refine lv_if_ne (tgt := 84) hx hb dX0_addSplit_51 (by decide) (fun c9 => ?_) (fun c9 => ?_)
          · skip
            have c9 : ¬ (v3_14.toInt = 0) := fun q => c9 ((z_eq rfl (by decide : (0 : Int32).toInt = 0)).mpr q)
            exact W.vret hx hb hr (fun t ht hW => ⟨⟨(), rfl, trivial, ct2, by rw [ht]; exact hP, hD, hI⟩, hS.F ht⟩) hS.2.2 dX0_addSplit_84
          · skip
            have c9 : v3_14.toInt = 0 := (z_eq rfl (by decide : (0 : Int32).toInt = 0)).mp c9
            refine lv_aload_n hx hb dX0_addSplit_54 rfl (lv_at hl 2 rfl) ?_
            refine va_get (D := g.1) (ci := 0) (v := .int spc4) (C := RX0) (T := TX0) (N := 5) hx hb hg inG0 hown hK hP 17 (zw_at (by omega) hs3) rfl 1 (by decide) (hg _ mm_218) (fun _ h9 => h9) rfl dX0_addSplit_55 ?_
            refine lv_sipush (v := 128) hx hb dX0_addSplit_58 (by decide) ?_
            refine lv_icmp_ge (tgt := 84) hx hb dX0_addSplit_61 (by decide) (fun c10 => ?_) (fun c10 => ?_)
            · skip
              have c10 : 128 ≤ spc4.toInt := (z_le (by decide : (128 : Int32).toInt = 128) rfl).mp c10
              exact W.vret hx hb hr (fun t ht hW => ⟨⟨(), rfl, trivial, ct2, by rw [ht]; exact hP, hD, hI⟩, hS.F ht⟩) hS.2.2 dX0_addSplit_84
            · skip
              have c10 : ¬ (128 ≤ spc4.toInt) := fun q => c10 ((z_le (by decide : (128 : Int32).toInt = 128) rfl).mpr q)
              refine lv_aload_n hx hb dX0_addSplit_64 rfl (lv_at hl 2 rfl) ?_
              refine va_get (D := g.1) (ci := 0) (v := .ref (ad 18)) (C := RX0) (T := TX0) (N := 5) hx hb hg inG0 hown hK hP 17 (zw_at (by omega) hs3) rfl 0 (by decide) (hg _ mm_217) (fun _ h9 => h9) rfl dX0_addSplit_65 ?_
              refine lv_aload_n hx hb dX0_addSplit_68 rfl (lv_at hl 2 rfl) ?_
              refine va_get (D := g.1) (ci := 0) (v := .int spc4) (C := RX0) (T := TX0) (N := 5) hx hb hg inG0 hown hK hP 17 (zw_at (by omega) hs3) rfl 1 (by decide) (hg _ mm_218) (fun _ h9 => h9) rfl dX0_addSplit_69 ?_
              refine lv_iload_n hx hb dX0_addSplit_72 rfl (lv_at hl 3 rfl) ?_
              obtain ⟨f12, hs11⟩ := a8_18 hI
              refine va_iast hx hb hK hP hD hS 18 0 (zw_at (by omega) hs11) rfl (z_in rfl (by omega) (by omega)) dX0_addSplit_73 (fun H locs hP hD hS => ?_)
              have hP : zP g ((zw 126 ad ct2).set 18 (ad 18, .inl (g.2 0, 128, .inl (upd f12 (Int32.toNatClampNeg spc4) sp)))) H := hP
              have hD : va_D A ((zw 126 ad ct2).set 18 (ad 18, .inl (g.2 0, 128, .inl (upd f12 (Int32.toNatClampNeg spc4) sp)))) := hD
              rw [zw_set (by omega)] at hP hD
              obtain ⟨ct14, ec15⟩ : ∃ z : Nat → va_E, z = va_up ct2 18 (.inl (g.2 0, 128, .inl (upd f12 (Int32.toNatClampNeg spc4) sp))) := ⟨_, rfl⟩
              rw [← ec15] at hP hD
              have hI : Inv8 g ad pe ct14 := by rw [ec15]; exact up8 hI (i8_18 ⟨_, rfl⟩)
              have hz : zlen (ct14 20) = zlen (ct 20) := by rw [ec15]; exact (congrArg zlen (va_up_ne _ _ (by omega))).trans hz
              have hs16 : ct14 17 = .inr (0, [.ref (ad 18), .int spc4, .ref (ad 19), .ref (ad 20), .int tim5]) := by rw [ec15, va_up_ne _ _ (by omega)]; exact hs3
              have hs17 : ct14 18 = .inl (g.2 0, 128, .inl (upd f12 (Int32.toNatClampNeg spc4) sp)) := by rw [ec15]; exact va_up_self _ _ _
              refine lv_aload_n hx hb dX0_addSplit_74 rfl (lv_at hl 2 rfl) ?_
              refine lv_dup hx hb dX0_addSplit_75 rfl ?_
              refine va_get (D := g.1) (ci := 0) (v := .int spc4) (C := RX0) (T := TX0) (N := 5) hx hb hg inG0 hown hK hP 17 (zw_at (by omega) hs16) rfl 1 (by decide) (hg _ mm_218) (fun _ h9 => h9) rfl dX0_addSplit_76 ?_
              refine lv_iconst (v := 1) hx hb dX0_addSplit_79 (by decide) ?_
              refine lv_iadd hx hb dX0_addSplit_80 ?_
              refine lv_topi (fun x18 ex18 => ?_)
              have tx18 : x18.toInt = spc4.toInt + 1 := by rw [ex18]; exact z_add rfl (by decide : (1 : Int32).toInt = 1) (by omega) (by omega)
              refine va_put (D := g.1) (ci := 0) (v := .int x18) (ty := .int) (C := RX0) (T := TX0) (N := 5) hx hb hg inG0 tyX0 tyX0_ok nmX0 hown hK hP hD hS 17 (zw_at (by omega) hs16) rfl 1 (by decide) (hg _ mm_218) (fun _ h9 => h9) rfl (by decide +kernel) rfl rfl (Nat.le_of_ble_eq_true rfl) dX0_addSplit_81 (fun H locs hP hD hS => ?_)
              have hP : zP g ((zw 126 ad ct14).set 17 (ad 17, .inr (0, [.ref (ad 18), .int x18, .ref (ad 19), .ref (ad 20), .int tim5]))) H := hP
              have hD : va_D A ((zw 126 ad ct14).set 17 (ad 17, .inr (0, [.ref (ad 18), .int x18, .ref (ad 19), .ref (ad 20), .int tim5]))) := hD
              rw [zw_set (by omega)] at hP hD
              obtain ⟨ct19, ec20⟩ : ∃ z : Nat → va_E, z = va_up ct14 17 (.inr (0, [.ref (ad 18), .int x18, .ref (ad 19), .ref (ad 20), .int tim5])) := ⟨_, rfl⟩
              rw [← ec20] at hP hD
              have hI : Inv8 g ad pe ct19 := by rw [ec20]; exact up8 hI (i8_17 ⟨(x18 : Int32), (tim5 : Int32), (by first | omega | decide), (by first | omega | decide), rfl⟩)
              have hz : zlen (ct19 20) = zlen (ct 20) := by rw [ec20]; exact (congrArg zlen (va_up_ne _ _ (by omega))).trans hz
              have hs21 : ct19 18 = .inl (g.2 0, 128, .inl (upd f12 (Int32.toNatClampNeg spc4) sp)) := by rw [ec20, va_up_ne _ _ (by omega)]; exact hs17
              have hs22 : ct19 17 = .inr (0, [.ref (ad 18), .int x18, .ref (ad 19), .ref (ad 20), .int tim5]) := by rw [ec20]; exact va_up_self _ _ _
              exact W.vret hx hb hr (fun t ht hW => ⟨⟨(), rfl, trivial, ct19, by rw [ht]; exact hP, hD, hI⟩, hS.F ht⟩) hS.2.2 dX0_addSplit_84
        · skip
          have c8 : ¬ (spc4.toInt ≤ v4_14.toInt) := fun q => c8 ((z_le rfl rfl).mpr q)
          refine lv_iload_n hx hb dX0_addSplit_23 rfl (lv_at hl 1 rfl) ?_
          refine lv_if_ne (tgt := 50) hx hb dX0_addSplit_24 (by decide) (fun c23 => ?_) (fun c23 => ?_)
          · skip
            have c23 : ¬ (v3_14.toInt = 0) := fun q => c23 ((z_eq rfl (by decide : (0 : Int32).toInt = 0)).mpr q)
            refine lv_iload_n hx hb dX0_addSplit_50 rfl (lv_at hl 1 rfl) ?_
            refine lv_if_ne (tgt := 84) hx hb dX0_addSplit_51 (by decide) (fun c24 => ?_) (fun c24 => ?_)
            · skip
              have c24 : ¬ (v3_14.toInt = 0) := fun q => c24 ((z_eq rfl (by decide : (0 : Int32).toInt = 0)).mpr q)
              exact W.vret hx hb hr (fun t ht hW => ⟨⟨(), rfl, trivial, ct2, by rw [ht]; exact hP, hD, hI⟩, hS.F ht⟩) hS.2.2 dX0_addSplit_84
            · skip
              have c24 : v3_14.toInt = 0 := (z_eq rfl (by decide : (0 : Int32).toInt = 0)).mp c24
              exfalso
              omega
          · skip
            have c23 : v3_14.toInt = 0 := (z_eq rfl (by decide : (0 : Int32).toInt = 0)).mp c23
            refine lv_aload_n hx hb dX0_addSplit_27 rfl (lv_at hl 2 rfl) ?_
            refine va_get (D := g.1) (ci := 0) (v := .ref (ad 18)) (C := RX0) (T := TX0) (N := 5) hx hb hg inG0 hown hK hP 17 (zw_at (by omega) hs3) rfl 0 (by decide) (hg _ mm_217) (fun _ h9 => h9) rfl dX0_addSplit_28 ?_
            refine lv_iload hx hb dX0_addSplit_31 (lv_at hl 0 rfl) ?_
            obtain ⟨f26, hs25⟩ := a8_18 hI
            refine va_iald hx hb hK hP 18 0 (zw_at (by omega) hs25) rfl (z_in rfl (by omega) (by omega)) dX0_addSplit_33 ?_
            refine lv_topi (fun y27 ey27 => ?_)
            refine lv_iload_n hx hb dX0_addSplit_34 rfl (lv_at hl 3 rfl) ?_
            refine lv_icmp_ne (tgt := 42) hx hb dX0_addSplit_35 (by decide) (fun c28 => ?_) (fun c28 => ?_)
            · skip
              have c28 : ¬ (y27.toInt = sp.toInt) := fun q => c28 ((z_eq rfl rfl).mpr q)
              refine lv_iconst (v := 0) hx hb dX0_addSplit_42 (by decide) ?_
              refine lv_istore_n (lv' := [(3, .int 0), (4, .int v4_14), (0, .ref (ad 17)), (1, .int sp), (2, .int so)]) hx hb dX0_addSplit_43 rfl hl (by decide) rfl (fun ls hl => ?_)
              obtain ⟨x29, ex29⟩ : ∃ y : Int32, y = v4_14 + 1 := ⟨_, rfl⟩
              have tx29 : x29.toInt = v4_14.toInt + 1 := by rw [ex29]; exact z_add rfl (by decide : (1 : Int32).toInt = 1) (by omega) (by omega)
              refine lv_iinc (v := x29) (lv' := [(4, .int x29), (3, .int 0), (0, .ref (ad 17)), (1, .int sp), (2, .int so)]) hx hb dX0_addSplit_44 hl (k := 1) rfl (by rw [ex29]; rfl) (by decide) rfl (fun ls hl => ?_)
              refine lv_goto (tgt := 14) hx hb dX0_addSplit_47 (by decide) ?_
              exact ih14 x29 (0 : Int32) ct2 _ _ ls (by omega) (by first | omega | decide) (by first | omega | decide) hz hI hP hD hS (lv_sub hl [0, 1, 2, 3, 4] rfl)
            · skip
              have c28 : y27.toInt = sp.toInt := (z_eq rfl rfl).mp c28
              refine lv_iconst (v := 1) hx hb dX0_addSplit_38 (by decide) ?_
              refine lv_goto (tgt := 43) hx hb dX0_addSplit_39 (by decide) ?_
              refine lv_istore_n (lv' := [(3, .int 1), (4, .int v4_14), (0, .ref (ad 17)), (1, .int sp), (2, .int so)]) hx hb dX0_addSplit_43 rfl hl (by decide) rfl (fun ls hl => ?_)
              obtain ⟨x30, ex30⟩ : ∃ y : Int32, y = v4_14 + 1 := ⟨_, rfl⟩
              have tx30 : x30.toInt = v4_14.toInt + 1 := by rw [ex30]; exact z_add rfl (by decide : (1 : Int32).toInt = 1) (by omega) (by omega)
              refine lv_iinc (v := x30) (lv' := [(4, .int x30), (3, .int 1), (0, .ref (ad 17)), (1, .int sp), (2, .int so)]) hx hb dX0_addSplit_44 hl (k := 1) rfl (by rw [ex30]; rfl) (by decide) rfl (fun ls hl => ?_)
              refine lv_goto (tgt := 14) hx hb dX0_addSplit_47 (by decide) ?_
              exact ih14 x30 (1 : Int32) ct2 _ _ ls (by omega) (by first | omega | decide) (by first | omega | decide) hz hI hP hD hS (lv_sub hl [0, 1, 2, 3, 4] rfl)
    exact loop14 ((128 - (0 : Int32).toInt : Int).toNat + 1) (0 : Int32) (0 : Int32) ct _ _ ls (by omega) (by first | omega | decide) (by first | omega | decide) hz hI hP hD hS (lv_sub hl [0, 1, 2, 3, 4] rfl)
  · skip
    have c1 : sp.toInt = so.toInt := (z_eq rfl rfl).mp c1
    refine lv_iconst (v := 1) hx hb dX0_addSplit_5 (by decide) ?_
    refine lv_goto (tgt := 10) hx hb dX0_addSplit_6 (by decide) ?_
    refine lv_istore_n (lv' := [(3, .int 1), (0, .ref (ad 17)), (1, .int sp), (2, .int so)]) hx hb dX0_addSplit_10 rfl hl (by decide) rfl (fun ls hl => ?_)
    refine lv_iconst (v := 0) hx hb dX0_addSplit_11 (by decide) ?_
    refine lv_istore (lv' := [(4, .int 0), (3, .int 1), (0, .ref (ad 17)), (1, .int sp), (2, .int so)]) hx hb dX0_addSplit_12 hl (by decide) rfl (fun ls hl => ?_)
    have loop14 : ∀ (n14 : Nat) (v4_14 : Int32) (v3_14 : Int32) (ct31 : Nat → va_E) (H : Heap) (locs : List Loc) (ls : Array Slot), ((128 - v4_14.toInt : Int).toNat < n14) → (0 ≤ v4_14.toInt ∧ v4_14.toInt ≤ 128) → (0 ≤ v3_14.toInt ∧ v3_14.toInt ≤ 1) → (zlen (ct31 20) = zlen (ct 20)) → (Inv8 g ad pe ct31) → zP g (zw 126 ad ct31) H → va_D A (zw 126 ad ct31) → va_S A s.heap H locs → lv_has ls 5 [(4, .int v4_14), (3, .int v3_14), (0, .ref (ad 17)), (1, .int sp), (2, .int so)] → W p l e (headSpec (zW yX0_addSplit cX0_addSplit 5 none) ({ frames := 0, cells := 0, slots := 0, locals := 0 })).room s m ([.ref (ad 17), .int sp, .int so] : List Value).toArray below meth c H locs 0 0 (MQ below (va_Qv (fun (_ : Unit) => True) (fun _ t => ∃ ct2 : Nat → va_E, zP g (zw 126 ad ct2) t.heap ∧ va_D A (zw 126 ad ct2) ∧ Inv8 g ad pe ct2) A) ([.ref (ad 17), .int sp, .int so] : List Value).toArray s 0 0 A) (F0 m 14 ls []) := by
      intro n14
      induction n14 with
      | zero =>
        intro v4_14 v3_14 ct31 H locs ls hn14 b4_14 b3_14 hz hI hP hD hS hl
        exact absurd hn14 (Nat.not_lt_zero _)
      | succ n14 ih14 =>
        intro v4_14 v3_14 ct31 H locs ls hn14 b4_14 b3_14 hz hI hP hD hS hl
        refine lv_iload hx hb dX0_addSplit_14 (lv_at hl 0 rfl) ?_
        refine lv_aload_n hx hb dX0_addSplit_16 rfl (lv_at hl 2 rfl) ?_
        obtain ⟨spc33, tim34, h35, h36, hs32⟩ := a8_17 hI
        refine va_get (D := g.1) (ci := 0) (v := .int spc33) (C := RX0) (T := TX0) (N := 5) hx hb hg inG0 hown hK hP 17 (zw_at (by omega) hs32) rfl 1 (by decide) (hg _ mm_218) (fun _ h9 => h9) rfl dX0_addSplit_17 ?_
        refine lv_icmp_ge (tgt := 50) hx hb dX0_addSplit_20 (by decide) (fun c37 => ?_) (fun c37 => ?_)
        · skip
          have c37 : spc33.toInt ≤ v4_14.toInt := (z_le rfl rfl).mp c37
          refine lv_iload_n hx hb dX0_addSplit_50 rfl (lv_at hl 1 rfl) ?_
          refine lv_if_ne (tgt := 84) hx hb dX0_addSplit_51 (by decide) (fun c38 => ?_) (fun c38 => ?_)
          · skip
            have c38 : ¬ (v3_14.toInt = 0) := fun q => c38 ((z_eq rfl (by decide : (0 : Int32).toInt = 0)).mpr q)
            exact W.vret hx hb hr (fun t ht hW => ⟨⟨(), rfl, trivial, ct31, by rw [ht]; exact hP, hD, hI⟩, hS.F ht⟩) hS.2.2 dX0_addSplit_84
          · skip
            have c38 : v3_14.toInt = 0 := (z_eq rfl (by decide : (0 : Int32).toInt = 0)).mp c38
            refine lv_aload_n hx hb dX0_addSplit_54 rfl (lv_at hl 2 rfl) ?_
            refine va_get (D := g.1) (ci := 0) (v := .int spc33) (C := RX0) (T := TX0) (N := 5) hx hb hg inG0 hown hK hP 17 (zw_at (by omega) hs32) rfl 1 (by decide) (hg _ mm_218) (fun _ h9 => h9) rfl dX0_addSplit_55 ?_
            refine lv_sipush (v := 128) hx hb dX0_addSplit_58 (by decide) ?_
            refine lv_icmp_ge (tgt := 84) hx hb dX0_addSplit_61 (by decide) (fun c39 => ?_) (fun c39 => ?_)
            · skip
              have c39 : 128 ≤ spc33.toInt := (z_le (by decide : (128 : Int32).toInt = 128) rfl).mp c39
              exact W.vret hx hb hr (fun t ht hW => ⟨⟨(), rfl, trivial, ct31, by rw [ht]; exact hP, hD, hI⟩, hS.F ht⟩) hS.2.2 dX0_addSplit_84
            · skip
              have c39 : ¬ (128 ≤ spc33.toInt) := fun q => c39 ((z_le (by decide : (128 : Int32).toInt = 128) rfl).mpr q)
              refine lv_aload_n hx hb dX0_addSplit_64 rfl (lv_at hl 2 rfl) ?_
              refine va_get (D := g.1) (ci := 0) (v := .ref (ad 18)) (C := RX0) (T := TX0) (N := 5) hx hb hg inG0 hown hK hP 17 (zw_at (by omega) hs32) rfl 0 (by decide) (hg _ mm_217) (fun _ h9 => h9) rfl dX0_addSplit_65 ?_
              refine lv_aload_n hx hb dX0_addSplit_68 rfl (lv_at hl 2 rfl) ?_
              refine va_get (D := g.1) (ci := 0) (v := .int spc33) (C := RX0) (T := TX0) (N := 5) hx hb hg inG0 hown hK hP 17 (zw_at (by omega) hs32) rfl 1 (by decide) (hg _ mm_218) (fun _ h9 => h9) rfl dX0_addSplit_69 ?_
              refine lv_iload_n hx hb dX0_addSplit_72 rfl (lv_at hl 3 rfl) ?_
              obtain ⟨f41, hs40⟩ := a8_18 hI
              refine va_iast hx hb hK hP hD hS 18 0 (zw_at (by omega) hs40) rfl (z_in rfl (by omega) (by omega)) dX0_addSplit_73 (fun H locs hP hD hS => ?_)
              have hP : zP g ((zw 126 ad ct31).set 18 (ad 18, .inl (g.2 0, 128, .inl (upd f41 (Int32.toNatClampNeg spc33) sp)))) H := hP
              have hD : va_D A ((zw 126 ad ct31).set 18 (ad 18, .inl (g.2 0, 128, .inl (upd f41 (Int32.toNatClampNeg spc33) sp)))) := hD
              rw [zw_set (by omega)] at hP hD
              obtain ⟨ct43, ec44⟩ : ∃ z : Nat → va_E, z = va_up ct31 18 (.inl (g.2 0, 128, .inl (upd f41 (Int32.toNatClampNeg spc33) sp))) := ⟨_, rfl⟩
              rw [← ec44] at hP hD
              have hI : Inv8 g ad pe ct43 := by rw [ec44]; exact up8 hI (i8_18 ⟨_, rfl⟩)
              have hz : zlen (ct43 20) = zlen (ct 20) := by rw [ec44]; exact (congrArg zlen (va_up_ne _ _ (by omega))).trans hz
              have hs45 : ct43 17 = .inr (0, [.ref (ad 18), .int spc33, .ref (ad 19), .ref (ad 20), .int tim34]) := by rw [ec44, va_up_ne _ _ (by omega)]; exact hs32
              have hs46 : ct43 18 = .inl (g.2 0, 128, .inl (upd f41 (Int32.toNatClampNeg spc33) sp)) := by rw [ec44]; exact va_up_self _ _ _
              refine lv_aload_n hx hb dX0_addSplit_74 rfl (lv_at hl 2 rfl) ?_
              refine lv_dup hx hb dX0_addSplit_75 rfl ?_
              refine va_get (D := g.1) (ci := 0) (v := .int spc33) (C := RX0) (T := TX0) (N := 5) hx hb hg inG0 hown hK hP 17 (zw_at (by omega) hs45) rfl 1 (by decide) (hg _ mm_218) (fun _ h9 => h9) rfl dX0_addSplit_76 ?_
              refine lv_iconst (v := 1) hx hb dX0_addSplit_79 (by decide) ?_
              refine lv_iadd hx hb dX0_addSplit_80 ?_
              refine lv_topi (fun x47 ex47 => ?_)
              have tx47 : x47.toInt = spc33.toInt + 1 := by rw [ex47]; exact z_add rfl (by decide : (1 : Int32).toInt = 1) (by omega) (by omega)
              refine va_put (D := g.1) (ci := 0) (v := .int x47) (ty := .int) (C := RX0) (T := TX0) (N := 5) hx hb hg inG0 tyX0 tyX0_ok nmX0 hown hK hP hD hS 17 (zw_at (by omega) hs45) rfl 1 (by decide) (hg _ mm_218) (fun _ h9 => h9) rfl (by decide +kernel) rfl rfl (Nat.le_of_ble_eq_true rfl) dX0_addSplit_81 (fun H locs hP hD hS => ?_)
              have hP : zP g ((zw 126 ad ct43).set 17 (ad 17, .inr (0, [.ref (ad 18), .int x47, .ref (ad 19), .ref (ad 20), .int tim34]))) H := hP
              have hD : va_D A ((zw 126 ad ct43).set 17 (ad 17, .inr (0, [.ref (ad 18), .int x47, .ref (ad 19), .ref (ad 20), .int tim34]))) := hD
              rw [zw_set (by omega)] at hP hD
              obtain ⟨ct48, ec49⟩ : ∃ z : Nat → va_E, z = va_up ct43 17 (.inr (0, [.ref (ad 18), .int x47, .ref (ad 19), .ref (ad 20), .int tim34])) := ⟨_, rfl⟩
              rw [← ec49] at hP hD
              have hI : Inv8 g ad pe ct48 := by rw [ec49]; exact up8 hI (i8_17 ⟨(x47 : Int32), (tim34 : Int32), (by first | omega | decide), (by first | omega | decide), rfl⟩)
              have hz : zlen (ct48 20) = zlen (ct 20) := by rw [ec49]; exact (congrArg zlen (va_up_ne _ _ (by omega))).trans hz
              have hs50 : ct48 18 = .inl (g.2 0, 128, .inl (upd f41 (Int32.toNatClampNeg spc33) sp)) := by rw [ec49, va_up_ne _ _ (by omega)]; exact hs46
              have hs51 : ct48 17 = .inr (0, [.ref (ad 18), .int x47, .ref (ad 19), .ref (ad 20), .int tim34]) := by rw [ec49]; exact va_up_self _ _ _
              exact W.vret hx hb hr (fun t ht hW => ⟨⟨(), rfl, trivial, ct48, by rw [ht]; exact hP, hD, hI⟩, hS.F ht⟩) hS.2.2 dX0_addSplit_84
        · skip
          have c37 : ¬ (spc33.toInt ≤ v4_14.toInt) := fun q => c37 ((z_le rfl rfl).mpr q)
          refine lv_iload_n hx hb dX0_addSplit_23 rfl (lv_at hl 1 rfl) ?_
          refine lv_if_ne (tgt := 50) hx hb dX0_addSplit_24 (by decide) (fun c52 => ?_) (fun c52 => ?_)
          · skip
            have c52 : ¬ (v3_14.toInt = 0) := fun q => c52 ((z_eq rfl (by decide : (0 : Int32).toInt = 0)).mpr q)
            refine lv_iload_n hx hb dX0_addSplit_50 rfl (lv_at hl 1 rfl) ?_
            refine lv_if_ne (tgt := 84) hx hb dX0_addSplit_51 (by decide) (fun c53 => ?_) (fun c53 => ?_)
            · skip
              have c53 : ¬ (v3_14.toInt = 0) := fun q => c53 ((z_eq rfl (by decide : (0 : Int32).toInt = 0)).mpr q)
              exact W.vret hx hb hr (fun t ht hW => ⟨⟨(), rfl, trivial, ct31, by rw [ht]; exact hP, hD, hI⟩, hS.F ht⟩) hS.2.2 dX0_addSplit_84
            · skip
              have c53 : v3_14.toInt = 0 := (z_eq rfl (by decide : (0 : Int32).toInt = 0)).mp c53
              exfalso
              omega
          · skip
            have c52 : v3_14.toInt = 0 := (z_eq rfl (by decide : (0 : Int32).toInt = 0)).mp c52
            refine lv_aload_n hx hb dX0_addSplit_27 rfl (lv_at hl 2 rfl) ?_
            refine va_get (D := g.1) (ci := 0) (v := .ref (ad 18)) (C := RX0) (T := TX0) (N := 5) hx hb hg inG0 hown hK hP 17 (zw_at (by omega) hs32) rfl 0 (by decide) (hg _ mm_217) (fun _ h9 => h9) rfl dX0_addSplit_28 ?_
            refine lv_iload hx hb dX0_addSplit_31 (lv_at hl 0 rfl) ?_
            obtain ⟨f55, hs54⟩ := a8_18 hI
            refine va_iald hx hb hK hP 18 0 (zw_at (by omega) hs54) rfl (z_in rfl (by omega) (by omega)) dX0_addSplit_33 ?_
            refine lv_topi (fun y56 ey56 => ?_)
            refine lv_iload_n hx hb dX0_addSplit_34 rfl (lv_at hl 3 rfl) ?_
            refine lv_icmp_ne (tgt := 42) hx hb dX0_addSplit_35 (by decide) (fun c57 => ?_) (fun c57 => ?_)
            · skip
              have c57 : ¬ (y56.toInt = sp.toInt) := fun q => c57 ((z_eq rfl rfl).mpr q)
              refine lv_iconst (v := 0) hx hb dX0_addSplit_42 (by decide) ?_
              refine lv_istore_n (lv' := [(3, .int 0), (4, .int v4_14), (0, .ref (ad 17)), (1, .int sp), (2, .int so)]) hx hb dX0_addSplit_43 rfl hl (by decide) rfl (fun ls hl => ?_)
              obtain ⟨x58, ex58⟩ : ∃ y : Int32, y = v4_14 + 1 := ⟨_, rfl⟩
              have tx58 : x58.toInt = v4_14.toInt + 1 := by rw [ex58]; exact z_add rfl (by decide : (1 : Int32).toInt = 1) (by omega) (by omega)
              refine lv_iinc (v := x58) (lv' := [(4, .int x58), (3, .int 0), (0, .ref (ad 17)), (1, .int sp), (2, .int so)]) hx hb dX0_addSplit_44 hl (k := 1) rfl (by rw [ex58]; rfl) (by decide) rfl (fun ls hl => ?_)
              refine lv_goto (tgt := 14) hx hb dX0_addSplit_47 (by decide) ?_
              exact ih14 x58 (0 : Int32) ct31 _ _ ls (by omega) (by first | omega | decide) (by first | omega | decide) hz hI hP hD hS (lv_sub hl [0, 1, 2, 3, 4] rfl)
            · skip
              have c57 : y56.toInt = sp.toInt := (z_eq rfl rfl).mp c57
              refine lv_iconst (v := 1) hx hb dX0_addSplit_38 (by decide) ?_
              refine lv_goto (tgt := 43) hx hb dX0_addSplit_39 (by decide) ?_
              refine lv_istore_n (lv' := [(3, .int 1), (4, .int v4_14), (0, .ref (ad 17)), (1, .int sp), (2, .int so)]) hx hb dX0_addSplit_43 rfl hl (by decide) rfl (fun ls hl => ?_)
              obtain ⟨x59, ex59⟩ : ∃ y : Int32, y = v4_14 + 1 := ⟨_, rfl⟩
              have tx59 : x59.toInt = v4_14.toInt + 1 := by rw [ex59]; exact z_add rfl (by decide : (1 : Int32).toInt = 1) (by omega) (by omega)
              refine lv_iinc (v := x59) (lv' := [(4, .int x59), (3, .int 1), (0, .ref (ad 17)), (1, .int sp), (2, .int so)]) hx hb dX0_addSplit_44 hl (k := 1) rfl (by rw [ex59]; rfl) (by decide) rfl (fun ls hl => ?_)
              refine lv_goto (tgt := 14) hx hb dX0_addSplit_47 (by decide) ?_
              exact ih14 x59 (1 : Int32) ct31 _ _ ls (by omega) (by first | omega | decide) (by first | omega | decide) hz hI hP hD hS (lv_sub hl [0, 1, 2, 3, 4] rfl)
    exact loop14 ((128 - (0 : Int32).toInt : Int).toNat + 1) (0 : Int32) (1 : Int32) ct _ _ ls (by omega) (by first | omega | decide) (by first | omega | decide) hz hI hP hD hS (lv_sub hl [0, 1, 2, 3, 4] rfl)

set_option maxHeartbeats 4000000 in
set_option maxRecDepth 100000 in
theorem k_X8_firstQuestion (l : Launch) (g : zG) (sz : Nat) (ad : Nat → Nat) (pe : Int32) (ct : Nat → va_E) (so : Int32) (n : Int32) (wh : Int32) (hl_so : 0 ≤ so.toInt ∧ so.toInt ≤ 65535) (hl_n : -2147483648 ≤ n.toInt ∧ n.toInt ≤ 16) (hI : Inv8 g ad pe ct) : Met l yX8_firstQuestion (zW yX8_firstQuestion cX8_firstQuestion 6 (some .int)) ({ frames := 34, cells := 0, slots := 0, locals := 859 }) (va_Pc [.ref (ad 0), .int so, .int n, .int wh] (zA g (zw 126 ad ct) sz)) (va_Qi (fun (r : Int32) (_ : Unit) => (True)) (fun _ t => ∃ ct2 : Nat → va_E, zP g (zw 126 ad ct2) t.heap ∧ va_D (va_A (zw 126 ad ct) sz) (zw 126 ad ct2) ∧ Inv8 g ad pe ct2) (va_A (zw 126 ad ct) sz)) 0 0 (va_A (zw 126 ad ct) sz) := by
  refine Met.ofW (cc := cX8_firstQuestion) (maxL := 6) (ret := (some .int)) (by decide) rfl ?_
  intro p e s m args below meth c s₁ B hml hv
  obtain ⟨rfl, hsz, hP, hK, hD0, hN⟩ := hv
  have hx := B.exec
  have hb := B.bytes
  have hr := B.returns
  have hg := zW.law (atoms_spec (ws := (zW yX8_firstQuestion cX8_firstQuestion 6 (some .int))) B.pre)
  have hown : s.vm.findClass RX8 = some m.cls := findClass_of_methodNamed B.named
  have hlocks := B.notSynchronized
  have hpe0 := hI.1
  subst hsz
  have hD := hD0.self (sz := s.heap.size)
  generalize hAe : va_A (zw 126 ad ct) s.heap.size = A at hD ⊢
  have hA : ∀ q : Nat, s.heap.size ≤ q → A q := fun q h => by rw [← hAe]; exact Or.inr h
  have hS : va_S A s.heap s.heap [] := va_S.rf
  have hl := lv_entry ([.ref (ad 0), .int so, .int n, .int wh]) (n := 6) (Nat.le_of_ble_eq_true rfl)
  rw [lg_entry_eq]
  generalize (lg_sl ([.ref (ad 0), .int so, .int n, .int wh]) ++ List.replicate (6 - (lg_sl ([.ref (ad 0), .int so, .int n, .int wh])).length) Slot.unset).toArray = ls at hl ⊢
  have hl : lv_has ls 6 [(0, .ref (ad 0)), (1, .int so), (2, .int n), (3, .int wh)] := hl
  have hz : zlen (ct 20) = zlen (ct 20) := rfl
  have rg_wh := z_rng wh
  refine lv_iconst (v := 0) hx hb dX8_firstQuestion_0 (by decide) ?_
  refine lv_istore (lv' := [(4, .int 0), (0, .ref (ad 0)), (1, .int so), (2, .int n), (3, .int wh)]) hx hb dX8_firstQuestion_1 hl (by decide) rfl (fun ls hl => ?_)
  have loop3 : ∀ (n3 : Nat) (v4_3 : Int32) (ct1 : Nat → va_E) (H : Heap) (locs : List Loc) (ls : Array Slot), ((4 - v4_3.toInt : Int).toNat < n3) → (0 ≤ v4_3.toInt ∧ v4_3.toInt ≤ 4) → (zlen (ct1 20) = zlen (ct 20)) → (Inv8 g ad pe ct1) → zP g (zw 126 ad ct1) H → va_D A (zw 126 ad ct1) → va_S A s.heap H locs → lv_has ls 6 [(4, .int v4_3), (0, .ref (ad 0)), (1, .int so), (2, .int n), (3, .int wh)] → W p l e (headSpec (zW yX8_firstQuestion cX8_firstQuestion 6 (some .int)) ({ frames := 34, cells := 0, slots := 0, locals := 859 })).room s m ([.ref (ad 0), .int so, .int n, .int wh] : List Value).toArray below meth c H locs 0 0 (MQ below (va_Qi (fun (r : Int32) (_ : Unit) => (True)) (fun _ t => ∃ ct2 : Nat → va_E, zP g (zw 126 ad ct2) t.heap ∧ va_D A (zw 126 ad ct2) ∧ Inv8 g ad pe ct2) A) ([.ref (ad 0), .int so, .int n, .int wh] : List Value).toArray s 0 0 A) (F0 m 3 ls []) := by
    intro n3
    induction n3 with
    | zero =>
      intro v4_3 ct1 H locs ls hn3 b4_3 hz hI hP hD hS hl
      exact absurd hn3 (Nat.not_lt_zero _)
    | succ n3 ih3 =>
      intro v4_3 ct1 H locs ls hn3 b4_3 hz hI hP hD hS hl
      refine lv_iload hx hb dX8_firstQuestion_3 (lv_at hl 0 rfl) ?_
      refine lv_iconst (v := 4) hx hb dX8_firstQuestion_5 (by decide) ?_
      refine lv_icmp_ge (tgt := 68) hx hb dX8_firstQuestion_6 (by decide) (fun c2 => ?_) (fun c2 => ?_)
      · skip
        have c2 : 4 ≤ v4_3.toInt := (z_le (by decide : (4 : Int32).toInt = 4) rfl).mp c2
        refine lv_bipush (v := (-2)) hx hb dX8_firstQuestion_68 (by decide) ?_
        have q3 : ((-2) : Int32).toInt = -2 := by decide
        exact W.iret (v := (-2)) hx hb hr (fun t ht hW => ⟨⟨(-2), (), rfl, trivial, ct1, by rw [ht]; exact hP, hD, hI⟩, hS.F ht⟩) hS.2.2 dX8_firstQuestion_70
      · skip
        have c2 : ¬ (4 ≤ v4_3.toInt) := fun q => c2 ((z_le (by decide : (4 : Int32).toInt = 4) rfl).mpr q)
        refine lv_iconst (v := 0) hx hb dX8_firstQuestion_9 (by decide) ?_
        refine lv_istore (lv' := [(5, .int 0), (4, .int v4_3), (0, .ref (ad 0)), (1, .int so), (2, .int n), (3, .int wh)]) hx hb dX8_firstQuestion_10 hl (by decide) rfl (fun ls hl => ?_)
        have loop12 : ∀ (n12 : Nat) (v5_12 : Int32) (ct4 : Nat → va_E) (H : Heap) (locs : List Loc) (ls : Array Slot), ((32 - v5_12.toInt : Int).toNat < n12) → (0 ≤ v5_12.toInt ∧ v5_12.toInt ≤ 32) → (zlen (ct4 20) = zlen (ct 20)) → (Inv8 g ad pe ct4) → zP g (zw 126 ad ct4) H → va_D A (zw 126 ad ct4) → va_S A s.heap H locs → lv_has ls 6 [(5, .int v5_12), (4, .int v4_3), (0, .ref (ad 0)), (1, .int so), (2, .int n), (3, .int wh)] → W p l e (headSpec (zW yX8_firstQuestion cX8_firstQuestion 6 (some .int)) ({ frames := 34, cells := 0, slots := 0, locals := 859 })).room s m ([.ref (ad 0), .int so, .int n, .int wh] : List Value).toArray below meth c H locs 0 0 (MQ below (va_Qi (fun (r : Int32) (_ : Unit) => (True)) (fun _ t => ∃ ct2 : Nat → va_E, zP g (zw 126 ad ct2) t.heap ∧ va_D A (zw 126 ad ct2) ∧ Inv8 g ad pe ct2) A) ([.ref (ad 0), .int so, .int n, .int wh] : List Value).toArray s 0 0 A) (F0 m 12 ls []) := by
          intro n12
          induction n12 with
          | zero =>
            intro v5_12 ct4 H locs ls hn12 b5_12 hz hI hP hD hS hl
            exact absurd hn12 (Nat.not_lt_zero _)
          | succ n12 ih12 =>
            intro v5_12 ct4 H locs ls hn12 b5_12 hz hI hP hD hS hl
            refine lv_iload hx hb dX8_firstQuestion_12 (lv_at hl 0 rfl) ?_
            refine lv_bipush (v := 32) hx hb dX8_firstQuestion_14 (by decide) ?_
            refine lv_icmp_ge (tgt := 62) hx hb dX8_firstQuestion_16 (by decide) (fun c5 => ?_) (fun c5 => ?_)
            · skip
              have c5 : 32 ≤ v5_12.toInt := (z_le (by decide : (32 : Int32).toInt = 32) rfl).mp c5
              obtain ⟨x6, ex6⟩ : ∃ y : Int32, y = v4_3 + 1 := ⟨_, rfl⟩
              have tx6 : x6.toInt = v4_3.toInt + 1 := by rw [ex6]; exact z_add rfl (by decide : (1 : Int32).toInt = 1) (by omega) (by omega)
              refine lv_iinc (v := x6) (lv' := [(4, .int x6), (5, .int v5_12), (0, .ref (ad 0)), (1, .int so), (2, .int n), (3, .int wh)]) hx hb dX8_firstQuestion_62 hl (k := 1) rfl (by rw [ex6]; rfl) (by decide) rfl (fun ls hl => ?_)
              refine lv_goto (tgt := 3) hx hb dX8_firstQuestion_65 (by decide) ?_
              exact ih3 x6 ct4 _ _ ls (by omega) (by first | omega | decide) hz hI hP hD hS (lv_sub hl [0, 2, 3, 4, 5] rfl)
            · skip
              have c5 : ¬ (32 ≤ v5_12.toInt) := fun q => c5 ((z_le (by decide : (32 : Int32).toInt = 32) rfl).mpr q)
              refine lv_aload_n hx hb dX8_firstQuestion_19 rfl (lv_at hl 2 rfl) ?_
              obtain ⟨bk9, dr8, h10, h11, h12, hs7⟩ := a8_0 hI
              refine va_get (D := g.1) (ci := 8) (v := .ref (ad 17)) (C := RX8) (T := TX8) (N := 13) hx hb hg inG8 hown hK hP 0 (zw_at (by omega) hs7) rfl 7 (by decide) (hg _ mm_367) (fun _ h9 => h9) rfl dX8_firstQuestion_20 ?_
              refine lv_iload_n hx hb dX8_firstQuestion_23 rfl (lv_at hl 3 rfl) ?_
              refine lv_aload_n hx hb dX8_firstQuestion_24 rfl (lv_at hl 2 rfl) ?_
              refine va_get (D := g.1) (ci := 8) (v := .ref (ad 1)) (C := RX8) (T := TX8) (N := 13) hx hb hg inG8 hown hK hP 0 (zw_at (by omega) hs7) rfl 0 (by decide) (hg _ mm_360) (fun _ h9 => h9) rfl dX8_firstQuestion_25 ?_
              refine lv_iload hx hb dX8_firstQuestion_28 (lv_at hl 1 rfl) ?_
              have hs13 := a8_1 hI
              refine va_aldq hx hb hK hP 1 4 (zw_at (by omega) hs13) rfl (z_in rfl (by omega) (by omega)) dX8_firstQuestion_30 ?_
              rw [zF1_at (x := v4_3) (by omega) (by omega)]
              refine lv_iload hx hb dX8_firstQuestion_31 (lv_at hl 0 rfl) ?_
              obtain ⟨we15, se16, h17, h18, hs14⟩ := a8_35 (kc := (0 + 35 + 5 * v4_3.toInt.toNat)) (by omega) hI
              refine zc_i (va_runV (As := [.int v5_12]) (rest := [.int so, .ref (ad 17)]) ⟨hx, hb, hml, hown, hg⟩ (k_X3_whoBelow l g ad pe ct4 (0 + 35 + 5 * v4_3.toInt.toNat) v5_12 (by omega) hI) (cwV 1 hg (z_gV mm_687 mm_688 mm_689 mm_115 mm_690) rfl rfl rfl (by decide +kernel) ⟨Nat.le_of_ble_eq_true rfl, Nat.le_of_ble_eq_true rfl⟩) ⟨(zR.pre [.ref (ad (0 + 35 + 5 * v4_3.toInt.toNat)), .int v5_12] hP hK hN).1, va_recv hK hP (ci := 3) (q0 := (0 + 35 + 5 * v4_3.toInt.toNat)) rfl (zw_at (by omega) hs14), (zR.pre [.ref (ad (0 + 35 + 5 * v4_3.toInt.toNat)), .int v5_12] hP hK hN).2⟩ rfl rfl hl.1 rfl (lv_room (Nat.le_of_ble_eq_true rfl)) dX8_firstQuestion_33 ⟨Nat.le_of_ble_eq_true rfl, Nat.le_of_ble_eq_true rfl⟩) (fun r19 hr19 => ?_)
              refine lv_iload_n hx hb dX8_firstQuestion_36 rfl (lv_at hl 4 rfl) ?_
              obtain ⟨spc21, tim22, h23, h24, hs20⟩ := a8_17 hI
              have hFc := zw_free hD hS hA
              refine va_calli (va_runV (As := [.int so, .int r19, .int n]) (rest := []) ⟨hx, hb, hml, hown, hg⟩ (zs_i hI (k_X0_isFirst l g _ ad pe ct4 so r19 n (by first | omega | decide) (by first | omega | decide) hI)) (cwV 3 hg (z_gV mm_845 mm_846 mm_847 mm_112 mm_848) rfl rfl rfl (by decide +kernel) ⟨Nat.le_of_ble_eq_true rfl, Nat.le_of_ble_eq_true rfl⟩) ⟨(zA.pre [.ref (ad 17), .int so, .int r19, .int n] hP hK hD hN).1, va_recv hK hP (ci := 0) (q0 := 17) rfl (zw_at (by omega) hs20), (zA.pre [.ref (ad 17), .int so, .int r19, .int n] hP hK hD hN).2⟩ rfl rfl hl.1 rfl (lv_room (Nat.le_of_ble_eq_true rfl)) dX8_firstQuestion_37 ⟨Nat.le_of_ble_eq_true rfl, Nat.le_of_ble_eq_true rfl⟩) hS (fun q _ h => hFc q h) hFc (fun r25 _ t H1 locs ht hvm hr25 hB hz1 hk1 hS => ?_)
              obtain ⟨hB, hzs⟩ := hB
              rw [ht] at hzs
              obtain ⟨ct26, hP1, hD1, hI⟩ := hB
              rw [ht] at hP1
              have hD := hD1.weaken (fun _ _ _ h => hFc _ h)
              generalize H1 = H at hP1 hS hzs ⊢
              have hP := hP1
              refine W.widen (k := 0) (n := 0) (Nat.le_refl _) (Nat.le_refl _) ?_
              have hz : zlen (ct26 20) = zlen (ct 20) := (hzs.eq hP hI).trans hz
              rcases hr25 with hr25 | hr25
              · skip
                obtain rfl := hr25
                refine lv_if_eq (tgt := 56) hx hb dX8_firstQuestion_40 (by decide) (fun c27 => ?_) (fun c27 => ?_)
                · skip
                  exact absurd c27 (by decide)
                · skip
                  refine lv_iload_n hx hb dX8_firstQuestion_43 rfl (lv_at hl 5 rfl) ?_
                  refine lv_iconst (v := 1) hx hb dX8_firstQuestion_44 (by decide) ?_
                  refine lv_icmp_ne (tgt := 53) hx hb dX8_firstQuestion_45 (by decide) (fun c28 => ?_) (fun c28 => ?_)
                  · skip
                    have c28 : ¬ (wh.toInt = 1) := fun q => c28 ((z_eq rfl (by decide : (1 : Int32).toInt = 1)).mpr q)
                    refine lv_iload hx hb dX8_firstQuestion_53 (lv_at hl 0 rfl) ?_
                    exact W.iret (v := v5_12) hx hb hr (fun t ht hW => ⟨⟨v5_12, (), rfl, trivial, ct26, by rw [ht]; exact hP, hD, hI⟩, hS.F ht⟩) hS.2.2 dX8_firstQuestion_55
                  · skip
                    have c28 : wh.toInt = 1 := (z_eq rfl (by decide : (1 : Int32).toInt = 1)).mp c28
                    refine lv_iload hx hb dX8_firstQuestion_48 (lv_at hl 1 rfl) ?_
                    refine lv_goto (tgt := 55) hx hb dX8_firstQuestion_50 (by decide) ?_
                    exact W.iret (v := v4_3) hx hb hr (fun t ht hW => ⟨⟨v4_3, (), rfl, trivial, ct26, by rw [ht]; exact hP, hD, hI⟩, hS.F ht⟩) hS.2.2 dX8_firstQuestion_55
              · skip
                obtain rfl := hr25
                refine lv_if_eq (tgt := 56) hx hb dX8_firstQuestion_40 (by decide) (fun c29 => ?_) (fun c29 => ?_)
                · skip
                  obtain ⟨x30, ex30⟩ : ∃ y : Int32, y = v5_12 + 1 := ⟨_, rfl⟩
                  have tx30 : x30.toInt = v5_12.toInt + 1 := by rw [ex30]; exact z_add rfl (by decide : (1 : Int32).toInt = 1) (by omega) (by omega)
                  refine lv_iinc (v := x30) (lv' := [(5, .int x30), (4, .int v4_3), (0, .ref (ad 0)), (1, .int so), (2, .int n), (3, .int wh)]) hx hb dX8_firstQuestion_56 hl (k := 0) rfl (by rw [ex30]; rfl) (by decide) rfl (fun ls hl => ?_)
                  refine lv_goto (tgt := 12) hx hb dX8_firstQuestion_59 (by decide) ?_
                  exact ih12 x30 ct26 _ _ ls (by omega) (by first | omega | decide) hz hI hP hD hS (lv_sub hl [0, 1, 2, 3, 4, 5] rfl)
                · skip
                  exact absurd c29 (by decide)
        exact loop12 ((32 - (0 : Int32).toInt : Int).toNat + 1) (0 : Int32) ct1 _ _ ls (by omega) (by first | omega | decide) hz hI hP hD hS (lv_sub hl [0, 1, 2, 3, 4, 5] rfl)
  exact loop3 ((4 - (0 : Int32).toInt : Int).toNat + 1) (0 : Int32) ct _ _ ls (by omega) (by first | omega | decide) hz hI hP hD hS (lv_sub hl [0, 1, 2, 3, 4] rfl)
