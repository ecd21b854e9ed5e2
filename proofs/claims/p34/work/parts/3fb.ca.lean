set_option maxHeartbeats 4000000 in
set_option maxRecDepth 100000 in
theorem c_X7_init (l : Launch) (g : zG) (sz : Nat) (h0 : Nat) : Met l yX7_init (zW yX7_init cX7_init 1 none) ({ frames := 1, cells := 1, slots := 200, locals := 12 }) (va_Pc [.ref h0] (zA g [(h0, .inr (7, [.int 0, .null]))] sz)) (va_Qv (fun (_ : Unit) => True) (fun _ t => ∃ (a1 : Nat), zP g [(h0, .inr (7, [.int 0, .ref a1])), (a1, .inl (g.2 0, 200, .inl (fun _ => 0)))] t.heap ∧ va_D (va_A [(h0, .inr (7, [.int 0, .null]))] sz) [(h0, .inr (7, [.int 0, .ref a1])), (a1, .inl (g.2 0, 200, .inl (fun _ => 0)))]) (va_A [(h0, .inr (7, [.int 0, .null]))] sz)) 1 200 (va_A [(h0, .inr (7, [.int 0, .null]))] sz) := by
  refine Met.ofW (cc := cX7_init) (maxL := 1) (ret := none) (by decide) rfl ?_
  intro p e s m args below meth c s₁ B hml hv
  obtain ⟨rfl, hsz, hP, hK, hD0, hN⟩ := hv
  have hx := B.exec
  have hb := B.bytes
  have hr := B.returns
  have hg := zW.law (atoms_spec (ws := (zW yX7_init cX7_init 1 none)) B.pre)
  have hown : s.vm.findClass RX7 = some m.cls := findClass_of_methodNamed B.named
  have hlocks := B.notSynchronized
  have hin : meth.name = "<init>" := (name_of_methodNamed B.named B.method).1
  subst hsz
  have hD := hD0.self (sz := s.heap.size)
  generalize hAe : va_A [(h0, .inr (7, [.int 0, .null]))] s.heap.size = A at hD ⊢
  have hA : ∀ q : Nat, s.heap.size ≤ q → A q := fun q h => by rw [← hAe]; exact Or.inr h
  have hS : va_S A s.heap s.heap [] := va_S.rf
  have hl := lv_entry ([.ref h0]) (n := 1) (Nat.le_of_ble_eq_true rfl)
  rw [lg_entry_eq]
  generalize (lg_sl ([.ref h0]) ++ List.replicate (1 - (lg_sl ([.ref h0])).length) Slot.unset).toArray = ls at hl ⊢
  have hl : lv_has ls 1 [(0, .ref h0)] := hl
  refine lv_aload_n hx hb dX7_init_0 rfl (lv_at hl 0 rfl) ?_
  refine W.objInit hx hb hown (hg _ mm_78) (hg _ mm_69) (hg _ mm_70) rfl (by rw [hml]; exact hl.1) rfl dX7_init_1 (Nat.le_of_ble_eq_true rfl) (Nat.le_of_ble_eq_true rfl) ?_
  refine W.eq (g2 := F0 m 4 ls []) rfl ?_
  refine lv_aload_n hx hb dX7_init_4 rfl (lv_at hl 0 rfl) ?_
  refine lv_iconst (v := 0) hx hb dX7_init_5 (by decide) ?_
  refine va_put (D := g.1) (ci := 7) (v := .int 0) (ty := .int) (C := RX7) (T := TX7) (N := 2) hx hb hg inG7 tyX7 tyX7_ok nmX7 hown hK hP hD hS 0 rfl rfl 0 (by decide) (hg _ mm_79) (fun _ h9 => h9) rfl (by decide +kernel) rfl rfl (Nat.le_of_ble_eq_true rfl) dX7_init_6 (fun H locs hP hD hS => ?_)
  have hP : zP g [(h0, .inr (7, [.int 0, .null]))] H := hP
  have hD : va_D A [(h0, .inr (7, [.int 0, .null]))] := hD
  refine lv_aload_n hx hb dX7_init_9 rfl (lv_at hl 0 rfl) ?_
  refine lv_sipush (v := 200) hx hb dX7_init_10 (by decide) ?_
  refine z_newI hx hb (hg _ mm_87) hK hP hD hS hA (n := 200) (N' := 200) (by decide) (by decide) (Nat.le_of_ble_eq_true rfl) (Nat.le_of_ble_eq_true rfl) (Nat.le_of_ble_eq_true rfl) dX7_init_13 (fun q1 H hP hD hS => ?_)
  refine W.widen (k := 1) (n := 200) (Nat.le_of_ble_eq_true rfl) (Nat.le_of_ble_eq_true rfl) ?_
  have hP : zP g [(h0, .inr (7, [.int 0, .null])), (q1, .inl (g.2 0, 200, .inl (fun _ => 0)))] H := hP
  have hD : va_D A [(h0, .inr (7, [.int 0, .null])), (q1, .inl (g.2 0, 200, .inl (fun _ => 0)))] := hD
  refine va_putF (D := g.1) (ci := 7) (v := .ref q1) (ty := .array (.int)) (C := RX7) (T := TX7) (N := 2) hx hb hg inG7 tyX7 tyX7_ok nmX7 hown hK hP hD hS 0 rfl rfl 1 (by decide) (hg _ mm_81) (fun _ h9 => h9) rfl hin rfl (by decide +kernel) rfl rfl (Nat.le_of_ble_eq_true rfl) dX7_init_15 (fun H locs hP hD hS => ?_)
  have hP : zP g [(h0, .inr (7, [.int 0, .ref q1])), (q1, .inl (g.2 0, 200, .inl (fun _ => 0)))] H := hP
  have hD : va_D A [(h0, .inr (7, [.int 0, .ref q1])), (q1, .inl (g.2 0, 200, .inl (fun _ => 0)))] := hD
  have hP9 := hP.sub (ws' := [(h0, .inr (7, [.int 0, .ref q1])), (q1, .inl (g.2 0, 200, .inl (fun _ => 0)))]) [0, 1] rfl
  have hD9 := hD.sub (ws' := [(h0, .inr (7, [.int 0, .ref q1])), (q1, .inl (g.2 0, 200, .inl (fun _ => 0)))]) [0, 1] (by decide) rfl
  refine W.widen (k := 1) (n := 200) (Nat.le_of_ble_eq_true rfl) (Nat.le_of_ble_eq_true rfl) ?_
  exact W.vret hx hb hr (fun t ht hW => ⟨⟨(), rfl, trivial, ⟨q1, by rw [ht]; exact hP9, hD9⟩⟩, hS.F ht⟩) hS.2.2 dX7_init_18

set_option maxHeartbeats 4000000 in
set_option maxRecDepth 100000 in
theorem c_X5_init (l : Launch) (g : zG) (sz : Nat) (h0 : Nat) : Met l yX5_init (zW yX5_init cX5_init 1 none) ({ frames := 1, cells := 2, slots := 80, locals := 12 }) (va_Pc [.ref h0] (zA g [(h0, .inr (5, [.int 0, .null, .null]))] sz)) (va_Qv (fun (_ : Unit) => True) (fun _ t => ∃ (a1 : Nat), ∃ (a2 : Nat), zP g [(h0, .inr (5, [.int 0, .ref a1, .ref a2])), (a1, .inl (g.2 0, 40, .inl (fun _ => 0))), (a2, .inl (g.2 0, 40, .inl (fun _ => 0)))] t.heap ∧ va_D (va_A [(h0, .inr (5, [.int 0, .null, .null]))] sz) [(h0, .inr (5, [.int 0, .ref a1, .ref a2])), (a1, .inl (g.2 0, 40, .inl (fun _ => 0))), (a2, .inl (g.2 0, 40, .inl (fun _ => 0)))]) (va_A [(h0, .inr (5, [.int 0, .null, .null]))] sz)) 2 80 (va_A [(h0, .inr (5, [.int 0, .null, .null]))] sz) := by
  refine Met.ofW (cc := cX5_init) (maxL := 1) (ret := none) (by decide) rfl ?_
  intro p e s m args below meth c s₁ B hml hv
  obtain ⟨rfl, hsz, hP, hK, hD0, hN⟩ := hv
  have hx := B.exec
  have hb := B.bytes
  have hr := B.returns
  have hg := zW.law (atoms_spec (ws := (zW yX5_init cX5_init 1 none)) B.pre)
  have hown : s.vm.findClass RX5 = some m.cls := findClass_of_methodNamed B.named
  have hlocks := B.notSynchronized
  have hin : meth.name = "<init>" := (name_of_methodNamed B.named B.method).1
  subst hsz
  have hD := hD0.self (sz := s.heap.size)
  generalize hAe : va_A [(h0, .inr (5, [.int 0, .null, .null]))] s.heap.size = A at hD ⊢
  have hA : ∀ q : Nat, s.heap.size ≤ q → A q := fun q h => by rw [← hAe]; exact Or.inr h
  have hS : va_S A s.heap s.heap [] := va_S.rf
  have hl := lv_entry ([.ref h0]) (n := 1) (Nat.le_of_ble_eq_true rfl)
  rw [lg_entry_eq]
  generalize (lg_sl ([.ref h0]) ++ List.replicate (1 - (lg_sl ([.ref h0])).length) Slot.unset).toArray = ls at hl ⊢
  have hl : lv_has ls 1 [(0, .ref h0)] := hl
  refine lv_aload_n hx hb dX5_init_0 rfl (lv_at hl 0 rfl) ?_
  refine W.objInit hx hb hown (hg _ mm_95) (hg _ mm_69) (hg _ mm_70) rfl (by rw [hml]; exact hl.1) rfl dX5_init_1 (Nat.le_of_ble_eq_true rfl) (Nat.le_of_ble_eq_true rfl) ?_
  refine W.eq (g2 := F0 m 4 ls []) rfl ?_
  refine lv_aload_n hx hb dX5_init_4 rfl (lv_at hl 0 rfl) ?_
  refine lv_iconst (v := 0) hx hb dX5_init_5 (by decide) ?_
  refine va_put (D := g.1) (ci := 5) (v := .int 0) (ty := .int) (C := RX5) (T := TX5) (N := 3) hx hb hg inG5 tyX5 tyX5_ok nmX5 hown hK hP hD hS 0 rfl rfl 0 (by decide) (hg _ mm_96) (fun _ h9 => h9) rfl (by decide +kernel) rfl rfl (Nat.le_of_ble_eq_true rfl) dX5_init_6 (fun H locs hP hD hS => ?_)
  have hP : zP g [(h0, .inr (5, [.int 0, .null, .null]))] H := hP
  have hD : va_D A [(h0, .inr (5, [.int 0, .null, .null]))] := hD
  refine lv_aload_n hx hb dX5_init_9 rfl (lv_at hl 0 rfl) ?_
  refine lv_bipush (v := 40) hx hb dX5_init_10 (by decide) ?_
  refine z_newI hx hb (hg _ mm_87) hK hP hD hS hA (n := 40) (N' := 40) (by decide) (by decide) (Nat.le_of_ble_eq_true rfl) (Nat.le_of_ble_eq_true rfl) (Nat.le_of_ble_eq_true rfl) dX5_init_12 (fun q1 H hP hD hS => ?_)
  refine W.widen (k := 1) (n := 40) (Nat.le_of_ble_eq_true rfl) (Nat.le_of_ble_eq_true rfl) ?_
  have hP : zP g [(h0, .inr (5, [.int 0, .null, .null])), (q1, .inl (g.2 0, 40, .inl (fun _ => 0)))] H := hP
  have hD : va_D A [(h0, .inr (5, [.int 0, .null, .null])), (q1, .inl (g.2 0, 40, .inl (fun _ => 0)))] := hD
  refine va_putF (D := g.1) (ci := 5) (v := .ref q1) (ty := .array (.int)) (C := RX5) (T := TX5) (N := 3) hx hb hg inG5 tyX5 tyX5_ok nmX5 hown hK hP hD hS 0 rfl rfl 1 (by decide) (hg _ mm_98) (fun _ h9 => h9) rfl hin rfl (by decide +kernel) rfl rfl (Nat.le_of_ble_eq_true rfl) dX5_init_14 (fun H locs hP hD hS => ?_)
  have hP : zP g [(h0, .inr (5, [.int 0, .ref q1, .null])), (q1, .inl (g.2 0, 40, .inl (fun _ => 0)))] H := hP
  have hD : va_D A [(h0, .inr (5, [.int 0, .ref q1, .null])), (q1, .inl (g.2 0, 40, .inl (fun _ => 0)))] := hD
  refine lv_aload_n hx hb dX5_init_17 rfl (lv_at hl 0 rfl) ?_
  refine lv_bipush (v := 40) hx hb dX5_init_18 (by decide) ?_
  refine z_newI hx hb (hg _ mm_87) hK hP hD hS hA (n := 40) (N' := 40) (by decide) (by decide) (Nat.le_of_ble_eq_true rfl) (Nat.le_of_ble_eq_true rfl) (Nat.le_of_ble_eq_true rfl) dX5_init_20 (fun q2 H hP hD hS => ?_)
  refine W.widen (k := 2) (n := 80) (Nat.le_of_ble_eq_true rfl) (Nat.le_of_ble_eq_true rfl) ?_
  have hP : zP g [(h0, .inr (5, [.int 0, .ref q1, .null])), (q1, .inl (g.2 0, 40, .inl (fun _ => 0))), (q2, .inl (g.2 0, 40, .inl (fun _ => 0)))] H := hP
  have hD : va_D A [(h0, .inr (5, [.int 0, .ref q1, .null])), (q1, .inl (g.2 0, 40, .inl (fun _ => 0))), (q2, .inl (g.2 0, 40, .inl (fun _ => 0)))] := hD
  refine va_putF (D := g.1) (ci := 5) (v := .ref q2) (ty := .array (.int)) (C := RX5) (T := TX5) (N := 3) hx hb hg inG5 tyX5 tyX5_ok nmX5 hown hK hP hD hS 0 rfl rfl 2 (by decide) (hg _ mm_99) (fun _ h9 => h9) rfl hin rfl (by decide +kernel) rfl rfl (Nat.le_of_ble_eq_true rfl) dX5_init_22 (fun H locs hP hD hS => ?_)
  have hP : zP g [(h0, .inr (5, [.int 0, .ref q1, .ref q2])), (q1, .inl (g.2 0, 40, .inl (fun _ => 0))), (q2, .inl (g.2 0, 40, .inl (fun _ => 0)))] H := hP
  have hD : va_D A [(h0, .inr (5, [.int 0, .ref q1, .ref q2])), (q1, .inl (g.2 0, 40, .inl (fun _ => 0))), (q2, .inl (g.2 0, 40, .inl (fun _ => 0)))] := hD
  have hP9 := hP.sub (ws' := [(h0, .inr (5, [.int 0, .ref q1, .ref q2])), (q1, .inl (g.2 0, 40, .inl (fun _ => 0))), (q2, .inl (g.2 0, 40, .inl (fun _ => 0)))]) [0, 1, 2] rfl
  have hD9 := hD.sub (ws' := [(h0, .inr (5, [.int 0, .ref q1, .ref q2])), (q1, .inl (g.2 0, 40, .inl (fun _ => 0))), (q2, .inl (g.2 0, 40, .inl (fun _ => 0)))]) [0, 1, 2] (by decide) rfl
  refine W.widen (k := 2) (n := 80) (Nat.le_of_ble_eq_true rfl) (Nat.le_of_ble_eq_true rfl) ?_
  exact W.vret hx hb hr (fun t ht hW => ⟨⟨(), rfl, trivial, ⟨q1, q2, by rw [ht]; exact hP9, hD9⟩⟩, hS.F ht⟩) hS.2.2 dX5_init_25

set_option maxHeartbeats 4000000 in
set_option maxRecDepth 100000 in
theorem c_X6_init (l : Launch) (g : zG) (sz : Nat) (h0 : Nat) : Met l yX6_init (zW yX6_init cX6_init 1 none) ({ frames := 1, cells := 6, slots := 544, locals := 12 }) (va_Pc [.ref h0] (zA g [(h0, .inr (6, [.int 0, .int 0, .int 0, .int 0, .null, .null, .null, .null, .null, .null]))] sz)) (va_Qv (fun (_ : Unit) => True) (fun _ t => ∃ (a0 : Nat), ∃ (a1 : Nat), ∃ (a2 : Nat), ∃ (a3 : Nat), ∃ (a4 : Nat), ∃ (a5 : Nat), zP g [(h0, .inr (6, [.int 0, .int 0, .int 0, .int 0, .ref a0, .ref a1, .ref a2, .ref a3, .ref a4, .ref a5])), (a0, .inl (g.2 0, 8, .inl (fun _ => 0))), (a1, .inl (g.2 0, 8, .inl (fun _ => 0))), (a2, .inl (g.2 0, 8, .inl (fun _ => 0))), (a3, .inl (g.2 0, 256, .inl (fun _ => 0))), (a4, .inl (g.2 1, 256, .inr (.inl (fun _ => 0)))), (a5, .inl (g.2 0, 8, .inl (fun _ => 0)))] t.heap ∧ va_D (va_A [(h0, .inr (6, [.int 0, .int 0, .int 0, .int 0, .null, .null, .null, .null, .null, .null]))] sz) [(h0, .inr (6, [.int 0, .int 0, .int 0, .int 0, .ref a0, .ref a1, .ref a2, .ref a3, .ref a4, .ref a5])), (a0, .inl (g.2 0, 8, .inl (fun _ => 0))), (a1, .inl (g.2 0, 8, .inl (fun _ => 0))), (a2, .inl (g.2 0, 8, .inl (fun _ => 0))), (a3, .inl (g.2 0, 256, .inl (fun _ => 0))), (a4, .inl (g.2 1, 256, .inr (.inl (fun _ => 0)))), (a5, .inl (g.2 0, 8, .inl (fun _ => 0)))]) (va_A [(h0, .inr (6, [.int 0, .int 0, .int 0, .int 0, .null, .null, .null, .null, .null, .null]))] sz)) 6 544 (va_A [(h0, .inr (6, [.int 0, .int 0, .int 0, .int 0, .null, .null, .null, .null, .null, .null]))] sz) := by
  refine Met.ofW (cc := cX6_init) (maxL := 1) (ret := none) (by decide) rfl ?_
  intro p e s m args below meth c s₁ B hml hv
  obtain ⟨rfl, hsz, hP, hK, hD0, hN⟩ := hv
  have hx := B.exec
  have hb := B.bytes
  have hr := B.returns
  have hg := zW.law (atoms_spec (ws := (zW yX6_init cX6_init 1 none)) B.pre)
  have hown : s.vm.findClass RX6 = some m.cls := findClass_of_methodNamed B.named
  have hlocks := B.notSynchronized
  have hin : meth.name = "<init>" := (name_of_methodNamed B.named B.method).1
  subst hsz
  have hD := hD0.self (sz := s.heap.size)
  generalize hAe : va_A [(h0, .inr (6, [.int 0, .int 0, .int 0, .int 0, .null, .null, .null, .null, .null, .null]))] s.heap.size = A at hD ⊢
  have hA : ∀ q : Nat, s.heap.size ≤ q → A q := fun q h => by rw [← hAe]; exact Or.inr h
  have hS : va_S A s.heap s.heap [] := va_S.rf
  have hl := lv_entry ([.ref h0]) (n := 1) (Nat.le_of_ble_eq_true rfl)
  rw [lg_entry_eq]
  generalize (lg_sl ([.ref h0]) ++ List.replicate (1 - (lg_sl ([.ref h0])).length) Slot.unset).toArray = ls at hl ⊢
  have hl : lv_has ls 1 [(0, .ref h0)] := hl
  refine lv_aload_n hx hb dX6_init_0 rfl (lv_at hl 0 rfl) ?_
  refine W.objInit hx hb hown (hg _ mm_114) (hg _ mm_69) (hg _ mm_70) rfl (by rw [hml]; exact hl.1) rfl dX6_init_1 (Nat.le_of_ble_eq_true rfl) (Nat.le_of_ble_eq_true rfl) ?_
  refine W.eq (g2 := F0 m 4 ls []) rfl ?_
  refine lv_aload_n hx hb dX6_init_4 rfl (lv_at hl 0 rfl) ?_
  refine lv_iconst (v := 0) hx hb dX6_init_5 (by decide) ?_
  refine va_put (D := g.1) (ci := 6) (v := .int 0) (ty := .int) (C := RX6) (T := TX6) (N := 10) hx hb hg inG6 tyX6 tyX6_ok nmX6 hown hK hP hD hS 0 rfl rfl 0 (by decide) (hg _ mm_115) (fun _ h9 => h9) rfl (by decide +kernel) rfl rfl (Nat.le_of_ble_eq_true rfl) dX6_init_6 (fun H locs hP hD hS => ?_)
  have hP : zP g [(h0, .inr (6, [.int 0, .int 0, .int 0, .int 0, .null, .null, .null, .null, .null, .null]))] H := hP
  have hD : va_D A [(h0, .inr (6, [.int 0, .int 0, .int 0, .int 0, .null, .null, .null, .null, .null, .null]))] := hD
  refine lv_aload_n hx hb dX6_init_9 rfl (lv_at hl 0 rfl) ?_
  refine lv_iconst (v := 0) hx hb dX6_init_10 (by decide) ?_
  refine va_put (D := g.1) (ci := 6) (v := .int 0) (ty := .int) (C := RX6) (T := TX6) (N := 10) hx hb hg inG6 tyX6 tyX6_ok nmX6 hown hK hP hD hS 0 rfl rfl 1 (by decide) (hg _ mm_117) (fun _ h9 => h9) rfl (by decide +kernel) rfl rfl (Nat.le_of_ble_eq_true rfl) dX6_init_11 (fun H locs hP hD hS => ?_)
  have hP : zP g [(h0, .inr (6, [.int 0, .int 0, .int 0, .int 0, .null, .null, .null, .null, .null, .null]))] H := hP
  have hD : va_D A [(h0, .inr (6, [.int 0, .int 0, .int 0, .int 0, .null, .null, .null, .null, .null, .null]))] := hD
  refine lv_aload_n hx hb dX6_init_14 rfl (lv_at hl 0 rfl) ?_
  refine lv_iconst (v := 0) hx hb dX6_init_15 (by decide) ?_
  refine va_put (D := g.1) (ci := 6) (v := .int 0) (ty := .int) (C := RX6) (T := TX6) (N := 10) hx hb hg inG6 tyX6 tyX6_ok nmX6 hown hK hP hD hS 0 rfl rfl 2 (by decide) (hg _ mm_119) (fun _ h9 => h9) rfl (by decide +kernel) rfl rfl (Nat.le_of_ble_eq_true rfl) dX6_init_16 (fun H locs hP hD hS => ?_)
  have hP : zP g [(h0, .inr (6, [.int 0, .int 0, .int 0, .int 0, .null, .null, .null, .null, .null, .null]))] H := hP
  have hD : va_D A [(h0, .inr (6, [.int 0, .int 0, .int 0, .int 0, .null, .null, .null, .null, .null, .null]))] := hD
  refine lv_aload_n hx hb dX6_init_19 rfl (lv_at hl 0 rfl) ?_
  refine lv_iconst (v := 0) hx hb dX6_init_20 (by decide) ?_
  refine va_put (D := g.1) (ci := 6) (v := .int 0) (ty := .int) (C := RX6) (T := TX6) (N := 10) hx hb hg inG6 tyX6 tyX6_ok nmX6 hown hK hP hD hS 0 rfl rfl 3 (by decide) (hg _ mm_121) (fun _ h9 => h9) rfl (by decide +kernel) rfl rfl (Nat.le_of_ble_eq_true rfl) dX6_init_21 (fun H locs hP hD hS => ?_)
  have hP : zP g [(h0, .inr (6, [.int 0, .int 0, .int 0, .int 0, .null, .null, .null, .null, .null, .null]))] H := hP
  have hD : va_D A [(h0, .inr (6, [.int 0, .int 0, .int 0, .int 0, .null, .null, .null, .null, .null, .null]))] := hD
  refine lv_aload_n hx hb dX6_init_24 rfl (lv_at hl 0 rfl) ?_
  refine lv_bipush (v := 8) hx hb dX6_init_25 (by decide) ?_
  refine z_newI hx hb (hg _ mm_87) hK hP hD hS hA (n := 8) (N' := 8) (by decide) (by decide) (Nat.le_of_ble_eq_true rfl) (Nat.le_of_ble_eq_true rfl) (Nat.le_of_ble_eq_true rfl) dX6_init_27 (fun q1 H hP hD hS => ?_)
  refine W.widen (k := 1) (n := 8) (Nat.le_of_ble_eq_true rfl) (Nat.le_of_ble_eq_true rfl) ?_
  have hP : zP g [(h0, .inr (6, [.int 0, .int 0, .int 0, .int 0, .null, .null, .null, .null, .null, .null])), (q1, .inl (g.2 0, 8, .inl (fun _ => 0)))] H := hP
  have hD : va_D A [(h0, .inr (6, [.int 0, .int 0, .int 0, .int 0, .null, .null, .null, .null, .null, .null])), (q1, .inl (g.2 0, 8, .inl (fun _ => 0)))] := hD
  refine va_putF (D := g.1) (ci := 6) (v := .ref q1) (ty := .array (.int)) (C := RX6) (T := TX6) (N := 10) hx hb hg inG6 tyX6 tyX6_ok nmX6 hown hK hP hD hS 0 rfl rfl 4 (by decide) (hg _ mm_123) (fun _ h9 => h9) rfl hin rfl (by decide +kernel) rfl rfl (Nat.le_of_ble_eq_true rfl) dX6_init_29 (fun H locs hP hD hS => ?_)
  have hP : zP g [(h0, .inr (6, [.int 0, .int 0, .int 0, .int 0, .ref q1, .null, .null, .null, .null, .null])), (q1, .inl (g.2 0, 8, .inl (fun _ => 0)))] H := hP
  have hD : va_D A [(h0, .inr (6, [.int 0, .int 0, .int 0, .int 0, .ref q1, .null, .null, .null, .null, .null])), (q1, .inl (g.2 0, 8, .inl (fun _ => 0)))] := hD
  refine lv_aload_n hx hb dX6_init_32 rfl (lv_at hl 0 rfl) ?_
  refine lv_bipush (v := 8) hx hb dX6_init_33 (by decide) ?_
  refine z_newI hx hb (hg _ mm_87) hK hP hD hS hA (n := 8) (N' := 8) (by decide) (by decide) (Nat.le_of_ble_eq_true rfl) (Nat.le_of_ble_eq_true rfl) (Nat.le_of_ble_eq_true rfl) dX6_init_35 (fun q2 H hP hD hS => ?_)
  refine W.widen (k := 2) (n := 16) (Nat.le_of_ble_eq_true rfl) (Nat.le_of_ble_eq_true rfl) ?_
  have hP : zP g [(h0, .inr (6, [.int 0, .int 0, .int 0, .int 0, .ref q1, .null, .null, .null, .null, .null])), (q1, .inl (g.2 0, 8, .inl (fun _ => 0))), (q2, .inl (g.2 0, 8, .inl (fun _ => 0)))] H := hP
  have hD : va_D A [(h0, .inr (6, [.int 0, .int 0, .int 0, .int 0, .ref q1, .null, .null, .null, .null, .null])), (q1, .inl (g.2 0, 8, .inl (fun _ => 0))), (q2, .inl (g.2 0, 8, .inl (fun _ => 0)))] := hD
  refine va_putF (D := g.1) (ci := 6) (v := .ref q2) (ty := .array (.int)) (C := RX6) (T := TX6) (N := 10) hx hb hg inG6 tyX6 tyX6_ok nmX6 hown hK hP hD hS 0 rfl rfl 5 (by decide) (hg _ mm_125) (fun _ h9 => h9) rfl hin rfl (by decide +kernel) rfl rfl (Nat.le_of_ble_eq_true rfl) dX6_init_37 (fun H locs hP hD hS => ?_)
  have hP : zP g [(h0, .inr (6, [.int 0, .int 0, .int 0, .int 0, .ref q1, .ref q2, .null, .null, .null, .null])), (q1, .inl (g.2 0, 8, .inl (fun _ => 0))), (q2, .inl (g.2 0, 8, .inl (fun _ => 0)))] H := hP
  have hD : va_D A [(h0, .inr (6, [.int 0, .int 0, .int 0, .int 0, .ref q1, .ref q2, .null, .null, .null, .null])), (q1, .inl (g.2 0, 8, .inl (fun _ => 0))), (q2, .inl (g.2 0, 8, .inl (fun _ => 0)))] := hD
  refine lv_aload_n hx hb dX6_init_40 rfl (lv_at hl 0 rfl) ?_
  refine lv_bipush (v := 8) hx hb dX6_init_41 (by decide) ?_
  refine z_newI hx hb (hg _ mm_87) hK hP hD hS hA (n := 8) (N' := 8) (by decide) (by decide) (Nat.le_of_ble_eq_true rfl) (Nat.le_of_ble_eq_true rfl) (Nat.le_of_ble_eq_true rfl) dX6_init_43 (fun q3 H hP hD hS => ?_)
  refine W.widen (k := 3) (n := 24) (Nat.le_of_ble_eq_true rfl) (Nat.le_of_ble_eq_true rfl) ?_
  have hP : zP g [(h0, .inr (6, [.int 0, .int 0, .int 0, .int 0, .ref q1, .ref q2, .null, .null, .null, .null])), (q1, .inl (g.2 0, 8, .inl (fun _ => 0))), (q2, .inl (g.2 0, 8, .inl (fun _ => 0))), (q3, .inl (g.2 0, 8, .inl (fun _ => 0)))] H := hP
  have hD : va_D A [(h0, .inr (6, [.int 0, .int 0, .int 0, .int 0, .ref q1, .ref q2, .null, .null, .null, .null])), (q1, .inl (g.2 0, 8, .inl (fun _ => 0))), (q2, .inl (g.2 0, 8, .inl (fun _ => 0))), (q3, .inl (g.2 0, 8, .inl (fun _ => 0)))] := hD
  refine va_putF (D := g.1) (ci := 6) (v := .ref q3) (ty := .array (.int)) (C := RX6) (T := TX6) (N := 10) hx hb hg inG6 tyX6 tyX6_ok nmX6 hown hK hP hD hS 0 rfl rfl 6 (by decide) (hg _ mm_127) (fun _ h9 => h9) rfl hin rfl (by decide +kernel) rfl rfl (Nat.le_of_ble_eq_true rfl) dX6_init_45 (fun H locs hP hD hS => ?_)
  have hP : zP g [(h0, .inr (6, [.int 0, .int 0, .int 0, .int 0, .ref q1, .ref q2, .ref q3, .null, .null, .null])), (q1, .inl (g.2 0, 8, .inl (fun _ => 0))), (q2, .inl (g.2 0, 8, .inl (fun _ => 0))), (q3, .inl (g.2 0, 8, .inl (fun _ => 0)))] H := hP
  have hD : va_D A [(h0, .inr (6, [.int 0, .int 0, .int 0, .int 0, .ref q1, .ref q2, .ref q3, .null, .null, .null])), (q1, .inl (g.2 0, 8, .inl (fun _ => 0))), (q2, .inl (g.2 0, 8, .inl (fun _ => 0))), (q3, .inl (g.2 0, 8, .inl (fun _ => 0)))] := hD
  refine lv_aload_n hx hb dX6_init_48 rfl (lv_at hl 0 rfl) ?_
  refine lv_sipush (v := 256) hx hb dX6_init_49 (by decide) ?_
  refine z_newI hx hb (hg _ mm_87) hK hP hD hS hA (n := 256) (N' := 256) (by decide) (by decide) (Nat.le_of_ble_eq_true rfl) (Nat.le_of_ble_eq_true rfl) (Nat.le_of_ble_eq_true rfl) dX6_init_52 (fun q4 H hP hD hS => ?_)
  refine W.widen (k := 4) (n := 280) (Nat.le_of_ble_eq_true rfl) (Nat.le_of_ble_eq_true rfl) ?_
  have hP : zP g [(h0, .inr (6, [.int 0, .int 0, .int 0, .int 0, .ref q1, .ref q2, .ref q3, .null, .null, .null])), (q1, .inl (g.2 0, 8, .inl (fun _ => 0))), (q2, .inl (g.2 0, 8, .inl (fun _ => 0))), (q3, .inl (g.2 0, 8, .inl (fun _ => 0))), (q4, .inl (g.2 0, 256, .inl (fun _ => 0)))] H := hP
  have hD : va_D A [(h0, .inr (6, [.int 0, .int 0, .int 0, .int 0, .ref q1, .ref q2, .ref q3, .null, .null, .null])), (q1, .inl (g.2 0, 8, .inl (fun _ => 0))), (q2, .inl (g.2 0, 8, .inl (fun _ => 0))), (q3, .inl (g.2 0, 8, .inl (fun _ => 0))), (q4, .inl (g.2 0, 256, .inl (fun _ => 0)))] := hD
  refine va_putF (D := g.1) (ci := 6) (v := .ref q4) (ty := .array (.int)) (C := RX6) (T := TX6) (N := 10) hx hb hg inG6 tyX6 tyX6_ok nmX6 hown hK hP hD hS 0 rfl rfl 7 (by decide) (hg _ mm_129) (fun _ h9 => h9) rfl hin rfl (by decide +kernel) rfl rfl (Nat.le_of_ble_eq_true rfl) dX6_init_54 (fun H locs hP hD hS => ?_)
  have hP : zP g [(h0, .inr (6, [.int 0, .int 0, .int 0, .int 0, .ref q1, .ref q2, .ref q3, .ref q4, .null, .null])), (q1, .inl (g.2 0, 8, .inl (fun _ => 0))), (q2, .inl (g.2 0, 8, .inl (fun _ => 0))), (q3, .inl (g.2 0, 8, .inl (fun _ => 0))), (q4, .inl (g.2 0, 256, .inl (fun _ => 0)))] H := hP
  have hD : va_D A [(h0, .inr (6, [.int 0, .int 0, .int 0, .int 0, .ref q1, .ref q2, .ref q3, .ref q4, .null, .null])), (q1, .inl (g.2 0, 8, .inl (fun _ => 0))), (q2, .inl (g.2 0, 8, .inl (fun _ => 0))), (q3, .inl (g.2 0, 8, .inl (fun _ => 0))), (q4, .inl (g.2 0, 256, .inl (fun _ => 0)))] := hD
  refine lv_aload_n hx hb dX6_init_57 rfl (lv_at hl 0 rfl) ?_
  refine lv_sipush (v := 256) hx hb dX6_init_58 (by decide) ?_
  refine z_newJ hx hb (hg _ mm_153) hK hP hD hS hA (n := 256) (N' := 256) (by decide) (by decide) (Nat.le_of_ble_eq_true rfl) (Nat.le_of_ble_eq_true rfl) (Nat.le_of_ble_eq_true rfl) dX6_init_61 (fun q5 H hP hD hS => ?_)
  refine W.widen (k := 5) (n := 536) (Nat.le_of_ble_eq_true rfl) (Nat.le_of_ble_eq_true rfl) ?_
  have hP : zP g [(h0, .inr (6, [.int 0, .int 0, .int 0, .int 0, .ref q1, .ref q2, .ref q3, .ref q4, .null, .null])), (q1, .inl (g.2 0, 8, .inl (fun _ => 0))), (q2, .inl (g.2 0, 8, .inl (fun _ => 0))), (q3, .inl (g.2 0, 8, .inl (fun _ => 0))), (q4, .inl (g.2 0, 256, .inl (fun _ => 0))), (q5, .inl (g.2 1, 256, .inr (.inl (fun _ => 0))))] H := hP
  have hD : va_D A [(h0, .inr (6, [.int 0, .int 0, .int 0, .int 0, .ref q1, .ref q2, .ref q3, .ref q4, .null, .null])), (q1, .inl (g.2 0, 8, .inl (fun _ => 0))), (q2, .inl (g.2 0, 8, .inl (fun _ => 0))), (q3, .inl (g.2 0, 8, .inl (fun _ => 0))), (q4, .inl (g.2 0, 256, .inl (fun _ => 0))), (q5, .inl (g.2 1, 256, .inr (.inl (fun _ => 0))))] := hD
  refine va_putF (D := g.1) (ci := 6) (v := .ref q5) (ty := .array (.long)) (C := RX6) (T := TX6) (N := 10) hx hb hg inG6 tyX6 tyX6_ok nmX6 hown hK hP hD hS 0 rfl rfl 8 (by decide) (hg _ mm_130) (fun _ h9 => h9) rfl hin rfl (by decide +kernel) rfl rfl (Nat.le_of_ble_eq_true rfl) dX6_init_63 (fun H locs hP hD hS => ?_)
  have hP : zP g [(h0, .inr (6, [.int 0, .int 0, .int 0, .int 0, .ref q1, .ref q2, .ref q3, .ref q4, .ref q5, .null])), (q1, .inl (g.2 0, 8, .inl (fun _ => 0))), (q2, .inl (g.2 0, 8, .inl (fun _ => 0))), (q3, .inl (g.2 0, 8, .inl (fun _ => 0))), (q4, .inl (g.2 0, 256, .inl (fun _ => 0))), (q5, .inl (g.2 1, 256, .inr (.inl (fun _ => 0))))] H := hP
  have hD : va_D A [(h0, .inr (6, [.int 0, .int 0, .int 0, .int 0, .ref q1, .ref q2, .ref q3, .ref q4, .ref q5, .null])), (q1, .inl (g.2 0, 8, .inl (fun _ => 0))), (q2, .inl (g.2 0, 8, .inl (fun _ => 0))), (q3, .inl (g.2 0, 8, .inl (fun _ => 0))), (q4, .inl (g.2 0, 256, .inl (fun _ => 0))), (q5, .inl (g.2 1, 256, .inr (.inl (fun _ => 0))))] := hD
  refine lv_aload_n hx hb dX6_init_66 rfl (lv_at hl 0 rfl) ?_
  refine lv_bipush (v := 8) hx hb dX6_init_67 (by decide) ?_
  refine z_newI hx hb (hg _ mm_87) hK hP hD hS hA (n := 8) (N' := 8) (by decide) (by decide) (Nat.le_of_ble_eq_true rfl) (Nat.le_of_ble_eq_true rfl) (Nat.le_of_ble_eq_true rfl) dX6_init_69 (fun q6 H hP hD hS => ?_)
  refine W.widen (k := 6) (n := 544) (Nat.le_of_ble_eq_true rfl) (Nat.le_of_ble_eq_true rfl) ?_
  have hP : zP g [(h0, .inr (6, [.int 0, .int 0, .int 0, .int 0, .ref q1, .ref q2, .ref q3, .ref q4, .ref q5, .null])), (q1, .inl (g.2 0, 8, .inl (fun _ => 0))), (q2, .inl (g.2 0, 8, .inl (fun _ => 0))), (q3, .inl (g.2 0, 8, .inl (fun _ => 0))), (q4, .inl (g.2 0, 256, .inl (fun _ => 0))), (q5, .inl (g.2 1, 256, .inr (.inl (fun _ => 0)))), (q6, .inl (g.2 0, 8, .inl (fun _ => 0)))] H := hP
  have hD : va_D A [(h0, .inr (6, [.int 0, .int 0, .int 0, .int 0, .ref q1, .ref q2, .ref q3, .ref q4, .ref q5, .null])), (q1, .inl (g.2 0, 8, .inl (fun _ => 0))), (q2, .inl (g.2 0, 8, .inl (fun _ => 0))), (q3, .inl (g.2 0, 8, .inl (fun _ => 0))), (q4, .inl (g.2 0, 256, .inl (fun _ => 0))), (q5, .inl (g.2 1, 256, .inr (.inl (fun _ => 0)))), (q6, .inl (g.2 0, 8, .inl (fun _ => 0)))] := hD
  refine va_putF (D := g.1) (ci := 6) (v := .ref q6) (ty := .array (.int)) (C := RX6) (T := TX6) (N := 10) hx hb hg inG6 tyX6 tyX6_ok nmX6 hown hK hP hD hS 0 rfl rfl 9 (by decide) (hg _ mm_131) (fun _ h9 => h9) rfl hin rfl (by decide +kernel) rfl rfl (Nat.le_of_ble_eq_true rfl) dX6_init_71 (fun H locs hP hD hS => ?_)
  have hP : zP g [(h0, .inr (6, [.int 0, .int 0, .int 0, .int 0, .ref q1, .ref q2, .ref q3, .ref q4, .ref q5, .ref q6])), (q1, .inl (g.2 0, 8, .inl (fun _ => 0))), (q2, .inl (g.2 0, 8, .inl (fun _ => 0))), (q3, .inl (g.2 0, 8, .inl (fun _ => 0))), (q4, .inl (g.2 0, 256, .inl (fun _ => 0))), (q5, .inl (g.2 1, 256, .inr (.inl (fun _ => 0)))), (q6, .inl (g.2 0, 8, .inl (fun _ => 0)))] H := hP
  have hD : va_D A [(h0, .inr (6, [.int 0, .int 0, .int 0, .int 0, .ref q1, .ref q2, .ref q3, .ref q4, .ref q5, .ref q6])), (q1, .inl (g.2 0, 8, .inl (fun _ => 0))), (q2, .inl (g.2 0, 8, .inl (fun _ => 0))), (q3, .inl (g.2 0, 8, .inl (fun _ => 0))), (q4, .inl (g.2 0, 256, .inl (fun _ => 0))), (q5, .inl (g.2 1, 256, .inr (.inl (fun _ => 0)))), (q6, .inl (g.2 0, 8, .inl (fun _ => 0)))] := hD
  have hP9 := hP.sub (ws' := [(h0, .inr (6, [.int 0, .int 0, .int 0, .int 0, .ref q1, .ref q2, .ref q3, .ref q4, .ref q5, .ref q6])), (q1, .inl (g.2 0, 8, .inl (fun _ => 0))), (q2, .inl (g.2 0, 8, .inl (fun _ => 0))), (q3, .inl (g.2 0, 8, .inl (fun _ => 0))), (q4, .inl (g.2 0, 256, .inl (fun _ => 0))), (q5, .inl (g.2 1, 256, .inr (.inl (fun _ => 0)))), (q6, .inl (g.2 0, 8, .inl (fun _ => 0)))]) [0, 1, 2, 3, 4, 5, 6] rfl
  have hD9 := hD.sub (ws' := [(h0, .inr (6, [.int 0, .int 0, .int 0, .int 0, .ref q1, .ref q2, .ref q3, .ref q4, .ref q5, .ref q6])), (q1, .inl (g.2 0, 8, .inl (fun _ => 0))), (q2, .inl (g.2 0, 8, .inl (fun _ => 0))), (q3, .inl (g.2 0, 8, .inl (fun _ => 0))), (q4, .inl (g.2 0, 256, .inl (fun _ => 0))), (q5, .inl (g.2 1, 256, .inr (.inl (fun _ => 0)))), (q6, .inl (g.2 0, 8, .inl (fun _ => 0)))]) [0, 1, 2, 3, 4, 5, 6] (by decide) rfl
  refine W.widen (k := 6) (n := 544) (Nat.le_of_ble_eq_true rfl) (Nat.le_of_ble_eq_true rfl) ?_
  exact W.vret hx hb hr (fun t ht hW => ⟨⟨(), rfl, trivial, ⟨q1, q2, q3, q4, q5, q6, by rw [ht]; exact hP9, hD9⟩⟩, hS.F ht⟩) hS.2.2 dX6_init_74

set_option maxHeartbeats 4000000 in
set_option maxRecDepth 100000 in
theorem c_X0_init (l : Launch) (g : zG) (sz : Nat) (h0 : Nat) : Met l yX0_init (zW yX0_init cX0_init 1 none) ({ frames := 1, cells := 3, slots := 146, locals := 12 }) (va_Pc [.ref h0] (zA g [(h0, .inr (0, [.null, .int 0, .null, .null, .int 0]))] sz)) (va_Qv (fun (_ : Unit) => True) (fun _ t => ∃ (a1 : Nat), ∃ (a2 : Nat), ∃ (a3 : Nat), zP g [(h0, .inr (0, [.ref a1, .int 0, .ref a2, .ref a3, .int 1])), (a1, .inl (g.2 0, 128, .inl (fun _ => 0))), (a2, .inl (g.2 0, 17, .inl (fun _ => 0))), (a3, .inl (g.2 0, 1, .inl (fun _ => 0)))] t.heap ∧ va_D (va_A [(h0, .inr (0, [.null, .int 0, .null, .null, .int 0]))] sz) [(h0, .inr (0, [.ref a1, .int 0, .ref a2, .ref a3, .int 1])), (a1, .inl (g.2 0, 128, .inl (fun _ => 0))), (a2, .inl (g.2 0, 17, .inl (fun _ => 0))), (a3, .inl (g.2 0, 1, .inl (fun _ => 0)))]) (va_A [(h0, .inr (0, [.null, .int 0, .null, .null, .int 0]))] sz)) 3 146 (va_A [(h0, .inr (0, [.null, .int 0, .null, .null, .int 0]))] sz) := by
  refine Met.ofW (cc := cX0_init) (maxL := 1) (ret := none) (by decide) rfl ?_
  intro p e s m args below meth c s₁ B hml hv
  obtain ⟨rfl, hsz, hP, hK, hD0, hN⟩ := hv
  have hx := B.exec
  have hb := B.bytes
  have hr := B.returns
  have hg := zW.law (atoms_spec (ws := (zW yX0_init cX0_init 1 none)) B.pre)
  have hown : s.vm.findClass RX0 = some m.cls := findClass_of_methodNamed B.named
  have hlocks := B.notSynchronized
  have hin : meth.name = "<init>" := (name_of_methodNamed B.named B.method).1
  subst hsz
  have hD := hD0.self (sz := s.heap.size)
  generalize hAe : va_A [(h0, .inr (0, [.null, .int 0, .null, .null, .int 0]))] s.heap.size = A at hD ⊢
  have hA : ∀ q : Nat, s.heap.size ≤ q → A q := fun q h => by rw [← hAe]; exact Or.inr h
  have hS : va_S A s.heap s.heap [] := va_S.rf
  have hl := lv_entry ([.ref h0]) (n := 1) (Nat.le_of_ble_eq_true rfl)
  rw [lg_entry_eq]
  generalize (lg_sl ([.ref h0]) ++ List.replicate (1 - (lg_sl ([.ref h0])).length) Slot.unset).toArray = ls at hl ⊢
  have hl : lv_has ls 1 [(0, .ref h0)] := hl
  refine lv_aload_n hx hb dX0_init_0 rfl (lv_at hl 0 rfl) ?_
  refine W.objInit hx hb hown (hg _ mm_159) (hg _ mm_69) (hg _ mm_70) rfl (by rw [hml]; exact hl.1) rfl dX0_init_1 (Nat.le_of_ble_eq_true rfl) (Nat.le_of_ble_eq_true rfl) ?_
  refine W.eq (g2 := F0 m 4 ls []) rfl ?_
  refine lv_aload_n hx hb dX0_init_4 rfl (lv_at hl 0 rfl) ?_
  refine lv_sipush (v := 128) hx hb dX0_init_5 (by decide) ?_
  refine z_newI hx hb (hg _ mm_87) hK hP hD hS hA (n := 128) (N' := 128) (by decide) (by decide) (Nat.le_of_ble_eq_true rfl) (Nat.le_of_ble_eq_true rfl) (Nat.le_of_ble_eq_true rfl) dX0_init_8 (fun q1 H hP hD hS => ?_)
  refine W.widen (k := 1) (n := 128) (Nat.le_of_ble_eq_true rfl) (Nat.le_of_ble_eq_true rfl) ?_
  have hP : zP g [(h0, .inr (0, [.null, .int 0, .null, .null, .int 0])), (q1, .inl (g.2 0, 128, .inl (fun _ => 0)))] H := hP
  have hD : va_D A [(h0, .inr (0, [.null, .int 0, .null, .null, .int 0])), (q1, .inl (g.2 0, 128, .inl (fun _ => 0)))] := hD
  refine va_putF (D := g.1) (ci := 0) (v := .ref q1) (ty := .array (.int)) (C := RX0) (T := TX0) (N := 5) hx hb hg inG0 tyX0 tyX0_ok nmX0 hown hK hP hD hS 0 rfl rfl 0 (by decide) (hg _ mm_160) (fun _ h9 => h9) rfl hin rfl (by decide +kernel) rfl rfl (Nat.le_of_ble_eq_true rfl) dX0_init_10 (fun H locs hP hD hS => ?_)
  have hP : zP g [(h0, .inr (0, [.ref q1, .int 0, .null, .null, .int 0])), (q1, .inl (g.2 0, 128, .inl (fun _ => 0)))] H := hP
  have hD : va_D A [(h0, .inr (0, [.ref q1, .int 0, .null, .null, .int 0])), (q1, .inl (g.2 0, 128, .inl (fun _ => 0)))] := hD
  refine lv_aload_n hx hb dX0_init_13 rfl (lv_at hl 0 rfl) ?_
  refine lv_iconst (v := 0) hx hb dX0_init_14 (by decide) ?_
  refine va_put (D := g.1) (ci := 0) (v := .int 0) (ty := .int) (C := RX0) (T := TX0) (N := 5) hx hb hg inG0 tyX0 tyX0_ok nmX0 hown hK hP hD hS 0 rfl rfl 1 (by decide) (hg _ mm_161) (fun _ h9 => h9) rfl (by decide +kernel) rfl rfl (Nat.le_of_ble_eq_true rfl) dX0_init_15 (fun H locs hP hD hS => ?_)
  have hP : zP g [(h0, .inr (0, [.ref q1, .int 0, .null, .null, .int 0])), (q1, .inl (g.2 0, 128, .inl (fun _ => 0)))] H := hP
  have hD : va_D A [(h0, .inr (0, [.ref q1, .int 0, .null, .null, .int 0])), (q1, .inl (g.2 0, 128, .inl (fun _ => 0)))] := hD
  refine lv_aload_n hx hb dX0_init_18 rfl (lv_at hl 0 rfl) ?_
  refine lv_bipush (v := 17) hx hb dX0_init_19 (by decide) ?_
  refine z_newI hx hb (hg _ mm_87) hK hP hD hS hA (n := 17) (N' := 17) (by decide) (by decide) (Nat.le_of_ble_eq_true rfl) (Nat.le_of_ble_eq_true rfl) (Nat.le_of_ble_eq_true rfl) dX0_init_21 (fun q2 H hP hD hS => ?_)
  refine W.widen (k := 2) (n := 145) (Nat.le_of_ble_eq_true rfl) (Nat.le_of_ble_eq_true rfl) ?_
  have hP : zP g [(h0, .inr (0, [.ref q1, .int 0, .null, .null, .int 0])), (q1, .inl (g.2 0, 128, .inl (fun _ => 0))), (q2, .inl (g.2 0, 17, .inl (fun _ => 0)))] H := hP
  have hD : va_D A [(h0, .inr (0, [.ref q1, .int 0, .null, .null, .int 0])), (q1, .inl (g.2 0, 128, .inl (fun _ => 0))), (q2, .inl (g.2 0, 17, .inl (fun _ => 0)))] := hD
  refine va_putF (D := g.1) (ci := 0) (v := .ref q2) (ty := .array (.int)) (C := RX0) (T := TX0) (N := 5) hx hb hg inG0 tyX0 tyX0_ok nmX0 hown hK hP hD hS 0 rfl rfl 2 (by decide) (hg _ mm_162) (fun _ h9 => h9) rfl hin rfl (by decide +kernel) rfl rfl (Nat.le_of_ble_eq_true rfl) dX0_init_23 (fun H locs hP hD hS => ?_)
  have hP : zP g [(h0, .inr (0, [.ref q1, .int 0, .ref q2, .null, .int 0])), (q1, .inl (g.2 0, 128, .inl (fun _ => 0))), (q2, .inl (g.2 0, 17, .inl (fun _ => 0)))] H := hP
  have hD : va_D A [(h0, .inr (0, [.ref q1, .int 0, .ref q2, .null, .int 0])), (q1, .inl (g.2 0, 128, .inl (fun _ => 0))), (q2, .inl (g.2 0, 17, .inl (fun _ => 0)))] := hD
  refine lv_aload_n hx hb dX0_init_26 rfl (lv_at hl 0 rfl) ?_
  refine lv_iconst (v := 1) hx hb dX0_init_27 (by decide) ?_
  refine z_newI hx hb (hg _ mm_87) hK hP hD hS hA (n := 1) (N' := 1) (by decide) (by decide) (Nat.le_of_ble_eq_true rfl) (Nat.le_of_ble_eq_true rfl) (Nat.le_of_ble_eq_true rfl) dX0_init_28 (fun q3 H hP hD hS => ?_)
  refine W.widen (k := 3) (n := 146) (Nat.le_of_ble_eq_true rfl) (Nat.le_of_ble_eq_true rfl) ?_
  have hP : zP g [(h0, .inr (0, [.ref q1, .int 0, .ref q2, .null, .int 0])), (q1, .inl (g.2 0, 128, .inl (fun _ => 0))), (q2, .inl (g.2 0, 17, .inl (fun _ => 0))), (q3, .inl (g.2 0, 1, .inl (fun _ => 0)))] H := hP
  have hD : va_D A [(h0, .inr (0, [.ref q1, .int 0, .ref q2, .null, .int 0])), (q1, .inl (g.2 0, 128, .inl (fun _ => 0))), (q2, .inl (g.2 0, 17, .inl (fun _ => 0))), (q3, .inl (g.2 0, 1, .inl (fun _ => 0)))] := hD
  refine va_put (D := g.1) (ci := 0) (v := .ref q3) (ty := .array (.int)) (C := RX0) (T := TX0) (N := 5) hx hb hg inG0 tyX0 tyX0_ok nmX0 hown hK hP hD hS 0 rfl rfl 3 (by decide) (hg _ mm_163) (fun _ h9 => h9) rfl (by decide +kernel) rfl rfl (Nat.le_of_ble_eq_true rfl) dX0_init_30 (fun H locs hP hD hS => ?_)
  have hP : zP g [(h0, .inr (0, [.ref q1, .int 0, .ref q2, .ref q3, .int 0])), (q1, .inl (g.2 0, 128, .inl (fun _ => 0))), (q2, .inl (g.2 0, 17, .inl (fun _ => 0))), (q3, .inl (g.2 0, 1, .inl (fun _ => 0)))] H := hP
  have hD : va_D A [(h0, .inr (0, [.ref q1, .int 0, .ref q2, .ref q3, .int 0])), (q1, .inl (g.2 0, 128, .inl (fun _ => 0))), (q2, .inl (g.2 0, 17, .inl (fun _ => 0))), (q3, .inl (g.2 0, 1, .inl (fun _ => 0)))] := hD
  refine lv_aload_n hx hb dX0_init_33 rfl (lv_at hl 0 rfl) ?_
  refine lv_iconst (v := 1) hx hb dX0_init_34 (by decide) ?_
  refine va_put (D := g.1) (ci := 0) (v := .int 1) (ty := .int) (C := RX0) (T := TX0) (N := 5) hx hb hg inG0 tyX0 tyX0_ok nmX0 hown hK hP hD hS 0 rfl rfl 4 (by decide) (hg _ mm_164) (fun _ h9 => h9) rfl (by decide +kernel) rfl rfl (Nat.le_of_ble_eq_true rfl) dX0_init_35 (fun H locs hP hD hS => ?_)
  have hP : zP g [(h0, .inr (0, [.ref q1, .int 0, .ref q2, .ref q3, .int 1])), (q1, .inl (g.2 0, 128, .inl (fun _ => 0))), (q2, .inl (g.2 0, 17, .inl (fun _ => 0))), (q3, .inl (g.2 0, 1, .inl (fun _ => 0)))] H := hP
  have hD : va_D A [(h0, .inr (0, [.ref q1, .int 0, .ref q2, .ref q3, .int 1])), (q1, .inl (g.2 0, 128, .inl (fun _ => 0))), (q2, .inl (g.2 0, 17, .inl (fun _ => 0))), (q3, .inl (g.2 0, 1, .inl (fun _ => 0)))] := hD
  have hP9 := hP.sub (ws' := [(h0, .inr (0, [.ref q1, .int 0, .ref q2, .ref q3, .int 1])), (q1, .inl (g.2 0, 128, .inl (fun _ => 0))), (q2, .inl (g.2 0, 17, .inl (fun _ => 0))), (q3, .inl (g.2 0, 1, .inl (fun _ => 0)))]) [0, 1, 2, 3] rfl
  have hD9 := hD.sub (ws' := [(h0, .inr (0, [.ref q1, .int 0, .ref q2, .ref q3, .int 1])), (q1, .inl (g.2 0, 128, .inl (fun _ => 0))), (q2, .inl (g.2 0, 17, .inl (fun _ => 0))), (q3, .inl (g.2 0, 1, .inl (fun _ => 0)))]) [0, 1, 2, 3] (by decide) rfl
  refine W.widen (k := 3) (n := 146) (Nat.le_of_ble_eq_true rfl) (Nat.le_of_ble_eq_true rfl) ?_
  exact W.vret hx hb hr (fun t ht hW => ⟨⟨(), rfl, trivial, ⟨q1, q2, q3, by rw [ht]; exact hP9, hD9⟩⟩, hS.F ht⟩) hS.2.2 dX0_init_38

set_option maxHeartbeats 4000000 in
set_option maxRecDepth 100000 in
theorem c_X1_init (l : Launch) (g : zG) (sz : Nat) (h0 : Nat) : Met l yX1_init (zW yX1_init cX1_init 1 none) ({ frames := 1, cells := 12, slots := 336, locals := 12 }) (va_Pc [.ref h0] (zA g [(h0, .inr (1, [.int 0, .int 0, .int 0, .null, .null, .null, .null]))] sz)) (va_Qv (fun (_ : Unit) => True) (fun _ t => ∃ (awh : Nat), ∃ (alo : Nat), ∃ (atp : Nat), ∃ (avl : Nat), ∃ (w0 : Nat), ∃ (w1 : Nat), ∃ (w2 : Nat), ∃ (w3 : Nat), ∃ (l0 : Nat), ∃ (l1 : Nat), ∃ (l2 : Nat), ∃ (l3 : Nat), zP g [(h0, .inr (1, [.int (-1), .int 0, .int 0, .ref awh, .ref alo, .ref atp, .ref avl])), (awh, .inl (g.2 7, 4, .inr (.inr (.inr (.inr (zS [some w0, some w1, some w2, some w3])))))), (alo, .inl (g.2 7, 4, .inr (.inr (.inr (.inr (zS [some l0, some l1, some l2, some l3])))))), (w0, .inl (g.2 0, 40, .inl (fun _ => 0))), (w1, .inl (g.2 0, 40, .inl (fun _ => 0))), (w2, .inl (g.2 0, 40, .inl (fun _ => 0))), (w3, .inl (g.2 0, 40, .inl (fun _ => 0))), (l0, .inl (g.2 0, 40, .inl (fun _ => 0))), (l1, .inl (g.2 0, 40, .inl (fun _ => 0))), (l2, .inl (g.2 0, 40, .inl (fun _ => 0))), (l3, .inl (g.2 0, 40, .inl (fun _ => 0))), (atp, .inl (g.2 0, 4, .inl (fun _ => 0))), (avl, .inl (g.2 0, 4, .inl (fun _ => 0)))] t.heap ∧ va_D (va_A [(h0, .inr (1, [.int 0, .int 0, .int 0, .null, .null, .null, .null]))] sz) [(h0, .inr (1, [.int (-1), .int 0, .int 0, .ref awh, .ref alo, .ref atp, .ref avl])), (awh, .inl (g.2 7, 4, .inr (.inr (.inr (.inr (zS [some w0, some w1, some w2, some w3])))))), (alo, .inl (g.2 7, 4, .inr (.inr (.inr (.inr (zS [some l0, some l1, some l2, some l3])))))), (w0, .inl (g.2 0, 40, .inl (fun _ => 0))), (w1, .inl (g.2 0, 40, .inl (fun _ => 0))), (w2, .inl (g.2 0, 40, .inl (fun _ => 0))), (w3, .inl (g.2 0, 40, .inl (fun _ => 0))), (l0, .inl (g.2 0, 40, .inl (fun _ => 0))), (l1, .inl (g.2 0, 40, .inl (fun _ => 0))), (l2, .inl (g.2 0, 40, .inl (fun _ => 0))), (l3, .inl (g.2 0, 40, .inl (fun _ => 0))), (atp, .inl (g.2 0, 4, .inl (fun _ => 0))), (avl, .inl (g.2 0, 4, .inl (fun _ => 0)))]) (va_A [(h0, .inr (1, [.int 0, .int 0, .int 0, .null, .null, .null, .null]))] sz)) 12 336 (va_A [(h0, .inr (1, [.int 0, .int 0, .int 0, .null, .null, .null, .null]))] sz) := by
  refine Met.ofW (cc := cX1_init) (maxL := 1) (ret := none) (by decide) rfl ?_
  intro p e s m args below meth c s₁ B hml hv
  obtain ⟨rfl, hsz, hP, hK, hD0, hN⟩ := hv
  have hx := B.exec
  have hb := B.bytes
  have hr := B.returns
  have hg := zW.law (atoms_spec (ws := (zW yX1_init cX1_init 1 none)) B.pre)
  have hown : s.vm.findClass RX1 = some m.cls := findClass_of_methodNamed B.named
  have hlocks := B.notSynchronized
  have hin : meth.name = "<init>" := (name_of_methodNamed B.named B.method).1
  subst hsz
  have hD := hD0.self (sz := s.heap.size)
  generalize hAe : va_A [(h0, .inr (1, [.int 0, .int 0, .int 0, .null, .null, .null, .null]))] s.heap.size = A at hD ⊢
  have hA : ∀ q : Nat, s.heap.size ≤ q → A q := fun q h => by rw [← hAe]; exact Or.inr h
  have hS : va_S A s.heap s.heap [] := va_S.rf
  have hl := lv_entry ([.ref h0]) (n := 1) (Nat.le_of_ble_eq_true rfl)
  rw [lg_entry_eq]
  generalize (lg_sl ([.ref h0]) ++ List.replicate (1 - (lg_sl ([.ref h0])).length) Slot.unset).toArray = ls at hl ⊢
  have hl : lv_has ls 1 [(0, .ref h0)] := hl
  refine lv_aload_n hx hb dX1_init_0 rfl (lv_at hl 0 rfl) ?_
  refine W.objInit hx hb hown (hg _ mm_181) (hg _ mm_69) (hg _ mm_70) rfl (by rw [hml]; exact hl.1) rfl dX1_init_1 (Nat.le_of_ble_eq_true rfl) (Nat.le_of_ble_eq_true rfl) ?_
  refine W.eq (g2 := F0 m 4 ls []) rfl ?_
  refine lv_aload_n hx hb dX1_init_4 rfl (lv_at hl 0 rfl) ?_
  refine lv_iconst (v := (-1)) hx hb dX1_init_5 (by decide) ?_
  refine va_put (D := g.1) (ci := 1) (v := .int (-1)) (ty := .int) (C := RX1) (T := TX1) (N := 7) hx hb hg inG1 tyX1 tyX1_ok nmX1 hown hK hP hD hS 0 rfl rfl 0 (by decide) (hg _ mm_184) (fun _ h9 => h9) rfl (by decide +kernel) rfl rfl (Nat.le_of_ble_eq_true rfl) dX1_init_6 (fun H locs hP hD hS => ?_)
  have hP : zP g [(h0, .inr (1, [.int (-1), .int 0, .int 0, .null, .null, .null, .null]))] H := hP
  have hD : va_D A [(h0, .inr (1, [.int (-1), .int 0, .int 0, .null, .null, .null, .null]))] := hD
  refine lv_aload_n hx hb dX1_init_9 rfl (lv_at hl 0 rfl) ?_
  refine lv_iconst (v := 0) hx hb dX1_init_10 (by decide) ?_
  refine va_put (D := g.1) (ci := 1) (v := .int 0) (ty := .int) (C := RX1) (T := TX1) (N := 7) hx hb hg inG1 tyX1 tyX1_ok nmX1 hown hK hP hD hS 0 rfl rfl 1 (by decide) (hg _ mm_186) (fun _ h9 => h9) rfl (by decide +kernel) rfl rfl (Nat.le_of_ble_eq_true rfl) dX1_init_11 (fun H locs hP hD hS => ?_)
  have hP : zP g [(h0, .inr (1, [.int (-1), .int 0, .int 0, .null, .null, .null, .null]))] H := hP
  have hD : va_D A [(h0, .inr (1, [.int (-1), .int 0, .int 0, .null, .null, .null, .null]))] := hD
  refine lv_aload_n hx hb dX1_init_14 rfl (lv_at hl 0 rfl) ?_
  refine lv_iconst (v := 0) hx hb dX1_init_15 (by decide) ?_
  refine va_put (D := g.1) (ci := 1) (v := .int 0) (ty := .int) (C := RX1) (T := TX1) (N := 7) hx hb hg inG1 tyX1 tyX1_ok nmX1 hown hK hP hD hS 0 rfl rfl 2 (by decide) (hg _ mm_188) (fun _ h9 => h9) rfl (by decide +kernel) rfl rfl (Nat.le_of_ble_eq_true rfl) dX1_init_16 (fun H locs hP hD hS => ?_)
  have hP : zP g [(h0, .inr (1, [.int (-1), .int 0, .int 0, .null, .null, .null, .null]))] H := hP
  have hD : va_D A [(h0, .inr (1, [.int (-1), .int 0, .int 0, .null, .null, .null, .null]))] := hD
  refine lv_aload_n hx hb dX1_init_19 rfl (lv_at hl 0 rfl) ?_
  refine lv_iconst (v := 4) hx hb dX1_init_20 (by decide) ?_
  refine lv_bipush (v := 40) hx hb dX1_init_21 (by decide) ?_
  refine z_mna hx hb hown (hg _ mm_182) hN (hg _ mm_87) hK hP hD hS hA (n := 4) (k := 40) (N' := 4) (K' := 40) (by decide) (by decide) (by decide) (by decide) (Nat.le_of_ble_eq_true rfl) (Nat.le_of_ble_eq_true rfl) (Nat.le_of_ble_eq_true rfl) (Nat.le_of_ble_eq_true rfl) (Nat.le_of_ble_eq_true rfl) dX1_init_23 (fun q1 H hP hD hS => ?_)
  refine W.widen (k := 5) (n := 164) (Nat.le_of_ble_eq_true rfl) (Nat.le_of_ble_eq_true rfl) ?_
  have hP : zP g [(h0, .inr (1, [.int (-1), .int 0, .int 0, .null, .null, .null, .null])), (q1, .inl (g.2 7, 4, .inr (.inr (.inr (.inr (zS [some (q1 + 1 + 0), some (q1 + 1 + 1), some (q1 + 1 + 2), some (q1 + 1 + 3)])))))), ((q1 + 1 + 0), .inl (g.2 0, 40, .inl (fun _ => 0))), ((q1 + 1 + 1), .inl (g.2 0, 40, .inl (fun _ => 0))), ((q1 + 1 + 2), .inl (g.2 0, 40, .inl (fun _ => 0))), ((q1 + 1 + 3), .inl (g.2 0, 40, .inl (fun _ => 0)))] H := hP
  have hD : va_D A [(h0, .inr (1, [.int (-1), .int 0, .int 0, .null, .null, .null, .null])), (q1, .inl (g.2 7, 4, .inr (.inr (.inr (.inr (zS [some (q1 + 1 + 0), some (q1 + 1 + 1), some (q1 + 1 + 2), some (q1 + 1 + 3)])))))), ((q1 + 1 + 0), .inl (g.2 0, 40, .inl (fun _ => 0))), ((q1 + 1 + 1), .inl (g.2 0, 40, .inl (fun _ => 0))), ((q1 + 1 + 2), .inl (g.2 0, 40, .inl (fun _ => 0))), ((q1 + 1 + 3), .inl (g.2 0, 40, .inl (fun _ => 0)))] := hD
  refine va_putF (D := g.1) (ci := 1) (v := .ref q1) (ty := .array (.array (.int))) (C := RX1) (T := TX1) (N := 7) hx hb hg inG1 tyX1 tyX1_ok nmX1 hown hK hP hD hS 0 rfl rfl 3 (by decide) (hg _ mm_190) (fun _ h9 => h9) rfl hin rfl (by decide +kernel) rfl rfl (Nat.le_of_ble_eq_true rfl) dX1_init_27 (fun H locs hP hD hS => ?_)
  have hP : zP g [(h0, .inr (1, [.int (-1), .int 0, .int 0, .ref q1, .null, .null, .null])), (q1, .inl (g.2 7, 4, .inr (.inr (.inr (.inr (zS [some (q1 + 1 + 0), some (q1 + 1 + 1), some (q1 + 1 + 2), some (q1 + 1 + 3)])))))), ((q1 + 1 + 0), .inl (g.2 0, 40, .inl (fun _ => 0))), ((q1 + 1 + 1), .inl (g.2 0, 40, .inl (fun _ => 0))), ((q1 + 1 + 2), .inl (g.2 0, 40, .inl (fun _ => 0))), ((q1 + 1 + 3), .inl (g.2 0, 40, .inl (fun _ => 0)))] H := hP
  have hD : va_D A [(h0, .inr (1, [.int (-1), .int 0, .int 0, .ref q1, .null, .null, .null])), (q1, .inl (g.2 7, 4, .inr (.inr (.inr (.inr (zS [some (q1 + 1 + 0), some (q1 + 1 + 1), some (q1 + 1 + 2), some (q1 + 1 + 3)])))))), ((q1 + 1 + 0), .inl (g.2 0, 40, .inl (fun _ => 0))), ((q1 + 1 + 1), .inl (g.2 0, 40, .inl (fun _ => 0))), ((q1 + 1 + 2), .inl (g.2 0, 40, .inl (fun _ => 0))), ((q1 + 1 + 3), .inl (g.2 0, 40, .inl (fun _ => 0)))] := hD
  refine lv_aload_n hx hb dX1_init_30 rfl (lv_at hl 0 rfl) ?_
  refine lv_iconst (v := 4) hx hb dX1_init_31 (by decide) ?_
  refine lv_bipush (v := 40) hx hb dX1_init_32 (by decide) ?_
  refine z_mna hx hb hown (hg _ mm_182) hN (hg _ mm_87) hK hP hD hS hA (n := 4) (k := 40) (N' := 4) (K' := 40) (by decide) (by decide) (by decide) (by decide) (Nat.le_of_ble_eq_true rfl) (Nat.le_of_ble_eq_true rfl) (Nat.le_of_ble_eq_true rfl) (Nat.le_of_ble_eq_true rfl) (Nat.le_of_ble_eq_true rfl) dX1_init_34 (fun q2 H hP hD hS => ?_)
  refine W.widen (k := 10) (n := 328) (Nat.le_of_ble_eq_true rfl) (Nat.le_of_ble_eq_true rfl) ?_
  have hP : zP g [(h0, .inr (1, [.int (-1), .int 0, .int 0, .ref q1, .null, .null, .null])), (q1, .inl (g.2 7, 4, .inr (.inr (.inr (.inr (zS [some (q1 + 1 + 0), some (q1 + 1 + 1), some (q1 + 1 + 2), some (q1 + 1 + 3)])))))), ((q1 + 1 + 0), .inl (g.2 0, 40, .inl (fun _ => 0))), ((q1 + 1 + 1), .inl (g.2 0, 40, .inl (fun _ => 0))), ((q1 + 1 + 2), .inl (g.2 0, 40, .inl (fun _ => 0))), ((q1 + 1 + 3), .inl (g.2 0, 40, .inl (fun _ => 0))), (q2, .inl (g.2 7, 4, .inr (.inr (.inr (.inr (zS [some (q2 + 1 + 0), some (q2 + 1 + 1), some (q2 + 1 + 2), some (q2 + 1 + 3)])))))), ((q2 + 1 + 0), .inl (g.2 0, 40, .inl (fun _ => 0))), ((q2 + 1 + 1), .inl (g.2 0, 40, .inl (fun _ => 0))), ((q2 + 1 + 2), .inl (g.2 0, 40, .inl (fun _ => 0))), ((q2 + 1 + 3), .inl (g.2 0, 40, .inl (fun _ => 0)))] H := hP
  have hD : va_D A [(h0, .inr (1, [.int (-1), .int 0, .int 0, .ref q1, .null, .null, .null])), (q1, .inl (g.2 7, 4, .inr (.inr (.inr (.inr (zS [some (q1 + 1 + 0), some (q1 + 1 + 1), some (q1 + 1 + 2), some (q1 + 1 + 3)])))))), ((q1 + 1 + 0), .inl (g.2 0, 40, .inl (fun _ => 0))), ((q1 + 1 + 1), .inl (g.2 0, 40, .inl (fun _ => 0))), ((q1 + 1 + 2), .inl (g.2 0, 40, .inl (fun _ => 0))), ((q1 + 1 + 3), .inl (g.2 0, 40, .inl (fun _ => 0))), (q2, .inl (g.2 7, 4, .inr (.inr (.inr (.inr (zS [some (q2 + 1 + 0), some (q2 + 1 + 1), some (q2 + 1 + 2), some (q2 + 1 + 3)])))))), ((q2 + 1 + 0), .inl (g.2 0, 40, .inl (fun _ => 0))), ((q2 + 1 + 1), .inl (g.2 0, 40, .inl (fun _ => 0))), ((q2 + 1 + 2), .inl (g.2 0, 40, .inl (fun _ => 0))), ((q2 + 1 + 3), .inl (g.2 0, 40, .inl (fun _ => 0)))] := hD
  refine va_putF (D := g.1) (ci := 1) (v := .ref q2) (ty := .array (.array (.int))) (C := RX1) (T := TX1) (N := 7) hx hb hg inG1 tyX1 tyX1_ok nmX1 hown hK hP hD hS 0 rfl rfl 4 (by decide) (hg _ mm_191) (fun _ h9 => h9) rfl hin rfl (by decide +kernel) rfl rfl (Nat.le_of_ble_eq_true rfl) dX1_init_38 (fun H locs hP hD hS => ?_)
  have hP : zP g [(h0, .inr (1, [.int (-1), .int 0, .int 0, .ref q1, .ref q2, .null, .null])), (q1, .inl (g.2 7, 4, .inr (.inr (.inr (.inr (zS [some (q1 + 1 + 0), some (q1 + 1 + 1), some (q1 + 1 + 2), some (q1 + 1 + 3)])))))), ((q1 + 1 + 0), .inl (g.2 0, 40, .inl (fun _ => 0))), ((q1 + 1 + 1), .inl (g.2 0, 40, .inl (fun _ => 0))), ((q1 + 1 + 2), .inl (g.2 0, 40, .inl (fun _ => 0))), ((q1 + 1 + 3), .inl (g.2 0, 40, .inl (fun _ => 0))), (q2, .inl (g.2 7, 4, .inr (.inr (.inr (.inr (zS [some (q2 + 1 + 0), some (q2 + 1 + 1), some (q2 + 1 + 2), some (q2 + 1 + 3)])))))), ((q2 + 1 + 0), .inl (g.2 0, 40, .inl (fun _ => 0))), ((q2 + 1 + 1), .inl (g.2 0, 40, .inl (fun _ => 0))), ((q2 + 1 + 2), .inl (g.2 0, 40, .inl (fun _ => 0))), ((q2 + 1 + 3), .inl (g.2 0, 40, .inl (fun _ => 0)))] H := hP
  have hD : va_D A [(h0, .inr (1, [.int (-1), .int 0, .int 0, .ref q1, .ref q2, .null, .null])), (q1, .inl (g.2 7, 4, .inr (.inr (.inr (.inr (zS [some (q1 + 1 + 0), some (q1 + 1 + 1), some (q1 + 1 + 2), some (q1 + 1 + 3)])))))), ((q1 + 1 + 0), .inl (g.2 0, 40, .inl (fun _ => 0))), ((q1 + 1 + 1), .inl (g.2 0, 40, .inl (fun _ => 0))), ((q1 + 1 + 2), .inl (g.2 0, 40, .inl (fun _ => 0))), ((q1 + 1 + 3), .inl (g.2 0, 40, .inl (fun _ => 0))), (q2, .inl (g.2 7, 4, .inr (.inr (.inr (.inr (zS [some (q2 + 1 + 0), some (q2 + 1 + 1), some (q2 + 1 + 2), some (q2 + 1 + 3)])))))), ((q2 + 1 + 0), .inl (g.2 0, 40, .inl (fun _ => 0))), ((q2 + 1 + 1), .inl (g.2 0, 40, .inl (fun _ => 0))), ((q2 + 1 + 2), .inl (g.2 0, 40, .inl (fun _ => 0))), ((q2 + 1 + 3), .inl (g.2 0, 40, .inl (fun _ => 0)))] := hD
  refine lv_aload_n hx hb dX1_init_41 rfl (lv_at hl 0 rfl) ?_
  refine lv_iconst (v := 4) hx hb dX1_init_42 (by decide) ?_
  refine z_newI hx hb (hg _ mm_87) hK hP hD hS hA (n := 4) (N' := 4) (by decide) (by decide) (Nat.le_of_ble_eq_true rfl) (Nat.le_of_ble_eq_true rfl) (Nat.le_of_ble_eq_true rfl) dX1_init_43 (fun q3 H hP hD hS => ?_)
  refine W.widen (k := 11) (n := 332) (Nat.le_of_ble_eq_true rfl) (Nat.le_of_ble_eq_true rfl) ?_
  have hP : zP g [(h0, .inr (1, [.int (-1), .int 0, .int 0, .ref q1, .ref q2, .null, .null])), (q1, .inl (g.2 7, 4, .inr (.inr (.inr (.inr (zS [some (q1 + 1 + 0), some (q1 + 1 + 1), some (q1 + 1 + 2), some (q1 + 1 + 3)])))))), ((q1 + 1 + 0), .inl (g.2 0, 40, .inl (fun _ => 0))), ((q1 + 1 + 1), .inl (g.2 0, 40, .inl (fun _ => 0))), ((q1 + 1 + 2), .inl (g.2 0, 40, .inl (fun _ => 0))), ((q1 + 1 + 3), .inl (g.2 0, 40, .inl (fun _ => 0))), (q2, .inl (g.2 7, 4, .inr (.inr (.inr (.inr (zS [some (q2 + 1 + 0), some (q2 + 1 + 1), some (q2 + 1 + 2), some (q2 + 1 + 3)])))))), ((q2 + 1 + 0), .inl (g.2 0, 40, .inl (fun _ => 0))), ((q2 + 1 + 1), .inl (g.2 0, 40, .inl (fun _ => 0))), ((q2 + 1 + 2), .inl (g.2 0, 40, .inl (fun _ => 0))), ((q2 + 1 + 3), .inl (g.2 0, 40, .inl (fun _ => 0))), (q3, .inl (g.2 0, 4, .inl (fun _ => 0)))] H := hP
  have hD : va_D A [(h0, .inr (1, [.int (-1), .int 0, .int 0, .ref q1, .ref q2, .null, .null])), (q1, .inl (g.2 7, 4, .inr (.inr (.inr (.inr (zS [some (q1 + 1 + 0), some (q1 + 1 + 1), some (q1 + 1 + 2), some (q1 + 1 + 3)])))))), ((q1 + 1 + 0), .inl (g.2 0, 40, .inl (fun _ => 0))), ((q1 + 1 + 1), .inl (g.2 0, 40, .inl (fun _ => 0))), ((q1 + 1 + 2), .inl (g.2 0, 40, .inl (fun _ => 0))), ((q1 + 1 + 3), .inl (g.2 0, 40, .inl (fun _ => 0))), (q2, .inl (g.2 7, 4, .inr (.inr (.inr (.inr (zS [some (q2 + 1 + 0), some (q2 + 1 + 1), some (q2 + 1 + 2), some (q2 + 1 + 3)])))))), ((q2 + 1 + 0), .inl (g.2 0, 40, .inl (fun _ => 0))), ((q2 + 1 + 1), .inl (g.2 0, 40, .inl (fun _ => 0))), ((q2 + 1 + 2), .inl (g.2 0, 40, .inl (fun _ => 0))), ((q2 + 1 + 3), .inl (g.2 0, 40, .inl (fun _ => 0))), (q3, .inl (g.2 0, 4, .inl (fun _ => 0)))] := hD
  refine va_putF (D := g.1) (ci := 1) (v := .ref q3) (ty := .array (.int)) (C := RX1) (T := TX1) (N := 7) hx hb hg inG1 tyX1 tyX1_ok nmX1 hown hK hP hD hS 0 rfl rfl 5 (by decide) (hg _ mm_192) (fun _ h9 => h9) rfl hin rfl (by decide +kernel) rfl rfl (Nat.le_of_ble_eq_true rfl) dX1_init_45 (fun H locs hP hD hS => ?_)
  have hP : zP g [(h0, .inr (1, [.int (-1), .int 0, .int 0, .ref q1, .ref q2, .ref q3, .null])), (q1, .inl (g.2 7, 4, .inr (.inr (.inr (.inr (zS [some (q1 + 1 + 0), some (q1 + 1 + 1), some (q1 + 1 + 2), some (q1 + 1 + 3)])))))), ((q1 + 1 + 0), .inl (g.2 0, 40, .inl (fun _ => 0))), ((q1 + 1 + 1), .inl (g.2 0, 40, .inl (fun _ => 0))), ((q1 + 1 + 2), .inl (g.2 0, 40, .inl (fun _ => 0))), ((q1 + 1 + 3), .inl (g.2 0, 40, .inl (fun _ => 0))), (q2, .inl (g.2 7, 4, .inr (.inr (.inr (.inr (zS [some (q2 + 1 + 0), some (q2 + 1 + 1), some (q2 + 1 + 2), some (q2 + 1 + 3)])))))), ((q2 + 1 + 0), .inl (g.2 0, 40, .inl (fun _ => 0))), ((q2 + 1 + 1), .inl (g.2 0, 40, .inl (fun _ => 0))), ((q2 + 1 + 2), .inl (g.2 0, 40, .inl (fun _ => 0))), ((q2 + 1 + 3), .inl (g.2 0, 40, .inl (fun _ => 0))), (q3, .inl (g.2 0, 4, .inl (fun _ => 0)))] H := hP
  have hD : va_D A [(h0, .inr (1, [.int (-1), .int 0, .int 0, .ref q1, .ref q2, .ref q3, .null])), (q1, .inl (g.2 7, 4, .inr (.inr (.inr (.inr (zS [some (q1 + 1 + 0), some (q1 + 1 + 1), some (q1 + 1 + 2), some (q1 + 1 + 3)])))))), ((q1 + 1 + 0), .inl (g.2 0, 40, .inl (fun _ => 0))), ((q1 + 1 + 1), .inl (g.2 0, 40, .inl (fun _ => 0))), ((q1 + 1 + 2), .inl (g.2 0, 40, .inl (fun _ => 0))), ((q1 + 1 + 3), .inl (g.2 0, 40, .inl (fun _ => 0))), (q2, .inl (g.2 7, 4, .inr (.inr (.inr (.inr (zS [some (q2 + 1 + 0), some (q2 + 1 + 1), some (q2 + 1 + 2), some (q2 + 1 + 3)])))))), ((q2 + 1 + 0), .inl (g.2 0, 40, .inl (fun _ => 0))), ((q2 + 1 + 1), .inl (g.2 0, 40, .inl (fun _ => 0))), ((q2 + 1 + 2), .inl (g.2 0, 40, .inl (fun _ => 0))), ((q2 + 1 + 3), .inl (g.2 0, 40, .inl (fun _ => 0))), (q3, .inl (g.2 0, 4, .inl (fun _ => 0)))] := hD
  refine lv_aload_n hx hb dX1_init_48 rfl (lv_at hl 0 rfl) ?_
  refine lv_iconst (v := 4) hx hb dX1_init_49 (by decide) ?_
  refine z_newI hx hb (hg _ mm_87) hK hP hD hS hA (n := 4) (N' := 4) (by decide) (by decide) (Nat.le_of_ble_eq_true rfl) (Nat.le_of_ble_eq_true rfl) (Nat.le_of_ble_eq_true rfl) dX1_init_50 (fun q4 H hP hD hS => ?_)
  refine W.widen (k := 12) (n := 336) (Nat.le_of_ble_eq_true rfl) (Nat.le_of_ble_eq_true rfl) ?_
  have hP : zP g [(h0, .inr (1, [.int (-1), .int 0, .int 0, .ref q1, .ref q2, .ref q3, .null])), (q1, .inl (g.2 7, 4, .inr (.inr (.inr (.inr (zS [some (q1 + 1 + 0), some (q1 + 1 + 1), some (q1 + 1 + 2), some (q1 + 1 + 3)])))))), ((q1 + 1 + 0), .inl (g.2 0, 40, .inl (fun _ => 0))), ((q1 + 1 + 1), .inl (g.2 0, 40, .inl (fun _ => 0))), ((q1 + 1 + 2), .inl (g.2 0, 40, .inl (fun _ => 0))), ((q1 + 1 + 3), .inl (g.2 0, 40, .inl (fun _ => 0))), (q2, .inl (g.2 7, 4, .inr (.inr (.inr (.inr (zS [some (q2 + 1 + 0), some (q2 + 1 + 1), some (q2 + 1 + 2), some (q2 + 1 + 3)])))))), ((q2 + 1 + 0), .inl (g.2 0, 40, .inl (fun _ => 0))), ((q2 + 1 + 1), .inl (g.2 0, 40, .inl (fun _ => 0))), ((q2 + 1 + 2), .inl (g.2 0, 40, .inl (fun _ => 0))), ((q2 + 1 + 3), .inl (g.2 0, 40, .inl (fun _ => 0))), (q3, .inl (g.2 0, 4, .inl (fun _ => 0))), (q4, .inl (g.2 0, 4, .inl (fun _ => 0)))] H := hP
  have hD : va_D A [(h0, .inr (1, [.int (-1), .int 0, .int 0, .ref q1, .ref q2, .ref q3, .null])), (q1, .inl (g.2 7, 4, .inr (.inr (.inr (.inr (zS [some (q1 + 1 + 0), some (q1 + 1 + 1), some (q1 + 1 + 2), some (q1 + 1 + 3)])))))), ((q1 + 1 + 0), .inl (g.2 0, 40, .inl (fun _ => 0))), ((q1 + 1 + 1), .inl (g.2 0, 40, .inl (fun _ => 0))), ((q1 + 1 + 2), .inl (g.2 0, 40, .inl (fun _ => 0))), ((q1 + 1 + 3), .inl (g.2 0, 40, .inl (fun _ => 0))), (q2, .inl (g.2 7, 4, .inr (.inr (.inr (.inr (zS [some (q2 + 1 + 0), some (q2 + 1 + 1), some (q2 + 1 + 2), some (q2 + 1 + 3)])))))), ((q2 + 1 + 0), .inl (g.2 0, 40, .inl (fun _ => 0))), ((q2 + 1 + 1), .inl (g.2 0, 40, .inl (fun _ => 0))), ((q2 + 1 + 2), .inl (g.2 0, 40, .inl (fun _ => 0))), ((q2 + 1 + 3), .inl (g.2 0, 40, .inl (fun _ => 0))), (q3, .inl (g.2 0, 4, .inl (fun _ => 0))), (q4, .inl (g.2 0, 4, .inl (fun _ => 0)))] := hD
  refine va_putF (D := g.1) (ci := 1) (v := .ref q4) (ty := .array (.int)) (C := RX1) (T := TX1) (N := 7) hx hb hg inG1 tyX1 tyX1_ok nmX1 hown hK hP hD hS 0 rfl rfl 6 (by decide) (hg _ mm_193) (fun _ h9 => h9) rfl hin rfl (by decide +kernel) rfl rfl (Nat.le_of_ble_eq_true rfl) dX1_init_52 (fun H locs hP hD hS => ?_)
  have hP : zP g [(h0, .inr (1, [.int (-1), .int 0, .int 0, .ref q1, .ref q2, .ref q3, .ref q4])), (q1, .inl (g.2 7, 4, .inr (.inr (.inr (.inr (zS [some (q1 + 1 + 0), some (q1 + 1 + 1), some (q1 + 1 + 2), some (q1 + 1 + 3)])))))), ((q1 + 1 + 0), .inl (g.2 0, 40, .inl (fun _ => 0))), ((q1 + 1 + 1), .inl (g.2 0, 40, .inl (fun _ => 0))), ((q1 + 1 + 2), .inl (g.2 0, 40, .inl (fun _ => 0))), ((q1 + 1 + 3), .inl (g.2 0, 40, .inl (fun _ => 0))), (q2, .inl (g.2 7, 4, .inr (.inr (.inr (.inr (zS [some (q2 + 1 + 0), some (q2 + 1 + 1), some (q2 + 1 + 2), some (q2 + 1 + 3)])))))), ((q2 + 1 + 0), .inl (g.2 0, 40, .inl (fun _ => 0))), ((q2 + 1 + 1), .inl (g.2 0, 40, .inl (fun _ => 0))), ((q2 + 1 + 2), .inl (g.2 0, 40, .inl (fun _ => 0))), ((q2 + 1 + 3), .inl (g.2 0, 40, .inl (fun _ => 0))), (q3, .inl (g.2 0, 4, .inl (fun _ => 0))), (q4, .inl (g.2 0, 4, .inl (fun _ => 0)))] H := hP
  have hD : va_D A [(h0, .inr (1, [.int (-1), .int 0, .int 0, .ref q1, .ref q2, .ref q3, .ref q4])), (q1, .inl (g.2 7, 4, .inr (.inr (.inr (.inr (zS [some (q1 + 1 + 0), some (q1 + 1 + 1), some (q1 + 1 + 2), some (q1 + 1 + 3)])))))), ((q1 + 1 + 0), .inl (g.2 0, 40, .inl (fun _ => 0))), ((q1 + 1 + 1), .inl (g.2 0, 40, .inl (fun _ => 0))), ((q1 + 1 + 2), .inl (g.2 0, 40, .inl (fun _ => 0))), ((q1 + 1 + 3), .inl (g.2 0, 40, .inl (fun _ => 0))), (q2, .inl (g.2 7, 4, .inr (.inr (.inr (.inr (zS [some (q2 + 1 + 0), some (q2 + 1 + 1), some (q2 + 1 + 2), some (q2 + 1 + 3)])))))), ((q2 + 1 + 0), .inl (g.2 0, 40, .inl (fun _ => 0))), ((q2 + 1 + 1), .inl (g.2 0, 40, .inl (fun _ => 0))), ((q2 + 1 + 2), .inl (g.2 0, 40, .inl (fun _ => 0))), ((q2 + 1 + 3), .inl (g.2 0, 40, .inl (fun _ => 0))), (q3, .inl (g.2 0, 4, .inl (fun _ => 0))), (q4, .inl (g.2 0, 4, .inl (fun _ => 0)))] := hD
  have hP9 := hP.sub (ws' := [(h0, .inr (1, [.int (-1), .int 0, .int 0, .ref q1, .ref q2, .ref q3, .ref q4])), (q1, .inl (g.2 7, 4, .inr (.inr (.inr (.inr (zS [some (q1 + 1 + 0), some (q1 + 1 + 1), some (q1 + 1 + 2), some (q1 + 1 + 3)])))))), (q2, .inl (g.2 7, 4, .inr (.inr (.inr (.inr (zS [some (q2 + 1 + 0), some (q2 + 1 + 1), some (q2 + 1 + 2), some (q2 + 1 + 3)])))))), ((q1 + 1 + 0), .inl (g.2 0, 40, .inl (fun _ => 0))), ((q1 + 1 + 1), .inl (g.2 0, 40, .inl (fun _ => 0))), ((q1 + 1 + 2), .inl (g.2 0, 40, .inl (fun _ => 0))), ((q1 + 1 + 3), .inl (g.2 0, 40, .inl (fun _ => 0))), ((q2 + 1 + 0), .inl (g.2 0, 40, .inl (fun _ => 0))), ((q2 + 1 + 1), .inl (g.2 0, 40, .inl (fun _ => 0))), ((q2 + 1 + 2), .inl (g.2 0, 40, .inl (fun _ => 0))), ((q2 + 1 + 3), .inl (g.2 0, 40, .inl (fun _ => 0))), (q3, .inl (g.2 0, 4, .inl (fun _ => 0))), (q4, .inl (g.2 0, 4, .inl (fun _ => 0)))]) [0, 1, 6, 2, 3, 4, 5, 7, 8, 9, 10, 11, 12] rfl
  have hD9 := hD.sub (ws' := [(h0, .inr (1, [.int (-1), .int 0, .int 0, .ref q1, .ref q2, .ref q3, .ref q4])), (q1, .inl (g.2 7, 4, .inr (.inr (.inr (.inr (zS [some (q1 + 1 + 0), some (q1 + 1 + 1), some (q1 + 1 + 2), some (q1 + 1 + 3)])))))), (q2, .inl (g.2 7, 4, .inr (.inr (.inr (.inr (zS [some (q2 + 1 + 0), some (q2 + 1 + 1), some (q2 + 1 + 2), some (q2 + 1 + 3)])))))), ((q1 + 1 + 0), .inl (g.2 0, 40, .inl (fun _ => 0))), ((q1 + 1 + 1), .inl (g.2 0, 40, .inl (fun _ => 0))), ((q1 + 1 + 2), .inl (g.2 0, 40, .inl (fun _ => 0))), ((q1 + 1 + 3), .inl (g.2 0, 40, .inl (fun _ => 0))), ((q2 + 1 + 0), .inl (g.2 0, 40, .inl (fun _ => 0))), ((q2 + 1 + 1), .inl (g.2 0, 40, .inl (fun _ => 0))), ((q2 + 1 + 2), .inl (g.2 0, 40, .inl (fun _ => 0))), ((q2 + 1 + 3), .inl (g.2 0, 40, .inl (fun _ => 0))), (q3, .inl (g.2 0, 4, .inl (fun _ => 0))), (q4, .inl (g.2 0, 4, .inl (fun _ => 0)))]) [0, 1, 6, 2, 3, 4, 5, 7, 8, 9, 10, 11, 12] (by decide) rfl
  refine W.widen (k := 12) (n := 336) (Nat.le_of_ble_eq_true rfl) (Nat.le_of_ble_eq_true rfl) ?_
  exact W.vret hx hb hr (fun t ht hW => ⟨⟨(), rfl, trivial, ⟨q1, q2, q3, q4, (q1 + 1 + 0), (q1 + 1 + 1), (q1 + 1 + 2), (q1 + 1 + 3), (q2 + 1 + 0), (q2 + 1 + 1), (q2 + 1 + 2), (q2 + 1 + 3), by rw [ht]; exact hP9, hD9⟩⟩, hS.F ht⟩) hS.2.2 dX1_init_55

set_option maxHeartbeats 4000000 in
set_option maxRecDepth 100000 in
theorem c_X4_init (l : Launch) (g : zG) (sz : Nat) (h0 : Nat) : Met l yX4_init (zW yX4_init cX4_init 1 none) ({ frames := 1, cells := 2, slots := 107, locals := 12 }) (va_Pc [.ref h0] (zA g [(h0, .inr (4, [.int 0, .int 0, .int 0, .int 0, .int 0, .int 0, .null, .null, .int 0, .int 0, .int 0]))] sz)) (va_Qv (fun (_ : Unit) => True) (fun _ t => ∃ (a1 : Nat), ∃ (a2 : Nat), zP g [(h0, .inr (4, [.int 0, .int (-1), .int 0, .int 0, .int 0, .int (-1), .ref a1, .ref a2, .int 0, .int 0, .int 0])), (a1, .inl (g.2 0, 7, .inl (fun _ => 0))), (a2, .inl (g.2 0, 100, .inl (fun _ => 0)))] t.heap ∧ va_D (va_A [(h0, .inr (4, [.int 0, .int 0, .int 0, .int 0, .int 0, .int 0, .null, .null, .int 0, .int 0, .int 0]))] sz) [(h0, .inr (4, [.int 0, .int (-1), .int 0, .int 0, .int 0, .int (-1), .ref a1, .ref a2, .int 0, .int 0, .int 0])), (a1, .inl (g.2 0, 7, .inl (fun _ => 0))), (a2, .inl (g.2 0, 100, .inl (fun _ => 0)))]) (va_A [(h0, .inr (4, [.int 0, .int 0, .int 0, .int 0, .int 0, .int 0, .null, .null, .int 0, .int 0, .int 0]))] sz)) 2 107 (va_A [(h0, .inr (4, [.int 0, .int 0, .int 0, .int 0, .int 0, .int 0, .null, .null, .int 0, .int 0, .int 0]))] sz) := by
  refine Met.ofW (cc := cX4_init) (maxL := 1) (ret := none) (by decide) rfl ?_
  intro p e s m args below meth c s₁ B hml hv
  obtain ⟨rfl, hsz, hP, hK, hD0, hN⟩ := hv
  have hx := B.exec
  have hb := B.bytes
  have hr := B.returns
  have hg := zW.law (atoms_spec (ws := (zW yX4_init cX4_init 1 none)) B.pre)
  have hown : s.vm.findClass RX4 = some m.cls := findClass_of_methodNamed B.named
  have hlocks := B.notSynchronized
  have hin : meth.name = "<init>" := (name_of_methodNamed B.named B.method).1
  subst hsz
  have hD := hD0.self (sz := s.heap.size)
  generalize hAe : va_A [(h0, .inr (4, [.int 0, .int 0, .int 0, .int 0, .int 0, .int 0, .null, .null, .int 0, .int 0, .int 0]))] s.heap.size = A at hD ⊢
  have hA : ∀ q : Nat, s.heap.size ≤ q → A q := fun q h => by rw [← hAe]; exact Or.inr h
  have hS : va_S A s.heap s.heap [] := va_S.rf
  have hl := lv_entry ([.ref h0]) (n := 1) (Nat.le_of_ble_eq_true rfl)
  rw [lg_entry_eq]
  generalize (lg_sl ([.ref h0]) ++ List.replicate (1 - (lg_sl ([.ref h0])).length) Slot.unset).toArray = ls at hl ⊢
  have hl : lv_has ls 1 [(0, .ref h0)] := hl
  refine lv_aload_n hx hb dX4_init_0 rfl (lv_at hl 0 rfl) ?_
  refine W.objInit hx hb hown (hg _ mm_213) (hg _ mm_69) (hg _ mm_70) rfl (by rw [hml]; exact hl.1) rfl dX4_init_1 (Nat.le_of_ble_eq_true rfl) (Nat.le_of_ble_eq_true rfl) ?_
  refine W.eq (g2 := F0 m 4 ls []) rfl ?_
  refine lv_aload_n hx hb dX4_init_4 rfl (lv_at hl 0 rfl) ?_
  refine lv_iconst (v := 0) hx hb dX4_init_5 (by decide) ?_
  refine va_put (D := g.1) (ci := 4) (v := .int 0) (ty := .boolean) (C := RX4) (T := TX4) (N := 11) hx hb hg inG4 tyX4 tyX4_ok nmX4 hown hK hP hD hS 0 rfl rfl 0 (by decide) (hg _ mm_214) (fun _ h9 => h9) rfl (by decide +kernel) rfl rfl (Nat.le_of_ble_eq_true rfl) dX4_init_6 (fun H locs hP hD hS => ?_)
  have hP : zP g [(h0, .inr (4, [.int 0, .int 0, .int 0, .int 0, .int 0, .int 0, .null, .null, .int 0, .int 0, .int 0]))] H := hP
  have hD : va_D A [(h0, .inr (4, [.int 0, .int 0, .int 0, .int 0, .int 0, .int 0, .null, .null, .int 0, .int 0, .int 0]))] := hD
  refine lv_aload_n hx hb dX4_init_9 rfl (lv_at hl 0 rfl) ?_
  refine lv_iconst (v := (-1)) hx hb dX4_init_10 (by decide) ?_
  refine va_put (D := g.1) (ci := 4) (v := .int (-1)) (ty := .int) (C := RX4) (T := TX4) (N := 11) hx hb hg inG4 tyX4 tyX4_ok nmX4 hown hK hP hD hS 0 rfl rfl 1 (by decide) (hg _ mm_216) (fun _ h9 => h9) rfl (by decide +kernel) rfl rfl (Nat.le_of_ble_eq_true rfl) dX4_init_11 (fun H locs hP hD hS => ?_)
  have hP : zP g [(h0, .inr (4, [.int 0, .int (-1), .int 0, .int 0, .int 0, .int 0, .null, .null, .int 0, .int 0, .int 0]))] H := hP
  have hD : va_D A [(h0, .inr (4, [.int 0, .int (-1), .int 0, .int 0, .int 0, .int 0, .null, .null, .int 0, .int 0, .int 0]))] := hD
  refine lv_aload_n hx hb dX4_init_14 rfl (lv_at hl 0 rfl) ?_
  refine lv_iconst (v := 0) hx hb dX4_init_15 (by decide) ?_
  refine va_put (D := g.1) (ci := 4) (v := .int 0) (ty := .int) (C := RX4) (T := TX4) (N := 11) hx hb hg inG4 tyX4 tyX4_ok nmX4 hown hK hP hD hS 0 rfl rfl 2 (by decide) (hg _ mm_218) (fun _ h9 => h9) rfl (by decide +kernel) rfl rfl (Nat.le_of_ble_eq_true rfl) dX4_init_16 (fun H locs hP hD hS => ?_)
  have hP : zP g [(h0, .inr (4, [.int 0, .int (-1), .int 0, .int 0, .int 0, .int 0, .null, .null, .int 0, .int 0, .int 0]))] H := hP
  have hD : va_D A [(h0, .inr (4, [.int 0, .int (-1), .int 0, .int 0, .int 0, .int 0, .null, .null, .int 0, .int 0, .int 0]))] := hD
  refine lv_aload_n hx hb dX4_init_19 rfl (lv_at hl 0 rfl) ?_
  refine lv_iconst (v := 0) hx hb dX4_init_20 (by decide) ?_
  refine va_put (D := g.1) (ci := 4) (v := .int 0) (ty := .int) (C := RX4) (T := TX4) (N := 11) hx hb hg inG4 tyX4 tyX4_ok nmX4 hown hK hP hD hS 0 rfl rfl 3 (by decide) (hg _ mm_220) (fun _ h9 => h9) rfl (by decide +kernel) rfl rfl (Nat.le_of_ble_eq_true rfl) dX4_init_21 (fun H locs hP hD hS => ?_)
  have hP : zP g [(h0, .inr (4, [.int 0, .int (-1), .int 0, .int 0, .int 0, .int 0, .null, .null, .int 0, .int 0, .int 0]))] H := hP
  have hD : va_D A [(h0, .inr (4, [.int 0, .int (-1), .int 0, .int 0, .int 0, .int 0, .null, .null, .int 0, .int 0, .int 0]))] := hD
  refine lv_aload_n hx hb dX4_init_24 rfl (lv_at hl 0 rfl) ?_
  refine lv_iconst (v := 0) hx hb dX4_init_25 (by decide) ?_
  refine va_put (D := g.1) (ci := 4) (v := .int 0) (ty := .int) (C := RX4) (T := TX4) (N := 11) hx hb hg inG4 tyX4 tyX4_ok nmX4 hown hK hP hD hS 0 rfl rfl 4 (by decide) (hg _ mm_222) (fun _ h9 => h9) rfl (by decide +kernel) rfl rfl (Nat.le_of_ble_eq_true rfl) dX4_init_26 (fun H locs hP hD hS => ?_)
  have hP : zP g [(h0, .inr (4, [.int 0, .int (-1), .int 0, .int 0, .int 0, .int 0, .null, .null, .int 0, .int 0, .int 0]))] H := hP
  have hD : va_D A [(h0, .inr (4, [.int 0, .int (-1), .int 0, .int 0, .int 0, .int 0, .null, .null, .int 0, .int 0, .int 0]))] := hD
  refine lv_aload_n hx hb dX4_init_29 rfl (lv_at hl 0 rfl) ?_
  refine lv_iconst (v := (-1)) hx hb dX4_init_30 (by decide) ?_
  refine va_put (D := g.1) (ci := 4) (v := .int (-1)) (ty := .int) (C := RX4) (T := TX4) (N := 11) hx hb hg inG4 tyX4 tyX4_ok nmX4 hown hK hP hD hS 0 rfl rfl 5 (by decide) (hg _ mm_224) (fun _ h9 => h9) rfl (by decide +kernel) rfl rfl (Nat.le_of_ble_eq_true rfl) dX4_init_31 (fun H locs hP hD hS => ?_)
  have hP : zP g [(h0, .inr (4, [.int 0, .int (-1), .int 0, .int 0, .int 0, .int (-1), .null, .null, .int 0, .int 0, .int 0]))] H := hP
  have hD : va_D A [(h0, .inr (4, [.int 0, .int (-1), .int 0, .int 0, .int 0, .int (-1), .null, .null, .int 0, .int 0, .int 0]))] := hD
  refine lv_aload_n hx hb dX4_init_34 rfl (lv_at hl 0 rfl) ?_
  refine lv_bipush (v := 7) hx hb dX4_init_35 (by decide) ?_
  refine z_newI hx hb (hg _ mm_87) hK hP hD hS hA (n := 7) (N' := 7) (by decide) (by decide) (Nat.le_of_ble_eq_true rfl) (Nat.le_of_ble_eq_true rfl) (Nat.le_of_ble_eq_true rfl) dX4_init_37 (fun q1 H hP hD hS => ?_)
  refine W.widen (k := 1) (n := 7) (Nat.le_of_ble_eq_true rfl) (Nat.le_of_ble_eq_true rfl) ?_
  have hP : zP g [(h0, .inr (4, [.int 0, .int (-1), .int 0, .int 0, .int 0, .int (-1), .null, .null, .int 0, .int 0, .int 0])), (q1, .inl (g.2 0, 7, .inl (fun _ => 0)))] H := hP
  have hD : va_D A [(h0, .inr (4, [.int 0, .int (-1), .int 0, .int 0, .int 0, .int (-1), .null, .null, .int 0, .int 0, .int 0])), (q1, .inl (g.2 0, 7, .inl (fun _ => 0)))] := hD
  refine va_putF (D := g.1) (ci := 4) (v := .ref q1) (ty := .array (.int)) (C := RX4) (T := TX4) (N := 11) hx hb hg inG4 tyX4 tyX4_ok nmX4 hown hK hP hD hS 0 rfl rfl 6 (by decide) (hg _ mm_225) (fun _ h9 => h9) rfl hin rfl (by decide +kernel) rfl rfl (Nat.le_of_ble_eq_true rfl) dX4_init_39 (fun H locs hP hD hS => ?_)
  have hP : zP g [(h0, .inr (4, [.int 0, .int (-1), .int 0, .int 0, .int 0, .int (-1), .ref q1, .null, .int 0, .int 0, .int 0])), (q1, .inl (g.2 0, 7, .inl (fun _ => 0)))] H := hP
  have hD : va_D A [(h0, .inr (4, [.int 0, .int (-1), .int 0, .int 0, .int 0, .int (-1), .ref q1, .null, .int 0, .int 0, .int 0])), (q1, .inl (g.2 0, 7, .inl (fun _ => 0)))] := hD
  refine lv_aload_n hx hb dX4_init_42 rfl (lv_at hl 0 rfl) ?_
  refine lv_bipush (v := 100) hx hb dX4_init_43 (by decide) ?_
  refine z_newI hx hb (hg _ mm_87) hK hP hD hS hA (n := 100) (N' := 100) (by decide) (by decide) (Nat.le_of_ble_eq_true rfl) (Nat.le_of_ble_eq_true rfl) (Nat.le_of_ble_eq_true rfl) dX4_init_45 (fun q2 H hP hD hS => ?_)
  refine W.widen (k := 2) (n := 107) (Nat.le_of_ble_eq_true rfl) (Nat.le_of_ble_eq_true rfl) ?_
  have hP : zP g [(h0, .inr (4, [.int 0, .int (-1), .int 0, .int 0, .int 0, .int (-1), .ref q1, .null, .int 0, .int 0, .int 0])), (q1, .inl (g.2 0, 7, .inl (fun _ => 0))), (q2, .inl (g.2 0, 100, .inl (fun _ => 0)))] H := hP
  have hD : va_D A [(h0, .inr (4, [.int 0, .int (-1), .int 0, .int 0, .int 0, .int (-1), .ref q1, .null, .int 0, .int 0, .int 0])), (q1, .inl (g.2 0, 7, .inl (fun _ => 0))), (q2, .inl (g.2 0, 100, .inl (fun _ => 0)))] := hD
  refine va_putF (D := g.1) (ci := 4) (v := .ref q2) (ty := .array (.int)) (C := RX4) (T := TX4) (N := 11) hx hb hg inG4 tyX4 tyX4_ok nmX4 hown hK hP hD hS 0 rfl rfl 7 (by decide) (hg _ mm_226) (fun _ h9 => h9) rfl hin rfl (by decide +kernel) rfl rfl (Nat.le_of_ble_eq_true rfl) dX4_init_47 (fun H locs hP hD hS => ?_)
  have hP : zP g [(h0, .inr (4, [.int 0, .int (-1), .int 0, .int 0, .int 0, .int (-1), .ref q1, .ref q2, .int 0, .int 0, .int 0])), (q1, .inl (g.2 0, 7, .inl (fun _ => 0))), (q2, .inl (g.2 0, 100, .inl (fun _ => 0)))] H := hP
  have hD : va_D A [(h0, .inr (4, [.int 0, .int (-1), .int 0, .int 0, .int 0, .int (-1), .ref q1, .ref q2, .int 0, .int 0, .int 0])), (q1, .inl (g.2 0, 7, .inl (fun _ => 0))), (q2, .inl (g.2 0, 100, .inl (fun _ => 0)))] := hD
  refine lv_aload_n hx hb dX4_init_50 rfl (lv_at hl 0 rfl) ?_
  refine lv_iconst (v := 0) hx hb dX4_init_51 (by decide) ?_
  refine va_put (D := g.1) (ci := 4) (v := .int 0) (ty := .int) (C := RX4) (T := TX4) (N := 11) hx hb hg inG4 tyX4 tyX4_ok nmX4 hown hK hP hD hS 0 rfl rfl 8 (by decide) (hg _ mm_227) (fun _ h9 => h9) rfl (by decide +kernel) rfl rfl (Nat.le_of_ble_eq_true rfl) dX4_init_52 (fun H locs hP hD hS => ?_)
  have hP : zP g [(h0, .inr (4, [.int 0, .int (-1), .int 0, .int 0, .int 0, .int (-1), .ref q1, .ref q2, .int 0, .int 0, .int 0])), (q1, .inl (g.2 0, 7, .inl (fun _ => 0))), (q2, .inl (g.2 0, 100, .inl (fun _ => 0)))] H := hP
  have hD : va_D A [(h0, .inr (4, [.int 0, .int (-1), .int 0, .int 0, .int 0, .int (-1), .ref q1, .ref q2, .int 0, .int 0, .int 0])), (q1, .inl (g.2 0, 7, .inl (fun _ => 0))), (q2, .inl (g.2 0, 100, .inl (fun _ => 0)))] := hD
  refine lv_aload_n hx hb dX4_init_55 rfl (lv_at hl 0 rfl) ?_
  refine lv_iconst (v := 0) hx hb dX4_init_56 (by decide) ?_
  refine va_put (D := g.1) (ci := 4) (v := .int 0) (ty := .int) (C := RX4) (T := TX4) (N := 11) hx hb hg inG4 tyX4 tyX4_ok nmX4 hown hK hP hD hS 0 rfl rfl 9 (by decide) (hg _ mm_228) (fun _ h9 => h9) rfl (by decide +kernel) rfl rfl (Nat.le_of_ble_eq_true rfl) dX4_init_57 (fun H locs hP hD hS => ?_)
  have hP : zP g [(h0, .inr (4, [.int 0, .int (-1), .int 0, .int 0, .int 0, .int (-1), .ref q1, .ref q2, .int 0, .int 0, .int 0])), (q1, .inl (g.2 0, 7, .inl (fun _ => 0))), (q2, .inl (g.2 0, 100, .inl (fun _ => 0)))] H := hP
  have hD : va_D A [(h0, .inr (4, [.int 0, .int (-1), .int 0, .int 0, .int 0, .int (-1), .ref q1, .ref q2, .int 0, .int 0, .int 0])), (q1, .inl (g.2 0, 7, .inl (fun _ => 0))), (q2, .inl (g.2 0, 100, .inl (fun _ => 0)))] := hD
  refine lv_aload_n hx hb dX4_init_60 rfl (lv_at hl 0 rfl) ?_
  refine lv_iconst (v := 0) hx hb dX4_init_61 (by decide) ?_
  refine va_put (D := g.1) (ci := 4) (v := .int 0) (ty := .boolean) (C := RX4) (T := TX4) (N := 11) hx hb hg inG4 tyX4 tyX4_ok nmX4 hown hK hP hD hS 0 rfl rfl 10 (by decide) (hg _ mm_229) (fun _ h9 => h9) rfl (by decide +kernel) rfl rfl (Nat.le_of_ble_eq_true rfl) dX4_init_62 (fun H locs hP hD hS => ?_)
  have hP : zP g [(h0, .inr (4, [.int 0, .int (-1), .int 0, .int 0, .int 0, .int (-1), .ref q1, .ref q2, .int 0, .int 0, .int 0])), (q1, .inl (g.2 0, 7, .inl (fun _ => 0))), (q2, .inl (g.2 0, 100, .inl (fun _ => 0)))] H := hP
  have hD : va_D A [(h0, .inr (4, [.int 0, .int (-1), .int 0, .int 0, .int 0, .int (-1), .ref q1, .ref q2, .int 0, .int 0, .int 0])), (q1, .inl (g.2 0, 7, .inl (fun _ => 0))), (q2, .inl (g.2 0, 100, .inl (fun _ => 0)))] := hD
  have hP9 := hP.sub (ws' := [(h0, .inr (4, [.int 0, .int (-1), .int 0, .int 0, .int 0, .int (-1), .ref q1, .ref q2, .int 0, .int 0, .int 0])), (q1, .inl (g.2 0, 7, .inl (fun _ => 0))), (q2, .inl (g.2 0, 100, .inl (fun _ => 0)))]) [0, 1, 2] rfl
  have hD9 := hD.sub (ws' := [(h0, .inr (4, [.int 0, .int (-1), .int 0, .int 0, .int 0, .int (-1), .ref q1, .ref q2, .int 0, .int 0, .int 0])), (q1, .inl (g.2 0, 7, .inl (fun _ => 0))), (q2, .inl (g.2 0, 100, .inl (fun _ => 0)))]) [0, 1, 2] (by decide) rfl
  refine W.widen (k := 2) (n := 107) (Nat.le_of_ble_eq_true rfl) (Nat.le_of_ble_eq_true rfl) ?_
  exact W.vret hx hb hr (fun t ht hW => ⟨⟨(), rfl, trivial, ⟨q1, q2, by rw [ht]; exact hP9, hD9⟩⟩, hS.F ht⟩) hS.2.2 dX4_init_65

set_option maxHeartbeats 4000000 in
set_option maxRecDepth 100000 in
theorem c_X2_init (l : Launch) (g : zG) (sz : Nat) (h0 : Nat) : Met l yX2_init (zW yX2_init cX2_init 1 none) ({ frames := 1, cells := 10, slots := 48, locals := 12 }) (va_Pc [.ref h0] (zA g [(h0, .inr (2, [.int 0, .int 0, .int 0, .null, .null]))] sz)) (va_Qv (fun (_ : Unit) => True) (fun _ t => ∃ (a1 : Nat), ∃ (a2 : Nat), ∃ (n0 : Nat), ∃ (n1 : Nat), ∃ (n2 : Nat), ∃ (n3 : Nat), ∃ (n4 : Nat), ∃ (n5 : Nat), ∃ (n6 : Nat), ∃ (n7 : Nat), zP g [(h0, .inr (2, [.int 0, .int 0, .int 1, .ref a1, .ref a2])), (a1, .inl (g.2 0, 8, .inl (fun _ => 0))), (a2, .inl (g.2 7, 8, .inr (.inr (.inr (.inr (zS [some n0, some n1, some n2, some n3, some n4, some n5, some n6, some n7])))))), (n0, .inl (g.2 0, 4, .inl (fun _ => 0))), (n1, .inl (g.2 0, 4, .inl (fun _ => 0))), (n2, .inl (g.2 0, 4, .inl (fun _ => 0))), (n3, .inl (g.2 0, 4, .inl (fun _ => 0))), (n4, .inl (g.2 0, 4, .inl (fun _ => 0))), (n5, .inl (g.2 0, 4, .inl (fun _ => 0))), (n6, .inl (g.2 0, 4, .inl (fun _ => 0))), (n7, .inl (g.2 0, 4, .inl (fun _ => 0)))] t.heap ∧ va_D (va_A [(h0, .inr (2, [.int 0, .int 0, .int 0, .null, .null]))] sz) [(h0, .inr (2, [.int 0, .int 0, .int 1, .ref a1, .ref a2])), (a1, .inl (g.2 0, 8, .inl (fun _ => 0))), (a2, .inl (g.2 7, 8, .inr (.inr (.inr (.inr (zS [some n0, some n1, some n2, some n3, some n4, some n5, some n6, some n7])))))), (n0, .inl (g.2 0, 4, .inl (fun _ => 0))), (n1, .inl (g.2 0, 4, .inl (fun _ => 0))), (n2, .inl (g.2 0, 4, .inl (fun _ => 0))), (n3, .inl (g.2 0, 4, .inl (fun _ => 0))), (n4, .inl (g.2 0, 4, .inl (fun _ => 0))), (n5, .inl (g.2 0, 4, .inl (fun _ => 0))), (n6, .inl (g.2 0, 4, .inl (fun _ => 0))), (n7, .inl (g.2 0, 4, .inl (fun _ => 0)))]) (va_A [(h0, .inr (2, [.int 0, .int 0, .int 0, .null, .null]))] sz)) 10 48 (va_A [(h0, .inr (2, [.int 0, .int 0, .int 0, .null, .null]))] sz) := by
  refine Met.ofW (cc := cX2_init) (maxL := 1) (ret := none) (by decide) rfl ?_
  intro p e s m args below meth c s₁ B hml hv
  obtain ⟨rfl, hsz, hP, hK, hD0, hN⟩ := hv
  have hx := B.exec
  have hb := B.bytes
  have hr := B.returns
  have hg := zW.law (atoms_spec (ws := (zW yX2_init cX2_init 1 none)) B.pre)
  have hown : s.vm.findClass RX2 = some m.cls := findClass_of_methodNamed B.named
  have hlocks := B.notSynchronized
  have hin : meth.name = "<init>" := (name_of_methodNamed B.named B.method).1
  subst hsz
  have hD := hD0.self (sz := s.heap.size)
  generalize hAe : va_A [(h0, .inr (2, [.int 0, .int 0, .int 0, .null, .null]))] s.heap.size = A at hD ⊢
  have hA : ∀ q : Nat, s.heap.size ≤ q → A q := fun q h => by rw [← hAe]; exact Or.inr h
  have hS : va_S A s.heap s.heap [] := va_S.rf
  have hl := lv_entry ([.ref h0]) (n := 1) (Nat.le_of_ble_eq_true rfl)
  rw [lg_entry_eq]
  generalize (lg_sl ([.ref h0]) ++ List.replicate (1 - (lg_sl ([.ref h0])).length) Slot.unset).toArray = ls at hl ⊢
  have hl : lv_has ls 1 [(0, .ref h0)] := hl
  refine lv_aload_n hx hb dX2_init_0 rfl (lv_at hl 0 rfl) ?_
  refine W.objInit hx hb hown (hg _ mm_282) (hg _ mm_69) (hg _ mm_70) rfl (by rw [hml]; exact hl.1) rfl dX2_init_1 (Nat.le_of_ble_eq_true rfl) (Nat.le_of_ble_eq_true rfl) ?_
  refine W.eq (g2 := F0 m 4 ls []) rfl ?_
  refine lv_aload_n hx hb dX2_init_4 rfl (lv_at hl 0 rfl) ?_
  refine lv_iconst (v := 0) hx hb dX2_init_5 (by decide) ?_
  refine va_put (D := g.1) (ci := 2) (v := .int 0) (ty := .int) (C := RX2) (T := TX2) (N := 5) hx hb hg inG2 tyX2 tyX2_ok nmX2 hown hK hP hD hS 0 rfl rfl 0 (by decide) (hg _ mm_284) (fun _ h9 => h9) rfl (by decide +kernel) rfl rfl (Nat.le_of_ble_eq_true rfl) dX2_init_6 (fun H locs hP hD hS => ?_)
  have hP : zP g [(h0, .inr (2, [.int 0, .int 0, .int 0, .null, .null]))] H := hP
  have hD : va_D A [(h0, .inr (2, [.int 0, .int 0, .int 0, .null, .null]))] := hD
  refine lv_aload_n hx hb dX2_init_9 rfl (lv_at hl 0 rfl) ?_
  refine lv_iconst (v := 0) hx hb dX2_init_10 (by decide) ?_
  refine va_put (D := g.1) (ci := 2) (v := .int 0) (ty := .int) (C := RX2) (T := TX2) (N := 5) hx hb hg inG2 tyX2 tyX2_ok nmX2 hown hK hP hD hS 0 rfl rfl 1 (by decide) (hg _ mm_286) (fun _ h9 => h9) rfl (by decide +kernel) rfl rfl (Nat.le_of_ble_eq_true rfl) dX2_init_11 (fun H locs hP hD hS => ?_)
  have hP : zP g [(h0, .inr (2, [.int 0, .int 0, .int 0, .null, .null]))] H := hP
  have hD : va_D A [(h0, .inr (2, [.int 0, .int 0, .int 0, .null, .null]))] := hD
  refine lv_aload_n hx hb dX2_init_14 rfl (lv_at hl 0 rfl) ?_
  refine lv_iconst (v := 1) hx hb dX2_init_15 (by decide) ?_
  refine va_put (D := g.1) (ci := 2) (v := .int 1) (ty := .boolean) (C := RX2) (T := TX2) (N := 5) hx hb hg inG2 tyX2 tyX2_ok nmX2 hown hK hP hD hS 0 rfl rfl 2 (by decide) (hg _ mm_288) (fun _ h9 => h9) rfl (by decide +kernel) rfl rfl (Nat.le_of_ble_eq_true rfl) dX2_init_16 (fun H locs hP hD hS => ?_)
  have hP : zP g [(h0, .inr (2, [.int 0, .int 0, .int 1, .null, .null]))] H := hP
  have hD : va_D A [(h0, .inr (2, [.int 0, .int 0, .int 1, .null, .null]))] := hD
  refine lv_aload_n hx hb dX2_init_19 rfl (lv_at hl 0 rfl) ?_
  refine lv_bipush (v := 8) hx hb dX2_init_20 (by decide) ?_
  refine z_newI hx hb (hg _ mm_87) hK hP hD hS hA (n := 8) (N' := 8) (by decide) (by decide) (Nat.le_of_ble_eq_true rfl) (Nat.le_of_ble_eq_true rfl) (Nat.le_of_ble_eq_true rfl) dX2_init_22 (fun q1 H hP hD hS => ?_)
  refine W.widen (k := 1) (n := 8) (Nat.le_of_ble_eq_true rfl) (Nat.le_of_ble_eq_true rfl) ?_
  have hP : zP g [(h0, .inr (2, [.int 0, .int 0, .int 1, .null, .null])), (q1, .inl (g.2 0, 8, .inl (fun _ => 0)))] H := hP
  have hD : va_D A [(h0, .inr (2, [.int 0, .int 0, .int 1, .null, .null])), (q1, .inl (g.2 0, 8, .inl (fun _ => 0)))] := hD
  refine va_putF (D := g.1) (ci := 2) (v := .ref q1) (ty := .array (.int)) (C := RX2) (T := TX2) (N := 5) hx hb hg inG2 tyX2 tyX2_ok nmX2 hown hK hP hD hS 0 rfl rfl 3 (by decide) (hg _ mm_290) (fun _ h9 => h9) rfl hin rfl (by decide +kernel) rfl rfl (Nat.le_of_ble_eq_true rfl) dX2_init_24 (fun H locs hP hD hS => ?_)
  have hP : zP g [(h0, .inr (2, [.int 0, .int 0, .int 1, .ref q1, .null])), (q1, .inl (g.2 0, 8, .inl (fun _ => 0)))] H := hP
  have hD : va_D A [(h0, .inr (2, [.int 0, .int 0, .int 1, .ref q1, .null])), (q1, .inl (g.2 0, 8, .inl (fun _ => 0)))] := hD
  refine lv_aload_n hx hb dX2_init_27 rfl (lv_at hl 0 rfl) ?_
  refine lv_bipush (v := 8) hx hb dX2_init_28 (by decide) ?_
  refine lv_iconst (v := 4) hx hb dX2_init_30 (by decide) ?_
  refine z_mna hx hb hown (hg _ mm_283) hN (hg _ mm_87) hK hP hD hS hA (n := 8) (k := 4) (N' := 8) (K' := 4) (by decide) (by decide) (by decide) (by decide) (Nat.le_of_ble_eq_true rfl) (Nat.le_of_ble_eq_true rfl) (Nat.le_of_ble_eq_true rfl) (Nat.le_of_ble_eq_true rfl) (Nat.le_of_ble_eq_true rfl) dX2_init_31 (fun q2 H hP hD hS => ?_)
  refine W.widen (k := 10) (n := 48) (Nat.le_of_ble_eq_true rfl) (Nat.le_of_ble_eq_true rfl) ?_
  have hP : zP g [(h0, .inr (2, [.int 0, .int 0, .int 1, .ref q1, .null])), (q1, .inl (g.2 0, 8, .inl (fun _ => 0))), (q2, .inl (g.2 7, 8, .inr (.inr (.inr (.inr (zS [some (q2 + 1 + 0), some (q2 + 1 + 1), some (q2 + 1 + 2), some (q2 + 1 + 3), some (q2 + 1 + 4), some (q2 + 1 + 5), some (q2 + 1 + 6), some (q2 + 1 + 7)])))))), ((q2 + 1 + 0), .inl (g.2 0, 4, .inl (fun _ => 0))), ((q2 + 1 + 1), .inl (g.2 0, 4, .inl (fun _ => 0))), ((q2 + 1 + 2), .inl (g.2 0, 4, .inl (fun _ => 0))), ((q2 + 1 + 3), .inl (g.2 0, 4, .inl (fun _ => 0))), ((q2 + 1 + 4), .inl (g.2 0, 4, .inl (fun _ => 0))), ((q2 + 1 + 5), .inl (g.2 0, 4, .inl (fun _ => 0))), ((q2 + 1 + 6), .inl (g.2 0, 4, .inl (fun _ => 0))), ((q2 + 1 + 7), .inl (g.2 0, 4, .inl (fun _ => 0)))] H := hP
  have hD : va_D A [(h0, .inr (2, [.int 0, .int 0, .int 1, .ref q1, .null])), (q1, .inl (g.2 0, 8, .inl (fun _ => 0))), (q2, .inl (g.2 7, 8, .inr (.inr (.inr (.inr (zS [some (q2 + 1 + 0), some (q2 + 1 + 1), some (q2 + 1 + 2), some (q2 + 1 + 3), some (q2 + 1 + 4), some (q2 + 1 + 5), some (q2 + 1 + 6), some (q2 + 1 + 7)])))))), ((q2 + 1 + 0), .inl (g.2 0, 4, .inl (fun _ => 0))), ((q2 + 1 + 1), .inl (g.2 0, 4, .inl (fun _ => 0))), ((q2 + 1 + 2), .inl (g.2 0, 4, .inl (fun _ => 0))), ((q2 + 1 + 3), .inl (g.2 0, 4, .inl (fun _ => 0))), ((q2 + 1 + 4), .inl (g.2 0, 4, .inl (fun _ => 0))), ((q2 + 1 + 5), .inl (g.2 0, 4, .inl (fun _ => 0))), ((q2 + 1 + 6), .inl (g.2 0, 4, .inl (fun _ => 0))), ((q2 + 1 + 7), .inl (g.2 0, 4, .inl (fun _ => 0)))] := hD
  refine va_putF (D := g.1) (ci := 2) (v := .ref q2) (ty := .array (.array (.int))) (C := RX2) (T := TX2) (N := 5) hx hb hg inG2 tyX2 tyX2_ok nmX2 hown hK hP hD hS 0 rfl rfl 4 (by decide) (hg _ mm_291) (fun _ h9 => h9) rfl hin rfl (by decide +kernel) rfl rfl (Nat.le_of_ble_eq_true rfl) dX2_init_35 (fun H locs hP hD hS => ?_)
  have hP : zP g [(h0, .inr (2, [.int 0, .int 0, .int 1, .ref q1, .ref q2])), (q1, .inl (g.2 0, 8, .inl (fun _ => 0))), (q2, .inl (g.2 7, 8, .inr (.inr (.inr (.inr (zS [some (q2 + 1 + 0), some (q2 + 1 + 1), some (q2 + 1 + 2), some (q2 + 1 + 3), some (q2 + 1 + 4), some (q2 + 1 + 5), some (q2 + 1 + 6), some (q2 + 1 + 7)])))))), ((q2 + 1 + 0), .inl (g.2 0, 4, .inl (fun _ => 0))), ((q2 + 1 + 1), .inl (g.2 0, 4, .inl (fun _ => 0))), ((q2 + 1 + 2), .inl (g.2 0, 4, .inl (fun _ => 0))), ((q2 + 1 + 3), .inl (g.2 0, 4, .inl (fun _ => 0))), ((q2 + 1 + 4), .inl (g.2 0, 4, .inl (fun _ => 0))), ((q2 + 1 + 5), .inl (g.2 0, 4, .inl (fun _ => 0))), ((q2 + 1 + 6), .inl (g.2 0, 4, .inl (fun _ => 0))), ((q2 + 1 + 7), .inl (g.2 0, 4, .inl (fun _ => 0)))] H := hP
  have hD : va_D A [(h0, .inr (2, [.int 0, .int 0, .int 1, .ref q1, .ref q2])), (q1, .inl (g.2 0, 8, .inl (fun _ => 0))), (q2, .inl (g.2 7, 8, .inr (.inr (.inr (.inr (zS [some (q2 + 1 + 0), some (q2 + 1 + 1), some (q2 + 1 + 2), some (q2 + 1 + 3), some (q2 + 1 + 4), some (q2 + 1 + 5), some (q2 + 1 + 6), some (q2 + 1 + 7)])))))), ((q2 + 1 + 0), .inl (g.2 0, 4, .inl (fun _ => 0))), ((q2 + 1 + 1), .inl (g.2 0, 4, .inl (fun _ => 0))), ((q2 + 1 + 2), .inl (g.2 0, 4, .inl (fun _ => 0))), ((q2 + 1 + 3), .inl (g.2 0, 4, .inl (fun _ => 0))), ((q2 + 1 + 4), .inl (g.2 0, 4, .inl (fun _ => 0))), ((q2 + 1 + 5), .inl (g.2 0, 4, .inl (fun _ => 0))), ((q2 + 1 + 6), .inl (g.2 0, 4, .inl (fun _ => 0))), ((q2 + 1 + 7), .inl (g.2 0, 4, .inl (fun _ => 0)))] := hD
  have hP9 := hP.sub (ws' := [(h0, .inr (2, [.int 0, .int 0, .int 1, .ref q1, .ref q2])), (q1, .inl (g.2 0, 8, .inl (fun _ => 0))), (q2, .inl (g.2 7, 8, .inr (.inr (.inr (.inr (zS [some (q2 + 1 + 0), some (q2 + 1 + 1), some (q2 + 1 + 2), some (q2 + 1 + 3), some (q2 + 1 + 4), some (q2 + 1 + 5), some (q2 + 1 + 6), some (q2 + 1 + 7)])))))), ((q2 + 1 + 0), .inl (g.2 0, 4, .inl (fun _ => 0))), ((q2 + 1 + 1), .inl (g.2 0, 4, .inl (fun _ => 0))), ((q2 + 1 + 2), .inl (g.2 0, 4, .inl (fun _ => 0))), ((q2 + 1 + 3), .inl (g.2 0, 4, .inl (fun _ => 0))), ((q2 + 1 + 4), .inl (g.2 0, 4, .inl (fun _ => 0))), ((q2 + 1 + 5), .inl (g.2 0, 4, .inl (fun _ => 0))), ((q2 + 1 + 6), .inl (g.2 0, 4, .inl (fun _ => 0))), ((q2 + 1 + 7), .inl (g.2 0, 4, .inl (fun _ => 0)))]) [0, 1, 2, 3, 4, 5, 6, 7, 8, 9, 10] rfl
  have hD9 := hD.sub (ws' := [(h0, .inr (2, [.int 0, .int 0, .int 1, .ref q1, .ref q2])), (q1, .inl (g.2 0, 8, .inl (fun _ => 0))), (q2, .inl (g.2 7, 8, .inr (.inr (.inr (.inr (zS [some (q2 + 1 + 0), some (q2 + 1 + 1), some (q2 + 1 + 2), some (q2 + 1 + 3), some (q2 + 1 + 4), some (q2 + 1 + 5), some (q2 + 1 + 6), some (q2 + 1 + 7)])))))), ((q2 + 1 + 0), .inl (g.2 0, 4, .inl (fun _ => 0))), ((q2 + 1 + 1), .inl (g.2 0, 4, .inl (fun _ => 0))), ((q2 + 1 + 2), .inl (g.2 0, 4, .inl (fun _ => 0))), ((q2 + 1 + 3), .inl (g.2 0, 4, .inl (fun _ => 0))), ((q2 + 1 + 4), .inl (g.2 0, 4, .inl (fun _ => 0))), ((q2 + 1 + 5), .inl (g.2 0, 4, .inl (fun _ => 0))), ((q2 + 1 + 6), .inl (g.2 0, 4, .inl (fun _ => 0))), ((q2 + 1 + 7), .inl (g.2 0, 4, .inl (fun _ => 0)))]) [0, 1, 2, 3, 4, 5, 6, 7, 8, 9, 10] (by decide) rfl
  refine W.widen (k := 10) (n := 48) (Nat.le_of_ble_eq_true rfl) (Nat.le_of_ble_eq_true rfl) ?_
  exact W.vret hx hb hr (fun t ht hW => ⟨⟨(), rfl, trivial, ⟨q1, q2, (q2 + 1 + 0), (q2 + 1 + 1), (q2 + 1 + 2), (q2 + 1 + 3), (q2 + 1 + 4), (q2 + 1 + 5), (q2 + 1 + 6), (q2 + 1 + 7), by rw [ht]; exact hP9, hD9⟩⟩, hS.F ht⟩) hS.2.2 dX2_init_38

set_option maxHeartbeats 4000000 in
set_option maxRecDepth 100000 in
theorem c_X3_init (l : Launch) (g : zG) (sz : Nat) (h0 : Nat) : Met l yX3_init (zW yX3_init cX3_init 2 none) ({ frames := 1, cells := 4, slots := 114, locals := 12 }) (va_Pc [.ref h0] (zA g [(h0, .inr (3, [.int 0, .null, .null, .null, .null, .int 0]))] sz)) (va_Qv (fun (_ : Unit) => True) (fun _ t => ∃ (a1 : Nat), ∃ (a2 : Nat), ∃ (a3 : Nat), ∃ (a4 : Nat), ∃ (f1 : Nat → Int32), ∃ (f2 : Nat → Int32), zP g [(h0, .inr (3, [.int 1, .ref a1, .ref a2, .ref a3, .ref a4, .int 0])), (a1, .inl (g.2 0, 32, .inl f1)), (a2, .inl (g.2 0, 33, .inl f2)), (a3, .inl (g.2 0, 33, .inl (fun _ => 0))), (a4, .inl (g.2 0, 16, .inl (fun _ => 0)))] t.heap ∧ va_D (va_A [(h0, .inr (3, [.int 0, .null, .null, .null, .null, .int 0]))] sz) [(h0, .inr (3, [.int 1, .ref a1, .ref a2, .ref a3, .ref a4, .int 0])), (a1, .inl (g.2 0, 32, .inl f1)), (a2, .inl (g.2 0, 33, .inl f2)), (a3, .inl (g.2 0, 33, .inl (fun _ => 0))), (a4, .inl (g.2 0, 16, .inl (fun _ => 0)))] ∧ (∀ j, j < 32 → f1 j = -1) ∧ (∀ j, j < 33 → f2 j = bareS j)) (va_A [(h0, .inr (3, [.int 0, .null, .null, .null, .null, .int 0]))] sz)) 4 114 (va_A [(h0, .inr (3, [.int 0, .null, .null, .null, .null, .int 0]))] sz) := by
  refine Met.ofW (cc := cX3_init) (maxL := 2) (ret := none) (by decide) rfl ?_
  intro p e s m args below meth c s₁ B hml hv
  obtain ⟨rfl, hsz, hP, hK, hD0, hN⟩ := hv
  have hx := B.exec
  have hb := B.bytes
  have hr := B.returns
  have hg := zW.law (atoms_spec (ws := (zW yX3_init cX3_init 2 none)) B.pre)
  have hown : s.vm.findClass RX3 = some m.cls := findClass_of_methodNamed B.named
  have hlocks := B.notSynchronized
  have hin : meth.name = "<init>" := (name_of_methodNamed B.named B.method).1
  subst hsz
  have hD := hD0.self (sz := s.heap.size)
  generalize hAe : va_A [(h0, .inr (3, [.int 0, .null, .null, .null, .null, .int 0]))] s.heap.size = A at hD ⊢
  have hA : ∀ q : Nat, s.heap.size ≤ q → A q := fun q h => by rw [← hAe]; exact Or.inr h
  have hS : va_S A s.heap s.heap [] := va_S.rf
  have hl := lv_entry ([.ref h0]) (n := 2) (Nat.le_of_ble_eq_true rfl)
  rw [lg_entry_eq]
  generalize (lg_sl ([.ref h0]) ++ List.replicate (2 - (lg_sl ([.ref h0])).length) Slot.unset).toArray = ls at hl ⊢
  have hl : lv_has ls 2 [(0, .ref h0)] := hl
  refine lv_aload_n hx hb dX3_init_0 rfl (lv_at hl 0 rfl) ?_
  refine W.objInit hx hb hown (hg _ mm_257) (hg _ mm_69) (hg _ mm_70) rfl (by rw [hml]; exact hl.1) rfl dX3_init_1 (Nat.le_of_ble_eq_true rfl) (Nat.le_of_ble_eq_true rfl) ?_
  refine W.eq (g2 := F0 m 4 ls []) rfl ?_
  refine lv_aload_n hx hb dX3_init_4 rfl (lv_at hl 0 rfl) ?_
  refine lv_iconst (v := 1) hx hb dX3_init_5 (by decide) ?_
  refine va_put (D := g.1) (ci := 3) (v := .int 1) (ty := .int) (C := RX3) (T := TX3) (N := 6) hx hb hg inG3 tyX3 tyX3_ok nmX3 hown hK hP hD hS 0 rfl rfl 0 (by decide) (hg _ mm_258) (fun _ h9 => h9) rfl (by decide +kernel) rfl rfl (Nat.le_of_ble_eq_true rfl) dX3_init_6 (fun H locs hP hD hS => ?_)
  have hP : zP g [(h0, .inr (3, [.int 1, .null, .null, .null, .null, .int 0]))] H := hP
  have hD : va_D A [(h0, .inr (3, [.int 1, .null, .null, .null, .null, .int 0]))] := hD
  refine lv_aload_n hx hb dX3_init_9 rfl (lv_at hl 0 rfl) ?_
  refine lv_bipush (v := 32) hx hb dX3_init_10 (by decide) ?_
  refine z_newI hx hb (hg _ mm_87) hK hP hD hS hA (n := 32) (N' := 32) (by decide) (by decide) (Nat.le_of_ble_eq_true rfl) (Nat.le_of_ble_eq_true rfl) (Nat.le_of_ble_eq_true rfl) dX3_init_12 (fun q1 H hP hD hS => ?_)
  refine W.widen (k := 1) (n := 32) (Nat.le_of_ble_eq_true rfl) (Nat.le_of_ble_eq_true rfl) ?_
  have hP : zP g [(h0, .inr (3, [.int 1, .null, .null, .null, .null, .int 0])), (q1, .inl (g.2 0, 32, .inl (fun _ => 0)))] H := hP
  have hD : va_D A [(h0, .inr (3, [.int 1, .null, .null, .null, .null, .int 0])), (q1, .inl (g.2 0, 32, .inl (fun _ => 0)))] := hD
  refine va_putF (D := g.1) (ci := 3) (v := .ref q1) (ty := .array (.int)) (C := RX3) (T := TX3) (N := 6) hx hb hg inG3 tyX3 tyX3_ok nmX3 hown hK hP hD hS 0 rfl rfl 1 (by decide) (hg _ mm_260) (fun _ h9 => h9) rfl hin rfl (by decide +kernel) rfl rfl (Nat.le_of_ble_eq_true rfl) dX3_init_14 (fun H locs hP hD hS => ?_)
  have hP : zP g [(h0, .inr (3, [.int 1, .ref q1, .null, .null, .null, .int 0])), (q1, .inl (g.2 0, 32, .inl (fun _ => 0)))] H := hP
  have hD : va_D A [(h0, .inr (3, [.int 1, .ref q1, .null, .null, .null, .int 0])), (q1, .inl (g.2 0, 32, .inl (fun _ => 0)))] := hD
  refine lv_aload_n hx hb dX3_init_17 rfl (lv_at hl 0 rfl) ?_
  refine lv_bipush (v := 33) hx hb dX3_init_18 (by decide) ?_
  refine z_newI hx hb (hg _ mm_87) hK hP hD hS hA (n := 33) (N' := 33) (by decide) (by decide) (Nat.le_of_ble_eq_true rfl) (Nat.le_of_ble_eq_true rfl) (Nat.le_of_ble_eq_true rfl) dX3_init_20 (fun q2 H hP hD hS => ?_)
  refine W.widen (k := 2) (n := 65) (Nat.le_of_ble_eq_true rfl) (Nat.le_of_ble_eq_true rfl) ?_
  have hP : zP g [(h0, .inr (3, [.int 1, .ref q1, .null, .null, .null, .int 0])), (q1, .inl (g.2 0, 32, .inl (fun _ => 0))), (q2, .inl (g.2 0, 33, .inl (fun _ => 0)))] H := hP
  have hD : va_D A [(h0, .inr (3, [.int 1, .ref q1, .null, .null, .null, .int 0])), (q1, .inl (g.2 0, 32, .inl (fun _ => 0))), (q2, .inl (g.2 0, 33, .inl (fun _ => 0)))] := hD
  refine va_putF (D := g.1) (ci := 3) (v := .ref q2) (ty := .array (.int)) (C := RX3) (T := TX3) (N := 6) hx hb hg inG3 tyX3 tyX3_ok nmX3 hown hK hP hD hS 0 rfl rfl 2 (by decide) (hg _ mm_261) (fun _ h9 => h9) rfl hin rfl (by decide +kernel) rfl rfl (Nat.le_of_ble_eq_true rfl) dX3_init_22 (fun H locs hP hD hS => ?_)
  have hP : zP g [(h0, .inr (3, [.int 1, .ref q1, .ref q2, .null, .null, .int 0])), (q1, .inl (g.2 0, 32, .inl (fun _ => 0))), (q2, .inl (g.2 0, 33, .inl (fun _ => 0)))] H := hP
  have hD : va_D A [(h0, .inr (3, [.int 1, .ref q1, .ref q2, .null, .null, .int 0])), (q1, .inl (g.2 0, 32, .inl (fun _ => 0))), (q2, .inl (g.2 0, 33, .inl (fun _ => 0)))] := hD
  refine lv_aload_n hx hb dX3_init_25 rfl (lv_at hl 0 rfl) ?_
  refine lv_bipush (v := 33) hx hb dX3_init_26 (by decide) ?_
  refine z_newI hx hb (hg _ mm_87) hK hP hD hS hA (n := 33) (N' := 33) (by decide) (by decide) (Nat.le_of_ble_eq_true rfl) (Nat.le_of_ble_eq_true rfl) (Nat.le_of_ble_eq_true rfl) dX3_init_28 (fun q3 H hP hD hS => ?_)
  refine W.widen (k := 3) (n := 98) (Nat.le_of_ble_eq_true rfl) (Nat.le_of_ble_eq_true rfl) ?_
  have hP : zP g [(h0, .inr (3, [.int 1, .ref q1, .ref q2, .null, .null, .int 0])), (q1, .inl (g.2 0, 32, .inl (fun _ => 0))), (q2, .inl (g.2 0, 33, .inl (fun _ => 0))), (q3, .inl (g.2 0, 33, .inl (fun _ => 0)))] H := hP
  have hD : va_D A [(h0, .inr (3, [.int 1, .ref q1, .ref q2, .null, .null, .int 0])), (q1, .inl (g.2 0, 32, .inl (fun _ => 0))), (q2, .inl (g.2 0, 33, .inl (fun _ => 0))), (q3, .inl (g.2 0, 33, .inl (fun _ => 0)))] := hD
  refine va_putF (D := g.1) (ci := 3) (v := .ref q3) (ty := .array (.int)) (C := RX3) (T := TX3) (N := 6) hx hb hg inG3 tyX3 tyX3_ok nmX3 hown hK hP hD hS 0 rfl rfl 3 (by decide) (hg _ mm_262) (fun _ h9 => h9) rfl hin rfl (by decide +kernel) rfl rfl (Nat.le_of_ble_eq_true rfl) dX3_init_30 (fun H locs hP hD hS => ?_)
  have hP : zP g [(h0, .inr (3, [.int 1, .ref q1, .ref q2, .ref q3, .null, .int 0])), (q1, .inl (g.2 0, 32, .inl (fun _ => 0))), (q2, .inl (g.2 0, 33, .inl (fun _ => 0))), (q3, .inl (g.2 0, 33, .inl (fun _ => 0)))] H := hP
  have hD : va_D A [(h0, .inr (3, [.int 1, .ref q1, .ref q2, .ref q3, .null, .int 0])), (q1, .inl (g.2 0, 32, .inl (fun _ => 0))), (q2, .inl (g.2 0, 33, .inl (fun _ => 0))), (q3, .inl (g.2 0, 33, .inl (fun _ => 0)))] := hD
  refine lv_aload_n hx hb dX3_init_33 rfl (lv_at hl 0 rfl) ?_
  refine lv_bipush (v := 16) hx hb dX3_init_34 (by decide) ?_
  refine z_newI hx hb (hg _ mm_87) hK hP hD hS hA (n := 16) (N' := 16) (by decide) (by decide) (Nat.le_of_ble_eq_true rfl) (Nat.le_of_ble_eq_true rfl) (Nat.le_of_ble_eq_true rfl) dX3_init_36 (fun q4 H hP hD hS => ?_)
  refine W.widen (k := 4) (n := 114) (Nat.le_of_ble_eq_true rfl) (Nat.le_of_ble_eq_true rfl) ?_
  have hP : zP g [(h0, .inr (3, [.int 1, .ref q1, .ref q2, .ref q3, .null, .int 0])), (q1, .inl (g.2 0, 32, .inl (fun _ => 0))), (q2, .inl (g.2 0, 33, .inl (fun _ => 0))), (q3, .inl (g.2 0, 33, .inl (fun _ => 0))), (q4, .inl (g.2 0, 16, .inl (fun _ => 0)))] H := hP
  have hD : va_D A [(h0, .inr (3, [.int 1, .ref q1, .ref q2, .ref q3, .null, .int 0])), (q1, .inl (g.2 0, 32, .inl (fun _ => 0))), (q2, .inl (g.2 0, 33, .inl (fun _ => 0))), (q3, .inl (g.2 0, 33, .inl (fun _ => 0))), (q4, .inl (g.2 0, 16, .inl (fun _ => 0)))] := hD
  refine va_putF (D := g.1) (ci := 3) (v := .ref q4) (ty := .array (.int)) (C := RX3) (T := TX3) (N := 6) hx hb hg inG3 tyX3 tyX3_ok nmX3 hown hK hP hD hS 0 rfl rfl 4 (by decide) (hg _ mm_263) (fun _ h9 => h9) rfl hin rfl (by decide +kernel) rfl rfl (Nat.le_of_ble_eq_true rfl) dX3_init_38 (fun H locs hP hD hS => ?_)
  have hP : zP g [(h0, .inr (3, [.int 1, .ref q1, .ref q2, .ref q3, .ref q4, .int 0])), (q1, .inl (g.2 0, 32, .inl (fun _ => 0))), (q2, .inl (g.2 0, 33, .inl (fun _ => 0))), (q3, .inl (g.2 0, 33, .inl (fun _ => 0))), (q4, .inl (g.2 0, 16, .inl (fun _ => 0)))] H := hP
  have hD : va_D A [(h0, .inr (3, [.int 1, .ref q1, .ref q2, .ref q3, .ref q4, .int 0])), (q1, .inl (g.2 0, 32, .inl (fun _ => 0))), (q2, .inl (g.2 0, 33, .inl (fun _ => 0))), (q3, .inl (g.2 0, 33, .inl (fun _ => 0))), (q4, .inl (g.2 0, 16, .inl (fun _ => 0)))] := hD
  refine lv_aload_n hx hb dX3_init_41 rfl (lv_at hl 0 rfl) ?_
  refine lv_iconst (v := 0) hx hb dX3_init_42 (by decide) ?_
  refine va_put (D := g.1) (ci := 3) (v := .int 0) (ty := .int) (C := RX3) (T := TX3) (N := 6) hx hb hg inG3 tyX3 tyX3_ok nmX3 hown hK hP hD hS 0 rfl rfl 5 (by decide) (hg _ mm_264) (fun _ h9 => h9) rfl (by decide +kernel) rfl rfl (Nat.le_of_ble_eq_true rfl) dX3_init_43 (fun H locs hP hD hS => ?_)
  have hP : zP g [(h0, .inr (3, [.int 1, .ref q1, .ref q2, .ref q3, .ref q4, .int 0])), (q1, .inl (g.2 0, 32, .inl (fun _ => 0))), (q2, .inl (g.2 0, 33, .inl (fun _ => 0))), (q3, .inl (g.2 0, 33, .inl (fun _ => 0))), (q4, .inl (g.2 0, 16, .inl (fun _ => 0)))] H := hP
  have hD : va_D A [(h0, .inr (3, [.int 1, .ref q1, .ref q2, .ref q3, .ref q4, .int 0])), (q1, .inl (g.2 0, 32, .inl (fun _ => 0))), (q2, .inl (g.2 0, 33, .inl (fun _ => 0))), (q3, .inl (g.2 0, 33, .inl (fun _ => 0))), (q4, .inl (g.2 0, 16, .inl (fun _ => 0)))] := hD
  refine lv_iconst (v := 0) hx hb dX3_init_46 (by decide) ?_
  refine lv_istore_n (lv' := [(1, .int 0), (0, .ref h0)]) hx hb dX3_init_47 rfl hl (by decide) rfl (fun ls hl => ?_)
  have loop48 : ∀ (n : Nat) (i : Nat) (f1 : Nat → Int32) (f2 : Nat → Int32) (H : Heap) (locs : List Loc) (ls : Array Slot), (32 - i < n) → (i ≤ 32) → (∀ j, j < i → f1 j = -1) → (∀ j, j < i → f2 j = if j < 16 then 1 else 0) → zP g [(h0, .inr (3, [.int 1, .ref q1, .ref q2, .ref q3, .ref q4, .int 0])), (q1, .inl (g.2 0, 32, .inl f1)), (q2, .inl (g.2 0, 33, .inl f2)), (q3, .inl (g.2 0, 33, .inl (fun _ => 0))), (q4, .inl (g.2 0, 16, .inl (fun _ => 0)))] H → va_D A [(h0, .inr (3, [.int 1, .ref q1, .ref q2, .ref q3, .ref q4, .int 0])), (q1, .inl (g.2 0, 32, .inl f1)), (q2, .inl (g.2 0, 33, .inl f2)), (q3, .inl (g.2 0, 33, .inl (fun _ => 0))), (q4, .inl (g.2 0, 16, .inl (fun _ => 0)))] → va_S A s.heap H locs → lv_has ls 2 [(1, .int (nI i)), (0, .ref h0)] → W p l e (headSpec (zW yX3_init cX3_init 2 none) ({ frames := 1, cells := 4, slots := 114, locals := 12 })).room s m ([.ref h0] : List Value).toArray below meth c H locs 4 114 (MQ below (va_Qv (fun (_ : Unit) => True) (fun _ t => ∃ (a1 : Nat), ∃ (a2 : Nat), ∃ (a3 : Nat), ∃ (a4 : Nat), ∃ (f1 : Nat → Int32), ∃ (f2 : Nat → Int32), zP g [(h0, .inr (3, [.int 1, .ref a1, .ref a2, .ref a3, .ref a4, .int 0])), (a1, .inl (g.2 0, 32, .inl f1)), (a2, .inl (g.2 0, 33, .inl f2)), (a3, .inl (g.2 0, 33, .inl (fun _ => 0))), (a4, .inl (g.2 0, 16, .inl (fun _ => 0)))] t.heap ∧ va_D A [(h0, .inr (3, [.int 1, .ref a1, .ref a2, .ref a3, .ref a4, .int 0])), (a1, .inl (g.2 0, 32, .inl f1)), (a2, .inl (g.2 0, 33, .inl f2)), (a3, .inl (g.2 0, 33, .inl (fun _ => 0))), (a4, .inl (g.2 0, 16, .inl (fun _ => 0)))] ∧ (∀ j, j < 32 → f1 j = -1) ∧ (∀ j, j < 33 → f2 j = bareS j)) A) ([.ref h0] : List Value).toArray s 4 114 A) (F0 m 48 ls []) := by
    intro n
    induction n with
    | zero =>
      intro i f1 f2 H locs ls hn hi h1 h2 hP hD hS hl
      exact absurd hn (Nat.not_lt_zero _)
    | succ n ih =>
      intro i f1 f2 H locs ls hn hi h1 h2 hP hD hS hl
      refine lv_iload_n hx hb dX3_init_48 rfl (lv_at hl 0 rfl) ?_
      refine lv_bipush (v := 32) hx hb dX3_init_49 (by decide) ?_
      refine lv_icmp_ge (tgt := 84) hx hb dX3_init_51 (by decide) (fun c5 => ?_) (fun c5 => ?_)
      · skip
        have c5 : 32 ≤ ((i : Nat) : Int) := (z_le (by decide : (32 : Int32).toInt = 32) (nI_toInt (by omega))).mp c5
        refine lv_aload_n hx hb dX3_init_84 rfl (lv_at hl 1 rfl) ?_
        refine va_get (D := g.1) (ci := 3) (v := .ref q2) (C := RX3) (T := TX3) (N := 6) hx hb hg inG3 hown hK hP 0 rfl rfl 2 (by decide) (hg _ mm_261) (fun _ h9 => h9) rfl dX3_init_85 ?_
        refine lv_bipush (v := 32) hx hb dX3_init_88 (by decide) ?_
        refine lv_bipush (v := 16) hx hb dX3_init_90 (by decide) ?_
        refine va_iast hx hb hK hP hD hS 2 0 rfl rfl (z_in (by decide : (32 : Int32).toInt = 32) (by omega) (by omega)) dX3_init_92 (fun H locs hP hD hS => ?_)
        rw [show (32 : Int32).toNatClampNeg = 32 from (by decide)] at hP hD
        have hP : zP g [(h0, .inr (3, [.int 1, .ref q1, .ref q2, .ref q3, .ref q4, .int 0])), (q1, .inl (g.2 0, 32, .inl f1)), (q2, .inl (g.2 0, 33, .inl (upd f2 32 16))), (q3, .inl (g.2 0, 33, .inl (fun _ => 0))), (q4, .inl (g.2 0, 16, .inl (fun _ => 0)))] H := hP
        have hD : va_D A [(h0, .inr (3, [.int 1, .ref q1, .ref q2, .ref q3, .ref q4, .int 0])), (q1, .inl (g.2 0, 32, .inl f1)), (q2, .inl (g.2 0, 33, .inl (upd f2 32 16))), (q3, .inl (g.2 0, 33, .inl (fun _ => 0))), (q4, .inl (g.2 0, 16, .inl (fun _ => 0)))] := hD
        have hP9 := hP.sub (ws' := [(h0, .inr (3, [.int 1, .ref q1, .ref q2, .ref q3, .ref q4, .int 0])), (q1, .inl (g.2 0, 32, .inl f1)), (q2, .inl (g.2 0, 33, .inl (upd f2 32 16))), (q3, .inl (g.2 0, 33, .inl (fun _ => 0))), (q4, .inl (g.2 0, 16, .inl (fun _ => 0)))]) [0, 1, 2, 3, 4] rfl
        have hD9 := hD.sub (ws' := [(h0, .inr (3, [.int 1, .ref q1, .ref q2, .ref q3, .ref q4, .int 0])), (q1, .inl (g.2 0, 32, .inl f1)), (q2, .inl (g.2 0, 33, .inl (upd f2 32 16))), (q3, .inl (g.2 0, 33, .inl (fun _ => 0))), (q4, .inl (g.2 0, 16, .inl (fun _ => 0)))]) [0, 1, 2, 3, 4] (by decide) rfl
        refine W.widen (k := 4) (n := 114) (Nat.le_of_ble_eq_true rfl) (Nat.le_of_ble_eq_true rfl) ?_
        exact W.vret hx hb hr (fun t ht hW => ⟨⟨(), rfl, trivial, ⟨q1, q2, q3, q4, f1, (upd f2 32 16), by rw [ht]; exact hP9, hD9, fun j hj => h1 j (by omega), bareS_of (fun j hj => h2 j (by omega))⟩⟩, hS.F ht⟩) hS.2.2 dX3_init_93
      · skip
        have c5 : ¬ (32 ≤ ((i : Nat) : Int)) := fun q => c5 ((z_le (by decide : (32 : Int32).toInt = 32) (nI_toInt (by omega))).mpr q)
        refine lv_aload_n hx hb dX3_init_54 rfl (lv_at hl 1 rfl) ?_
        refine va_get (D := g.1) (ci := 3) (v := .ref q1) (C := RX3) (T := TX3) (N := 6) hx hb hg inG3 hown hK hP 0 rfl rfl 1 (by decide) (hg _ mm_260) (fun _ h9 => h9) rfl dX3_init_55 ?_
        refine lv_iload_n hx hb dX3_init_58 rfl (lv_at hl 0 rfl) ?_
        refine lv_iconst (v := (-1)) hx hb dX3_init_59 (by decide) ?_
        refine va_iast hx hb hK hP hD hS 1 0 rfl rfl (z_in (nI_toInt (by omega)) (by omega) (by omega)) dX3_init_60 (fun H locs hP hD hS => ?_)
        rw [show ((nI i) : Int32).toNatClampNeg = i from (nI_clamp (by omega))] at hP hD
        have hP : zP g [(h0, .inr (3, [.int 1, .ref q1, .ref q2, .ref q3, .ref q4, .int 0])), (q1, .inl (g.2 0, 32, .inl (upd f1 i (-1)))), (q2, .inl (g.2 0, 33, .inl f2)), (q3, .inl (g.2 0, 33, .inl (fun _ => 0))), (q4, .inl (g.2 0, 16, .inl (fun _ => 0)))] H := hP
        have hD : va_D A [(h0, .inr (3, [.int 1, .ref q1, .ref q2, .ref q3, .ref q4, .int 0])), (q1, .inl (g.2 0, 32, .inl (upd f1 i (-1)))), (q2, .inl (g.2 0, 33, .inl f2)), (q3, .inl (g.2 0, 33, .inl (fun _ => 0))), (q4, .inl (g.2 0, 16, .inl (fun _ => 0)))] := hD
        refine lv_aload_n hx hb dX3_init_61 rfl (lv_at hl 1 rfl) ?_
        refine va_get (D := g.1) (ci := 3) (v := .ref q2) (C := RX3) (T := TX3) (N := 6) hx hb hg inG3 hown hK hP 0 rfl rfl 2 (by decide) (hg _ mm_261) (fun _ h9 => h9) rfl dX3_init_62 ?_
        refine lv_iload_n hx hb dX3_init_65 rfl (lv_at hl 0 rfl) ?_
        refine lv_iload_n hx hb dX3_init_66 rfl (lv_at hl 0 rfl) ?_
        refine lv_bipush (v := 16) hx hb dX3_init_67 (by decide) ?_
        refine lv_icmp_ge (tgt := 76) hx hb dX3_init_69 (by decide) (fun c6 => ?_) (fun c6 => ?_)
        · skip
          have c6 : 16 ≤ ((i : Nat) : Int) := (z_le (by decide : (16 : Int32).toInt = 16) (nI_toInt (by omega))).mp c6
          refine lv_iconst (v := 0) hx hb dX3_init_76 (by decide) ?_
          refine va_iast hx hb hK hP hD hS 2 0 rfl rfl (z_in (nI_toInt (by omega)) (by omega) (by omega)) dX3_init_77 (fun H locs hP hD hS => ?_)
          rw [show ((nI i) : Int32).toNatClampNeg = i from (nI_clamp (by omega))] at hP hD
          have hP : zP g [(h0, .inr (3, [.int 1, .ref q1, .ref q2, .ref q3, .ref q4, .int 0])), (q1, .inl (g.2 0, 32, .inl (upd f1 i (-1)))), (q2, .inl (g.2 0, 33, .inl (upd f2 i 0))), (q3, .inl (g.2 0, 33, .inl (fun _ => 0))), (q4, .inl (g.2 0, 16, .inl (fun _ => 0)))] H := hP
          have hD : va_D A [(h0, .inr (3, [.int 1, .ref q1, .ref q2, .ref q3, .ref q4, .int 0])), (q1, .inl (g.2 0, 32, .inl (upd f1 i (-1)))), (q2, .inl (g.2 0, 33, .inl (upd f2 i 0))), (q3, .inl (g.2 0, 33, .inl (fun _ => 0))), (q4, .inl (g.2 0, 16, .inl (fun _ => 0)))] := hD
          refine lv_iinc (v := (nI (i + 1))) (lv' := [(1, .int (nI (i + 1))), (0, .ref h0)]) hx hb dX3_init_78 hl (k := 0) rfl (nI_1 i) (by decide) rfl (fun ls hl => ?_)
          refine lv_goto (tgt := 48) hx hb dX3_init_81 (by decide) ?_
          exact ih (i + 1) (upd f1 i (-1)) (upd f2 i 0) _ _ ls (by omega) (by omega) (fun j hj => if e : j = i then (by subst e; exact pk_us) else (by rw [pk_un e]; exact h1 j (by omega))) (fun j hj => if e : j = i then (by subst e; rw [pk_us]; first | rw [if_pos (by omega)] | rw [if_neg (by omega)]) else (by rw [pk_un e]; exact h2 j (by omega))) (hP.sub (ws' := [(h0, .inr (3, [.int 1, .ref q1, .ref q2, .ref q3, .ref q4, .int 0])), (q1, .inl (g.2 0, 32, .inl (upd f1 i (-1)))), (q2, .inl (g.2 0, 33, .inl (upd f2 i 0))), (q3, .inl (g.2 0, 33, .inl (fun _ => 0))), (q4, .inl (g.2 0, 16, .inl (fun _ => 0)))]) [0, 1, 2, 3, 4] rfl) (hD.sub (ws' := [(h0, .inr (3, [.int 1, .ref q1, .ref q2, .ref q3, .ref q4, .int 0])), (q1, .inl (g.2 0, 32, .inl (upd f1 i (-1)))), (q2, .inl (g.2 0, 33, .inl (upd f2 i 0))), (q3, .inl (g.2 0, 33, .inl (fun _ => 0))), (q4, .inl (g.2 0, 16, .inl (fun _ => 0)))]) [0, 1, 2, 3, 4] (by decide) rfl) hS (lv_sub hl [0, 1] rfl)
        · skip
          have c6 : ¬ (16 ≤ ((i : Nat) : Int)) := fun q => c6 ((z_le (by decide : (16 : Int32).toInt = 16) (nI_toInt (by omega))).mpr q)
          refine lv_iconst (v := 1) hx hb dX3_init_72 (by decide) ?_
          refine lv_goto (tgt := 77) hx hb dX3_init_73 (by decide) ?_
          refine va_iast hx hb hK hP hD hS 2 0 rfl rfl (z_in (nI_toInt (by omega)) (by omega) (by omega)) dX3_init_77 (fun H locs hP hD hS => ?_)
          rw [show ((nI i) : Int32).toNatClampNeg = i from (nI_clamp (by omega))] at hP hD
          have hP : zP g [(h0, .inr (3, [.int 1, .ref q1, .ref q2, .ref q3, .ref q4, .int 0])), (q1, .inl (g.2 0, 32, .inl (upd f1 i (-1)))), (q2, .inl (g.2 0, 33, .inl (upd f2 i 1))), (q3, .inl (g.2 0, 33, .inl (fun _ => 0))), (q4, .inl (g.2 0, 16, .inl (fun _ => 0)))] H := hP
          have hD : va_D A [(h0, .inr (3, [.int 1, .ref q1, .ref q2, .ref q3, .ref q4, .int 0])), (q1, .inl (g.2 0, 32, .inl (upd f1 i (-1)))), (q2, .inl (g.2 0, 33, .inl (upd f2 i 1))), (q3, .inl (g.2 0, 33, .inl (fun _ => 0))), (q4, .inl (g.2 0, 16, .inl (fun _ => 0)))] := hD
          refine lv_iinc (v := (nI (i + 1))) (lv' := [(1, .int (nI (i + 1))), (0, .ref h0)]) hx hb dX3_init_78 hl (k := 0) rfl (nI_1 i) (by decide) rfl (fun ls hl => ?_)
          refine lv_goto (tgt := 48) hx hb dX3_init_81 (by decide) ?_
          exact ih (i + 1) (upd f1 i (-1)) (upd f2 i 1) _ _ ls (by omega) (by omega) (fun j hj => if e : j = i then (by subst e; exact pk_us) else (by rw [pk_un e]; exact h1 j (by omega))) (fun j hj => if e : j = i then (by subst e; rw [pk_us]; first | rw [if_pos (by omega)] | rw [if_neg (by omega)]) else (by rw [pk_un e]; exact h2 j (by omega))) (hP.sub (ws' := [(h0, .inr (3, [.int 1, .ref q1, .ref q2, .ref q3, .ref q4, .int 0])), (q1, .inl (g.2 0, 32, .inl (upd f1 i (-1)))), (q2, .inl (g.2 0, 33, .inl (upd f2 i 1))), (q3, .inl (g.2 0, 33, .inl (fun _ => 0))), (q4, .inl (g.2 0, 16, .inl (fun _ => 0)))]) [0, 1, 2, 3, 4] rfl) (hD.sub (ws' := [(h0, .inr (3, [.int 1, .ref q1, .ref q2, .ref q3, .ref q4, .int 0])), (q1, .inl (g.2 0, 32, .inl (upd f1 i (-1)))), (q2, .inl (g.2 0, 33, .inl (upd f2 i 1))), (q3, .inl (g.2 0, 33, .inl (fun _ => 0))), (q4, .inl (g.2 0, 16, .inl (fun _ => 0)))]) [0, 1, 2, 3, 4] (by decide) rfl) hS (lv_sub hl [0, 1] rfl)
  exact loop48 (32 - 0 + 1) 0 (fun _ => 0) (fun _ => 0) _ _ ls (by omega) (by omega) (fun j hj => absurd hj (Nat.not_lt_zero _)) (fun j hj => absurd hj (Nat.not_lt_zero _)) hP hD hS (lv_sub hl [0, 1] rfl)
