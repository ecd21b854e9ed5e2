set_option maxHeartbeats 4000000 in
set_option maxRecDepth 100000 in
theorem k_X0_areEnoughBy_0 (l : Launch) (g : zG) (sz : Nat) (ad : Nat → Nat) (pe : Int32) (ct : Nat → va_E) (who : Int32) (told : Int32) (n : Int32) (hl_who : 0 ≤ who.toInt ∧ who.toInt ≤ 65535) (hl_n : -2147483648 ≤ n.toInt ∧ n.toInt ≤ 0) (hI : Inv8 g ad pe ct) : Met l yX0_areEnoughBy (zW yX0_areEnoughBy cX0_areEnoughBy 6 (some .boolean)) ({ frames := 0, cells := 0, slots := 0, locals := 0 }) (va_Pc [.ref (ad 17), .int who, .int told, .int n] (zA g (zw 126 ad ct) sz)) (va_Qi (fun (r : Int32) (_ : Unit) => (r = 1) ∨ (r = 0)) (fun _ t => ∃ ct2 : Nat → va_E, zP g (zw 126 ad ct2) t.heap ∧ va_D (va_A (zw 126 ad ct) sz) (zw 126 ad ct2) ∧ Inv8 g ad pe ct2) (va_A (zw 126 ad ct) sz)) 0 0 (va_A (zw 126 ad ct) sz) := by
  refine Met.ofW (cc := cX0_areEnoughBy) (maxL := 6) (ret := (some .boolean)) (by decide) rfl ?_
  intro p e s m args below meth c s₁ B hml hv
  obtain ⟨rfl, hsz, hP, hK, hD0, hN⟩ := hv
  have hx := B.exec
  have hb := B.bytes
  have hr := B.returns
  have hg := zW.law (atoms_spec (ws := (zW yX0_areEnoughBy cX0_areEnoughBy 6 (some .boolean))) B.pre)
  have hown : s.vm.findClass RX0 = some m.cls := findClass_of_methodNamed B.named
  have hlocks := B.notSynchronized
  have hpe0 := hI.1
  subst hsz
  have hD := hD0.self (sz := s.heap.size)
  generalize hAe : va_A (zw 126 ad ct) s.heap.size = A at hD ⊢
  have hA : ∀ q : Nat, s.heap.size ≤ q → A q := fun q h => by rw [← hAe]; exact Or.inr h
  have hS : va_S A s.heap s.heap [] := va_S.rf
  have hl := lv_entry ([.ref (ad 17), .int who, .int told, .int n]) (n := 6) (Nat.le_of_ble_eq_true rfl)
  rw [lg_entry_eq]
  generalize (lg_sl ([.ref (ad 17), .int who, .int told, .int n]) ++ List.replicate (6 - (lg_sl ([.ref (ad 17), .int who, .int told, .int n])).length) Slot.unset).toArray = ls at hl ⊢
  have hl : lv_has ls 6 [(0, .ref (ad 17)), (1, .int who), (2, .int told), (3, .int n)] := hl
  have hz : zlen (ct 20) = zlen (ct 20) := rfl
  have rg_told := z_rng told
  refine lv_iload_n hx hb dX0_areEnoughBy_0 rfl (lv_at hl 1 rfl) ?_
  refine lv_iload_n hx hb dX0_areEnoughBy_1 rfl (lv_at hl 2 rfl) ?_
  refine lv_iand hx hb dX0_areEnoughBy_2 ?_
  refine lv_topi (fun x1 ex1 => ?_)
  have tx1 := z_andl (x := who) (y := told) rfl (by omega)
  rw [← ex1] at tx1
  refine lv_istore (lv' := [(4, .int x1), (0, .ref (ad 17)), (1, .int who), (2, .int told), (3, .int n)]) hx hb dX0_areEnoughBy_3 hl (by decide) rfl (fun ls hl => ?_)
  refine lv_iload_n hx hb dX0_areEnoughBy_5 rfl (lv_at hl 2 rfl) ?_
  refine lv_iload_n hx hb dX0_areEnoughBy_6 rfl (lv_at hl 3 rfl) ?_
  refine lv_iconst (v := (-1)) hx hb dX0_areEnoughBy_7 (by decide) ?_
  refine lv_ixor hx hb dX0_areEnoughBy_8 ?_
  refine lv_topi (fun x2 ex2 => ?_)
  refine lv_iand hx hb dX0_areEnoughBy_9 ?_
  refine lv_topi (fun x3 ex3 => ?_)
  have tx3 := z_andl (x := who) (y := x2) rfl (by omega)
  rw [← ex3] at tx3
  refine lv_istore (lv' := [(5, .int x3), (4, .int x1), (0, .ref (ad 17)), (1, .int who), (2, .int told), (3, .int n)]) hx hb dX0_areEnoughBy_10 hl (by decide) rfl (fun ls hl => ?_)
  refine lv_iload hx hb dX0_areEnoughBy_12 (lv_at hl 1 rfl) ?_
  refine lv_if_eq (tgt := 54) hx hb dX0_areEnoughBy_14 (by decide) (fun c4 => ?_) (fun c4 => ?_)
  · skip
    have c4 : x1.toInt = 0 := (z_eq rfl (by decide : (0 : Int32).toInt = 0)).mp c4
    refine lv_iconst (v := 0) hx hb dX0_areEnoughBy_54 (by decide) ?_
    have q5 : (0 : Int32).toInt = 0 := by decide
    exact W.zret (v := 0) hx hb hr rfl (fun t ht hW => ⟨⟨0, (), rfl, by first | exact Or.inl ⟨rfl, by omega⟩ | exact Or.inr ⟨rfl, by omega⟩ | exact Or.inl rfl | exact Or.inr rfl | exact Or.inl ⟨rfl, by omega, by omega⟩ | exact (z_01 (by omega) (by omega)).symm, ct, by rw [ht]; exact hP, hD, hI⟩, hS.F ht⟩) hS.2.2 dX0_areEnoughBy_55
  · skip
    have c4 : ¬ (x1.toInt = 0) := fun q => c4 ((z_eq rfl (by decide : (0 : Int32).toInt = 0)).mpr q)
    refine lv_iload hx hb dX0_areEnoughBy_17 (lv_at hl 0 rfl) ?_
    refine lv_if_eq (tgt := 54) hx hb dX0_areEnoughBy_19 (by decide) (fun c6 => ?_) (fun c6 => ?_)
    · skip
      have c6 : x3.toInt = 0 := (z_eq rfl (by decide : (0 : Int32).toInt = 0)).mp c6
      refine lv_iconst (v := 0) hx hb dX0_areEnoughBy_54 (by decide) ?_
      have q7 : (0 : Int32).toInt = 0 := by decide
      exact W.zret (v := 0) hx hb hr rfl (fun t ht hW => ⟨⟨0, (), rfl, by first | exact Or.inl ⟨rfl, by omega⟩ | exact Or.inr ⟨rfl, by omega⟩ | exact Or.inl rfl | exact Or.inr rfl | exact Or.inl ⟨rfl, by omega, by omega⟩ | exact (z_01 (by omega) (by omega)).symm, ct, by rw [ht]; exact hP, hD, hI⟩, hS.F ht⟩) hS.2.2 dX0_areEnoughBy_55
    · skip
      have c6 : ¬ (x3.toInt = 0) := fun q => c6 ((z_eq rfl (by decide : (0 : Int32).toInt = 0)).mpr q)
      refine lv_iload_n hx hb dX0_areEnoughBy_22 rfl (lv_at hl 5 rfl) ?_
      refine lv_if_le (tgt := 54) hx hb dX0_areEnoughBy_23 (by decide) (fun c8 => ?_) (fun c8 => ?_)
      · skip
        have c8 : n.toInt ≤ 0 := (z_le rfl (by decide : (0 : Int32).toInt = 0)).mp c8
        refine lv_iconst (v := 0) hx hb dX0_areEnoughBy_54 (by decide) ?_
        have q9 : (0 : Int32).toInt = 0 := by decide
        exact W.zret (v := 0) hx hb hr rfl (fun t ht hW => ⟨⟨0, (), rfl, by first | exact Or.inl ⟨rfl, by omega⟩ | exact Or.inr ⟨rfl, by omega⟩ | exact Or.inl rfl | exact Or.inr rfl | exact Or.inl ⟨rfl, by omega, by omega⟩ | exact (z_01 (by omega) (by omega)).symm, ct, by rw [ht]; exact hP, hD, hI⟩, hS.F ht⟩) hS.2.2 dX0_areEnoughBy_55
      · skip
        have c8 : ¬ (n.toInt ≤ 0) := fun q => c8 ((z_le rfl (by decide : (0 : Int32).toInt = 0)).mpr q)
        exfalso
        omega

set_option maxHeartbeats 4000000 in
set_option maxRecDepth 100000 in
theorem k_X0_areEnough_0 (l : Launch) (g : zG) (sz : Nat) (ad : Nat → Nat) (pe : Int32) (ct : Nat → va_E) (who : Int32) (n : Int32) (hl_who : 0 ≤ who.toInt ∧ who.toInt ≤ 65535) (hl_n : -2147483648 ≤ n.toInt ∧ n.toInt ≤ 0) (hI : Inv8 g ad pe ct) : Met l yX0_areEnough (zW yX0_areEnough cX0_areEnough 7 (some .boolean)) ({ frames := 1, cells := 0, slots := 0, locals := 20 }) (va_Pc [.ref (ad 17), .int who, .int n] (zA g (zw 126 ad ct) sz)) (va_Qi (fun (r : Int32) (_ : Unit) => (r = 1) ∨ (r = 0)) (fun _ t => ∃ ct2 : Nat → va_E, zP g (zw 126 ad ct2) t.heap ∧ va_D (va_A (zw 126 ad ct) sz) (zw 126 ad ct2) ∧ Inv8 g ad pe ct2) (va_A (zw 126 ad ct) sz)) 0 0 (va_A (zw 126 ad ct) sz) := by
  refine Met.ofW (cc := cX0_areEnough) (maxL := 7) (ret := (some .boolean)) (by decide) rfl ?_
  intro p e s m args below meth c s₁ B hml hv
  obtain ⟨rfl, hsz, hP, hK, hD0, hN⟩ := hv
  have hx := B.exec
  have hb := B.bytes
  have hr := B.returns
  have hg := zW.law (atoms_spec (ws := (zW yX0_areEnough cX0_areEnough 7 (some .boolean))) B.pre)
  have hown : s.vm.findClass RX0 = some m.cls := findClass_of_methodNamed B.named
  have hlocks := B.notSynchronized
  have hpe0 := hI.1
  subst hsz
  have hD := hD0.self (sz := s.heap.size)
  generalize hAe : va_A (zw 126 ad ct) s.heap.size = A at hD ⊢
  have hA : ∀ q : Nat, s.heap.size ≤ q → A q := fun q h => by rw [← hAe]; exact Or.inr h
  have hS : va_S A s.heap s.heap [] := va_S.rf
  have hl := lv_entry ([.ref (ad 17), .int who, .int n]) (n := 7) (Nat.le_of_ble_eq_true rfl)
  rw [lg_entry_eq]
  generalize (lg_sl ([.ref (ad 17), .int who, .int n]) ++ List.replicate (7 - (lg_sl ([.ref (ad 17), .int who, .int n])).length) Slot.unset).toArray = ls at hl ⊢
  have hl : lv_has ls 7 [(0, .ref (ad 17)), (1, .int who), (2, .int n)] := hl
  have hz : zlen (ct 20) = zlen (ct 20) := rfl
  refine lv_iload_n hx hb dX0_areEnough_0 rfl (lv_at hl 1 rfl) ?_
  refine zc_i (va_runS (As := [.int who]) (rest := []) ⟨hx, hb, hml, hown, hg⟩ (k_bce l g ad pe ct who hI) (va_cwS 1 hg (z_gS mm_826 mm_729 mm_119 mm_730) rfl rfl rfl (by decide +kernel) ⟨Nat.le_of_ble_eq_true rfl, Nat.le_of_ble_eq_true rfl⟩) (zR.pre [.int who] hP hK hN) rfl rfl hl.1 rfl (lv_room (Nat.le_of_ble_eq_true rfl)) dX0_areEnough_1 ⟨Nat.le_of_ble_eq_true rfl, Nat.le_of_ble_eq_true rfl⟩) (fun r1 hr1 => ?_)
  have hqr1 := hr1
  subst r1
  have hbr1 := z_bc (x := who) (by omega) (by omega)
  refine lv_iconst (v := 1) hx hb dX0_areEnough_4 (by decide) ?_
  refine lv_icmp_gt (tgt := 10) hx hb dX0_areEnough_5 (by decide) (fun c2 => ?_) (fun c2 => ?_)
  · skip
    have c2 : 1 < (bcf who).toInt := (z_lt (by decide : (1 : Int32).toInt = 1) rfl).mp c2
    refine lv_iload_n hx hb dX0_areEnough_10 rfl (lv_at hl 2 rfl) ?_
    refine lv_if_le (tgt := 29) hx hb dX0_areEnough_11 (by decide) (fun c3 => ?_) (fun c3 => ?_)
    · skip
      have c3 : n.toInt ≤ 0 := (z_le rfl (by decide : (0 : Int32).toInt = 0)).mp c3
      refine lv_iconst (v := 0) hx hb dX0_areEnough_29 (by decide) ?_
      have q4 : (0 : Int32).toInt = 0 := by decide
      exact W.zret (v := 0) hx hb hr rfl (fun t ht hW => ⟨⟨0, (), rfl, by first | exact Or.inl ⟨rfl, by omega⟩ | exact Or.inr ⟨rfl, by omega⟩ | exact Or.inl rfl | exact Or.inr rfl | exact Or.inl ⟨rfl, by omega, by omega⟩ | exact (z_01 (by omega) (by omega)).symm, ct, by rw [ht]; exact hP, hD, hI⟩, hS.F ht⟩) hS.2.2 dX0_areEnough_30
    · skip
      have c3 : ¬ (n.toInt ≤ 0) := fun q => c3 ((z_le rfl (by decide : (0 : Int32).toInt = 0)).mpr q)
      exfalso
      omega
  · skip
    have c2 : ¬ (1 < (bcf who).toInt) := fun q => c2 ((z_lt (by decide : (1 : Int32).toInt = 1) rfl).mpr q)
    refine lv_iconst (v := 1) hx hb dX0_areEnough_8 (by decide) ?_
    have q5 : (1 : Int32).toInt = 1 := by decide
    exact W.zret (v := 1) hx hb hr rfl (fun t ht hW => ⟨⟨1, (), rfl, by first | exact Or.inl ⟨rfl, by omega⟩ | exact Or.inr ⟨rfl, by omega⟩ | exact Or.inl rfl | exact Or.inr rfl | exact Or.inl ⟨rfl, by omega, by omega⟩ | exact (z_01 (by omega) (by omega)).symm, ct, by rw [ht]; exact hP, hD, hI⟩, hS.F ht⟩) hS.2.2 dX0_areEnough_9
