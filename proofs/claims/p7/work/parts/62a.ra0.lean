set_option maxHeartbeats 4000000 in
set_option maxRecDepth 100000 in
theorem k_X9_in (l : Launch) (g : zG) (ad : Nat → Nat) (me : Int32) (ct : Nat → va_E) (n : Int32) (lo : Int32) (hi : Int32) (hI : IR g ad me ct) : Met l yX9_in (zW yX9_in cX9_in 3 (some .boolean)) ({ frames := 0, cells := 0, slots := 0, locals := 0 }) (va_Pc [.int n, .int lo, .int hi] (zR g (zw 32 ad ct))) (vp_Si (fun r : Int32 => (r = 1 ∧ (lo.toInt ≤ n.toInt) ∧ (n.toInt ≤ hi.toInt)) ∨ (r = 0 ∧ (¬ (lo.toInt ≤ n.toInt ∧ n.toInt ≤ hi.toInt))))) 0 0 (fun _ => False) := by
  refine Met.ofW (cc := cX9_in) (maxL := 3) (ret := (some .boolean)) (by decide) rfl ?_
  intro p e s m args below meth c s₁ B hml hv
  obtain ⟨rfl, hP, hK, hN⟩ := hv
  have hx := B.exec
  have hb := B.bytes
  have hr := B.returns
  have hg := zW.law (atoms_spec (ws := (zW yX9_in cX9_in 3 (some .boolean))) B.pre)
  have hown : s.vm.findClass RX9 = some m.cls := findClass_of_methodNamed B.named
  have hlocks := B.notSynchronized
  have hpe0 := hI.1.1
  have hl := lv_entry ([.int n, .int lo, .int hi]) (n := 3) (Nat.le_of_ble_eq_true rfl)
  rw [lg_entry_eq]
  generalize (lg_sl ([.int n, .int lo, .int hi]) ++ List.replicate (3 - (lg_sl ([.int n, .int lo, .int hi])).length) Slot.unset).toArray = ls at hl ⊢
  have hl : lv_has ls 3 [(0, .int n), (1, .int lo), (2, .int hi)] := hl
  have rg_n := z_rng n
  have rg_lo := z_rng lo
  have rg_hi := z_rng hi
  refine lv_iload_n hx hb dX9_in_0 rfl (lv_at hl 0 rfl) ?_
  refine lv_iload_n hx hb dX9_in_1 rfl (lv_at hl 1 rfl) ?_
  refine lv_icmp_lt (tgt := 14) hx hb dX9_in_2 (by decide) (fun c1 => ?_) (fun c1 => ?_)
  · skip
    have c1 : n.toInt < lo.toInt := (z_lt rfl rfl).mp c1
    refine lv_iconst (v := 0) hx hb dX9_in_14 (by decide) ?_
    have q2 : (0 : Int32).toInt = 0 := by decide
    exact W.zret (v := 0) hx hb hr rfl (fun t ht hW => ⟨0, rfl, by first | exact Or.inl ⟨rfl, by omega⟩ | exact Or.inr ⟨rfl, by omega⟩ | exact Or.inl rfl | exact Or.inr rfl | exact Or.inl ⟨rfl, by omega, by omega⟩ | exact (z_01 (by omega) (by omega)).symm, ht⟩) (fun q hq => by cases hq) dX9_in_15
  · skip
    have c1 : ¬ (n.toInt < lo.toInt) := fun q => c1 ((z_lt rfl rfl).mpr q)
    refine lv_iload_n hx hb dX9_in_5 rfl (lv_at hl 0 rfl) ?_
    refine lv_iload_n hx hb dX9_in_6 rfl (lv_at hl 2 rfl) ?_
    refine lv_icmp_gt (tgt := 14) hx hb dX9_in_7 (by decide) (fun c3 => ?_) (fun c3 => ?_)
    · skip
      have c3 : hi.toInt < n.toInt := (z_lt rfl rfl).mp c3
      refine lv_iconst (v := 0) hx hb dX9_in_14 (by decide) ?_
      have q4 : (0 : Int32).toInt = 0 := by decide
      exact W.zret (v := 0) hx hb hr rfl (fun t ht hW => ⟨0, rfl, by first | exact Or.inl ⟨rfl, by omega⟩ | exact Or.inr ⟨rfl, by omega⟩ | exact Or.inl rfl | exact Or.inr rfl | exact Or.inl ⟨rfl, by omega, by omega⟩ | exact (z_01 (by omega) (by omega)).symm, ht⟩) (fun q hq => by cases hq) dX9_in_15
    · skip
      have c3 : ¬ (hi.toInt < n.toInt) := fun q => c3 ((z_lt rfl rfl).mpr q)
      refine lv_iconst (v := 1) hx hb dX9_in_10 (by decide) ?_
      refine lv_goto (tgt := 15) hx hb dX9_in_11 (by decide) ?_
      have q5 : (1 : Int32).toInt = 1 := by decide
      exact W.zret (v := 1) hx hb hr rfl (fun t ht hW => ⟨1, rfl, by first | exact Or.inl ⟨rfl, by omega⟩ | exact Or.inr ⟨rfl, by omega⟩ | exact Or.inl rfl | exact Or.inr rfl | exact Or.inl ⟨rfl, by omega, by omega⟩ | exact (z_01 (by omega) (by omega)).symm, ht⟩) (fun q hq => by cases hq) dX9_in_15

set_option maxHeartbeats 4000000 in
set_option maxRecDepth 100000 in
theorem k_X9_isColumn (l : Launch) (g : zG) (ad : Nat → Nat) (me : Int32) (ct : Nat → va_E) (n : Int32) (hI : IR g ad me ct) : Met l yX9_isColumn (zW yX9_isColumn cX9_isColumn 1 (some .boolean)) ({ frames := 0, cells := 0, slots := 0, locals := 0 }) (va_Pc [.int n] (zR g (zw 32 ad ct))) (vp_Si (fun r : Int32 => (r = 1 ∧ (0 ≤ n.toInt) ∧ (n.toInt ≤ 3)) ∨ (r = 0 ∧ (¬ (0 ≤ n.toInt ∧ n.toInt ≤ 3))))) 0 0 (fun _ => False) := by
  refine Met.ofW (cc := cX9_isColumn) (maxL := 1) (ret := (some .boolean)) (by decide) rfl ?_
  intro p e s m args below meth c s₁ B hml hv
  obtain ⟨rfl, hP, hK, hN⟩ := hv
  have hx := B.exec
  have hb := B.bytes
  have hr := B.returns
  have hg := zW.law (atoms_spec (ws := (zW yX9_isColumn cX9_isColumn 1 (some .boolean))) B.pre)
  have hown : s.vm.findClass RX9 = some m.cls := findClass_of_methodNamed B.named
  have hlocks := B.notSynchronized
  have hpe0 := hI.1.1
  have hl := lv_entry ([.int n]) (n := 1) (Nat.le_of_ble_eq_true rfl)
  rw [lg_entry_eq]
  generalize (lg_sl ([.int n]) ++ List.replicate (1 - (lg_sl ([.int n])).length) Slot.unset).toArray = ls at hl ⊢
  have hl : lv_has ls 1 [(0, .int n)] := hl
  have rg_n := z_rng n
  refine lv_iload_n hx hb dX9_isColumn_0 rfl (lv_at hl 0 rfl) ?_
  refine lv_if_lt (tgt := 13) hx hb dX9_isColumn_1 (by decide) (fun c1 => ?_) (fun c1 => ?_)
  · skip
    have c1 : n.toInt < 0 := (z_lt rfl (by decide : (0 : Int32).toInt = 0)).mp c1
    refine lv_iconst (v := 0) hx hb dX9_isColumn_13 (by decide) ?_
    have q2 : (0 : Int32).toInt = 0 := by decide
    exact W.zret (v := 0) hx hb hr rfl (fun t ht hW => ⟨0, rfl, by first | exact Or.inl ⟨rfl, by omega⟩ | exact Or.inr ⟨rfl, by omega⟩ | exact Or.inl rfl | exact Or.inr rfl | exact Or.inl ⟨rfl, by omega, by omega⟩ | exact (z_01 (by omega) (by omega)).symm, ht⟩) (fun q hq => by cases hq) dX9_isColumn_14
  · skip
    have c1 : ¬ (n.toInt < 0) := fun q => c1 ((z_lt rfl (by decide : (0 : Int32).toInt = 0)).mpr q)
    refine lv_iload_n hx hb dX9_isColumn_4 rfl (lv_at hl 0 rfl) ?_
    refine lv_iconst (v := 4) hx hb dX9_isColumn_5 (by decide) ?_
    refine lv_icmp_ge (tgt := 13) hx hb dX9_isColumn_6 (by decide) (fun c3 => ?_) (fun c3 => ?_)
    · skip
      have c3 : 4 ≤ n.toInt := (z_le (by decide : (4 : Int32).toInt = 4) rfl).mp c3
      refine lv_iconst (v := 0) hx hb dX9_isColumn_13 (by decide) ?_
      have q4 : (0 : Int32).toInt = 0 := by decide
      exact W.zret (v := 0) hx hb hr rfl (fun t ht hW => ⟨0, rfl, by first | exact Or.inl ⟨rfl, by omega⟩ | exact Or.inr ⟨rfl, by omega⟩ | exact Or.inl rfl | exact Or.inr rfl | exact Or.inl ⟨rfl, by omega, by omega⟩ | exact (z_01 (by omega) (by omega)).symm, ht⟩) (fun q hq => by cases hq) dX9_isColumn_14
    · skip
      have c3 : ¬ (4 ≤ n.toInt) := fun q => c3 ((z_le (by decide : (4 : Int32).toInt = 4) rfl).mpr q)
      refine lv_iconst (v := 1) hx hb dX9_isColumn_9 (by decide) ?_
      refine lv_goto (tgt := 14) hx hb dX9_isColumn_10 (by decide) ?_
      have q5 : (1 : Int32).toInt = 1 := by decide
      exact W.zret (v := 1) hx hb hr rfl (fun t ht hW => ⟨1, rfl, by first | exact Or.inl ⟨rfl, by omega⟩ | exact Or.inr ⟨rfl, by omega⟩ | exact Or.inl rfl | exact Or.inr rfl | exact Or.inl ⟨rfl, by omega, by omega⟩ | exact (z_01 (by omega) (by omega)).symm, ht⟩) (fun q hq => by cases hq) dX9_isColumn_14

set_option maxHeartbeats 4000000 in
set_option maxRecDepth 100000 in
theorem k_X9_isLevel (l : Launch) (g : zG) (ad : Nat → Nat) (me : Int32) (ct : Nat → va_E) (n : Int32) (hI : IR g ad me ct) : Met l yX9_isLevel (zW yX9_isLevel cX9_isLevel 1 (some .boolean)) ({ frames := 0, cells := 0, slots := 0, locals := 0 }) (va_Pc [.int n] (zR g (zw 32 ad ct))) (vp_Si (fun r : Int32 => (r = 1 ∧ (0 ≤ n.toInt) ∧ (n.toInt ≤ 4)) ∨ (r = 0 ∧ (¬ (0 ≤ n.toInt ∧ n.toInt ≤ 4))))) 0 0 (fun _ => False) := by
  refine Met.ofW (cc := cX9_isLevel) (maxL := 1) (ret := (some .boolean)) (by decide) rfl ?_
  intro p e s m args below meth c s₁ B hml hv
  obtain ⟨rfl, hP, hK, hN⟩ := hv
  have hx := B.exec
  have hb := B.bytes
  have hr := B.returns
  have hg := zW.law (atoms_spec (ws := (zW yX9_isLevel cX9_isLevel 1 (some .boolean))) B.pre)
  have hown : s.vm.findClass RX9 = some m.cls := findClass_of_methodNamed B.named
  have hlocks := B.notSynchronized
  have hpe0 := hI.1.1
  have hl := lv_entry ([.int n]) (n := 1) (Nat.le_of_ble_eq_true rfl)
  rw [lg_entry_eq]
  generalize (lg_sl ([.int n]) ++ List.replicate (1 - (lg_sl ([.int n])).length) Slot.unset).toArray = ls at hl ⊢
  have hl : lv_has ls 1 [(0, .int n)] := hl
  have rg_n := z_rng n
  refine lv_iload_n hx hb dX9_isLevel_0 rfl (lv_at hl 0 rfl) ?_
  refine lv_if_lt (tgt := 13) hx hb dX9_isLevel_1 (by decide) (fun c1 => ?_) (fun c1 => ?_)
  · skip
    have c1 : n.toInt < 0 := (z_lt rfl (by decide : (0 : Int32).toInt = 0)).mp c1
    refine lv_iconst (v := 0) hx hb dX9_isLevel_13 (by decide) ?_
    have q2 : (0 : Int32).toInt = 0 := by decide
    exact W.zret (v := 0) hx hb hr rfl (fun t ht hW => ⟨0, rfl, by first | exact Or.inl ⟨rfl, by omega⟩ | exact Or.inr ⟨rfl, by omega⟩ | exact Or.inl rfl | exact Or.inr rfl | exact Or.inl ⟨rfl, by omega, by omega⟩ | exact (z_01 (by omega) (by omega)).symm, ht⟩) (fun q hq => by cases hq) dX9_isLevel_14
  · skip
    have c1 : ¬ (n.toInt < 0) := fun q => c1 ((z_lt rfl (by decide : (0 : Int32).toInt = 0)).mpr q)
    refine lv_iload_n hx hb dX9_isLevel_4 rfl (lv_at hl 0 rfl) ?_
    refine lv_iconst (v := 5) hx hb dX9_isLevel_5 (by decide) ?_
    refine lv_icmp_ge (tgt := 13) hx hb dX9_isLevel_6 (by decide) (fun c3 => ?_) (fun c3 => ?_)
    · skip
      have c3 : 5 ≤ n.toInt := (z_le (by decide : (5 : Int32).toInt = 5) rfl).mp c3
      refine lv_iconst (v := 0) hx hb dX9_isLevel_13 (by decide) ?_
      have q4 : (0 : Int32).toInt = 0 := by decide
      exact W.zret (v := 0) hx hb hr rfl (fun t ht hW => ⟨0, rfl, by first | exact Or.inl ⟨rfl, by omega⟩ | exact Or.inr ⟨rfl, by omega⟩ | exact Or.inl rfl | exact Or.inr rfl | exact Or.inl ⟨rfl, by omega, by omega⟩ | exact (z_01 (by omega) (by omega)).symm, ht⟩) (fun q hq => by cases hq) dX9_isLevel_14
    · skip
      have c3 : ¬ (5 ≤ n.toInt) := fun q => c3 ((z_le (by decide : (5 : Int32).toInt = 5) rfl).mpr q)
      refine lv_iconst (v := 1) hx hb dX9_isLevel_9 (by decide) ?_
      refine lv_goto (tgt := 14) hx hb dX9_isLevel_10 (by decide) ?_
      have q5 : (1 : Int32).toInt = 1 := by decide
      exact W.zret (v := 1) hx hb hr rfl (fun t ht hW => ⟨1, rfl, by first | exact Or.inl ⟨rfl, by omega⟩ | exact Or.inr ⟨rfl, by omega⟩ | exact Or.inl rfl | exact Or.inr rfl | exact Or.inl ⟨rfl, by omega, by omega⟩ | exact (z_01 (by omega) (by omega)).symm, ht⟩) (fun q hq => by cases hq) dX9_isLevel_14

set_option maxHeartbeats 4000000 in
set_option maxRecDepth 100000 in
theorem k_X9_isKnown (l : Launch) (g : zG) (ad : Nat → Nat) (me : Int32) (ct : Nat → va_E) (n : Int32) (hI : IR g ad me ct) : Met l yX9_isKnown (zW yX9_isKnown cX9_isKnown 1 (some .boolean)) ({ frames := 0, cells := 0, slots := 0, locals := 0 }) (va_Pc [.int n] (zR g (zw 32 ad ct))) (vp_Si (fun r : Int32 => (r = 1 ∧ (0 ≤ n.toInt) ∧ (n.toInt ≤ 255)) ∨ (r = 0 ∧ (¬ (0 ≤ n.toInt ∧ n.toInt ≤ 255))))) 0 0 (fun _ => False) := by
  refine Met.ofW (cc := cX9_isKnown) (maxL := 1) (ret := (some .boolean)) (by decide) rfl ?_
  intro p e s m args below meth c s₁ B hml hv
  obtain ⟨rfl, hP, hK, hN⟩ := hv
  have hx := B.exec
  have hb := B.bytes
  have hr := B.returns
  have hg := zW.law (atoms_spec (ws := (zW yX9_isKnown cX9_isKnown 1 (some .boolean))) B.pre)
  have hown : s.vm.findClass RX9 = some m.cls := findClass_of_methodNamed B.named
  have hlocks := B.notSynchronized
  have hpe0 := hI.1.1
  have hl := lv_entry ([.int n]) (n := 1) (Nat.le_of_ble_eq_true rfl)
  rw [lg_entry_eq]
  generalize (lg_sl ([.int n]) ++ List.replicate (1 - (lg_sl ([.int n])).length) Slot.unset).toArray = ls at hl ⊢
  have hl : lv_has ls 1 [(0, .int n)] := hl
  have rg_n := z_rng n
  refine lv_iload_n hx hb dX9_isKnown_0 rfl (lv_at hl 0 rfl) ?_
  refine lv_if_lt (tgt := 15) hx hb dX9_isKnown_1 (by decide) (fun c1 => ?_) (fun c1 => ?_)
  · skip
    have c1 : n.toInt < 0 := (z_lt rfl (by decide : (0 : Int32).toInt = 0)).mp c1
    refine lv_iconst (v := 0) hx hb dX9_isKnown_15 (by decide) ?_
    have q2 : (0 : Int32).toInt = 0 := by decide
    exact W.zret (v := 0) hx hb hr rfl (fun t ht hW => ⟨0, rfl, by first | exact Or.inl ⟨rfl, by omega⟩ | exact Or.inr ⟨rfl, by omega⟩ | exact Or.inl rfl | exact Or.inr rfl | exact Or.inl ⟨rfl, by omega, by omega⟩ | exact (z_01 (by omega) (by omega)).symm, ht⟩) (fun q hq => by cases hq) dX9_isKnown_16
  · skip
    have c1 : ¬ (n.toInt < 0) := fun q => c1 ((z_lt rfl (by decide : (0 : Int32).toInt = 0)).mpr q)
    refine lv_iload_n hx hb dX9_isKnown_4 rfl (lv_at hl 0 rfl) ?_
    refine lv_sipush (v := 256) hx hb dX9_isKnown_5 (by decide) ?_
    refine lv_icmp_ge (tgt := 15) hx hb dX9_isKnown_8 (by decide) (fun c3 => ?_) (fun c3 => ?_)
    · skip
      have c3 : 256 ≤ n.toInt := (z_le (by decide : (256 : Int32).toInt = 256) rfl).mp c3
      refine lv_iconst (v := 0) hx hb dX9_isKnown_15 (by decide) ?_
      have q4 : (0 : Int32).toInt = 0 := by decide
      exact W.zret (v := 0) hx hb hr rfl (fun t ht hW => ⟨0, rfl, by first | exact Or.inl ⟨rfl, by omega⟩ | exact Or.inr ⟨rfl, by omega⟩ | exact Or.inl rfl | exact Or.inr rfl | exact Or.inl ⟨rfl, by omega, by omega⟩ | exact (z_01 (by omega) (by omega)).symm, ht⟩) (fun q hq => by cases hq) dX9_isKnown_16
    · skip
      have c3 : ¬ (256 ≤ n.toInt) := fun q => c3 ((z_le (by decide : (256 : Int32).toInt = 256) rfl).mpr q)
      refine lv_iconst (v := 1) hx hb dX9_isKnown_11 (by decide) ?_
      refine lv_goto (tgt := 16) hx hb dX9_isKnown_12 (by decide) ?_
      have q5 : (1 : Int32).toInt = 1 := by decide
      exact W.zret (v := 1) hx hb hr rfl (fun t ht hW => ⟨1, rfl, by first | exact Or.inl ⟨rfl, by omega⟩ | exact Or.inr ⟨rfl, by omega⟩ | exact Or.inl rfl | exact Or.inr rfl | exact Or.inl ⟨rfl, by omega, by omega⟩ | exact (z_01 (by omega) (by omega)).symm, ht⟩) (fun q hq => by cases hq) dX9_isKnown_16

set_option maxHeartbeats 4000000 in
set_option maxRecDepth 100000 in
theorem k_X9_isMany (l : Launch) (g : zG) (ad : Nat → Nat) (me : Int32) (ct : Nat → va_E) (n : Int32) (hI : IR g ad me ct) : Met l yX9_isMany (zW yX9_isMany cX9_isMany 1 (some .boolean)) ({ frames := 0, cells := 0, slots := 0, locals := 0 }) (va_Pc [.int n] (zR g (zw 32 ad ct))) (vp_Si (fun r : Int32 => (r = 1 ∧ (1 ≤ n.toInt) ∧ (n.toInt ≤ 16)) ∨ (r = 0 ∧ (¬ (1 ≤ n.toInt ∧ n.toInt ≤ 16))))) 0 0 (fun _ => False) := by
  refine Met.ofW (cc := cX9_isMany) (maxL := 1) (ret := (some .boolean)) (by decide) rfl ?_
  intro p e s m args below meth c s₁ B hml hv
  obtain ⟨rfl, hP, hK, hN⟩ := hv
  have hx := B.exec
  have hb := B.bytes
  have hr := B.returns
  have hg := zW.law (atoms_spec (ws := (zW yX9_isMany cX9_isMany 1 (some .boolean))) B.pre)
  have hown : s.vm.findClass RX9 = some m.cls := findClass_of_methodNamed B.named
  have hlocks := B.notSynchronized
  have hpe0 := hI.1.1
  have hl := lv_entry ([.int n]) (n := 1) (Nat.le_of_ble_eq_true rfl)
  rw [lg_entry_eq]
  generalize (lg_sl ([.int n]) ++ List.replicate (1 - (lg_sl ([.int n])).length) Slot.unset).toArray = ls at hl ⊢
  have hl : lv_has ls 1 [(0, .int n)] := hl
  have rg_n := z_rng n
  refine lv_iload_n hx hb dX9_isMany_0 rfl (lv_at hl 0 rfl) ?_
  refine lv_if_le (tgt := 14) hx hb dX9_isMany_1 (by decide) (fun c1 => ?_) (fun c1 => ?_)
  · skip
    have c1 : n.toInt ≤ 0 := (z_le rfl (by decide : (0 : Int32).toInt = 0)).mp c1
    refine lv_iconst (v := 0) hx hb dX9_isMany_14 (by decide) ?_
    have q2 : (0 : Int32).toInt = 0 := by decide
    exact W.zret (v := 0) hx hb hr rfl (fun t ht hW => ⟨0, rfl, by first | exact Or.inl ⟨rfl, by omega⟩ | exact Or.inr ⟨rfl, by omega⟩ | exact Or.inl rfl | exact Or.inr rfl | exact Or.inl ⟨rfl, by omega, by omega⟩ | exact (z_01 (by omega) (by omega)).symm, ht⟩) (fun q hq => by cases hq) dX9_isMany_15
  · skip
    have c1 : ¬ (n.toInt ≤ 0) := fun q => c1 ((z_le rfl (by decide : (0 : Int32).toInt = 0)).mpr q)
    refine lv_iload_n hx hb dX9_isMany_4 rfl (lv_at hl 0 rfl) ?_
    refine lv_bipush (v := 17) hx hb dX9_isMany_5 (by decide) ?_
    refine lv_icmp_ge (tgt := 14) hx hb dX9_isMany_7 (by decide) (fun c3 => ?_) (fun c3 => ?_)
    · skip
      have c3 : 17 ≤ n.toInt := (z_le (by decide : (17 : Int32).toInt = 17) rfl).mp c3
      refine lv_iconst (v := 0) hx hb dX9_isMany_14 (by decide) ?_
      have q4 : (0 : Int32).toInt = 0 := by decide
      exact W.zret (v := 0) hx hb hr rfl (fun t ht hW => ⟨0, rfl, by first | exact Or.inl ⟨rfl, by omega⟩ | exact Or.inr ⟨rfl, by omega⟩ | exact Or.inl rfl | exact Or.inr rfl | exact Or.inl ⟨rfl, by omega, by omega⟩ | exact (z_01 (by omega) (by omega)).symm, ht⟩) (fun q hq => by cases hq) dX9_isMany_15
    · skip
      have c3 : ¬ (17 ≤ n.toInt) := fun q => c3 ((z_le (by decide : (17 : Int32).toInt = 17) rfl).mpr q)
      refine lv_iconst (v := 1) hx hb dX9_isMany_10 (by decide) ?_
      refine lv_goto (tgt := 15) hx hb dX9_isMany_11 (by decide) ?_
      have q5 : (1 : Int32).toInt = 1 := by decide
      exact W.zret (v := 1) hx hb hr rfl (fun t ht hW => ⟨1, rfl, by first | exact Or.inl ⟨rfl, by omega⟩ | exact Or.inr ⟨rfl, by omega⟩ | exact Or.inl rfl | exact Or.inr rfl | exact Or.inl ⟨rfl, by omega, by omega⟩ | exact (z_01 (by omega) (by omega)).symm, ht⟩) (fun q hq => by cases hq) dX9_isMany_15

set_option maxHeartbeats 4000000 in
set_option maxRecDepth 100000 in
theorem k_X9_bits (l : Launch) (g : zG) (ad : Nat → Nat) (me : Int32) (ct : Nat → va_E) (set : Int32) (hI : IR g ad me ct) : Met l yX9_bits (zW yX9_bits cX9_bits 3 (some .int)) ({ frames := 0, cells := 0, slots := 0, locals := 0 }) (va_Pc [.int set] (zR g (zw 32 ad ct))) (vp_Si (fun r : Int32 => ((0 ≤ r.toInt) ∧ (r.toInt ≤ 16)))) 0 0 (fun _ => False) := by
  refine Met.ofW (cc := cX9_bits) (maxL := 3) (ret := (some .int)) (by decide) rfl ?_
  intro p e s m args below meth c s₁ B hml hv
  obtain ⟨rfl, hP, hK, hN⟩ := hv
  have hx := B.exec
  have hb := B.bytes
  have hr := B.returns
  have hg := zW.law (atoms_spec (ws := (zW yX9_bits cX9_bits 3 (some .int))) B.pre)
  have hown : s.vm.findClass RX9 = some m.cls := findClass_of_methodNamed B.named
  have hlocks := B.notSynchronized
  have hpe0 := hI.1.1
  have hl := lv_entry ([.int set]) (n := 3) (Nat.le_of_ble_eq_true rfl)
  rw [lg_entry_eq]
  generalize (lg_sl ([.int set]) ++ List.replicate (3 - (lg_sl ([.int set])).length) Slot.unset).toArray = ls at hl ⊢
  have hl : lv_has ls 3 [(0, .int set)] := hl
  have rg_set := z_rng set
  refine lv_iconst (v := 0) hx hb dX9_bits_0 (by decide) ?_
  refine lv_istore_n (lv' := [(1, .int 0), (0, .int set)]) hx hb dX9_bits_1 rfl hl (by decide) rfl (fun ls hl => ?_)
  refine lv_iconst (v := 0) hx hb dX9_bits_2 (by decide) ?_
  refine lv_istore_n (lv' := [(2, .int 0), (1, .int 0), (0, .int set)]) hx hb dX9_bits_3 rfl hl (by decide) rfl (fun ls hl => ?_)
  have loop4 : ∀ (n4 : Nat) (v2_4 : Int32) (v1_4 : Int32) (ls : Array Slot), ((16 - v2_4.toInt : Int).toNat < n4) → (0 ≤ v2_4.toInt ∧ v2_4.toInt ≤ 16) → (0 ≤ v1_4.toInt ∧ v1_4.toInt ≤ 16) → (v1_4.toInt ≤ v2_4.toInt) → lv_has ls 3 [(2, .int v2_4), (1, .int v1_4), (0, .int set)] → W p l e (headSpec (zW yX9_bits cX9_bits 3 (some .int)) ({ frames := 0, cells := 0, slots := 0, locals := 0 })).room s m ([.int set] : List Value).toArray below meth c s.heap [] 0 0 (MQ below (vp_Si (fun r : Int32 => ((0 ≤ r.toInt) ∧ (r.toInt ≤ 16)))) ([.int set] : List Value).toArray s 0 0 (fun _ => False)) (F0 m 4 ls []) := by
    intro n4
    induction n4 with
    | zero =>
      intro v2_4 v1_4 ls hn4 b2_4 b1_4 j0_4 hl
      exact absurd hn4 (Nat.not_lt_zero _)
    | succ n4 ih4 =>
      intro v2_4 v1_4 ls hn4 b2_4 b1_4 j0_4 hl
      refine lv_iload_n hx hb dX9_bits_4 rfl (lv_at hl 0 rfl) ?_
      refine lv_bipush (v := 16) hx hb dX9_bits_5 (by decide) ?_
      refine lv_icmp_ge (tgt := 24) hx hb dX9_bits_7 (by decide) (fun c1 => ?_) (fun c1 => ?_)
      · skip
        have c1 : 16 ≤ v2_4.toInt := (z_le (by decide : (16 : Int32).toInt = 16) rfl).mp c1
        refine lv_iload_n hx hb dX9_bits_24 rfl (lv_at hl 1 rfl) ?_
        exact W.iret (v := v1_4) hx hb hr (fun t ht hW => ⟨v1_4, rfl, ⟨by first | omega | decide, by first | omega | decide⟩, ht⟩) (fun q hq => by cases hq) dX9_bits_25
      · skip
        have c1 : ¬ (16 ≤ v2_4.toInt) := fun q => c1 ((z_le (by decide : (16 : Int32).toInt = 16) rfl).mpr q)
        refine lv_iload_n hx hb dX9_bits_10 rfl (lv_at hl 1 rfl) ?_
        refine lv_iload_n hx hb dX9_bits_11 rfl (lv_at hl 2 rfl) ?_
        refine lv_iload_n hx hb dX9_bits_12 rfl (lv_at hl 0 rfl) ?_
        refine lv_ishr hx hb dX9_bits_13 ?_
        refine lv_topi (fun x2 ex2 => ?_)
        refine lv_iconst (v := 1) hx hb dX9_bits_14 (by decide) ?_
        refine lv_iand hx hb dX9_bits_15 ?_
        refine lv_topi (fun x3 ex3 => ?_)
        have tx3 := z_andr (x := x2) (y := 1) (by decide : (1 : Int32).toInt = 1) (by omega)
        rw [← ex3] at tx3
        refine lv_iadd hx hb dX9_bits_16 ?_
        refine lv_topi (fun x4 ex4 => ?_)
        have tx4 : x4.toInt = v1_4.toInt + x3.toInt := by rw [ex4]; exact z_add rfl rfl (by omega) (by omega)
        refine lv_istore_n (lv' := [(1, .int x4), (2, .int v2_4), (0, .int set)]) hx hb dX9_bits_17 rfl hl (by decide) rfl (fun ls hl => ?_)
        obtain ⟨x5, ex5⟩ : ∃ y : Int32, y = v2_4 + 1 := ⟨_, rfl⟩
        have tx5 : x5.toInt = v2_4.toInt + 1 := by rw [ex5]; exact z_add rfl (by decide : (1 : Int32).toInt = 1) (by omega) (by omega)
        refine lv_iinc (v := x5) (lv' := [(2, .int x5), (1, .int x4), (0, .int set)]) hx hb dX9_bits_18 hl (k := 1) rfl (by rw [ex5]; rfl) (by decide) rfl (fun ls hl => ?_)
        refine lv_goto (tgt := 4) hx hb dX9_bits_21 (by decide) ?_
        exact ih4 x5 x4 ls (by omega) (by first | assumption | omega | decide) (by first | assumption | omega | decide) (by first | assumption | omega | decide) (lv_sub hl [0, 1, 2] rfl)
  exact loop4 ((16 - (0 : Int32).toInt : Int).toNat + 1) (0 : Int32) (0 : Int32) ls (by omega) (by first | assumption | omega | decide) (by first | assumption | omega | decide) (by first | assumption | omega | decide) (lv_sub hl [0, 1, 2] rfl)

set_option maxHeartbeats 4000000 in
set_option maxRecDepth 100000 in
theorem k_X9_at (l : Launch) (g : zG) (ad : Nat → Nat) (me : Int32) (ct : Nat → va_E) (b : Int32) (i : Int32) (hl_b : 0 ≤ b.toInt ∧ b.toInt ≤ 3) (hl_i : 0 ≤ i.toInt ∧ i.toInt ≤ 7) (hI : IR g ad me ct) : Met l yX9_at (zW yX9_at cX9_at 2 (some .int)) ({ frames := 0, cells := 0, slots := 0, locals := 0 }) (va_Pc [.int b, .int i] (zR g (zw 32 ad ct))) (vp_Si (fun r : Int32 => ((r.toInt = 8 * b.toInt + i.toInt)))) 0 0 (fun _ => False) := by
  refine Met.ofW (cc := cX9_at) (maxL := 2) (ret := (some .int)) (by decide) rfl ?_
  intro p e s m args below meth c s₁ B hml hv
  obtain ⟨rfl, hP, hK, hN⟩ := hv
  have hx := B.exec
  have hb := B.bytes
  have hr := B.returns
  have hg := zW.law (atoms_spec (ws := (zW yX9_at cX9_at 2 (some .int))) B.pre)
  have hown : s.vm.findClass RX9 = some m.cls := findClass_of_methodNamed B.named
  have hlocks := B.notSynchronized
  have hpe0 := hI.1.1
  have hl := lv_entry ([.int b, .int i]) (n := 2) (Nat.le_of_ble_eq_true rfl)
  rw [lg_entry_eq]
  generalize (lg_sl ([.int b, .int i]) ++ List.replicate (2 - (lg_sl ([.int b, .int i])).length) Slot.unset).toArray = ls at hl ⊢
  have hl : lv_has ls 2 [(0, .int b), (1, .int i)] := hl
  refine lv_bipush (v := 8) hx hb dX9_at_0 (by decide) ?_
  refine lv_iload_n hx hb dX9_at_2 rfl (lv_at hl 0 rfl) ?_
  refine lv_imul hx hb dX9_at_3 ?_
  refine lv_topi (fun x1 ex1 => ?_)
  have tx1 : x1.toInt = 8 * b.toInt := by rw [ex1]; exact z_mul (by decide : (8 : Int32).toInt = 8) rfl (by omega) (by omega)
  refine lv_iload_n hx hb dX9_at_4 rfl (lv_at hl 1 rfl) ?_
  refine lv_iadd hx hb dX9_at_5 ?_
  refine lv_topi (fun x2 ex2 => ?_)
  have tx2 : x2.toInt = x1.toInt + i.toInt := by rw [ex2]; exact z_add rfl rfl (by omega) (by omega)
  exact W.iret (v := x2) hx hb hr (fun t ht hW => ⟨x2, rfl, by first | omega | decide, ht⟩) (fun q hq => by cases hq) dX9_at_6

set_option maxHeartbeats 4000000 in
set_option maxRecDepth 100000 in
theorem k_X9_isPerson (l : Launch) (g : zG) (ad : Nat → Nat) (me : Int32) (ct : Nat → va_E) (p0 : Int32) (hI : IR g ad me ct) : Met l yX9_isPerson (zW yX9_isPerson cX9_isPerson 2 (some .boolean)) ({ frames := 0, cells := 0, slots := 0, locals := 0 }) (va_Pc [.ref (ad 0), .int p0] (zR g (zw 32 ad ct))) (vp_Si (fun r : Int32 => (r = 1 ∧ (0 ≤ p0.toInt) ∧ (p0.toInt < me.toInt)) ∨ (r = 0 ∧ (¬ (0 ≤ p0.toInt ∧ p0.toInt < me.toInt))))) 0 0 (fun _ => False) := by
  refine Met.ofW (cc := cX9_isPerson) (maxL := 2) (ret := (some .boolean)) (by decide) rfl ?_
  intro p e s m args below meth c s₁ B hml hv
  obtain ⟨rfl, hP, hK, hN⟩ := hv
  have hx := B.exec
  have hb := B.bytes
  have hr := B.returns
  have hg := zW.law (atoms_spec (ws := (zW yX9_isPerson cX9_isPerson 2 (some .boolean))) B.pre)
  have hown : s.vm.findClass RX9 = some m.cls := findClass_of_methodNamed B.named
  have hlocks := B.notSynchronized
  have hpe0 := hI.1.1
  have hl := lv_entry ([.ref (ad 0), .int p0]) (n := 2) (Nat.le_of_ble_eq_true rfl)
  rw [lg_entry_eq]
  generalize (lg_sl ([.ref (ad 0), .int p0]) ++ List.replicate (2 - (lg_sl ([.ref (ad 0), .int p0])).length) Slot.unset).toArray = ls at hl ⊢
  have hl : lv_has ls 2 [(0, .ref (ad 0)), (1, .int p0)] := hl
  have rg_p0 := z_rng p0
  refine lv_iload_n hx hb dX9_isPerson_0 rfl (lv_at hl 1 rfl) ?_
  refine lv_if_lt (tgt := 16) hx hb dX9_isPerson_1 (by decide) (fun c1 => ?_) (fun c1 => ?_)
  · skip
    have c1 : p0.toInt < 0 := (z_lt rfl (by decide : (0 : Int32).toInt = 0)).mp c1
    refine lv_iconst (v := 0) hx hb dX9_isPerson_16 (by decide) ?_
    have q2 : (0 : Int32).toInt = 0 := by decide
    exact W.zret (v := 0) hx hb hr rfl (fun t ht hW => ⟨0, rfl, by first | exact Or.inl ⟨rfl, by omega⟩ | exact Or.inr ⟨rfl, by omega⟩ | exact Or.inl rfl | exact Or.inr rfl | exact Or.inl ⟨rfl, by omega, by omega⟩ | exact (z_01 (by omega) (by omega)).symm, ht⟩) (fun q hq => by cases hq) dX9_isPerson_17
  · skip
    have c1 : ¬ (p0.toInt < 0) := fun q => c1 ((z_lt rfl (by decide : (0 : Int32).toInt = 0)).mpr q)
    refine lv_iload_n hx hb dX9_isPerson_4 rfl (lv_at hl 1 rfl) ?_
    refine lv_aload_n hx hb dX9_isPerson_5 rfl (lv_at hl 0 rfl) ?_
    obtain ⟨bks4, lks5, gos6, shn7, tpd8, pl09, ln010, flt11, opn12, cmy13, wtg14, nm015, mst16, sus17, cut18, h19, h20, h21, h22, h23, h24, h25, h26, h27, h28, h29, h30, h31, h32, h33, h34, h35, h36, h37, h38, hs3⟩ := a9_0 hI.1
    refine va_get (D := g.1) (ci := 9) (v := .int me) (C := RX9) (T := TX9) (N := 47) hx hb hg inG9 hown hK hP 0 (zw_at (by omega) hs3) rfl 0 (by decide) (hg _ mm_958) (fun _ h9 => h9) rfl dX9_isPerson_6 ?_
    refine lv_icmp_ge (tgt := 16) hx hb dX9_isPerson_9 (by decide) (fun c39 => ?_) (fun c39 => ?_)
    · skip
      have c39 : me.toInt ≤ p0.toInt := (z_le rfl rfl).mp c39
      refine lv_iconst (v := 0) hx hb dX9_isPerson_16 (by decide) ?_
      have q40 : (0 : Int32).toInt = 0 := by decide
      exact W.zret (v := 0) hx hb hr rfl (fun t ht hW => ⟨0, rfl, by first | exact Or.inl ⟨rfl, by omega⟩ | exact Or.inr ⟨rfl, by omega⟩ | exact Or.inl rfl | exact Or.inr rfl | exact Or.inl ⟨rfl, by omega, by omega⟩ | exact (z_01 (by omega) (by omega)).symm, ht⟩) (fun q hq => by cases hq) dX9_isPerson_17
    · skip
      have c39 : ¬ (me.toInt ≤ p0.toInt) := fun q => c39 ((z_le rfl rfl).mpr q)
      refine lv_iconst (v := 1) hx hb dX9_isPerson_12 (by decide) ?_
      refine lv_goto (tgt := 17) hx hb dX9_isPerson_13 (by decide) ?_
      have q41 : (1 : Int32).toInt = 1 := by decide
      exact W.zret (v := 1) hx hb hr rfl (fun t ht hW => ⟨1, rfl, by first | exact Or.inl ⟨rfl, by omega⟩ | exact Or.inr ⟨rfl, by omega⟩ | exact Or.inl rfl | exact Or.inr rfl | exact Or.inl ⟨rfl, by omega, by omega⟩ | exact (z_01 (by omega) (by omega)).symm, ht⟩) (fun q hq => by cases hq) dX9_isPerson_17

set_option maxHeartbeats 4000000 in
set_option maxRecDepth 100000 in
theorem k_X9_isBook (l : Launch) (g : zG) (ad : Nat → Nat) (me : Int32) (ct : Nat → va_E) (b : Int32) (hI : IR g ad me ct) : Met l yX9_isBook (zW yX9_isBook cX9_isBook 2 (some .boolean)) ({ frames := 0, cells := 0, slots := 0, locals := 0 }) (va_Pc [.ref (ad 0), .int b] (zR g (zw 32 ad ct))) (vp_Si (fun r : Int32 => (r = 1 ∧ (0 ≤ b.toInt) ∧ (b.toInt ≤ 3)) ∨ (r = 0))) 0 0 (fun _ => False) := by
  refine Met.ofW (cc := cX9_isBook) (maxL := 2) (ret := (some .boolean)) (by decide) rfl ?_
  intro p e s m args below meth c s₁ B hml hv
  obtain ⟨rfl, hP, hK, hN⟩ := hv
  have hx := B.exec
  have hb := B.bytes
  have hr := B.returns
  have hg := zW.law (atoms_spec (ws := (zW yX9_isBook cX9_isBook 2 (some .boolean))) B.pre)
  have hown : s.vm.findClass RX9 = some m.cls := findClass_of_methodNamed B.named
  have hlocks := B.notSynchronized
  have hpe0 := hI.1.1
  have hl := lv_entry ([.ref (ad 0), .int b]) (n := 2) (Nat.le_of_ble_eq_true rfl)
  rw [lg_entry_eq]
  generalize (lg_sl ([.ref (ad 0), .int b]) ++ List.replicate (2 - (lg_sl ([.ref (ad 0), .int b])).length) Slot.unset).toArray = ls at hl ⊢
  have hl : lv_has ls 2 [(0, .ref (ad 0)), (1, .int b)] := hl
  have rg_b := z_rng b
  refine lv_iload_n hx hb dX9_isBook_0 rfl (lv_at hl 1 rfl) ?_
  refine lv_if_lt (tgt := 16) hx hb dX9_isBook_1 (by decide) (fun c1 => ?_) (fun c1 => ?_)
  · skip
    have c1 : b.toInt < 0 := (z_lt rfl (by decide : (0 : Int32).toInt = 0)).mp c1
    refine lv_iconst (v := 0) hx hb dX9_isBook_16 (by decide) ?_
    have q2 : (0 : Int32).toInt = 0 := by decide
    exact W.zret (v := 0) hx hb hr rfl (fun t ht hW => ⟨0, rfl, by first | exact Or.inl ⟨rfl, by omega⟩ | exact Or.inr ⟨rfl, by omega⟩ | exact Or.inl rfl | exact Or.inr rfl | exact Or.inl ⟨rfl, by omega, by omega⟩ | exact (z_01 (by omega) (by omega)).symm, ht⟩) (fun q hq => by cases hq) dX9_isBook_17
  · skip
    have c1 : ¬ (b.toInt < 0) := fun q => c1 ((z_lt rfl (by decide : (0 : Int32).toInt = 0)).mpr q)
    refine lv_iload_n hx hb dX9_isBook_4 rfl (lv_at hl 1 rfl) ?_
    refine lv_aload_n hx hb dX9_isBook_5 rfl (lv_at hl 0 rfl) ?_
    obtain ⟨bks4, lks5, gos6, shn7, tpd8, pl09, ln010, flt11, opn12, cmy13, wtg14, nm015, mst16, sus17, cut18, h19, h20, h21, h22, h23, h24, h25, h26, h27, h28, h29, h30, h31, h32, h33, h34, h35, h36, h37, h38, hs3⟩ := a9_0 hI.1
    refine va_get (D := g.1) (ci := 9) (v := .int bks4) (C := RX9) (T := TX9) (N := 47) hx hb hg inG9 hown hK hP 0 (zw_at (by omega) hs3) rfl 5 (by decide) (hg _ mm_963) (fun _ h9 => h9) rfl dX9_isBook_6 ?_
    refine lv_icmp_ge (tgt := 16) hx hb dX9_isBook_9 (by decide) (fun c39 => ?_) (fun c39 => ?_)
    · skip
      have c39 : bks4.toInt ≤ b.toInt := (z_le rfl rfl).mp c39
      refine lv_iconst (v := 0) hx hb dX9_isBook_16 (by decide) ?_
      have q40 : (0 : Int32).toInt = 0 := by decide
      exact W.zret (v := 0) hx hb hr rfl (fun t ht hW => ⟨0, rfl, by first | exact Or.inl ⟨rfl, by omega⟩ | exact Or.inr ⟨rfl, by omega⟩ | exact Or.inl rfl | exact Or.inr rfl | exact Or.inl ⟨rfl, by omega, by omega⟩ | exact (z_01 (by omega) (by omega)).symm, ht⟩) (fun q hq => by cases hq) dX9_isBook_17
    · skip
      have c39 : ¬ (bks4.toInt ≤ b.toInt) := fun q => c39 ((z_le rfl rfl).mpr q)
      refine lv_iconst (v := 1) hx hb dX9_isBook_12 (by decide) ?_
      refine lv_goto (tgt := 17) hx hb dX9_isBook_13 (by decide) ?_
      have q41 : (1 : Int32).toInt = 1 := by decide
      exact W.zret (v := 1) hx hb hr rfl (fun t ht hW => ⟨1, rfl, by first | exact Or.inl ⟨rfl, by omega⟩ | exact Or.inr ⟨rfl, by omega⟩ | exact Or.inl rfl | exact Or.inr rfl | exact Or.inl ⟨rfl, by omega, by omega⟩ | exact (z_01 (by omega) (by omega)).symm, ht⟩) (fun q hq => by cases hq) dX9_isBook_17

set_option maxHeartbeats 4000000 in
set_option maxRecDepth 100000 in
theorem k_X9_isLine (l : Launch) (g : zG) (ad : Nat → Nat) (me : Int32) (ct : Nat → va_E) (b : Int32) (i : Int32) (hI : IR g ad me ct) : Met l yX9_isLine (zW yX9_isLine cX9_isLine 3 (some .boolean)) ({ frames := 1, cells := 0, slots := 0, locals := 21 }) (va_Pc [.ref (ad 0), .int b, .int i] (zR g (zw 32 ad ct))) (vp_Si (fun r : Int32 => (r = 1 ∧ (0 ≤ b.toInt ∧ b.toInt ≤ 3) ∧ (0 ≤ i.toInt ∧ i.toInt ≤ 7)) ∨ (r = 0))) 0 0 (fun _ => False) := by
  refine Met.ofW (cc := cX9_isLine) (maxL := 3) (ret := (some .boolean)) (by decide) rfl ?_
  intro p e s m args below meth c s₁ B hml hv
  obtain ⟨rfl, hP, hK, hN⟩ := hv
  have hx := B.exec
  have hb := B.bytes
  have hr := B.returns
  have hg := zW.law (atoms_spec (ws := (zW yX9_isLine cX9_isLine 3 (some .boolean))) B.pre)
  have hown : s.vm.findClass RX9 = some m.cls := findClass_of_methodNamed B.named
  have hlocks := B.notSynchronized
  have hpe0 := hI.1.1
  have hl := lv_entry ([.ref (ad 0), .int b, .int i]) (n := 3) (Nat.le_of_ble_eq_true rfl)
  rw [lg_entry_eq]
  generalize (lg_sl ([.ref (ad 0), .int b, .int i]) ++ List.replicate (3 - (lg_sl ([.ref (ad 0), .int b, .int i])).length) Slot.unset).toArray = ls at hl ⊢
  have hl : lv_has ls 3 [(0, .ref (ad 0)), (1, .int b), (2, .int i)] := hl
  have rg_b := z_rng b
  have rg_i := z_rng i
  refine lv_aload_n hx hb dX9_isLine_0 rfl (lv_at hl 0 rfl) ?_
  refine lv_iload_n hx hb dX9_isLine_1 rfl (lv_at hl 1 rfl) ?_
  obtain ⟨bks2, lks3, gos4, shn5, tpd6, pl07, ln08, flt9, opn10, cmy11, wtg12, nm013, mst14, sus15, cut16, h17, h18, h19, h20, h21, h22, h23, h24, h25, h26, h27, h28, h29, h30, h31, h32, h33, h34, h35, h36, hs1⟩ := a9_0 hI.1
  refine zc_i (va_runV (As := [.int b]) (rest := []) ⟨hx, hb, hml, hown, hg⟩ (k_X9_isBook l g ad me ct b hI) (cwV 1 hg (z_gV mm_1174 mm_1176 mm_58 mm_117 mm_1177) rfl rfl rfl (by decide +kernel) ⟨Nat.le_of_ble_eq_true rfl, Nat.le_of_ble_eq_true rfl⟩) ⟨(zR.pre [.ref (ad 0), .int b] hP hK hN).1, va_recv hK hP (ci := 9) (q0 := 0) rfl (zw_at (by omega) hs1), (zR.pre [.ref (ad 0), .int b] hP hK hN).2⟩ rfl rfl hl.1 rfl (lv_room (Nat.le_of_ble_eq_true rfl)) dX9_isLine_2 ⟨Nat.le_of_ble_eq_true rfl, Nat.le_of_ble_eq_true rfl⟩) (fun r37 hr37 => ?_)
  rcases hr37 with hr37 | hr37
  · skip
    obtain ⟨rfl, h38, h39⟩ := hr37
    replace h38 : 0 ≤ b.toInt := h38
    replace h39 : b.toInt ≤ 3 := h39
    refine lv_if_eq (tgt := 26) hx hb dX9_isLine_5 (by decide) (fun c40 => ?_) (fun c40 => ?_)
    · skip
      exact absurd c40 (by decide)
    · skip
      refine lv_iload_n hx hb dX9_isLine_8 rfl (lv_at hl 2 rfl) ?_
      refine lv_if_lt (tgt := 26) hx hb dX9_isLine_9 (by decide) (fun c41 => ?_) (fun c41 => ?_)
      · skip
        have c41 : i.toInt < 0 := (z_lt rfl (by decide : (0 : Int32).toInt = 0)).mp c41
        refine lv_iconst (v := 0) hx hb dX9_isLine_26 (by decide) ?_
        have q42 : (0 : Int32).toInt = 0 := by decide
        exact W.zret (v := 0) hx hb hr rfl (fun t ht hW => ⟨0, rfl, by first | exact Or.inl ⟨rfl, by omega⟩ | exact Or.inr ⟨rfl, by omega⟩ | exact Or.inl rfl | exact Or.inr rfl | exact Or.inl ⟨rfl, by omega, by omega⟩ | exact (z_01 (by omega) (by omega)).symm, ht⟩) (fun q hq => by cases hq) dX9_isLine_27
      · skip
        have c41 : ¬ (i.toInt < 0) := fun q => c41 ((z_lt rfl (by decide : (0 : Int32).toInt = 0)).mpr q)
        refine lv_iload_n hx hb dX9_isLine_12 rfl (lv_at hl 2 rfl) ?_
        refine lv_aload_n hx hb dX9_isLine_13 rfl (lv_at hl 0 rfl) ?_
        refine va_get (D := g.1) (ci := 9) (v := .ref (ad 5)) (C := RX9) (T := TX9) (N := 47) hx hb hg inG9 hown hK hP 0 (zw_at (by omega) hs1) rfl 9 (by decide) (hg _ mm_967) (fun _ h9 => h9) rfl dX9_isLine_14 ?_
        refine lv_iload_n hx hb dX9_isLine_17 rfl (lv_at hl 1 rfl) ?_
        obtain ⟨f44, hp45, hs43⟩ := a9_5 hI.1
        refine va_iald hx hb hK hP 5 0 (zw_at (by omega) hs43) rfl (z_in rfl (by omega) (by omega)) dX9_isLine_18 ?_
        refine lv_topi (fun y46 ey46 => ?_)
        have hy46 := hp45 _ (z_clt (x := b) rfl (by omega) (by omega))
        rw [← ey46] at hy46
        have hy46 : 0 ≤ y46.toInt ∧ y46.toInt ≤ 8 := hy46
        refine lv_icmp_ge (tgt := 26) hx hb dX9_isLine_19 (by decide) (fun c47 => ?_) (fun c47 => ?_)
        · skip
          have c47 : y46.toInt ≤ i.toInt := (z_le rfl rfl).mp c47
          refine lv_iconst (v := 0) hx hb dX9_isLine_26 (by decide) ?_
          have q48 : (0 : Int32).toInt = 0 := by decide
          exact W.zret (v := 0) hx hb hr rfl (fun t ht hW => ⟨0, rfl, by first | exact Or.inl ⟨rfl, by omega⟩ | exact Or.inr ⟨rfl, by omega⟩ | exact Or.inl rfl | exact Or.inr rfl | exact Or.inl ⟨rfl, by omega, by omega⟩ | exact (z_01 (by omega) (by omega)).symm, ht⟩) (fun q hq => by cases hq) dX9_isLine_27
        · skip
          have c47 : ¬ (y46.toInt ≤ i.toInt) := fun q => c47 ((z_le rfl rfl).mpr q)
          refine lv_iconst (v := 1) hx hb dX9_isLine_22 (by decide) ?_
          refine lv_goto (tgt := 27) hx hb dX9_isLine_23 (by decide) ?_
          have q49 : (1 : Int32).toInt = 1 := by decide
          exact W.zret (v := 1) hx hb hr rfl (fun t ht hW => ⟨1, rfl, by first | exact Or.inl ⟨rfl, by omega⟩ | exact Or.inr ⟨rfl, by omega⟩ | exact Or.inl rfl | exact Or.inr rfl | exact Or.inl ⟨rfl, by omega, by omega⟩ | exact (z_01 (by omega) (by omega)).symm, ht⟩) (fun q hq => by cases hq) dX9_isLine_27
  · skip
    obtain rfl := hr37
    refine lv_if_eq (tgt := 26) hx hb dX9_isLine_5 (by decide) (fun c50 => ?_) (fun c50 => ?_)
    · skip
      refine lv_iconst (v := 0) hx hb dX9_isLine_26 (by decide) ?_
      have q51 : (0 : Int32).toInt = 0 := by decide
      exact W.zret (v := 0) hx hb hr rfl (fun t ht hW => ⟨0, rfl, by first | exact Or.inl ⟨rfl, by omega⟩ | exact Or.inr ⟨rfl, by omega⟩ | exact Or.inl rfl | exact Or.inr rfl | exact Or.inl ⟨rfl, by omega, by omega⟩ | exact (z_01 (by omega) (by omega)).symm, ht⟩) (fun q hq => by cases hq) dX9_isLine_27
    · skip
      exact absurd c50 (by decide)

set_option maxHeartbeats 4000000 in
set_option maxRecDepth 100000 in
theorem k_X9_isThere (l : Launch) (g : zG) (ad : Nat → Nat) (me : Int32) (ct : Nat → va_E) (b : Int32) (i : Int32) (hI : IR g ad me ct) : Met l yX9_isThere (zW yX9_isThere cX9_isThere 3 (some .boolean)) ({ frames := 2, cells := 0, slots := 0, locals := 43 }) (va_Pc [.ref (ad 0), .int b, .int i] (zR g (zw 32 ad ct))) (vp_Si (fun r : Int32 => (r = 1 ∧ (0 ≤ b.toInt ∧ b.toInt ≤ 3) ∧ (0 ≤ i.toInt ∧ i.toInt ≤ 7)) ∨ (r = 0))) 0 0 (fun _ => False) := by
  refine Met.ofW (cc := cX9_isThere) (maxL := 3) (ret := (some .boolean)) (by decide) rfl ?_
  intro p e s m args below meth c s₁ B hml hv
  obtain ⟨rfl, hP, hK, hN⟩ := hv
  have hx := B.exec
  have hb := B.bytes
  have hr := B.returns
  have hg := zW.law (atoms_spec (ws := (zW yX9_isThere cX9_isThere 3 (some .boolean))) B.pre)
  have hown : s.vm.findClass RX9 = some m.cls := findClass_of_methodNamed B.named
  have hlocks := B.notSynchronized
  have hpe0 := hI.1.1
  have hl := lv_entry ([.ref (ad 0), .int b, .int i]) (n := 3) (Nat.le_of_ble_eq_true rfl)
  rw [lg_entry_eq]
  generalize (lg_sl ([.ref (ad 0), .int b, .int i]) ++ List.replicate (3 - (lg_sl ([.ref (ad 0), .int b, .int i])).length) Slot.unset).toArray = ls at hl ⊢
  have hl : lv_has ls 3 [(0, .ref (ad 0)), (1, .int b), (2, .int i)] := hl
  have rg_b := z_rng b
  have rg_i := z_rng i
  refine lv_aload_n hx hb dX9_isThere_0 rfl (lv_at hl 0 rfl) ?_
  refine lv_iload_n hx hb dX9_isThere_1 rfl (lv_at hl 1 rfl) ?_
  refine lv_iload_n hx hb dX9_isThere_2 rfl (lv_at hl 2 rfl) ?_
  obtain ⟨bks2, lks3, gos4, shn5, tpd6, pl07, ln08, flt9, opn10, cmy11, wtg12, nm013, mst14, sus15, cut16, h17, h18, h19, h20, h21, h22, h23, h24, h25, h26, h27, h28, h29, h30, h31, h32, h33, h34, h35, h36, hs1⟩ := a9_0 hI.1
  refine zc_i (va_runV (As := [.int b, .int i]) (rest := []) ⟨hx, hb, hml, hown, hg⟩ (k_X9_isLine l g ad me ct b i hI) (cwV 2 hg (z_gV mm_1170 mm_1172 mm_57 mm_117 mm_1173) rfl rfl rfl (by decide +kernel) ⟨Nat.le_of_ble_eq_true rfl, Nat.le_of_ble_eq_true rfl⟩) ⟨(zR.pre [.ref (ad 0), .int b, .int i] hP hK hN).1, va_recv hK hP (ci := 9) (q0 := 0) rfl (zw_at (by omega) hs1), (zR.pre [.ref (ad 0), .int b, .int i] hP hK hN).2⟩ rfl rfl hl.1 rfl (lv_room (Nat.le_of_ble_eq_true rfl)) dX9_isThere_3 ⟨Nat.le_of_ble_eq_true rfl, Nat.le_of_ble_eq_true rfl⟩) (fun r37 hr37 => ?_)
  rcases hr37 with hr37 | hr37
  · skip
    obtain ⟨rfl, h38, h39⟩ := hr37
    replace h38 : 0 ≤ b.toInt ∧ b.toInt ≤ 3 := h38
    replace h39 : 0 ≤ i.toInt ∧ i.toInt ≤ 7 := h39
    refine lv_if_eq (tgt := 26) hx hb dX9_isThere_6 (by decide) (fun c40 => ?_) (fun c40 => ?_)
    · skip
      exact absurd c40 (by decide)
    · skip
      refine lv_aload_n hx hb dX9_isThere_9 rfl (lv_at hl 0 rfl) ?_
      refine va_get (D := g.1) (ci := 9) (v := .ref (ad 10)) (C := RX9) (T := TX9) (N := 47) hx hb hg inG9 hown hK hP 0 (zw_at (by omega) hs1) rfl 14 (by decide) (hg _ mm_972) (fun _ h9 => h9) rfl dX9_isThere_10 ?_
      refine lv_iload_n hx hb dX9_isThere_13 rfl (lv_at hl 1 rfl) ?_
      refine lv_iload_n hx hb dX9_isThere_14 rfl (lv_at hl 2 rfl) ?_
      refine zc_i (va_runS (As := [.int b, .int i]) (rest := [.ref (ad 10)]) ⟨hx, hb, hml, hown, hg⟩ (k_X9_at l g ad me ct b i (by first | omega | decide) (by first | omega | decide) hI) (va_cwS 2 hg (z_gS mm_1159 mm_1160 mm_117 mm_1161) rfl rfl rfl (by decide +kernel) ⟨Nat.le_of_ble_eq_true rfl, Nat.le_of_ble_eq_true rfl⟩) (zR.pre [.int b, .int i] hP hK hN) rfl rfl hl.1 rfl (lv_room (Nat.le_of_ble_eq_true rfl)) dX9_isThere_15 ⟨Nat.le_of_ble_eq_true rfl, Nat.le_of_ble_eq_true rfl⟩) (fun r41 hr41 => ?_)
      have hr41_0 := hr41
      have hr41_0 : r41.toInt = 8 * b.toInt + i.toInt := hr41_0
      obtain ⟨f43, hp44, hs42⟩ := a9_10 hI.1
      refine va_zald hx hb hK hP 10 3 (zw_at (by omega) hs42) rfl (z_in rfl (by omega) (by omega)) dX9_isThere_18 ?_
      refine lv_topi (fun y45 ey45 => ?_)
      have hy45 := hp44 _ (z_clt (x := r41) rfl (by omega) (by omega))
      rw [← ey45] at hy45
      have hy45 : y45 = 0 ∨ y45 = 1 := hy45
      have by45 := z_b01 hy45
      refine lv_if_ne (tgt := 26) hx hb dX9_isThere_19 (by decide) (fun c46 => ?_) (fun c46 => ?_)
      · skip
        have c46 : ¬ (y45.toInt = 0) := fun q => c46 ((z_eq rfl (by decide : (0 : Int32).toInt = 0)).mpr q)
        refine lv_iconst (v := 0) hx hb dX9_isThere_26 (by decide) ?_
        have q47 : (0 : Int32).toInt = 0 := by decide
        exact W.zret (v := 0) hx hb hr rfl (fun t ht hW => ⟨0, rfl, by first | exact Or.inl ⟨rfl, by omega⟩ | exact Or.inr ⟨rfl, by omega⟩ | exact Or.inl rfl | exact Or.inr rfl | exact Or.inl ⟨rfl, by omega, by omega⟩ | exact (z_01 (by omega) (by omega)).symm, ht⟩) (fun q hq => by cases hq) dX9_isThere_27
      · skip
        have c46 : y45.toInt = 0 := (z_eq rfl (by decide : (0 : Int32).toInt = 0)).mp c46
        refine lv_iconst (v := 1) hx hb dX9_isThere_22 (by decide) ?_
        refine lv_goto (tgt := 27) hx hb dX9_isThere_23 (by decide) ?_
        have q48 : (1 : Int32).toInt = 1 := by decide
        exact W.zret (v := 1) hx hb hr rfl (fun t ht hW => ⟨1, rfl, by first | exact Or.inl ⟨rfl, by omega⟩ | exact Or.inr ⟨rfl, by omega⟩ | exact Or.inl rfl | exact Or.inr rfl | exact Or.inl ⟨rfl, by omega, by omega⟩ | exact (z_01 (by omega) (by omega)).symm, ht⟩) (fun q hq => by cases hq) dX9_isThere_27
  · skip
    obtain rfl := hr37
    refine lv_if_eq (tgt := 26) hx hb dX9_isThere_6 (by decide) (fun c49 => ?_) (fun c49 => ?_)
    · skip
      refine lv_iconst (v := 0) hx hb dX9_isThere_26 (by decide) ?_
      have q50 : (0 : Int32).toInt = 0 := by decide
      exact W.zret (v := 0) hx hb hr rfl (fun t ht hW => ⟨0, rfl, by first | exact Or.inl ⟨rfl, by omega⟩ | exact Or.inr ⟨rfl, by omega⟩ | exact Or.inl rfl | exact Or.inr rfl | exact Or.inl ⟨rfl, by omega, by omega⟩ | exact (z_01 (by omega) (by omega)).symm, ht⟩) (fun q hq => by cases hq) dX9_isThere_27
    · skip
      exact absurd c49 (by decide)

set_option maxHeartbeats 4000000 in
set_option maxRecDepth 100000 in
theorem k_X9_isAsked (l : Launch) (g : zG) (ad : Nat → Nat) (me : Int32) (ct : Nat → va_E) (b : Int32) (i : Int32) (p0 : Int32) (kn : Int32) (hI : IR g ad me ct) : Met l yX9_isAsked (zW yX9_isAsked cX9_isAsked 5 (some .boolean)) ({ frames := 2, cells := 0, slots := 0, locals := 43 }) (va_Pc [.ref (ad 0), .int b, .int i, .int p0, .int kn] (zR g (zw 32 ad ct))) (vp_Si (fun r : Int32 => (r = 1 ∧ (0 ≤ b.toInt ∧ b.toInt ≤ 3) ∧ (0 ≤ i.toInt ∧ i.toInt ≤ 7) ∧ (0 ≤ p0.toInt ∧ p0.toInt < me.toInt)) ∨ (r = 0))) 0 0 (fun _ => False) := by
  refine Met.ofW (cc := cX9_isAsked) (maxL := 5) (ret := (some .boolean)) (by decide) rfl ?_
  intro p e s m args below meth c s₁ B hml hv
  obtain ⟨rfl, hP, hK, hN⟩ := hv
  have hx := B.exec
  have hb := B.bytes
  have hr := B.returns
  have hg := zW.law (atoms_spec (ws := (zW yX9_isAsked cX9_isAsked 5 (some .boolean))) B.pre)
  have hown : s.vm.findClass RX9 = some m.cls := findClass_of_methodNamed B.named
  have hlocks := B.notSynchronized
  have hpe0 := hI.1.1
  have hl := lv_entry ([.ref (ad 0), .int b, .int i, .int p0, .int kn]) (n := 5) (Nat.le_of_ble_eq_true rfl)
  rw [lg_entry_eq]
  generalize (lg_sl ([.ref (ad 0), .int b, .int i, .int p0, .int kn]) ++ List.replicate (5 - (lg_sl ([.ref (ad 0), .int b, .int i, .int p0, .int kn])).length) Slot.unset).toArray = ls at hl ⊢
  have hl : lv_has ls 5 [(0, .ref (ad 0)), (1, .int b), (2, .int i), (3, .int p0), (4, .int kn)] := hl
  have rg_b := z_rng b
  have rg_i := z_rng i
  have rg_p0 := z_rng p0
  have rg_kn := z_rng kn
  refine lv_aload_n hx hb dX9_isAsked_0 rfl (lv_at hl 0 rfl) ?_
  refine lv_iload_n hx hb dX9_isAsked_1 rfl (lv_at hl 1 rfl) ?_
  refine lv_iload_n hx hb dX9_isAsked_2 rfl (lv_at hl 2 rfl) ?_
  obtain ⟨bks2, lks3, gos4, shn5, tpd6, pl07, ln08, flt9, opn10, cmy11, wtg12, nm013, mst14, sus15, cut16, h17, h18, h19, h20, h21, h22, h23, h24, h25, h26, h27, h28, h29, h30, h31, h32, h33, h34, h35, h36, hs1⟩ := a9_0 hI.1
  refine zc_i (va_runV (As := [.int b, .int i]) (rest := []) ⟨hx, hb, hml, hown, hg⟩ (k_X9_isLine l g ad me ct b i hI) (cwV 2 hg (z_gV mm_1170 mm_1172 mm_57 mm_117 mm_1173) rfl rfl rfl (by decide +kernel) ⟨Nat.le_of_ble_eq_true rfl, Nat.le_of_ble_eq_true rfl⟩) ⟨(zR.pre [.ref (ad 0), .int b, .int i] hP hK hN).1, va_recv hK hP (ci := 9) (q0 := 0) rfl (zw_at (by omega) hs1), (zR.pre [.ref (ad 0), .int b, .int i] hP hK hN).2⟩ rfl rfl hl.1 rfl (lv_room (Nat.le_of_ble_eq_true rfl)) dX9_isAsked_3 ⟨Nat.le_of_ble_eq_true rfl, Nat.le_of_ble_eq_true rfl⟩) (fun r37 hr37 => ?_)
  rcases hr37 with hr37 | hr37
  · skip
    obtain ⟨rfl, h38, h39⟩ := hr37
    replace h38 : 0 ≤ b.toInt ∧ b.toInt ≤ 3 := h38
    replace h39 : 0 ≤ i.toInt ∧ i.toInt ≤ 7 := h39
    refine lv_if_eq (tgt := 29) hx hb dX9_isAsked_6 (by decide) (fun c40 => ?_) (fun c40 => ?_)
    · skip
      exact absurd c40 (by decide)
    · skip
      refine lv_aload_n hx hb dX9_isAsked_9 rfl (lv_at hl 0 rfl) ?_
      refine lv_iload_n hx hb dX9_isAsked_10 rfl (lv_at hl 3 rfl) ?_
      refine zc_i (va_runV (As := [.int p0]) (rest := []) ⟨hx, hb, hml, hown, hg⟩ (k_X9_isPerson l g ad me ct p0 hI) (cwV 1 hg (z_gV mm_1124 mm_1126 mm_51 mm_117 mm_1127) rfl rfl rfl (by decide +kernel) ⟨Nat.le_of_ble_eq_true rfl, Nat.le_of_ble_eq_true rfl⟩) ⟨(zR.pre [.ref (ad 0), .int p0] hP hK hN).1, va_recv hK hP (ci := 9) (q0 := 0) rfl (zw_at (by omega) hs1), (zR.pre [.ref (ad 0), .int p0] hP hK hN).2⟩ rfl rfl hl.1 rfl (lv_room (Nat.le_of_ble_eq_true rfl)) dX9_isAsked_11 ⟨Nat.le_of_ble_eq_true rfl, Nat.le_of_ble_eq_true rfl⟩) (fun r41 hr41 => ?_)
      rcases hr41 with hr41 | hr41
      · skip
        obtain ⟨rfl, h42, h43⟩ := hr41
        replace h42 : 0 ≤ p0.toInt := h42
        replace h43 : p0.toInt < me.toInt := h43
        refine lv_if_eq (tgt := 29) hx hb dX9_isAsked_14 (by decide) (fun c44 => ?_) (fun c44 => ?_)
        · skip
          exact absurd c44 (by decide)
        · skip
          refine lv_iload hx hb dX9_isAsked_17 (lv_at hl 4 rfl) ?_
          refine zc_i (va_runS (As := [.int kn]) (rest := []) ⟨hx, hb, hml, hown, hg⟩ (k_X9_isKnown l g ad me ct kn hI) (va_cwS 1 hg (z_gS mm_1294 mm_1295 mm_117 mm_1296) rfl rfl rfl (by decide +kernel) ⟨Nat.le_of_ble_eq_true rfl, Nat.le_of_ble_eq_true rfl⟩) (zR.pre [.int kn] hP hK hN) rfl rfl hl.1 rfl (lv_room (Nat.le_of_ble_eq_true rfl)) dX9_isAsked_19 ⟨Nat.le_of_ble_eq_true rfl, Nat.le_of_ble_eq_true rfl⟩) (fun r45 hr45 => ?_)
          rcases hr45 with hr45 | hr45
          · skip
            obtain ⟨rfl, h46, h47⟩ := hr45
            replace h46 : 0 ≤ kn.toInt := h46
            replace h47 : kn.toInt ≤ 255 := h47
            refine lv_if_eq (tgt := 29) hx hb dX9_isAsked_22 (by decide) (fun c48 => ?_) (fun c48 => ?_)
            · skip
              exact absurd c48 (by decide)
            · skip
              refine lv_iconst (v := 1) hx hb dX9_isAsked_25 (by decide) ?_
              refine lv_goto (tgt := 30) hx hb dX9_isAsked_26 (by decide) ?_
              have q49 : (1 : Int32).toInt = 1 := by decide
              exact W.zret (v := 1) hx hb hr rfl (fun t ht hW => ⟨1, rfl, by first | exact Or.inl ⟨rfl, by omega⟩ | exact Or.inr ⟨rfl, by omega⟩ | exact Or.inl rfl | exact Or.inr rfl | exact Or.inl ⟨rfl, by omega, by omega⟩ | exact (z_01 (by omega) (by omega)).symm, ht⟩) (fun q hq => by cases hq) dX9_isAsked_30
          · skip
            obtain ⟨rfl, h50⟩ := hr45
            replace h50 : ¬ (0 ≤ kn.toInt ∧ kn.toInt ≤ 255) := h50
            refine lv_if_eq (tgt := 29) hx hb dX9_isAsked_22 (by decide) (fun c51 => ?_) (fun c51 => ?_)
            · skip
              refine lv_iconst (v := 0) hx hb dX9_isAsked_29 (by decide) ?_
              have q52 : (0 : Int32).toInt = 0 := by decide
              exact W.zret (v := 0) hx hb hr rfl (fun t ht hW => ⟨0, rfl, by first | exact Or.inl ⟨rfl, by omega⟩ | exact Or.inr ⟨rfl, by omega⟩ | exact Or.inl rfl | exact Or.inr rfl | exact Or.inl ⟨rfl, by omega, by omega⟩ | exact (z_01 (by omega) (by omega)).symm, ht⟩) (fun q hq => by cases hq) dX9_isAsked_30
            · skip
              exact absurd c51 (by decide)
      · skip
        obtain ⟨rfl, h53⟩ := hr41
        replace h53 : ¬ (0 ≤ p0.toInt ∧ p0.toInt < me.toInt) := h53
        refine lv_if_eq (tgt := 29) hx hb dX9_isAsked_14 (by decide) (fun c54 => ?_) (fun c54 => ?_)
        · skip
          refine lv_iconst (v := 0) hx hb dX9_isAsked_29 (by decide) ?_
          have q55 : (0 : Int32).toInt = 0 := by decide
          exact W.zret (v := 0) hx hb hr rfl (fun t ht hW => ⟨0, rfl, by first | exact Or.inl ⟨rfl, by omega⟩ | exact Or.inr ⟨rfl, by omega⟩ | exact Or.inl rfl | exact Or.inr rfl | exact Or.inl ⟨rfl, by omega, by omega⟩ | exact (z_01 (by omega) (by omega)).symm, ht⟩) (fun q hq => by cases hq) dX9_isAsked_30
        · skip
          exact absurd c54 (by decide)
  · skip
    obtain rfl := hr37
    refine lv_if_eq (tgt := 29) hx hb dX9_isAsked_6 (by decide) (fun c56 => ?_) (fun c56 => ?_)
    · skip
      refine lv_iconst (v := 0) hx hb dX9_isAsked_29 (by decide) ?_
      have q57 : (0 : Int32).toInt = 0 := by decide
      exact W.zret (v := 0) hx hb hr rfl (fun t ht hW => ⟨0, rfl, by first | exact Or.inl ⟨rfl, by omega⟩ | exact Or.inr ⟨rfl, by omega⟩ | exact Or.inl rfl | exact Or.inr rfl | exact Or.inl ⟨rfl, by omega, by omega⟩ | exact (z_01 (by omega) (by omega)).symm, ht⟩) (fun q hq => by cases hq) dX9_isAsked_30
    · skip
      exact absurd c56 (by decide)
