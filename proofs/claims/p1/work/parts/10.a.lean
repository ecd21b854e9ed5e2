set_option maxHeartbeats 4000000 in
set_option maxRecDepth 100000 in
theorem c_X8_within (l : Launch) (g : zG) (n : Int32) (lo : Int32) (hi : Int32) : Met l yX8_within (zW yX8_within cX8_within 3 (some .boolean)) ({ frames := 0, cells := 0, slots := 0, locals := 0 }) (va_Pc [.int n, .int lo, .int hi] (zR g [])) (vp_Si (fun r : Int32 => (r = 1 ∧ (lo.toInt ≤ n.toInt) ∧ (n.toInt ≤ hi.toInt)) ∨ (r = 0 ∧ (¬ (lo.toInt ≤ n.toInt ∧ n.toInt ≤ hi.toInt))))) 0 0 (fun _ => False) := by
  refine Met.ofW (cc := cX8_within) (maxL := 3) (ret := (some .boolean)) (by decide) rfl ?_
  intro p e s m args below meth c s₁ B hml hv
  obtain ⟨rfl, hP, hK, hN⟩ := hv
  have hx := B.exec
  have hb := B.bytes
  have hr := B.returns
  have hg := zW.law (atoms_spec (ws := (zW yX8_within cX8_within 3 (some .boolean))) B.pre)
  have hown : s.vm.findClass RX8 = some m.cls := findClass_of_methodNamed B.named
  have hlocks := B.notSynchronized
  have hl := lv_entry ([.int n, .int lo, .int hi]) (n := 3) (Nat.le_of_ble_eq_true rfl)
  rw [lg_entry_eq]
  generalize (lg_sl ([.int n, .int lo, .int hi]) ++ List.replicate (3 - (lg_sl ([.int n, .int lo, .int hi])).length) Slot.unset).toArray = ls at hl ⊢
  have hl : lv_has ls 3 [(0, .int n), (1, .int lo), (2, .int hi)] := hl
  refine lv_iload_n hx hb dX8_within_0 rfl (lv_at hl 0 rfl) ?_
  refine lv_iload_n hx hb dX8_within_1 rfl (lv_at hl 1 rfl) ?_
  refine lv_icmp_lt (tgt := 14) hx hb dX8_within_2 (by decide) (fun c1 => ?_) (fun c1 => ?_)
  · skip
    have c1 : n.toInt < lo.toInt := (z_lt rfl rfl).mp c1
    refine lv_iconst (v := 0) hx hb dX8_within_14 (by decide) ?_
    exact W.zret (v := 0) hx hb hr rfl (fun t ht hW => ⟨0, rfl, by first | exact Or.inl ⟨rfl, by omega⟩ | exact Or.inr ⟨rfl, by omega⟩, ht⟩) (fun q hq => by cases hq) dX8_within_15
  · skip
    have c1 : ¬ (n.toInt < lo.toInt) := fun q => c1 ((z_lt rfl rfl).mpr q)
    refine lv_iload_n hx hb dX8_within_5 rfl (lv_at hl 0 rfl) ?_
    refine lv_iload_n hx hb dX8_within_6 rfl (lv_at hl 2 rfl) ?_
    refine lv_icmp_gt (tgt := 14) hx hb dX8_within_7 (by decide) (fun c2 => ?_) (fun c2 => ?_)
    · skip
      have c2 : hi.toInt < n.toInt := (z_lt rfl rfl).mp c2
      refine lv_iconst (v := 0) hx hb dX8_within_14 (by decide) ?_
      exact W.zret (v := 0) hx hb hr rfl (fun t ht hW => ⟨0, rfl, by first | exact Or.inl ⟨rfl, by omega⟩ | exact Or.inr ⟨rfl, by omega⟩, ht⟩) (fun q hq => by cases hq) dX8_within_15
    · skip
      have c2 : ¬ (hi.toInt < n.toInt) := fun q => c2 ((z_lt rfl rfl).mpr q)
      refine lv_iconst (v := 1) hx hb dX8_within_10 (by decide) ?_
      refine lv_goto (tgt := 15) hx hb dX8_within_11 (by decide) ?_
      exact W.zret (v := 1) hx hb hr rfl (fun t ht hW => ⟨1, rfl, by first | exact Or.inl ⟨rfl, by omega⟩ | exact Or.inr ⟨rfl, by omega⟩, ht⟩) (fun q hq => by cases hq) dX8_within_15

set_option maxHeartbeats 4000000 in
set_option maxRecDepth 100000 in
theorem c_X9_in (l : Launch) (g : zG) (n : Int32) (lo : Int32) (hi : Int32) : Met l yX9_in (zW yX9_in cX9_in 3 (some .boolean)) ({ frames := 0, cells := 0, slots := 0, locals := 0 }) (va_Pc [.int n, .int lo, .int hi] (zR g [])) (vp_Si (fun r : Int32 => (r = 1 ∧ (lo.toInt ≤ n.toInt) ∧ (n.toInt ≤ hi.toInt)) ∨ (r = 0 ∧ (¬ (lo.toInt ≤ n.toInt ∧ n.toInt ≤ hi.toInt))))) 0 0 (fun _ => False) := by
  refine Met.ofW (cc := cX9_in) (maxL := 3) (ret := (some .boolean)) (by decide) rfl ?_
  intro p e s m args below meth c s₁ B hml hv
  obtain ⟨rfl, hP, hK, hN⟩ := hv
  have hx := B.exec
  have hb := B.bytes
  have hr := B.returns
  have hg := zW.law (atoms_spec (ws := (zW yX9_in cX9_in 3 (some .boolean))) B.pre)
  have hown : s.vm.findClass RX9 = some m.cls := findClass_of_methodNamed B.named
  have hlocks := B.notSynchronized
  have hl := lv_entry ([.int n, .int lo, .int hi]) (n := 3) (Nat.le_of_ble_eq_true rfl)
  rw [lg_entry_eq]
  generalize (lg_sl ([.int n, .int lo, .int hi]) ++ List.replicate (3 - (lg_sl ([.int n, .int lo, .int hi])).length) Slot.unset).toArray = ls at hl ⊢
  have hl : lv_has ls 3 [(0, .int n), (1, .int lo), (2, .int hi)] := hl
  refine lv_iload_n hx hb dX9_in_0 rfl (lv_at hl 0 rfl) ?_
  refine lv_iload_n hx hb dX9_in_1 rfl (lv_at hl 1 rfl) ?_
  refine lv_icmp_lt (tgt := 14) hx hb dX9_in_2 (by decide) (fun c1 => ?_) (fun c1 => ?_)
  · skip
    have c1 : n.toInt < lo.toInt := (z_lt rfl rfl).mp c1
    refine lv_iconst (v := 0) hx hb dX9_in_14 (by decide) ?_
    exact W.zret (v := 0) hx hb hr rfl (fun t ht hW => ⟨0, rfl, by first | exact Or.inl ⟨rfl, by omega⟩ | exact Or.inr ⟨rfl, by omega⟩, ht⟩) (fun q hq => by cases hq) dX9_in_15
  · skip
    have c1 : ¬ (n.toInt < lo.toInt) := fun q => c1 ((z_lt rfl rfl).mpr q)
    refine lv_iload_n hx hb dX9_in_5 rfl (lv_at hl 0 rfl) ?_
    refine lv_iload_n hx hb dX9_in_6 rfl (lv_at hl 2 rfl) ?_
    refine lv_icmp_gt (tgt := 14) hx hb dX9_in_7 (by decide) (fun c2 => ?_) (fun c2 => ?_)
    · skip
      have c2 : hi.toInt < n.toInt := (z_lt rfl rfl).mp c2
      refine lv_iconst (v := 0) hx hb dX9_in_14 (by decide) ?_
      exact W.zret (v := 0) hx hb hr rfl (fun t ht hW => ⟨0, rfl, by first | exact Or.inl ⟨rfl, by omega⟩ | exact Or.inr ⟨rfl, by omega⟩, ht⟩) (fun q hq => by cases hq) dX9_in_15
    · skip
      have c2 : ¬ (hi.toInt < n.toInt) := fun q => c2 ((z_lt rfl rfl).mpr q)
      refine lv_iconst (v := 1) hx hb dX9_in_10 (by decide) ?_
      refine lv_goto (tgt := 15) hx hb dX9_in_11 (by decide) ?_
      exact W.zret (v := 1) hx hb hr rfl (fun t ht hW => ⟨1, rfl, by first | exact Or.inl ⟨rfl, by omega⟩ | exact Or.inr ⟨rfl, by omega⟩, ht⟩) (fun q hq => by cases hq) dX9_in_15

set_option maxHeartbeats 4000000 in
set_option maxRecDepth 100000 in
theorem c_X8_isColumn (l : Launch) (g : zG) (n : Int32) : Met l yX8_isColumn (zW yX8_isColumn cX8_isColumn 1 (some .boolean)) ({ frames := 0, cells := 0, slots := 0, locals := 0 }) (va_Pc [.int n] (zR g [])) (vp_Si (fun r : Int32 => (r = 1 ∧ (0 ≤ n.toInt) ∧ (n.toInt ≤ 3)) ∨ (r = 0 ∧ (¬ (0 ≤ n.toInt ∧ n.toInt ≤ 3))))) 0 0 (fun _ => False) := by
  refine Met.ofW (cc := cX8_isColumn) (maxL := 1) (ret := (some .boolean)) (by decide) rfl ?_
  intro p e s m args below meth c s₁ B hml hv
  obtain ⟨rfl, hP, hK, hN⟩ := hv
  have hx := B.exec
  have hb := B.bytes
  have hr := B.returns
  have hg := zW.law (atoms_spec (ws := (zW yX8_isColumn cX8_isColumn 1 (some .boolean))) B.pre)
  have hown : s.vm.findClass RX8 = some m.cls := findClass_of_methodNamed B.named
  have hlocks := B.notSynchronized
  have hl := lv_entry ([.int n]) (n := 1) (Nat.le_of_ble_eq_true rfl)
  rw [lg_entry_eq]
  generalize (lg_sl ([.int n]) ++ List.replicate (1 - (lg_sl ([.int n])).length) Slot.unset).toArray = ls at hl ⊢
  have hl : lv_has ls 1 [(0, .int n)] := hl
  refine lv_iload_n hx hb dX8_isColumn_0 rfl (lv_at hl 0 rfl) ?_
  refine lv_if_lt (tgt := 13) hx hb dX8_isColumn_1 (by decide) (fun c1 => ?_) (fun c1 => ?_)
  · skip
    have c1 : n.toInt < 0 := (z_lt rfl (by decide : (0 : Int32).toInt = 0)).mp c1
    refine lv_iconst (v := 0) hx hb dX8_isColumn_13 (by decide) ?_
    exact W.zret (v := 0) hx hb hr rfl (fun t ht hW => ⟨0, rfl, by first | exact Or.inl ⟨rfl, by omega⟩ | exact Or.inr ⟨rfl, by omega⟩, ht⟩) (fun q hq => by cases hq) dX8_isColumn_14
  · skip
    have c1 : ¬ (n.toInt < 0) := fun q => c1 ((z_lt rfl (by decide : (0 : Int32).toInt = 0)).mpr q)
    refine lv_iload_n hx hb dX8_isColumn_4 rfl (lv_at hl 0 rfl) ?_
    refine lv_iconst (v := 4) hx hb dX8_isColumn_5 (by decide) ?_
    refine lv_icmp_ge (tgt := 13) hx hb dX8_isColumn_6 (by decide) (fun c2 => ?_) (fun c2 => ?_)
    · skip
      have c2 : 4 ≤ n.toInt := (z_le (by decide : (4 : Int32).toInt = 4) rfl).mp c2
      refine lv_iconst (v := 0) hx hb dX8_isColumn_13 (by decide) ?_
      exact W.zret (v := 0) hx hb hr rfl (fun t ht hW => ⟨0, rfl, by first | exact Or.inl ⟨rfl, by omega⟩ | exact Or.inr ⟨rfl, by omega⟩, ht⟩) (fun q hq => by cases hq) dX8_isColumn_14
    · skip
      have c2 : ¬ (4 ≤ n.toInt) := fun q => c2 ((z_le (by decide : (4 : Int32).toInt = 4) rfl).mpr q)
      refine lv_iconst (v := 1) hx hb dX8_isColumn_9 (by decide) ?_
      refine lv_goto (tgt := 14) hx hb dX8_isColumn_10 (by decide) ?_
      exact W.zret (v := 1) hx hb hr rfl (fun t ht hW => ⟨1, rfl, by first | exact Or.inl ⟨rfl, by omega⟩ | exact Or.inr ⟨rfl, by omega⟩, ht⟩) (fun q hq => by cases hq) dX8_isColumn_14

set_option maxHeartbeats 4000000 in
set_option maxRecDepth 100000 in
theorem c_X9_isColumn (l : Launch) (g : zG) (n : Int32) : Met l yX9_isColumn (zW yX9_isColumn cX9_isColumn 1 (some .boolean)) ({ frames := 0, cells := 0, slots := 0, locals := 0 }) (va_Pc [.int n] (zR g [])) (vp_Si (fun r : Int32 => (r = 1 ∧ (0 ≤ n.toInt) ∧ (n.toInt ≤ 3)) ∨ (r = 0 ∧ (¬ (0 ≤ n.toInt ∧ n.toInt ≤ 3))))) 0 0 (fun _ => False) := by
  refine Met.ofW (cc := cX9_isColumn) (maxL := 1) (ret := (some .boolean)) (by decide) rfl ?_
  intro p e s m args below meth c s₁ B hml hv
  obtain ⟨rfl, hP, hK, hN⟩ := hv
  have hx := B.exec
  have hb := B.bytes
  have hr := B.returns
  have hg := zW.law (atoms_spec (ws := (zW yX9_isColumn cX9_isColumn 1 (some .boolean))) B.pre)
  have hown : s.vm.findClass RX9 = some m.cls := findClass_of_methodNamed B.named
  have hlocks := B.notSynchronized
  have hl := lv_entry ([.int n]) (n := 1) (Nat.le_of_ble_eq_true rfl)
  rw [lg_entry_eq]
  generalize (lg_sl ([.int n]) ++ List.replicate (1 - (lg_sl ([.int n])).length) Slot.unset).toArray = ls at hl ⊢
  have hl : lv_has ls 1 [(0, .int n)] := hl
  refine lv_iload_n hx hb dX9_isColumn_0 rfl (lv_at hl 0 rfl) ?_
  refine lv_if_lt (tgt := 13) hx hb dX9_isColumn_1 (by decide) (fun c1 => ?_) (fun c1 => ?_)
  · skip
    have c1 : n.toInt < 0 := (z_lt rfl (by decide : (0 : Int32).toInt = 0)).mp c1
    refine lv_iconst (v := 0) hx hb dX9_isColumn_13 (by decide) ?_
    exact W.zret (v := 0) hx hb hr rfl (fun t ht hW => ⟨0, rfl, by first | exact Or.inl ⟨rfl, by omega⟩ | exact Or.inr ⟨rfl, by omega⟩, ht⟩) (fun q hq => by cases hq) dX9_isColumn_14
  · skip
    have c1 : ¬ (n.toInt < 0) := fun q => c1 ((z_lt rfl (by decide : (0 : Int32).toInt = 0)).mpr q)
    refine lv_iload_n hx hb dX9_isColumn_4 rfl (lv_at hl 0 rfl) ?_
    refine lv_iconst (v := 4) hx hb dX9_isColumn_5 (by decide) ?_
    refine lv_icmp_ge (tgt := 13) hx hb dX9_isColumn_6 (by decide) (fun c2 => ?_) (fun c2 => ?_)
    · skip
      have c2 : 4 ≤ n.toInt := (z_le (by decide : (4 : Int32).toInt = 4) rfl).mp c2
      refine lv_iconst (v := 0) hx hb dX9_isColumn_13 (by decide) ?_
      exact W.zret (v := 0) hx hb hr rfl (fun t ht hW => ⟨0, rfl, by first | exact Or.inl ⟨rfl, by omega⟩ | exact Or.inr ⟨rfl, by omega⟩, ht⟩) (fun q hq => by cases hq) dX9_isColumn_14
    · skip
      have c2 : ¬ (4 ≤ n.toInt) := fun q => c2 ((z_le (by decide : (4 : Int32).toInt = 4) rfl).mpr q)
      refine lv_iconst (v := 1) hx hb dX9_isColumn_9 (by decide) ?_
      refine lv_goto (tgt := 14) hx hb dX9_isColumn_10 (by decide) ?_
      exact W.zret (v := 1) hx hb hr rfl (fun t ht hW => ⟨1, rfl, by first | exact Or.inl ⟨rfl, by omega⟩ | exact Or.inr ⟨rfl, by omega⟩, ht⟩) (fun q hq => by cases hq) dX9_isColumn_14

set_option maxHeartbeats 4000000 in
set_option maxRecDepth 100000 in
theorem c_X8_isValue (l : Launch) (g : zG) (n : Int32) : Met l yX8_isValue (zW yX8_isValue cX8_isValue 1 (some .boolean)) ({ frames := 1, cells := 0, slots := 0, locals := 22 }) (va_Pc [.int n] (zR g [])) (vp_Si (fun r : Int32 => (r = 1 ∧ (0 ≤ n.toInt) ∧ (n.toInt ≤ 15)) ∨ (r = 0 ∧ (¬ (0 ≤ n.toInt ∧ n.toInt ≤ 15))))) 0 0 (fun _ => False) := by
  refine Met.ofW (cc := cX8_isValue) (maxL := 1) (ret := (some .boolean)) (by decide) rfl ?_
  intro p e s m args below meth c s₁ B hml hv
  obtain ⟨rfl, hP, hK, hN⟩ := hv
  have hx := B.exec
  have hb := B.bytes
  have hr := B.returns
  have hg := zW.law (atoms_spec (ws := (zW yX8_isValue cX8_isValue 1 (some .boolean))) B.pre)
  have hown : s.vm.findClass RX8 = some m.cls := findClass_of_methodNamed B.named
  have hlocks := B.notSynchronized
  have hl := lv_entry ([.int n]) (n := 1) (Nat.le_of_ble_eq_true rfl)
  rw [lg_entry_eq]
  generalize (lg_sl ([.int n]) ++ List.replicate (1 - (lg_sl ([.int n])).length) Slot.unset).toArray = ls at hl ⊢
  have hl : lv_has ls 1 [(0, .int n)] := hl
  refine lv_iload_n hx hb dX8_isValue_0 rfl (lv_at hl 0 rfl) ?_
  refine lv_iconst (v := 0) hx hb dX8_isValue_1 (by decide) ?_
  refine lv_bipush (v := 15) hx hb dX8_isValue_2 (by decide) ?_
  have hPc := hP.sub (ws' := []) [] rfl
  refine zc_i (va_runS (As := [.int n, .int 0, .int 15]) (rest := []) ⟨hx, hb, hml, hown, hg⟩ (c_X8_within l g n (0 : Int32) (15 : Int32) ) (va_cwS 3 hg (z_gS mm_407 mm_408 mm_108 mm_409) rfl rfl rfl (by decide +kernel) ⟨Nat.le_of_ble_eq_true rfl, Nat.le_of_ble_eq_true rfl⟩) (zR.pre [.int n, .int 0, .int 15] hPc hK hN) rfl rfl hl.1 rfl (lv_room (Nat.le_of_ble_eq_true rfl)) dX8_isValue_4 ⟨Nat.le_of_ble_eq_true rfl, Nat.le_of_ble_eq_true rfl⟩) (fun r1 hr1 => ?_)
  rcases hr1 with hr1 | hr1
  · skip
    obtain ⟨rfl, h2, h3⟩ := hr1
    have h2 : (0 : Int) ≤ n.toInt := h2
    have h3 : n.toInt ≤ (15 : Int) := h3
    exact W.zret (v := 1) hx hb hr rfl (fun t ht hW => ⟨1, rfl, by first | exact Or.inl ⟨rfl, by omega⟩ | exact Or.inr ⟨rfl, by omega⟩, ht⟩) (fun q hq => by cases hq) dX8_isValue_7
  · skip
    obtain ⟨rfl, h4⟩ := hr1
    have h4 : ¬ ((0 : Int) ≤ n.toInt ∧ n.toInt ≤ (15 : Int)) := h4
    exact W.zret (v := 0) hx hb hr rfl (fun t ht hW => ⟨0, rfl, by first | exact Or.inl ⟨rfl, by omega⟩ | exact Or.inr ⟨rfl, by omega⟩, ht⟩) (fun q hq => by cases hq) dX8_isValue_7

set_option maxHeartbeats 4000000 in
set_option maxRecDepth 100000 in
theorem c_X8_isLevel (l : Launch) (g : zG) (n : Int32) : Met l yX8_isLevel (zW yX8_isLevel cX8_isLevel 1 (some .boolean)) ({ frames := 1, cells := 0, slots := 0, locals := 22 }) (va_Pc [.int n] (zR g [])) (vp_Si (fun r : Int32 => (r = 1 ∧ (0 ≤ n.toInt) ∧ (n.toInt ≤ 4)) ∨ (r = 0 ∧ (¬ (0 ≤ n.toInt ∧ n.toInt ≤ 4))))) 0 0 (fun _ => False) := by
  refine Met.ofW (cc := cX8_isLevel) (maxL := 1) (ret := (some .boolean)) (by decide) rfl ?_
  intro p e s m args below meth c s₁ B hml hv
  obtain ⟨rfl, hP, hK, hN⟩ := hv
  have hx := B.exec
  have hb := B.bytes
  have hr := B.returns
  have hg := zW.law (atoms_spec (ws := (zW yX8_isLevel cX8_isLevel 1 (some .boolean))) B.pre)
  have hown : s.vm.findClass RX8 = some m.cls := findClass_of_methodNamed B.named
  have hlocks := B.notSynchronized
  have hl := lv_entry ([.int n]) (n := 1) (Nat.le_of_ble_eq_true rfl)
  rw [lg_entry_eq]
  generalize (lg_sl ([.int n]) ++ List.replicate (1 - (lg_sl ([.int n])).length) Slot.unset).toArray = ls at hl ⊢
  have hl : lv_has ls 1 [(0, .int n)] := hl
  refine lv_iload_n hx hb dX8_isLevel_0 rfl (lv_at hl 0 rfl) ?_
  refine lv_iconst (v := 0) hx hb dX8_isLevel_1 (by decide) ?_
  refine lv_iconst (v := 4) hx hb dX8_isLevel_2 (by decide) ?_
  have hPc := hP.sub (ws' := []) [] rfl
  refine zc_i (va_runS (As := [.int n, .int 0, .int 4]) (rest := []) ⟨hx, hb, hml, hown, hg⟩ (c_X8_within l g n (0 : Int32) (4 : Int32) ) (va_cwS 3 hg (z_gS mm_407 mm_408 mm_108 mm_409) rfl rfl rfl (by decide +kernel) ⟨Nat.le_of_ble_eq_true rfl, Nat.le_of_ble_eq_true rfl⟩) (zR.pre [.int n, .int 0, .int 4] hPc hK hN) rfl rfl hl.1 rfl (lv_room (Nat.le_of_ble_eq_true rfl)) dX8_isLevel_3 ⟨Nat.le_of_ble_eq_true rfl, Nat.le_of_ble_eq_true rfl⟩) (fun r1 hr1 => ?_)
  rcases hr1 with hr1 | hr1
  · skip
    obtain ⟨rfl, h2, h3⟩ := hr1
    have h2 : (0 : Int) ≤ n.toInt := h2
    have h3 : n.toInt ≤ (4 : Int) := h3
    exact W.zret (v := 1) hx hb hr rfl (fun t ht hW => ⟨1, rfl, by first | exact Or.inl ⟨rfl, by omega⟩ | exact Or.inr ⟨rfl, by omega⟩, ht⟩) (fun q hq => by cases hq) dX8_isLevel_6
  · skip
    obtain ⟨rfl, h4⟩ := hr1
    have h4 : ¬ ((0 : Int) ≤ n.toInt ∧ n.toInt ≤ (4 : Int)) := h4
    exact W.zret (v := 0) hx hb hr rfl (fun t ht hW => ⟨0, rfl, by first | exact Or.inl ⟨rfl, by omega⟩ | exact Or.inr ⟨rfl, by omega⟩, ht⟩) (fun q hq => by cases hq) dX8_isLevel_6

set_option maxHeartbeats 4000000 in
set_option maxRecDepth 100000 in
theorem c_X9_isLevel (l : Launch) (g : zG) (n : Int32) : Met l yX9_isLevel (zW yX9_isLevel cX9_isLevel 1 (some .boolean)) ({ frames := 0, cells := 0, slots := 0, locals := 0 }) (va_Pc [.int n] (zR g [])) (vp_Si (fun r : Int32 => (r = 1 ∧ (0 ≤ n.toInt) ∧ (n.toInt ≤ 4)) ∨ (r = 0 ∧ (¬ (0 ≤ n.toInt ∧ n.toInt ≤ 4))))) 0 0 (fun _ => False) := by
  refine Met.ofW (cc := cX9_isLevel) (maxL := 1) (ret := (some .boolean)) (by decide) rfl ?_
  intro p e s m args below meth c s₁ B hml hv
  obtain ⟨rfl, hP, hK, hN⟩ := hv
  have hx := B.exec
  have hb := B.bytes
  have hr := B.returns
  have hg := zW.law (atoms_spec (ws := (zW yX9_isLevel cX9_isLevel 1 (some .boolean))) B.pre)
  have hown : s.vm.findClass RX9 = some m.cls := findClass_of_methodNamed B.named
  have hlocks := B.notSynchronized
  have hl := lv_entry ([.int n]) (n := 1) (Nat.le_of_ble_eq_true rfl)
  rw [lg_entry_eq]
  generalize (lg_sl ([.int n]) ++ List.replicate (1 - (lg_sl ([.int n])).length) Slot.unset).toArray = ls at hl ⊢
  have hl : lv_has ls 1 [(0, .int n)] := hl
  refine lv_iload_n hx hb dX9_isLevel_0 rfl (lv_at hl 0 rfl) ?_
  refine lv_if_lt (tgt := 13) hx hb dX9_isLevel_1 (by decide) (fun c1 => ?_) (fun c1 => ?_)
  · skip
    have c1 : n.toInt < 0 := (z_lt rfl (by decide : (0 : Int32).toInt = 0)).mp c1
    refine lv_iconst (v := 0) hx hb dX9_isLevel_13 (by decide) ?_
    exact W.zret (v := 0) hx hb hr rfl (fun t ht hW => ⟨0, rfl, by first | exact Or.inl ⟨rfl, by omega⟩ | exact Or.inr ⟨rfl, by omega⟩, ht⟩) (fun q hq => by cases hq) dX9_isLevel_14
  · skip
    have c1 : ¬ (n.toInt < 0) := fun q => c1 ((z_lt rfl (by decide : (0 : Int32).toInt = 0)).mpr q)
    refine lv_iload_n hx hb dX9_isLevel_4 rfl (lv_at hl 0 rfl) ?_
    refine lv_iconst (v := 5) hx hb dX9_isLevel_5 (by decide) ?_
    refine lv_icmp_ge (tgt := 13) hx hb dX9_isLevel_6 (by decide) (fun c2 => ?_) (fun c2 => ?_)
    · skip
      have c2 : 5 ≤ n.toInt := (z_le (by decide : (5 : Int32).toInt = 5) rfl).mp c2
      refine lv_iconst (v := 0) hx hb dX9_isLevel_13 (by decide) ?_
      exact W.zret (v := 0) hx hb hr rfl (fun t ht hW => ⟨0, rfl, by first | exact Or.inl ⟨rfl, by omega⟩ | exact Or.inr ⟨rfl, by omega⟩, ht⟩) (fun q hq => by cases hq) dX9_isLevel_14
    · skip
      have c2 : ¬ (5 ≤ n.toInt) := fun q => c2 ((z_le (by decide : (5 : Int32).toInt = 5) rfl).mpr q)
      refine lv_iconst (v := 1) hx hb dX9_isLevel_9 (by decide) ?_
      refine lv_goto (tgt := 14) hx hb dX9_isLevel_10 (by decide) ?_
      exact W.zret (v := 1) hx hb hr rfl (fun t ht hW => ⟨1, rfl, by first | exact Or.inl ⟨rfl, by omega⟩ | exact Or.inr ⟨rfl, by omega⟩, ht⟩) (fun q hq => by cases hq) dX9_isLevel_14

set_option maxHeartbeats 4000000 in
set_option maxRecDepth 100000 in
theorem c_X8_isBar (l : Launch) (g : zG) (n : Int32) : Met l yX8_isBar (zW yX8_isBar cX8_isBar 1 (some .boolean)) ({ frames := 1, cells := 0, slots := 0, locals := 22 }) (va_Pc [.int n] (zR g [])) (vp_Si (fun r : Int32 => (r = 1 ∧ (1 ≤ n.toInt) ∧ (n.toInt ≤ 16)) ∨ (r = 0 ∧ (¬ (1 ≤ n.toInt ∧ n.toInt ≤ 16))))) 0 0 (fun _ => False) := by
  refine Met.ofW (cc := cX8_isBar) (maxL := 1) (ret := (some .boolean)) (by decide) rfl ?_
  intro p e s m args below meth c s₁ B hml hv
  obtain ⟨rfl, hP, hK, hN⟩ := hv
  have hx := B.exec
  have hb := B.bytes
  have hr := B.returns
  have hg := zW.law (atoms_spec (ws := (zW yX8_isBar cX8_isBar 1 (some .boolean))) B.pre)
  have hown : s.vm.findClass RX8 = some m.cls := findClass_of_methodNamed B.named
  have hlocks := B.notSynchronized
  have hl := lv_entry ([.int n]) (n := 1) (Nat.le_of_ble_eq_true rfl)
  rw [lg_entry_eq]
  generalize (lg_sl ([.int n]) ++ List.replicate (1 - (lg_sl ([.int n])).length) Slot.unset).toArray = ls at hl ⊢
  have hl : lv_has ls 1 [(0, .int n)] := hl
  refine lv_iload_n hx hb dX8_isBar_0 rfl (lv_at hl 0 rfl) ?_
  refine lv_iconst (v := 1) hx hb dX8_isBar_1 (by decide) ?_
  refine lv_bipush (v := 16) hx hb dX8_isBar_2 (by decide) ?_
  have hPc := hP.sub (ws' := []) [] rfl
  refine zc_i (va_runS (As := [.int n, .int 1, .int 16]) (rest := []) ⟨hx, hb, hml, hown, hg⟩ (c_X8_within l g n (1 : Int32) (16 : Int32) ) (va_cwS 3 hg (z_gS mm_407 mm_408 mm_108 mm_409) rfl rfl rfl (by decide +kernel) ⟨Nat.le_of_ble_eq_true rfl, Nat.le_of_ble_eq_true rfl⟩) (zR.pre [.int n, .int 1, .int 16] hPc hK hN) rfl rfl hl.1 rfl (lv_room (Nat.le_of_ble_eq_true rfl)) dX8_isBar_4 ⟨Nat.le_of_ble_eq_true rfl, Nat.le_of_ble_eq_true rfl⟩) (fun r1 hr1 => ?_)
  rcases hr1 with hr1 | hr1
  · skip
    obtain ⟨rfl, h2, h3⟩ := hr1
    have h2 : (1 : Int) ≤ n.toInt := h2
    have h3 : n.toInt ≤ (16 : Int) := h3
    exact W.zret (v := 1) hx hb hr rfl (fun t ht hW => ⟨1, rfl, by first | exact Or.inl ⟨rfl, by omega⟩ | exact Or.inr ⟨rfl, by omega⟩, ht⟩) (fun q hq => by cases hq) dX8_isBar_7
  · skip
    obtain ⟨rfl, h4⟩ := hr1
    have h4 : ¬ ((1 : Int) ≤ n.toInt ∧ n.toInt ≤ (16 : Int)) := h4
    exact W.zret (v := 0) hx hb hr rfl (fun t ht hW => ⟨0, rfl, by first | exact Or.inl ⟨rfl, by omega⟩ | exact Or.inr ⟨rfl, by omega⟩, ht⟩) (fun q hq => by cases hq) dX8_isBar_7

set_option maxHeartbeats 4000000 in
set_option maxRecDepth 100000 in
theorem c_X9_isMany (l : Launch) (g : zG) (n : Int32) : Met l yX9_isMany (zW yX9_isMany cX9_isMany 1 (some .boolean)) ({ frames := 0, cells := 0, slots := 0, locals := 0 }) (va_Pc [.int n] (zR g [])) (vp_Si (fun r : Int32 => (r = 1 ∧ (1 ≤ n.toInt) ∧ (n.toInt ≤ 16)) ∨ (r = 0 ∧ (¬ (1 ≤ n.toInt ∧ n.toInt ≤ 16))))) 0 0 (fun _ => False) := by
  refine Met.ofW (cc := cX9_isMany) (maxL := 1) (ret := (some .boolean)) (by decide) rfl ?_
  intro p e s m args below meth c s₁ B hml hv
  obtain ⟨rfl, hP, hK, hN⟩ := hv
  have hx := B.exec
  have hb := B.bytes
  have hr := B.returns
  have hg := zW.law (atoms_spec (ws := (zW yX9_isMany cX9_isMany 1 (some .boolean))) B.pre)
  have hown : s.vm.findClass RX9 = some m.cls := findClass_of_methodNamed B.named
  have hlocks := B.notSynchronized
  have hl := lv_entry ([.int n]) (n := 1) (Nat.le_of_ble_eq_true rfl)
  rw [lg_entry_eq]
  generalize (lg_sl ([.int n]) ++ List.replicate (1 - (lg_sl ([.int n])).length) Slot.unset).toArray = ls at hl ⊢
  have hl : lv_has ls 1 [(0, .int n)] := hl
  refine lv_iload_n hx hb dX9_isMany_0 rfl (lv_at hl 0 rfl) ?_
  refine lv_if_le (tgt := 14) hx hb dX9_isMany_1 (by decide) (fun c1 => ?_) (fun c1 => ?_)
  · skip
    have c1 : n.toInt ≤ 0 := (z_le rfl (by decide : (0 : Int32).toInt = 0)).mp c1
    refine lv_iconst (v := 0) hx hb dX9_isMany_14 (by decide) ?_
    exact W.zret (v := 0) hx hb hr rfl (fun t ht hW => ⟨0, rfl, by first | exact Or.inl ⟨rfl, by omega⟩ | exact Or.inr ⟨rfl, by omega⟩, ht⟩) (fun q hq => by cases hq) dX9_isMany_15
  · skip
    have c1 : ¬ (n.toInt ≤ 0) := fun q => c1 ((z_le rfl (by decide : (0 : Int32).toInt = 0)).mpr q)
    refine lv_iload_n hx hb dX9_isMany_4 rfl (lv_at hl 0 rfl) ?_
    refine lv_bipush (v := 17) hx hb dX9_isMany_5 (by decide) ?_
    refine lv_icmp_ge (tgt := 14) hx hb dX9_isMany_7 (by decide) (fun c2 => ?_) (fun c2 => ?_)
    · skip
      have c2 : 17 ≤ n.toInt := (z_le (by decide : (17 : Int32).toInt = 17) rfl).mp c2
      refine lv_iconst (v := 0) hx hb dX9_isMany_14 (by decide) ?_
      exact W.zret (v := 0) hx hb hr rfl (fun t ht hW => ⟨0, rfl, by first | exact Or.inl ⟨rfl, by omega⟩ | exact Or.inr ⟨rfl, by omega⟩, ht⟩) (fun q hq => by cases hq) dX9_isMany_15
    · skip
      have c2 : ¬ (17 ≤ n.toInt) := fun q => c2 ((z_le (by decide : (17 : Int32).toInt = 17) rfl).mpr q)
      refine lv_iconst (v := 1) hx hb dX9_isMany_10 (by decide) ?_
      refine lv_goto (tgt := 15) hx hb dX9_isMany_11 (by decide) ?_
      exact W.zret (v := 1) hx hb hr rfl (fun t ht hW => ⟨1, rfl, by first | exact Or.inl ⟨rfl, by omega⟩ | exact Or.inr ⟨rfl, by omega⟩, ht⟩) (fun q hq => by cases hq) dX9_isMany_15

set_option maxHeartbeats 4000000 in
set_option maxRecDepth 100000 in
theorem c_X8_areGossips (l : Launch) (g : zG) (n : Int32) : Met l yX8_areGossips (zW yX8_areGossips cX8_areGossips 1 (some .boolean)) ({ frames := 1, cells := 0, slots := 0, locals := 22 }) (va_Pc [.int n] (zR g [])) (vp_Si (fun r : Int32 => (r = 1 ∧ (0 ≤ n.toInt) ∧ (n.toInt ≤ 255)) ∨ (r = 0 ∧ (¬ (0 ≤ n.toInt ∧ n.toInt ≤ 255))))) 0 0 (fun _ => False) := by
  refine Met.ofW (cc := cX8_areGossips) (maxL := 1) (ret := (some .boolean)) (by decide) rfl ?_
  intro p e s m args below meth c s₁ B hml hv
  obtain ⟨rfl, hP, hK, hN⟩ := hv
  have hx := B.exec
  have hb := B.bytes
  have hr := B.returns
  have hg := zW.law (atoms_spec (ws := (zW yX8_areGossips cX8_areGossips 1 (some .boolean))) B.pre)
  have hown : s.vm.findClass RX8 = some m.cls := findClass_of_methodNamed B.named
  have hlocks := B.notSynchronized
  have hl := lv_entry ([.int n]) (n := 1) (Nat.le_of_ble_eq_true rfl)
  rw [lg_entry_eq]
  generalize (lg_sl ([.int n]) ++ List.replicate (1 - (lg_sl ([.int n])).length) Slot.unset).toArray = ls at hl ⊢
  have hl : lv_has ls 1 [(0, .int n)] := hl
  refine lv_iload_n hx hb dX8_areGossips_0 rfl (lv_at hl 0 rfl) ?_
  refine lv_iconst (v := 0) hx hb dX8_areGossips_1 (by decide) ?_
  refine lv_sipush (v := 255) hx hb dX8_areGossips_2 (by decide) ?_
  have hPc := hP.sub (ws' := []) [] rfl
  refine zc_i (va_runS (As := [.int n, .int 0, .int 255]) (rest := []) ⟨hx, hb, hml, hown, hg⟩ (c_X8_within l g n (0 : Int32) (255 : Int32) ) (va_cwS 3 hg (z_gS mm_407 mm_408 mm_108 mm_409) rfl rfl rfl (by decide +kernel) ⟨Nat.le_of_ble_eq_true rfl, Nat.le_of_ble_eq_true rfl⟩) (zR.pre [.int n, .int 0, .int 255] hPc hK hN) rfl rfl hl.1 rfl (lv_room (Nat.le_of_ble_eq_true rfl)) dX8_areGossips_5 ⟨Nat.le_of_ble_eq_true rfl, Nat.le_of_ble_eq_true rfl⟩) (fun r1 hr1 => ?_)
  rcases hr1 with hr1 | hr1
  · skip
    obtain ⟨rfl, h2, h3⟩ := hr1
    have h2 : (0 : Int) ≤ n.toInt := h2
    have h3 : n.toInt ≤ (255 : Int) := h3
    exact W.zret (v := 1) hx hb hr rfl (fun t ht hW => ⟨1, rfl, by first | exact Or.inl ⟨rfl, by omega⟩ | exact Or.inr ⟨rfl, by omega⟩, ht⟩) (fun q hq => by cases hq) dX8_areGossips_8
  · skip
    obtain ⟨rfl, h4⟩ := hr1
    have h4 : ¬ ((0 : Int) ≤ n.toInt ∧ n.toInt ≤ (255 : Int)) := h4
    exact W.zret (v := 0) hx hb hr rfl (fun t ht hW => ⟨0, rfl, by first | exact Or.inl ⟨rfl, by omega⟩ | exact Or.inr ⟨rfl, by omega⟩, ht⟩) (fun q hq => by cases hq) dX8_areGossips_8

set_option maxHeartbeats 4000000 in
set_option maxRecDepth 100000 in
theorem c_X9_isKnown (l : Launch) (g : zG) (n : Int32) : Met l yX9_isKnown (zW yX9_isKnown cX9_isKnown 1 (some .boolean)) ({ frames := 0, cells := 0, slots := 0, locals := 0 }) (va_Pc [.int n] (zR g [])) (vp_Si (fun r : Int32 => (r = 1 ∧ (0 ≤ n.toInt) ∧ (n.toInt ≤ 255)) ∨ (r = 0 ∧ (¬ (0 ≤ n.toInt ∧ n.toInt ≤ 255))))) 0 0 (fun _ => False) := by
  refine Met.ofW (cc := cX9_isKnown) (maxL := 1) (ret := (some .boolean)) (by decide) rfl ?_
  intro p e s m args below meth c s₁ B hml hv
  obtain ⟨rfl, hP, hK, hN⟩ := hv
  have hx := B.exec
  have hb := B.bytes
  have hr := B.returns
  have hg := zW.law (atoms_spec (ws := (zW yX9_isKnown cX9_isKnown 1 (some .boolean))) B.pre)
  have hown : s.vm.findClass RX9 = some m.cls := findClass_of_methodNamed B.named
  have hlocks := B.notSynchronized
  have hl := lv_entry ([.int n]) (n := 1) (Nat.le_of_ble_eq_true rfl)
  rw [lg_entry_eq]
  generalize (lg_sl ([.int n]) ++ List.replicate (1 - (lg_sl ([.int n])).length) Slot.unset).toArray = ls at hl ⊢
  have hl : lv_has ls 1 [(0, .int n)] := hl
  refine lv_iload_n hx hb dX9_isKnown_0 rfl (lv_at hl 0 rfl) ?_
  refine lv_if_lt (tgt := 15) hx hb dX9_isKnown_1 (by decide) (fun c1 => ?_) (fun c1 => ?_)
  · skip
    have c1 : n.toInt < 0 := (z_lt rfl (by decide : (0 : Int32).toInt = 0)).mp c1
    refine lv_iconst (v := 0) hx hb dX9_isKnown_15 (by decide) ?_
    exact W.zret (v := 0) hx hb hr rfl (fun t ht hW => ⟨0, rfl, by first | exact Or.inl ⟨rfl, by omega⟩ | exact Or.inr ⟨rfl, by omega⟩, ht⟩) (fun q hq => by cases hq) dX9_isKnown_16
  · skip
    have c1 : ¬ (n.toInt < 0) := fun q => c1 ((z_lt rfl (by decide : (0 : Int32).toInt = 0)).mpr q)
    refine lv_iload_n hx hb dX9_isKnown_4 rfl (lv_at hl 0 rfl) ?_
    refine lv_sipush (v := 256) hx hb dX9_isKnown_5 (by decide) ?_
    refine lv_icmp_ge (tgt := 15) hx hb dX9_isKnown_8 (by decide) (fun c2 => ?_) (fun c2 => ?_)
    · skip
      have c2 : 256 ≤ n.toInt := (z_le (by decide : (256 : Int32).toInt = 256) rfl).mp c2
      refine lv_iconst (v := 0) hx hb dX9_isKnown_15 (by decide) ?_
      exact W.zret (v := 0) hx hb hr rfl (fun t ht hW => ⟨0, rfl, by first | exact Or.inl ⟨rfl, by omega⟩ | exact Or.inr ⟨rfl, by omega⟩, ht⟩) (fun q hq => by cases hq) dX9_isKnown_16
    · skip
      have c2 : ¬ (256 ≤ n.toInt) := fun q => c2 ((z_le (by decide : (256 : Int32).toInt = 256) rfl).mpr q)
      refine lv_iconst (v := 1) hx hb dX9_isKnown_11 (by decide) ?_
      refine lv_goto (tgt := 16) hx hb dX9_isKnown_12 (by decide) ?_
      exact W.zret (v := 1) hx hb hr rfl (fun t ht hW => ⟨1, rfl, by first | exact Or.inl ⟨rfl, by omega⟩ | exact Or.inr ⟨rfl, by omega⟩, ht⟩) (fun q hq => by cases hq) dX9_isKnown_16
