set_option maxHeartbeats 4000000 in
set_option maxRecDepth 100000 in
theorem k_X8_within (l : Launch) (g : zG) (ad : Nat → Nat) (pe : Int32) (ct : Nat → va_E) (n : Int32) (lo : Int32) (hi : Int32) (hI : Inv8 g ad pe ct) : Met l yX8_within (zW yX8_within cX8_within 3 (some .boolean)) ({ frames := 0, cells := 0, slots := 0, locals := 0 }) (va_Pc [.int n, .int lo, .int hi] (zR g (zw 126 ad ct))) (vp_Si (fun r : Int32 => (r = 1 ∧ (lo.toInt ≤ n.toInt) ∧ (n.toInt ≤ hi.toInt)) ∨ (r = 0 ∧ (¬ (lo.toInt ≤ n.toInt ∧ n.toInt ≤ hi.toInt))))) 0 0 (fun _ => False) := by
  refine Met.ofW (cc := cX8_within) (maxL := 3) (ret := (some .boolean)) (by decide) rfl ?_
  intro p e s m args below meth c s₁ B hml hv
  obtain ⟨rfl, hP, hK, hN⟩ := hv
  have hx := B.exec
  have hb := B.bytes
  have hr := B.returns
  have hg := zW.law (atoms_spec (ws := (zW yX8_within cX8_within 3 (some .boolean))) B.pre)
  have hown : s.vm.findClass RX8 = some m.cls := findClass_of_methodNamed B.named
  have hlocks := B.notSynchronized
  have hpe0 := hI.1
  have hl := lv_entry ([.int n, .int lo, .int hi]) (n := 3) (Nat.le_of_ble_eq_true rfl)
  rw [lg_entry_eq]
  generalize (lg_sl ([.int n, .int lo, .int hi]) ++ List.replicate (3 - (lg_sl ([.int n, .int lo, .int hi])).length) Slot.unset).toArray = ls at hl ⊢
  have hl : lv_has ls 3 [(0, .int n), (1, .int lo), (2, .int hi)] := hl
  have rg_n := z_rng n
  have rg_lo := z_rng lo
  have rg_hi := z_rng hi
  refine lv_iload_n hx hb dX8_within_0 rfl (lv_at hl 0 rfl) ?_
  refine lv_iload_n hx hb dX8_within_1 rfl (lv_at hl 1 rfl) ?_
  refine lv_icmp_lt (tgt := 14) hx hb dX8_within_2 (by decide) (fun c1 => ?_) (fun c1 => ?_)
  · skip
    have c1 : n.toInt < lo.toInt := (z_lt rfl rfl).mp c1
    refine lv_iconst (v := 0) hx hb dX8_within_14 (by decide) ?_
    have q2 : (0 : Int32).toInt = 0 := by decide
    exact W.zret (v := 0) hx hb hr rfl (fun t ht hW => ⟨0, rfl, by first | exact Or.inl ⟨rfl, by omega⟩ | exact Or.inr ⟨rfl, by omega⟩ | exact Or.inl rfl | exact Or.inr rfl | exact Or.inl ⟨rfl, by omega, by omega⟩ | exact (z_01 (by omega) (by omega)).symm, ht⟩) (fun q hq => by cases hq) dX8_within_15
  · skip
    have c1 : ¬ (n.toInt < lo.toInt) := fun q => c1 ((z_lt rfl rfl).mpr q)
    refine lv_iload_n hx hb dX8_within_5 rfl (lv_at hl 0 rfl) ?_
    refine lv_iload_n hx hb dX8_within_6 rfl (lv_at hl 2 rfl) ?_
    refine lv_icmp_gt (tgt := 14) hx hb dX8_within_7 (by decide) (fun c3 => ?_) (fun c3 => ?_)
    · skip
      have c3 : hi.toInt < n.toInt := (z_lt rfl rfl).mp c3
      refine lv_iconst (v := 0) hx hb dX8_within_14 (by decide) ?_
      have q4 : (0 : Int32).toInt = 0 := by decide
      exact W.zret (v := 0) hx hb hr rfl (fun t ht hW => ⟨0, rfl, by first | exact Or.inl ⟨rfl, by omega⟩ | exact Or.inr ⟨rfl, by omega⟩ | exact Or.inl rfl | exact Or.inr rfl | exact Or.inl ⟨rfl, by omega, by omega⟩ | exact (z_01 (by omega) (by omega)).symm, ht⟩) (fun q hq => by cases hq) dX8_within_15
    · skip
      have c3 : ¬ (hi.toInt < n.toInt) := fun q => c3 ((z_lt rfl rfl).mpr q)
      refine lv_iconst (v := 1) hx hb dX8_within_10 (by decide) ?_
      refine lv_goto (tgt := 15) hx hb dX8_within_11 (by decide) ?_
      have q5 : (1 : Int32).toInt = 1 := by decide
      exact W.zret (v := 1) hx hb hr rfl (fun t ht hW => ⟨1, rfl, by first | exact Or.inl ⟨rfl, by omega⟩ | exact Or.inr ⟨rfl, by omega⟩ | exact Or.inl rfl | exact Or.inr rfl | exact Or.inl ⟨rfl, by omega, by omega⟩ | exact (z_01 (by omega) (by omega)).symm, ht⟩) (fun q hq => by cases hq) dX8_within_15

set_option maxHeartbeats 4000000 in
set_option maxRecDepth 100000 in
theorem k_X8_isColumn (l : Launch) (g : zG) (ad : Nat → Nat) (pe : Int32) (ct : Nat → va_E) (n : Int32) (hI : Inv8 g ad pe ct) : Met l yX8_isColumn (zW yX8_isColumn cX8_isColumn 1 (some .boolean)) ({ frames := 0, cells := 0, slots := 0, locals := 0 }) (va_Pc [.int n] (zR g (zw 126 ad ct))) (vp_Si (fun r : Int32 => (r = 1 ∧ (0 ≤ n.toInt) ∧ (n.toInt ≤ 3)) ∨ (r = 0 ∧ (¬ (0 ≤ n.toInt ∧ n.toInt ≤ 3))))) 0 0 (fun _ => False) := by
  refine Met.ofW (cc := cX8_isColumn) (maxL := 1) (ret := (some .boolean)) (by decide) rfl ?_
  intro p e s m args below meth c s₁ B hml hv
  obtain ⟨rfl, hP, hK, hN⟩ := hv
  have hx := B.exec
  have hb := B.bytes
  have hr := B.returns
  have hg := zW.law (atoms_spec (ws := (zW yX8_isColumn cX8_isColumn 1 (some .boolean))) B.pre)
  have hown : s.vm.findClass RX8 = some m.cls := findClass_of_methodNamed B.named
  have hlocks := B.notSynchronized
  have hpe0 := hI.1
  have hl := lv_entry ([.int n]) (n := 1) (Nat.le_of_ble_eq_true rfl)
  rw [lg_entry_eq]
  generalize (lg_sl ([.int n]) ++ List.replicate (1 - (lg_sl ([.int n])).length) Slot.unset).toArray = ls at hl ⊢
  have hl : lv_has ls 1 [(0, .int n)] := hl
  have rg_n := z_rng n
  refine lv_iload_n hx hb dX8_isColumn_0 rfl (lv_at hl 0 rfl) ?_
  refine lv_if_lt (tgt := 13) hx hb dX8_isColumn_1 (by decide) (fun c1 => ?_) (fun c1 => ?_)
  · skip
    have c1 : n.toInt < 0 := (z_lt rfl (by decide : (0 : Int32).toInt = 0)).mp c1
    refine lv_iconst (v := 0) hx hb dX8_isColumn_13 (by decide) ?_
    have q2 : (0 : Int32).toInt = 0 := by decide
    exact W.zret (v := 0) hx hb hr rfl (fun t ht hW => ⟨0, rfl, by first | exact Or.inl ⟨rfl, by omega⟩ | exact Or.inr ⟨rfl, by omega⟩ | exact Or.inl rfl | exact Or.inr rfl | exact Or.inl ⟨rfl, by omega, by omega⟩ | exact (z_01 (by omega) (by omega)).symm, ht⟩) (fun q hq => by cases hq) dX8_isColumn_14
  · skip
    have c1 : ¬ (n.toInt < 0) := fun q => c1 ((z_lt rfl (by decide : (0 : Int32).toInt = 0)).mpr q)
    refine lv_iload_n hx hb dX8_isColumn_4 rfl (lv_at hl 0 rfl) ?_
    refine lv_iconst (v := 4) hx hb dX8_isColumn_5 (by decide) ?_
    refine lv_icmp_ge (tgt := 13) hx hb dX8_isColumn_6 (by decide) (fun c3 => ?_) (fun c3 => ?_)
    · skip
      have c3 : 4 ≤ n.toInt := (z_le (by decide : (4 : Int32).toInt = 4) rfl).mp c3
      refine lv_iconst (v := 0) hx hb dX8_isColumn_13 (by decide) ?_
      have q4 : (0 : Int32).toInt = 0 := by decide
      exact W.zret (v := 0) hx hb hr rfl (fun t ht hW => ⟨0, rfl, by first | exact Or.inl ⟨rfl, by omega⟩ | exact Or.inr ⟨rfl, by omega⟩ | exact Or.inl rfl | exact Or.inr rfl | exact Or.inl ⟨rfl, by omega, by omega⟩ | exact (z_01 (by omega) (by omega)).symm, ht⟩) (fun q hq => by cases hq) dX8_isColumn_14
    · skip
      have c3 : ¬ (4 ≤ n.toInt) := fun q => c3 ((z_le (by decide : (4 : Int32).toInt = 4) rfl).mpr q)
      refine lv_iconst (v := 1) hx hb dX8_isColumn_9 (by decide) ?_
      refine lv_goto (tgt := 14) hx hb dX8_isColumn_10 (by decide) ?_
      have q5 : (1 : Int32).toInt = 1 := by decide
      exact W.zret (v := 1) hx hb hr rfl (fun t ht hW => ⟨1, rfl, by first | exact Or.inl ⟨rfl, by omega⟩ | exact Or.inr ⟨rfl, by omega⟩ | exact Or.inl rfl | exact Or.inr rfl | exact Or.inl ⟨rfl, by omega, by omega⟩ | exact (z_01 (by omega) (by omega)).symm, ht⟩) (fun q hq => by cases hq) dX8_isColumn_14

set_option maxHeartbeats 4000000 in
set_option maxRecDepth 100000 in
theorem k_X8_isValue (l : Launch) (g : zG) (ad : Nat → Nat) (pe : Int32) (ct : Nat → va_E) (n : Int32) (hI : Inv8 g ad pe ct) : Met l yX8_isValue (zW yX8_isValue cX8_isValue 1 (some .boolean)) ({ frames := 1, cells := 0, slots := 0, locals := 22 }) (va_Pc [.int n] (zR g (zw 126 ad ct))) (vp_Si (fun r : Int32 => (r = 1 ∧ (0 ≤ n.toInt) ∧ (n.toInt ≤ 15)) ∨ (r = 0 ∧ (¬ (0 ≤ n.toInt ∧ n.toInt ≤ 15))))) 0 0 (fun _ => False) := by
  refine Met.ofW (cc := cX8_isValue) (maxL := 1) (ret := (some .boolean)) (by decide) rfl ?_
  intro p e s m args below meth c s₁ B hml hv
  obtain ⟨rfl, hP, hK, hN⟩ := hv
  have hx := B.exec
  have hb := B.bytes
  have hr := B.returns
  have hg := zW.law (atoms_spec (ws := (zW yX8_isValue cX8_isValue 1 (some .boolean))) B.pre)
  have hown : s.vm.findClass RX8 = some m.cls := findClass_of_methodNamed B.named
  have hlocks := B.notSynchronized
  have hpe0 := hI.1
  have hl := lv_entry ([.int n]) (n := 1) (Nat.le_of_ble_eq_true rfl)
  rw [lg_entry_eq]
  generalize (lg_sl ([.int n]) ++ List.replicate (1 - (lg_sl ([.int n])).length) Slot.unset).toArray = ls at hl ⊢
  have hl : lv_has ls 1 [(0, .int n)] := hl
  have rg_n := z_rng n
  refine lv_iload_n hx hb dX8_isValue_0 rfl (lv_at hl 0 rfl) ?_
  refine lv_iconst (v := 0) hx hb dX8_isValue_1 (by decide) ?_
  refine lv_bipush (v := 15) hx hb dX8_isValue_2 (by decide) ?_
  refine zc_i (va_runS (As := [.int n, .int 0, .int 15]) (rest := []) ⟨hx, hb, hml, hown, hg⟩ (k_X8_within l g ad pe ct n (0 : Int32) (15 : Int32) hI) (va_cwS 3 hg (z_gS mm_407 mm_408 mm_108 mm_409) rfl rfl rfl (by decide +kernel) ⟨Nat.le_of_ble_eq_true rfl, Nat.le_of_ble_eq_true rfl⟩) (zR.pre [.int n, .int 0, .int 15] hP hK hN) rfl rfl hl.1 rfl (lv_room (Nat.le_of_ble_eq_true rfl)) dX8_isValue_4 ⟨Nat.le_of_ble_eq_true rfl, Nat.le_of_ble_eq_true rfl⟩) (fun r1 hr1 => ?_)
  rcases hr1 with hr1 | hr1
  · skip
    obtain ⟨rfl, h2, h3⟩ := hr1
    have h2 : (0 : Int) ≤ n.toInt := h2
    have h3 : n.toInt ≤ (15 : Int) := h3
    have q4 : (1 : Int32).toInt = 1 := by decide
    exact W.zret (v := 1) hx hb hr rfl (fun t ht hW => ⟨1, rfl, by first | exact Or.inl ⟨rfl, by omega⟩ | exact Or.inr ⟨rfl, by omega⟩ | exact Or.inl rfl | exact Or.inr rfl | exact Or.inl ⟨rfl, by omega, by omega⟩ | exact (z_01 (by omega) (by omega)).symm, ht⟩) (fun q hq => by cases hq) dX8_isValue_7
  · skip
    obtain ⟨rfl, h5⟩ := hr1
    have h5 : ¬ ((0 : Int) ≤ n.toInt ∧ n.toInt ≤ (15 : Int)) := h5
    have q6 : (0 : Int32).toInt = 0 := by decide
    exact W.zret (v := 0) hx hb hr rfl (fun t ht hW => ⟨0, rfl, by first | exact Or.inl ⟨rfl, by omega⟩ | exact Or.inr ⟨rfl, by omega⟩ | exact Or.inl rfl | exact Or.inr rfl | exact Or.inl ⟨rfl, by omega, by omega⟩ | exact (z_01 (by omega) (by omega)).symm, ht⟩) (fun q hq => by cases hq) dX8_isValue_7

set_option maxHeartbeats 4000000 in
set_option maxRecDepth 100000 in
theorem k_X8_isLevel (l : Launch) (g : zG) (ad : Nat → Nat) (pe : Int32) (ct : Nat → va_E) (n : Int32) (hI : Inv8 g ad pe ct) : Met l yX8_isLevel (zW yX8_isLevel cX8_isLevel 1 (some .boolean)) ({ frames := 1, cells := 0, slots := 0, locals := 22 }) (va_Pc [.int n] (zR g (zw 126 ad ct))) (vp_Si (fun r : Int32 => (r = 1 ∧ (0 ≤ n.toInt) ∧ (n.toInt ≤ 4)) ∨ (r = 0 ∧ (¬ (0 ≤ n.toInt ∧ n.toInt ≤ 4))))) 0 0 (fun _ => False) := by
  refine Met.ofW (cc := cX8_isLevel) (maxL := 1) (ret := (some .boolean)) (by decide) rfl ?_
  intro p e s m args below meth c s₁ B hml hv
  obtain ⟨rfl, hP, hK, hN⟩ := hv
  have hx := B.exec
  have hb := B.bytes
  have hr := B.returns
  have hg := zW.law (atoms_spec (ws := (zW yX8_isLevel cX8_isLevel 1 (some .boolean))) B.pre)
  have hown : s.vm.findClass RX8 = some m.cls := findClass_of_methodNamed B.named
  have hlocks := B.notSynchronized
  have hpe0 := hI.1
  have hl := lv_entry ([.int n]) (n := 1) (Nat.le_of_ble_eq_true rfl)
  rw [lg_entry_eq]
  generalize (lg_sl ([.int n]) ++ List.replicate (1 - (lg_sl ([.int n])).length) Slot.unset).toArray = ls at hl ⊢
  have hl : lv_has ls 1 [(0, .int n)] := hl
  have rg_n := z_rng n
  refine lv_iload_n hx hb dX8_isLevel_0 rfl (lv_at hl 0 rfl) ?_
  refine lv_iconst (v := 0) hx hb dX8_isLevel_1 (by decide) ?_
  refine lv_iconst (v := 4) hx hb dX8_isLevel_2 (by decide) ?_
  refine zc_i (va_runS (As := [.int n, .int 0, .int 4]) (rest := []) ⟨hx, hb, hml, hown, hg⟩ (k_X8_within l g ad pe ct n (0 : Int32) (4 : Int32) hI) (va_cwS 3 hg (z_gS mm_407 mm_408 mm_108 mm_409) rfl rfl rfl (by decide +kernel) ⟨Nat.le_of_ble_eq_true rfl, Nat.le_of_ble_eq_true rfl⟩) (zR.pre [.int n, .int 0, .int 4] hP hK hN) rfl rfl hl.1 rfl (lv_room (Nat.le_of_ble_eq_true rfl)) dX8_isLevel_3 ⟨Nat.le_of_ble_eq_true rfl, Nat.le_of_ble_eq_true rfl⟩) (fun r1 hr1 => ?_)
  rcases hr1 with hr1 | hr1
  · skip
    obtain ⟨rfl, h2, h3⟩ := hr1
    have h2 : (0 : Int) ≤ n.toInt := h2
    have h3 : n.toInt ≤ (4 : Int) := h3
    have q4 : (1 : Int32).toInt = 1 := by decide
    exact W.zret (v := 1) hx hb hr rfl (fun t ht hW => ⟨1, rfl, by first | exact Or.inl ⟨rfl, by omega⟩ | exact Or.inr ⟨rfl, by omega⟩ | exact Or.inl rfl | exact Or.inr rfl | exact Or.inl ⟨rfl, by omega, by omega⟩ | exact (z_01 (by omega) (by omega)).symm, ht⟩) (fun q hq => by cases hq) dX8_isLevel_6
  · skip
    obtain ⟨rfl, h5⟩ := hr1
    have h5 : ¬ ((0 : Int) ≤ n.toInt ∧ n.toInt ≤ (4 : Int)) := h5
    have q6 : (0 : Int32).toInt = 0 := by decide
    exact W.zret (v := 0) hx hb hr rfl (fun t ht hW => ⟨0, rfl, by first | exact Or.inl ⟨rfl, by omega⟩ | exact Or.inr ⟨rfl, by omega⟩ | exact Or.inl rfl | exact Or.inr rfl | exact Or.inl ⟨rfl, by omega, by omega⟩ | exact (z_01 (by omega) (by omega)).symm, ht⟩) (fun q hq => by cases hq) dX8_isLevel_6

set_option maxHeartbeats 4000000 in
set_option maxRecDepth 100000 in
theorem k_X8_isBar (l : Launch) (g : zG) (ad : Nat → Nat) (pe : Int32) (ct : Nat → va_E) (n : Int32) (hI : Inv8 g ad pe ct) : Met l yX8_isBar (zW yX8_isBar cX8_isBar 1 (some .boolean)) ({ frames := 1, cells := 0, slots := 0, locals := 22 }) (va_Pc [.int n] (zR g (zw 126 ad ct))) (vp_Si (fun r : Int32 => (r = 1 ∧ (1 ≤ n.toInt) ∧ (n.toInt ≤ 16)) ∨ (r = 0 ∧ (¬ (1 ≤ n.toInt ∧ n.toInt ≤ 16))))) 0 0 (fun _ => False) := by
  refine Met.ofW (cc := cX8_isBar) (maxL := 1) (ret := (some .boolean)) (by decide) rfl ?_
  intro p e s m args below meth c s₁ B hml hv
  obtain ⟨rfl, hP, hK, hN⟩ := hv
  have hx := B.exec
  have hb := B.bytes
  have hr := B.returns
  have hg := zW.law (atoms_spec (ws := (zW yX8_isBar cX8_isBar 1 (some .boolean))) B.pre)
  have hown : s.vm.findClass RX8 = some m.cls := findClass_of_methodNamed B.named
  have hlocks := B.notSynchronized
  have hpe0 := hI.1
  have hl := lv_entry ([.int n]) (n := 1) (Nat.le_of_ble_eq_true rfl)
  rw [lg_entry_eq]
  generalize (lg_sl ([.int n]) ++ List.replicate (1 - (lg_sl ([.int n])).length) Slot.unset).toArray = ls at hl ⊢
  have hl : lv_has ls 1 [(0, .int n)] := hl
  have rg_n := z_rng n
  refine lv_iload_n hx hb dX8_isBar_0 rfl (lv_at hl 0 rfl) ?_
  refine lv_iconst (v := 1) hx hb dX8_isBar_1 (by decide) ?_
  refine lv_bipush (v := 16) hx hb dX8_isBar_2 (by decide) ?_
  refine zc_i (va_runS (As := [.int n, .int 1, .int 16]) (rest := []) ⟨hx, hb, hml, hown, hg⟩ (k_X8_within l g ad pe ct n (1 : Int32) (16 : Int32) hI) (va_cwS 3 hg (z_gS mm_407 mm_408 mm_108 mm_409) rfl rfl rfl (by decide +kernel) ⟨Nat.le_of_ble_eq_true rfl, Nat.le_of_ble_eq_true rfl⟩) (zR.pre [.int n, .int 1, .int 16] hP hK hN) rfl rfl hl.1 rfl (lv_room (Nat.le_of_ble_eq_true rfl)) dX8_isBar_4 ⟨Nat.le_of_ble_eq_true rfl, Nat.le_of_ble_eq_true rfl⟩) (fun r1 hr1 => ?_)
  rcases hr1 with hr1 | hr1
  · skip
    obtain ⟨rfl, h2, h3⟩ := hr1
    have h2 : (1 : Int) ≤ n.toInt := h2
    have h3 : n.toInt ≤ (16 : Int) := h3
    have q4 : (1 : Int32).toInt = 1 := by decide
    exact W.zret (v := 1) hx hb hr rfl (fun t ht hW => ⟨1, rfl, by first | exact Or.inl ⟨rfl, by omega⟩ | exact Or.inr ⟨rfl, by omega⟩ | exact Or.inl rfl | exact Or.inr rfl | exact Or.inl ⟨rfl, by omega, by omega⟩ | exact (z_01 (by omega) (by omega)).symm, ht⟩) (fun q hq => by cases hq) dX8_isBar_7
  · skip
    obtain ⟨rfl, h5⟩ := hr1
    have h5 : ¬ ((1 : Int) ≤ n.toInt ∧ n.toInt ≤ (16 : Int)) := h5
    have q6 : (0 : Int32).toInt = 0 := by decide
    exact W.zret (v := 0) hx hb hr rfl (fun t ht hW => ⟨0, rfl, by first | exact Or.inl ⟨rfl, by omega⟩ | exact Or.inr ⟨rfl, by omega⟩ | exact Or.inl rfl | exact Or.inr rfl | exact Or.inl ⟨rfl, by omega, by omega⟩ | exact (z_01 (by omega) (by omega)).symm, ht⟩) (fun q hq => by cases hq) dX8_isBar_7

set_option maxHeartbeats 4000000 in
set_option maxRecDepth 100000 in
theorem k_X8_areGossips (l : Launch) (g : zG) (ad : Nat → Nat) (pe : Int32) (ct : Nat → va_E) (n : Int32) (hI : Inv8 g ad pe ct) : Met l yX8_areGossips (zW yX8_areGossips cX8_areGossips 1 (some .boolean)) ({ frames := 1, cells := 0, slots := 0, locals := 22 }) (va_Pc [.int n] (zR g (zw 126 ad ct))) (vp_Si (fun r : Int32 => (r = 1 ∧ (0 ≤ n.toInt) ∧ (n.toInt ≤ 255)) ∨ (r = 0 ∧ (¬ (0 ≤ n.toInt ∧ n.toInt ≤ 255))))) 0 0 (fun _ => False) := by
  refine Met.ofW (cc := cX8_areGossips) (maxL := 1) (ret := (some .boolean)) (by decide) rfl ?_
  intro p e s m args below meth c s₁ B hml hv
  obtain ⟨rfl, hP, hK, hN⟩ := hv
  have hx := B.exec
  have hb := B.bytes
  have hr := B.returns
  have hg := zW.law (atoms_spec (ws := (zW yX8_areGossips cX8_areGossips 1 (some .boolean))) B.pre)
  have hown : s.vm.findClass RX8 = some m.cls := findClass_of_methodNamed B.named
  have hlocks := B.notSynchronized
  have hpe0 := hI.1
  have hl := lv_entry ([.int n]) (n := 1) (Nat.le_of_ble_eq_true rfl)
  rw [lg_entry_eq]
  generalize (lg_sl ([.int n]) ++ List.replicate (1 - (lg_sl ([.int n])).length) Slot.unset).toArray = ls at hl ⊢
  have hl : lv_has ls 1 [(0, .int n)] := hl
  have rg_n := z_rng n
  refine lv_iload_n hx hb dX8_areGossips_0 rfl (lv_at hl 0 rfl) ?_
  refine lv_iconst (v := 0) hx hb dX8_areGossips_1 (by decide) ?_
  refine lv_sipush (v := 255) hx hb dX8_areGossips_2 (by decide) ?_
  refine zc_i (va_runS (As := [.int n, .int 0, .int 255]) (rest := []) ⟨hx, hb, hml, hown, hg⟩ (k_X8_within l g ad pe ct n (0 : Int32) (255 : Int32) hI) (va_cwS 3 hg (z_gS mm_407 mm_408 mm_108 mm_409) rfl rfl rfl (by decide +kernel) ⟨Nat.le_of_ble_eq_true rfl, Nat.le_of_ble_eq_true rfl⟩) (zR.pre [.int n, .int 0, .int 255] hP hK hN) rfl rfl hl.1 rfl (lv_room (Nat.le_of_ble_eq_true rfl)) dX8_areGossips_5 ⟨Nat.le_of_ble_eq_true rfl, Nat.le_of_ble_eq_true rfl⟩) (fun r1 hr1 => ?_)
  rcases hr1 with hr1 | hr1
  · skip
    obtain ⟨rfl, h2, h3⟩ := hr1
    have h2 : (0 : Int) ≤ n.toInt := h2
    have h3 : n.toInt ≤ (255 : Int) := h3
    have q4 : (1 : Int32).toInt = 1 := by decide
    exact W.zret (v := 1) hx hb hr rfl (fun t ht hW => ⟨1, rfl, by first | exact Or.inl ⟨rfl, by omega⟩ | exact Or.inr ⟨rfl, by omega⟩ | exact Or.inl rfl | exact Or.inr rfl | exact Or.inl ⟨rfl, by omega, by omega⟩ | exact (z_01 (by omega) (by omega)).symm, ht⟩) (fun q hq => by cases hq) dX8_areGossips_8
  · skip
    obtain ⟨rfl, h5⟩ := hr1
    have h5 : ¬ ((0 : Int) ≤ n.toInt ∧ n.toInt ≤ (255 : Int)) := h5
    have q6 : (0 : Int32).toInt = 0 := by decide
    exact W.zret (v := 0) hx hb hr rfl (fun t ht hW => ⟨0, rfl, by first | exact Or.inl ⟨rfl, by omega⟩ | exact Or.inr ⟨rfl, by omega⟩ | exact Or.inl rfl | exact Or.inr rfl | exact Or.inl ⟨rfl, by omega, by omega⟩ | exact (z_01 (by omega) (by omega)).symm, ht⟩) (fun q hq => by cases hq) dX8_areGossips_8

set_option maxHeartbeats 4000000 in
set_option maxRecDepth 100000 in
theorem k_X8_lowest (l : Launch) (g : zG) (ad : Nat → Nat) (pe : Int32) (ct : Nat → va_E) (set : Int32) (hI : Inv8 g ad pe ct) : Met l yX8_lowest (zW yX8_lowest cX8_lowest 2 (some .int)) ({ frames := 0, cells := 0, slots := 0, locals := 0 }) (va_Pc [.int set] (zR g (zw 126 ad ct))) (vp_Si (fun r : Int32 => ((-1 ≤ r.toInt) ∧ (r.toInt ≤ 31)))) 0 0 (fun _ => False) := by
  refine Met.ofW (cc := cX8_lowest) (maxL := 2) (ret := (some .int)) (by decide) rfl ?_
  intro p e s m args below meth c s₁ B hml hv
  obtain ⟨rfl, hP, hK, hN⟩ := hv
  have hx := B.exec
  have hb := B.bytes
  have hr := B.returns
  have hg := zW.law (atoms_spec (ws := (zW yX8_lowest cX8_lowest 2 (some .int))) B.pre)
  have hown : s.vm.findClass RX8 = some m.cls := findClass_of_methodNamed B.named
  have hlocks := B.notSynchronized
  have hpe0 := hI.1
  have hl := lv_entry ([.int set]) (n := 2) (Nat.le_of_ble_eq_true rfl)
  rw [lg_entry_eq]
  generalize (lg_sl ([.int set]) ++ List.replicate (2 - (lg_sl ([.int set])).length) Slot.unset).toArray = ls at hl ⊢
  have hl : lv_has ls 2 [(0, .int set)] := hl
  have rg_set := z_rng set
  refine lv_iconst (v := 0) hx hb dX8_lowest_0 (by decide) ?_
  refine lv_istore_n (lv' := [(1, .int 0), (0, .int set)]) hx hb dX8_lowest_1 rfl hl (by decide) rfl (fun ls hl => ?_)
  have loop2 : ∀ (n2 : Nat) (v1_2 : Int32) (ls : Array Slot), ((32 - v1_2.toInt : Int).toNat < n2) → (0 ≤ v1_2.toInt ∧ v1_2.toInt ≤ 32) → lv_has ls 2 [(1, .int v1_2), (0, .int set)] → W p l e (headSpec (zW yX8_lowest cX8_lowest 2 (some .int)) ({ frames := 0, cells := 0, slots := 0, locals := 0 })).room s m ([.int set] : List Value).toArray below meth c s.heap [] 0 0 (MQ below (vp_Si (fun r : Int32 => ((-1 ≤ r.toInt) ∧ (r.toInt ≤ 31)))) ([.int set] : List Value).toArray s 0 0 (fun _ => False)) (F0 m 2 ls []) := by
    intro n2
    induction n2 with
    | zero =>
      intro v1_2 ls hn2 b1_2 hl
      exact absurd hn2 (Nat.not_lt_zero _)
    | succ n2 ih2 =>
      intro v1_2 ls hn2 b1_2 hl
      refine lv_iload_n hx hb dX8_lowest_2 rfl (lv_at hl 0 rfl) ?_
      refine lv_bipush (v := 32) hx hb dX8_lowest_3 (by decide) ?_
      refine lv_icmp_ge (tgt := 25) hx hb dX8_lowest_5 (by decide) (fun c1 => ?_) (fun c1 => ?_)
      · skip
        have c1 : 32 ≤ v1_2.toInt := (z_le (by decide : (32 : Int32).toInt = 32) rfl).mp c1
        refine lv_iconst (v := (-1)) hx hb dX8_lowest_25 (by decide) ?_
        have q2 : ((-1) : Int32).toInt = -1 := by decide
        exact W.iret (v := (-1)) hx hb hr (fun t ht hW => ⟨(-1), rfl, ⟨by first | omega | decide, by first | omega | decide⟩, ht⟩) (fun q hq => by cases hq) dX8_lowest_26
      · skip
        have c1 : ¬ (32 ≤ v1_2.toInt) := fun q => c1 ((z_le (by decide : (32 : Int32).toInt = 32) rfl).mpr q)
        refine lv_iload_n hx hb dX8_lowest_8 rfl (lv_at hl 1 rfl) ?_
        refine lv_iload_n hx hb dX8_lowest_9 rfl (lv_at hl 0 rfl) ?_
        refine lv_iushr hx hb dX8_lowest_10 rfl ?_
        refine lv_topi (fun x3 ex3 => ?_)
        refine lv_iconst (v := 1) hx hb dX8_lowest_11 (by decide) ?_
        refine lv_iand hx hb dX8_lowest_12 ?_
        refine lv_topi (fun x4 ex4 => ?_)
        have tx4 := z_andr (x := x3) (y := 1) (by decide : (1 : Int32).toInt = 1) (by omega)
        rw [← ex4] at tx4
        refine lv_iconst (v := 1) hx hb dX8_lowest_13 (by decide) ?_
        refine lv_icmp_ne (tgt := 19) hx hb dX8_lowest_14 (by decide) (fun c5 => ?_) (fun c5 => ?_)
        · skip
          have c5 : ¬ (x4.toInt = 1) := fun q => c5 ((z_eq rfl (by decide : (1 : Int32).toInt = 1)).mpr q)
          obtain ⟨x6, ex6⟩ : ∃ y : Int32, y = v1_2 + 1 := ⟨_, rfl⟩
          have tx6 : x6.toInt = v1_2.toInt + 1 := by rw [ex6]; exact z_add rfl (by decide : (1 : Int32).toInt = 1) (by omega) (by omega)
          refine lv_iinc (v := x6) (lv' := [(1, .int x6), (0, .int set)]) hx hb dX8_lowest_19 hl (k := 0) rfl (by rw [ex6]; rfl) (by decide) rfl (fun ls hl => ?_)
          refine lv_goto (tgt := 2) hx hb dX8_lowest_22 (by decide) ?_
          exact ih2 x6 ls (by omega) (by first | omega | decide) (lv_sub hl [0, 1] rfl)
        · skip
          have c5 : x4.toInt = 1 := (z_eq rfl (by decide : (1 : Int32).toInt = 1)).mp c5
          refine lv_iload_n hx hb dX8_lowest_17 rfl (lv_at hl 0 rfl) ?_
          exact W.iret (v := v1_2) hx hb hr (fun t ht hW => ⟨v1_2, rfl, ⟨by first | omega | decide, by first | omega | decide⟩, ht⟩) (fun q hq => by cases hq) dX8_lowest_18
  exact loop2 ((32 - (0 : Int32).toInt : Int).toNat + 1) (0 : Int32) ls (by omega) (by first | omega | decide) (lv_sub hl [0, 1] rfl)

set_option maxHeartbeats 4000000 in
set_option maxRecDepth 100000 in
theorem k_low16 (l : Launch) (g : zG) (ad : Nat → Nat) (pe : Int32) (ct : Nat → va_E) (set : Int32) (hl_set : 0 ≤ set.toInt ∧ set.toInt ≤ 65535) (hI : Inv8 g ad pe ct) : Met l yX8_lowest (zW yX8_lowest cX8_lowest 2 (some .int)) ({ frames := 0, cells := 0, slots := 0, locals := 0 }) (va_Pc [.int set] (zR g (zw 126 ad ct))) (vp_Si (fun r : Int32 => ((-1 ≤ r.toInt) ∧ (r.toInt ≤ 15)))) 0 0 (fun _ => False) := by
  refine Met.ofW (cc := cX8_lowest) (maxL := 2) (ret := (some .int)) (by decide) rfl ?_
  intro p e s m args below meth c s₁ B hml hv
  obtain ⟨rfl, hP, hK, hN⟩ := hv
  have hx := B.exec
  have hb := B.bytes
  have hr := B.returns
  have hg := zW.law (atoms_spec (ws := (zW yX8_lowest cX8_lowest 2 (some .int))) B.pre)
  have hown : s.vm.findClass RX8 = some m.cls := findClass_of_methodNamed B.named
  have hlocks := B.notSynchronized
  have hpe0 := hI.1
  have hl := lv_entry ([.int set]) (n := 2) (Nat.le_of_ble_eq_true rfl)
  rw [lg_entry_eq]
  generalize (lg_sl ([.int set]) ++ List.replicate (2 - (lg_sl ([.int set])).length) Slot.unset).toArray = ls at hl ⊢
  have hl : lv_has ls 2 [(0, .int set)] := hl
  refine lv_iconst (v := 0) hx hb dX8_lowest_0 (by decide) ?_
  refine lv_istore_n (lv' := [(1, .int 0), (0, .int set)]) hx hb dX8_lowest_1 rfl hl (by decide) rfl (fun ls hl => ?_)
  have loop2 : ∀ (n2 : Nat) (v1_2 : Int32) (ls : Array Slot), ((32 - v1_2.toInt : Int).toNat < n2) → (0 ≤ v1_2.toInt ∧ v1_2.toInt ≤ 32) → lv_has ls 2 [(1, .int v1_2), (0, .int set)] → W p l e (headSpec (zW yX8_lowest cX8_lowest 2 (some .int)) ({ frames := 0, cells := 0, slots := 0, locals := 0 })).room s m ([.int set] : List Value).toArray below meth c s.heap [] 0 0 (MQ below (vp_Si (fun r : Int32 => ((-1 ≤ r.toInt) ∧ (r.toInt ≤ 15)))) ([.int set] : List Value).toArray s 0 0 (fun _ => False)) (F0 m 2 ls []) := by
    intro n2
    induction n2 with
    | zero =>
      intro v1_2 ls hn2 b1_2 hl
      exact absurd hn2 (Nat.not_lt_zero _)
    | succ n2 ih2 =>
      intro v1_2 ls hn2 b1_2 hl
      refine lv_iload_n hx hb dX8_lowest_2 rfl (lv_at hl 0 rfl) ?_
      refine lv_bipush (v := 32) hx hb dX8_lowest_3 (by decide) ?_
      refine lv_icmp_ge (tgt := 25) hx hb dX8_lowest_5 (by decide) (fun c1 => ?_) (fun c1 => ?_)
      · skip
        have c1 : 32 ≤ v1_2.toInt := (z_le (by decide : (32 : Int32).toInt = 32) rfl).mp c1
        refine lv_iconst (v := (-1)) hx hb dX8_lowest_25 (by decide) ?_
        have q2 : ((-1) : Int32).toInt = -1 := by decide
        exact W.iret (v := (-1)) hx hb hr (fun t ht hW => ⟨(-1), rfl, ⟨by first | omega | decide, by first | omega | decide⟩, ht⟩) (fun q hq => by cases hq) dX8_lowest_26
      · skip
        have c1 : ¬ (32 ≤ v1_2.toInt) := fun q => c1 ((z_le (by decide : (32 : Int32).toInt = 32) rfl).mpr q)
        refine lv_iload_n hx hb dX8_lowest_8 rfl (lv_at hl 1 rfl) ?_
        refine lv_iload_n hx hb dX8_lowest_9 rfl (lv_at hl 0 rfl) ?_
        refine lv_iushr hx hb dX8_lowest_10 rfl ?_
        refine lv_topi (fun x3 ex3 => ?_)
        have kx3 : v1_2.toInt ≤ 15 ∨ x3 = 0 := by
          by_cases q : v1_2.toInt ≤ 15
          · exact Or.inl q
          · exact Or.inr (by rw [ex3]; exact z_ushk (k := 16) hl_set.1 (by omega) (by omega) (by omega))
        refine lv_iconst (v := 1) hx hb dX8_lowest_11 (by decide) ?_
        refine lv_iand hx hb dX8_lowest_12 ?_
        refine lv_topi (fun x4 ex4 => ?_)
        have kx4 : v1_2.toInt ≤ 15 ∨ x4.toInt = 0 := by
          rcases kx3 with q | q
          · exact Or.inl q
          · exact Or.inr (by rw [ex4, q]; rfl)
        refine lv_iconst (v := 1) hx hb dX8_lowest_13 (by decide) ?_
        refine lv_icmp_ne (tgt := 19) hx hb dX8_lowest_14 (by decide) (fun c5 => ?_) (fun c5 => ?_)
        · skip
          have c5 : ¬ (x4.toInt = 1) := fun q => c5 ((z_eq rfl (by decide : (1 : Int32).toInt = 1)).mpr q)
          obtain ⟨x6, ex6⟩ : ∃ y : Int32, y = v1_2 + 1 := ⟨_, rfl⟩
          have tx6 : x6.toInt = v1_2.toInt + 1 := by rw [ex6]; exact z_add rfl (by decide : (1 : Int32).toInt = 1) (by omega) (by omega)
          refine lv_iinc (v := x6) (lv' := [(1, .int x6), (0, .int set)]) hx hb dX8_lowest_19 hl (k := 0) rfl (by rw [ex6]; rfl) (by decide) rfl (fun ls hl => ?_)
          refine lv_goto (tgt := 2) hx hb dX8_lowest_22 (by decide) ?_
          exact ih2 x6 ls (by omega) (by first | omega | decide) (lv_sub hl [0, 1] rfl)
        · skip
          have c5 : x4.toInt = 1 := (z_eq rfl (by decide : (1 : Int32).toInt = 1)).mp c5
          refine lv_iload_n hx hb dX8_lowest_17 rfl (lv_at hl 0 rfl) ?_
          exact W.iret (v := v1_2) hx hb hr (fun t ht hW => ⟨v1_2, rfl, ⟨by first | omega | decide, by first | omega | decide⟩, ht⟩) (fun q hq => by cases hq) dX8_lowest_18
  exact loop2 ((32 - (0 : Int32).toInt : Int).toNat + 1) (0 : Int32) ls (by omega) (by first | omega | decide) (lv_sub hl [0, 1] rfl)

set_option maxHeartbeats 4000000 in
set_option maxRecDepth 100000 in
theorem k_low8 (l : Launch) (g : zG) (ad : Nat → Nat) (pe : Int32) (ct : Nat → va_E) (set : Int32) (hl_set : 0 ≤ set.toInt ∧ set.toInt ≤ 255) (hI : Inv8 g ad pe ct) : Met l yX8_lowest (zW yX8_lowest cX8_lowest 2 (some .int)) ({ frames := 0, cells := 0, slots := 0, locals := 0 }) (va_Pc [.int set] (zR g (zw 126 ad ct))) (vp_Si (fun r : Int32 => ((-1 ≤ r.toInt) ∧ (r.toInt ≤ 7)))) 0 0 (fun _ => False) := by
  refine Met.ofW (cc := cX8_lowest) (maxL := 2) (ret := (some .int)) (by decide) rfl ?_
  intro p e s m args below meth c s₁ B hml hv
  obtain ⟨rfl, hP, hK, hN⟩ := hv
  have hx := B.exec
  have hb := B.bytes
  have hr := B.returns
  have hg := zW.law (atoms_spec (ws := (zW yX8_lowest cX8_lowest 2 (some .int))) B.pre)
  have hown : s.vm.findClass RX8 = some m.cls := findClass_of_methodNamed B.named
  have hlocks := B.notSynchronized
  have hpe0 := hI.1
  have hl := lv_entry ([.int set]) (n := 2) (Nat.le_of_ble_eq_true rfl)
  rw [lg_entry_eq]
  generalize (lg_sl ([.int set]) ++ List.replicate (2 - (lg_sl ([.int set])).length) Slot.unset).toArray = ls at hl ⊢
  have hl : lv_has ls 2 [(0, .int set)] := hl
  refine lv_iconst (v := 0) hx hb dX8_lowest_0 (by decide) ?_
  refine lv_istore_n (lv' := [(1, .int 0), (0, .int set)]) hx hb dX8_lowest_1 rfl hl (by decide) rfl (fun ls hl => ?_)
  have loop2 : ∀ (n2 : Nat) (v1_2 : Int32) (ls : Array Slot), ((32 - v1_2.toInt : Int).toNat < n2) → (0 ≤ v1_2.toInt ∧ v1_2.toInt ≤ 32) → lv_has ls 2 [(1, .int v1_2), (0, .int set)] → W p l e (headSpec (zW yX8_lowest cX8_lowest 2 (some .int)) ({ frames := 0, cells := 0, slots := 0, locals := 0 })).room s m ([.int set] : List Value).toArray below meth c s.heap [] 0 0 (MQ below (vp_Si (fun r : Int32 => ((-1 ≤ r.toInt) ∧ (r.toInt ≤ 7)))) ([.int set] : List Value).toArray s 0 0 (fun _ => False)) (F0 m 2 ls []) := by
    intro n2
    induction n2 with
    | zero =>
      intro v1_2 ls hn2 b1_2 hl
      exact absurd hn2 (Nat.not_lt_zero _)
    | succ n2 ih2 =>
      intro v1_2 ls hn2 b1_2 hl
      refine lv_iload_n hx hb dX8_lowest_2 rfl (lv_at hl 0 rfl) ?_
      refine lv_bipush (v := 32) hx hb dX8_lowest_3 (by decide) ?_
      refine lv_icmp_ge (tgt := 25) hx hb dX8_lowest_5 (by decide) (fun c1 => ?_) (fun c1 => ?_)
      · skip
        have c1 : 32 ≤ v1_2.toInt := (z_le (by decide : (32 : Int32).toInt = 32) rfl).mp c1
        refine lv_iconst (v := (-1)) hx hb dX8_lowest_25 (by decide) ?_
        have q2 : ((-1) : Int32).toInt = -1 := by decide
        exact W.iret (v := (-1)) hx hb hr (fun t ht hW => ⟨(-1), rfl, ⟨by first | omega | decide, by first | omega | decide⟩, ht⟩) (fun q hq => by cases hq) dX8_lowest_26
      · skip
        have c1 : ¬ (32 ≤ v1_2.toInt) := fun q => c1 ((z_le (by decide : (32 : Int32).toInt = 32) rfl).mpr q)
        refine lv_iload_n hx hb dX8_lowest_8 rfl (lv_at hl 1 rfl) ?_
        refine lv_iload_n hx hb dX8_lowest_9 rfl (lv_at hl 0 rfl) ?_
        refine lv_iushr hx hb dX8_lowest_10 rfl ?_
        refine lv_topi (fun x3 ex3 => ?_)
        have kx3 : v1_2.toInt ≤ 7 ∨ x3 = 0 := by
          by_cases q : v1_2.toInt ≤ 7
          · exact Or.inl q
          · exact Or.inr (by rw [ex3]; exact z_ushk (k := 8) hl_set.1 (by omega) (by omega) (by omega))
        refine lv_iconst (v := 1) hx hb dX8_lowest_11 (by decide) ?_
        refine lv_iand hx hb dX8_lowest_12 ?_
        refine lv_topi (fun x4 ex4 => ?_)
        have kx4 : v1_2.toInt ≤ 7 ∨ x4.toInt = 0 := by
          rcases kx3 with q | q
          · exact Or.inl q
          · exact Or.inr (by rw [ex4, q]; rfl)
        refine lv_iconst (v := 1) hx hb dX8_lowest_13 (by decide) ?_
        refine lv_icmp_ne (tgt := 19) hx hb dX8_lowest_14 (by decide) (fun c5 => ?_) (fun c5 => ?_)
        · skip
          have c5 : ¬ (x4.toInt = 1) := fun q => c5 ((z_eq rfl (by decide : (1 : Int32).toInt = 1)).mpr q)
          obtain ⟨x6, ex6⟩ : ∃ y : Int32, y = v1_2 + 1 := ⟨_, rfl⟩
          have tx6 : x6.toInt = v1_2.toInt + 1 := by rw [ex6]; exact z_add rfl (by decide : (1 : Int32).toInt = 1) (by omega) (by omega)
          refine lv_iinc (v := x6) (lv' := [(1, .int x6), (0, .int set)]) hx hb dX8_lowest_19 hl (k := 0) rfl (by rw [ex6]; rfl) (by decide) rfl (fun ls hl => ?_)
          refine lv_goto (tgt := 2) hx hb dX8_lowest_22 (by decide) ?_
          exact ih2 x6 ls (by omega) (by first | omega | decide) (lv_sub hl [0, 1] rfl)
        · skip
          have c5 : x4.toInt = 1 := (z_eq rfl (by decide : (1 : Int32).toInt = 1)).mp c5
          refine lv_iload_n hx hb dX8_lowest_17 rfl (lv_at hl 0 rfl) ?_
          exact W.iret (v := v1_2) hx hb hr (fun t ht hW => ⟨v1_2, rfl, ⟨by first | omega | decide, by first | omega | decide⟩, ht⟩) (fun q hq => by cases hq) dX8_lowest_18
  exact loop2 ((32 - (0 : Int32).toInt : Int).toNat + 1) (0 : Int32) ls (by omega) (by first | omega | decide) (lv_sub hl [0, 1] rfl)

set_option maxHeartbeats 4000000 in
set_option maxRecDepth 100000 in
theorem k_X8_place (l : Launch) (g : zG) (ad : Nat → Nat) (pe : Int32) (ct : Nat → va_E) (b : Int32) (i : Int32) (hI : Inv8 g ad pe ct) : Met l yX8_place (zW yX8_place cX8_place 2 (some .int)) ({ frames := 0, cells := 0, slots := 0, locals := 0 }) (va_Pc [.int b, .int i] (zR g (zw 126 ad ct))) (vp_Si (fun r : Int32 => (True))) 0 0 (fun _ => False) := by
  refine Met.ofW (cc := cX8_place) (maxL := 2) (ret := (some .int)) (by decide) rfl ?_
  intro p e s m args below meth c s₁ B hml hv
  obtain ⟨rfl, hP, hK, hN⟩ := hv
  have hx := B.exec
  have hb := B.bytes
  have hr := B.returns
  have hg := zW.law (atoms_spec (ws := (zW yX8_place cX8_place 2 (some .int))) B.pre)
  have hown : s.vm.findClass RX8 = some m.cls := findClass_of_methodNamed B.named
  have hlocks := B.notSynchronized
  have hpe0 := hI.1
  have hl := lv_entry ([.int b, .int i]) (n := 2) (Nat.le_of_ble_eq_true rfl)
  rw [lg_entry_eq]
  generalize (lg_sl ([.int b, .int i]) ++ List.replicate (2 - (lg_sl ([.int b, .int i])).length) Slot.unset).toArray = ls at hl ⊢
  have hl : lv_has ls 2 [(0, .int b), (1, .int i)] := hl
  have rg_b := z_rng b
  have rg_i := z_rng i
  refine lv_bipush (v := 8) hx hb dX8_place_0 (by decide) ?_
  refine lv_iload_n hx hb dX8_place_2 rfl (lv_at hl 0 rfl) ?_
  refine lv_imul hx hb dX8_place_3 ?_
  refine lv_topi (fun x1 ex1 => ?_)
  refine lv_iload_n hx hb dX8_place_4 rfl (lv_at hl 1 rfl) ?_
  refine lv_iadd hx hb dX8_place_5 ?_
  refine lv_topi (fun x2 ex2 => ?_)
  exact W.iret (v := x2) hx hb hr (fun t ht hW => ⟨x2, rfl, trivial, ht⟩) (fun q hq => by cases hq) dX8_place_6

set_option maxHeartbeats 4000000 in
set_option maxRecDepth 100000 in
theorem k_X8_commonDivisor (l : Launch) (g : zG) (ad : Nat → Nat) (pe : Int32) (ct : Nat → va_E) (la : Int64) (lb : Int64) (hI : Inv8 g ad pe ct) : Met l yX8_commonDivisor (zW yX8_commonDivisor cX8_commonDivisor 11 (some .long)) ({ frames := 0, cells := 0, slots := 0, locals := 0 }) (va_Pc [.long la, .long lb] (zR g (zw 126 ad ct))) (vp_Sl (fun r : Int64 => (True))) 0 0 (fun _ => False) := by
  refine Met.ofW (cc := cX8_commonDivisor) (maxL := 11) (ret := (some .long)) (by decide) rfl ?_
  intro p e s m args below meth c s₁ B hml hv
  obtain ⟨rfl, hP, hK, hN⟩ := hv
  have hx := B.exec
  have hb := B.bytes
  have hr := B.returns
  have hg := zW.law (atoms_spec (ws := (zW yX8_commonDivisor cX8_commonDivisor 11 (some .long))) B.pre)
  have hown : s.vm.findClass RX8 = some m.cls := findClass_of_methodNamed B.named
  have hlocks := B.notSynchronized
  have hpe0 := hI.1
  have hl := lv_entry ([.long la, .long lb]) (n := 11) (Nat.le_of_ble_eq_true rfl)
  rw [lg_entry_eq]
  generalize (lg_sl ([.long la, .long lb]) ++ List.replicate (11 - (lg_sl ([.long la, .long lb])).length) Slot.unset).toArray = ls at hl ⊢
  have hl : lv_has ls 11 [(0, .long la), (2, .long lb)] := hl
  refine lv_lload_n hx hb dX8_commonDivisor_0 rfl (lv_at hl 0 rfl) ?_
  refine lv_lstore (lv' := [(4, .long la), (0, .long la), (2, .long lb)]) hx hb dX8_commonDivisor_1 hl (by decide) rfl (fun ls hl => ?_)
  refine lv_lload_n hx hb dX8_commonDivisor_3 rfl (lv_at hl 2 rfl) ?_
  refine lv_lstore (lv' := [(6, .long lb), (4, .long la), (0, .long la), (2, .long lb)]) hx hb dX8_commonDivisor_4 hl (by decide) rfl (fun ls hl => ?_)
  refine lv_iconst (v := 0) hx hb dX8_commonDivisor_6 (by decide) ?_
  refine lv_istore (lv' := [(8, .int 0), (6, .long lb), (4, .long la), (0, .long la), (2, .long lb)]) hx hb dX8_commonDivisor_7 hl (by decide) rfl (fun ls hl => ?_)
  have loop9 : ∀ (n9 : Nat) (v8_9 : Int32) (v6_9 : Int64) (v4_9 : Int64) (ls : Array Slot), ((1000 - v8_9.toInt : Int).toNat < n9) → (0 ≤ v8_9.toInt ∧ v8_9.toInt ≤ 1000) → lv_has ls 11 [(8, .int v8_9), (6, .long v6_9), (4, .long v4_9), (0, .long la), (2, .long lb)] → W p l e (headSpec (zW yX8_commonDivisor cX8_commonDivisor 11 (some .long)) ({ frames := 0, cells := 0, slots := 0, locals := 0 })).room s m ([.long la, .long lb] : List Value).toArray below meth c s.heap [] 0 0 (MQ below (vp_Sl (fun r : Int64 => (True))) ([.long la, .long lb] : List Value).toArray s 0 0 (fun _ => False)) (F0 m 9 ls []) := by
    intro n9
    induction n9 with
    | zero =>
      intro v8_9 v6_9 v4_9 ls hn9 b8_9 hl
      exact absurd hn9 (Nat.not_lt_zero _)
    | succ n9 ih9 =>
      intro v8_9 v6_9 v4_9 ls hn9 b8_9 hl
      refine lv_iload hx hb dX8_commonDivisor_9 (lv_at hl 0 rfl) ?_
      refine lv_sipush (v := 1000) hx hb dX8_commonDivisor_11 (by decide) ?_
      refine lv_icmp_ge (tgt := 45) hx hb dX8_commonDivisor_14 (by decide) (fun c1 => ?_) (fun c1 => ?_)
      · skip
        have c1 : 1000 ≤ v8_9.toInt := (z_le (by decide : (1000 : Int32).toInt = 1000) rfl).mp c1
        refine lv_lload hx hb dX8_commonDivisor_45 (lv_at hl 2 rfl) ?_
        exact W.lret (v := v4_9) hx hb hr (fun t ht hW => ⟨v4_9, rfl, trivial, ht⟩) (fun q hq => by cases hq) dX8_commonDivisor_47
      · skip
        have c1 : ¬ (1000 ≤ v8_9.toInt) := fun q => c1 ((z_le (by decide : (1000 : Int32).toInt = 1000) rfl).mpr q)
        refine lv_lload hx hb dX8_commonDivisor_17 (lv_at hl 1 rfl) ?_
        refine lv_lconst (v := 0) hx hb dX8_commonDivisor_19 (by decide) ?_
        refine W.lcmp hx hb dX8_commonDivisor_20 ?_
        refine lv_if_eq (tgt := 45) hx hb dX8_commonDivisor_21 (by decide) (fun c2 => ?_) (fun c2 => ?_)
        · skip
          have c2 := (lg_cmp_eq _ _).mp c2
          refine lv_lload hx hb dX8_commonDivisor_45 (lv_at hl 2 rfl) ?_
          exact W.lret (v := v4_9) hx hb hr (fun t ht hW => ⟨v4_9, rfl, trivial, ht⟩) (fun q hq => by cases hq) dX8_commonDivisor_47
        · skip
          have c2 := fun q => c2 ((lg_cmp_eq _ _).mpr q)
          have c2 : ¬ (v6_9 = (0 : Int64)) := c2
          refine lv_lload hx hb dX8_commonDivisor_24 (lv_at hl 2 rfl) ?_
          refine lv_lload hx hb dX8_commonDivisor_26 (lv_at hl 1 rfl) ?_
          refine lv_lrem hx hb dX8_commonDivisor_28 (by assumption) ?_
          refine lv_topl (fun x3 ex3 => ?_)
          refine lv_lstore (lv' := [(9, .long x3), (8, .int v8_9), (6, .long v6_9), (4, .long v4_9), (0, .long la), (2, .long lb)]) hx hb dX8_commonDivisor_29 hl (by decide) rfl (fun ls hl => ?_)
          refine lv_lload hx hb dX8_commonDivisor_31 (lv_at hl 2 rfl) ?_
          refine lv_lstore (lv' := [(4, .long v6_9), (9, .long x3), (8, .int v8_9), (6, .long v6_9), (0, .long la), (2, .long lb)]) hx hb dX8_commonDivisor_33 hl (by decide) rfl (fun ls hl => ?_)
          refine lv_lload hx hb dX8_commonDivisor_35 (lv_at hl 1 rfl) ?_
          refine lv_lstore (lv' := [(6, .long x3), (4, .long v6_9), (9, .long x3), (8, .int v8_9), (0, .long la), (2, .long lb)]) hx hb dX8_commonDivisor_37 hl (by decide) rfl (fun ls hl => ?_)
          obtain ⟨x4, ex4⟩ : ∃ y : Int32, y = v8_9 + 1 := ⟨_, rfl⟩
          have tx4 : x4.toInt = v8_9.toInt + 1 := by rw [ex4]; exact z_add rfl (by decide : (1 : Int32).toInt = 1) (by omega) (by omega)
          refine lv_iinc (v := x4) (lv' := [(8, .int x4), (6, .long x3), (4, .long v6_9), (9, .long x3), (0, .long la), (2, .long lb)]) hx hb dX8_commonDivisor_39 hl (k := 3) rfl (by rw [ex4]; rfl) (by decide) rfl (fun ls hl => ?_)
          refine lv_goto (tgt := 9) hx hb dX8_commonDivisor_42 (by decide) ?_
          exact ih9 x4 x3 v6_9 ls (by omega) (by first | omega | decide) (lv_sub hl [0, 1, 2, 4, 5] rfl)
  exact loop9 ((1000 - (0 : Int32).toInt : Int).toNat + 1) (0 : Int32) lb la ls (by omega) (by first | omega | decide) (lv_sub hl [0, 1, 2, 3, 4] rfl)

set_option maxHeartbeats 4000000 in
set_option maxRecDepth 100000 in
theorem k_J6_bitCount_0f7a4 (l : Launch) (g : zG) (ad : Nat → Nat) (pe : Int32) (ct : Nat → va_E) (x0 : Int32) (hI : Inv8 g ad pe ct) : Met l yJ6_bitCount_0f7a4 (zW yJ6_bitCount_0f7a4 cJ6_bitCount_0f7a4 1 (some .int)) ({ frames := 0, cells := 0, slots := 0, locals := 0 }) (va_Pc [.int x0] (zR g (zw 126 ad ct))) (vp_Si (fun r : Int32 => ((0 ≤ r.toInt) ∧ (r.toInt ≤ 63)))) 0 0 (fun _ => False) := by
  refine Met.ofW (cc := cJ6_bitCount_0f7a4) (maxL := 1) (ret := (some .int)) (by decide) rfl ?_
  intro p e s m args below meth c s₁ B hml hv
  obtain ⟨rfl, hP, hK, hN⟩ := hv
  have hx := B.exec
  have hb := B.bytes
  have hr := B.returns
  have hg := zW.law (atoms_spec (ws := (zW yJ6_bitCount_0f7a4 cJ6_bitCount_0f7a4 1 (some .int))) B.pre)
  have hown : s.vm.findClass RJ6 = some m.cls := findClass_of_methodNamed B.named
  have hlocks := B.notSynchronized
  have hpe0 := hI.1
  have hl := lv_entry ([.int x0]) (n := 1) (Nat.le_of_ble_eq_true rfl)
  rw [lg_entry_eq]
  generalize (lg_sl ([.int x0]) ++ List.replicate (1 - (lg_sl ([.int x0])).length) Slot.unset).toArray = ls at hl ⊢
  have hl : lv_has ls 1 [(0, .int x0)] := hl
  have rg_x0 := z_rng x0
  refine lv_iload_n hx hb dJ6_bitCount_0f7a4_0 rfl (lv_at hl 0 rfl) ?_
  refine lv_iload_n hx hb dJ6_bitCount_0f7a4_1 rfl (lv_at hl 0 rfl) ?_
  refine lv_iconst (v := 1) hx hb dJ6_bitCount_0f7a4_2 (by decide) ?_
  refine lv_iushr hx hb dJ6_bitCount_0f7a4_3 rfl ?_
  refine lv_topi (fun x1 ex1 => ?_)
  refine lv_ldcw hx hb hown (hg _ mm_731) dJ6_bitCount_0f7a4_4 ?_
  refine lv_iand hx hb dJ6_bitCount_0f7a4_7 ?_
  refine lv_topi (fun x2 ex2 => ?_)
  have tx2 := z_andr (x := x1) (y := 1431655765) (by decide : (1431655765 : Int32).toInt = 1431655765) (by omega)
  rw [← ex2] at tx2
  refine lv_isub hx hb dJ6_bitCount_0f7a4_8 ?_
  refine lv_topi (fun x3 ex3 => ?_)
  refine lv_istore_n (lv' := [(0, .int x3)]) hx hb dJ6_bitCount_0f7a4_9 rfl hl (by decide) rfl (fun ls hl => ?_)
  refine lv_iload_n hx hb dJ6_bitCount_0f7a4_10 rfl (lv_at hl 0 rfl) ?_
  refine lv_ldcw hx hb hown (hg _ mm_732) dJ6_bitCount_0f7a4_11 ?_
  refine lv_iand hx hb dJ6_bitCount_0f7a4_14 ?_
  refine lv_topi (fun x4 ex4 => ?_)
  have tx4 := z_andr (x := x3) (y := 858993459) (by decide : (858993459 : Int32).toInt = 858993459) (by omega)
  rw [← ex4] at tx4
  refine lv_iload_n hx hb dJ6_bitCount_0f7a4_15 rfl (lv_at hl 0 rfl) ?_
  refine lv_iconst (v := 2) hx hb dJ6_bitCount_0f7a4_16 (by decide) ?_
  refine lv_iushr hx hb dJ6_bitCount_0f7a4_17 rfl ?_
  refine lv_topi (fun x5 ex5 => ?_)
  refine lv_ldcw hx hb hown (hg _ mm_732) dJ6_bitCount_0f7a4_18 ?_
  refine lv_iand hx hb dJ6_bitCount_0f7a4_21 ?_
  refine lv_topi (fun x6 ex6 => ?_)
  have tx6 := z_andr (x := x5) (y := 858993459) (by decide : (858993459 : Int32).toInt = 858993459) (by omega)
  rw [← ex6] at tx6
  refine lv_iadd hx hb dJ6_bitCount_0f7a4_22 ?_
  refine lv_topi (fun x7 ex7 => ?_)
  have tx7 : x7.toInt = x4.toInt + x6.toInt := by rw [ex7]; exact z_add rfl rfl (by omega) (by omega)
  refine lv_istore_n (lv' := [(0, .int x7)]) hx hb dJ6_bitCount_0f7a4_23 rfl hl (by decide) rfl (fun ls hl => ?_)
  refine lv_iload_n hx hb dJ6_bitCount_0f7a4_24 rfl (lv_at hl 0 rfl) ?_
  refine lv_iload_n hx hb dJ6_bitCount_0f7a4_25 rfl (lv_at hl 0 rfl) ?_
  refine lv_iconst (v := 4) hx hb dJ6_bitCount_0f7a4_26 (by decide) ?_
  refine lv_iushr hx hb dJ6_bitCount_0f7a4_27 rfl ?_
  refine lv_topi (fun x8 ex8 => ?_)
  refine lv_iadd hx hb dJ6_bitCount_0f7a4_28 ?_
  refine lv_topi (fun x9 ex9 => ?_)
  refine lv_ldcw hx hb hown (hg _ mm_733) dJ6_bitCount_0f7a4_29 ?_
  refine lv_iand hx hb dJ6_bitCount_0f7a4_32 ?_
  refine lv_topi (fun x10 ex10 => ?_)
  have tx10 := z_andr (x := x9) (y := 252645135) (by decide : (252645135 : Int32).toInt = 252645135) (by omega)
  rw [← ex10] at tx10
  refine lv_istore_n (lv' := [(0, .int x10)]) hx hb dJ6_bitCount_0f7a4_33 rfl hl (by decide) rfl (fun ls hl => ?_)
  refine lv_iload_n hx hb dJ6_bitCount_0f7a4_34 rfl (lv_at hl 0 rfl) ?_
  refine lv_iload_n hx hb dJ6_bitCount_0f7a4_35 rfl (lv_at hl 0 rfl) ?_
  refine lv_bipush (v := 8) hx hb dJ6_bitCount_0f7a4_36 (by decide) ?_
  refine lv_iushr hx hb dJ6_bitCount_0f7a4_38 rfl ?_
  refine lv_topi (fun x11 ex11 => ?_)
  refine lv_iadd hx hb dJ6_bitCount_0f7a4_39 ?_
  refine lv_topi (fun x12 ex12 => ?_)
  refine lv_istore_n (lv' := [(0, .int x12)]) hx hb dJ6_bitCount_0f7a4_40 rfl hl (by decide) rfl (fun ls hl => ?_)
  refine lv_iload_n hx hb dJ6_bitCount_0f7a4_41 rfl (lv_at hl 0 rfl) ?_
  refine lv_iload_n hx hb dJ6_bitCount_0f7a4_42 rfl (lv_at hl 0 rfl) ?_
  refine lv_bipush (v := 16) hx hb dJ6_bitCount_0f7a4_43 (by decide) ?_
  refine lv_iushr hx hb dJ6_bitCount_0f7a4_45 rfl ?_
  refine lv_topi (fun x13 ex13 => ?_)
  refine lv_iadd hx hb dJ6_bitCount_0f7a4_46 ?_
  refine lv_topi (fun x14 ex14 => ?_)
  refine lv_istore_n (lv' := [(0, .int x14)]) hx hb dJ6_bitCount_0f7a4_47 rfl hl (by decide) rfl (fun ls hl => ?_)
  refine lv_iload_n hx hb dJ6_bitCount_0f7a4_48 rfl (lv_at hl 0 rfl) ?_
  refine lv_bipush (v := 63) hx hb dJ6_bitCount_0f7a4_49 (by decide) ?_
  refine lv_iand hx hb dJ6_bitCount_0f7a4_51 ?_
  refine lv_topi (fun x15 ex15 => ?_)
  have tx15 := z_andr (x := x14) (y := 63) (by decide : (63 : Int32).toInt = 63) (by omega)
  rw [← ex15] at tx15
  exact W.iret (v := x15) hx hb hr (fun t ht hW => ⟨x15, rfl, ⟨by first | omega | decide, by first | omega | decide⟩, ht⟩) (fun q hq => by cases hq) dJ6_bitCount_0f7a4_52

set_option maxHeartbeats 4000000 in
set_option maxRecDepth 100000 in
theorem k_bce (l : Launch) (g : zG) (ad : Nat → Nat) (pe : Int32) (ct : Nat → va_E) (x0 : Int32) (hI : Inv8 g ad pe ct) : Met l yJ6_bitCount_0f7a4 (zW yJ6_bitCount_0f7a4 cJ6_bitCount_0f7a4 1 (some .int)) ({ frames := 0, cells := 0, slots := 0, locals := 0 }) (va_Pc [.int x0] (zR g (zw 126 ad ct))) (vp_Si (fun r : Int32 => (r = (bcf x0)))) 0 0 (fun _ => False) := by
  refine Met.ofW (cc := cJ6_bitCount_0f7a4) (maxL := 1) (ret := (some .int)) (by decide) rfl ?_
  intro p e s m args below meth c s₁ B hml hv
  obtain ⟨rfl, hP, hK, hN⟩ := hv
  have hx := B.exec
  have hb := B.bytes
  have hr := B.returns
  have hg := zW.law (atoms_spec (ws := (zW yJ6_bitCount_0f7a4 cJ6_bitCount_0f7a4 1 (some .int))) B.pre)
  have hown : s.vm.findClass RJ6 = some m.cls := findClass_of_methodNamed B.named
  have hlocks := B.notSynchronized
  have hpe0 := hI.1
  have hl := lv_entry ([.int x0]) (n := 1) (Nat.le_of_ble_eq_true rfl)
  rw [lg_entry_eq]
  generalize (lg_sl ([.int x0]) ++ List.replicate (1 - (lg_sl ([.int x0])).length) Slot.unset).toArray = ls at hl ⊢
  have hl : lv_has ls 1 [(0, .int x0)] := hl
  have rg_x0 := z_rng x0
  refine lv_iload_n hx hb dJ6_bitCount_0f7a4_0 rfl (lv_at hl 0 rfl) ?_
  refine lv_iload_n hx hb dJ6_bitCount_0f7a4_1 rfl (lv_at hl 0 rfl) ?_
  refine lv_iconst (v := 1) hx hb dJ6_bitCount_0f7a4_2 (by decide) ?_
  refine lv_iushr hx hb dJ6_bitCount_0f7a4_3 rfl ?_
  refine lv_topi (fun x1 ex1 => ?_)
  refine lv_ldcw hx hb hown (hg _ mm_731) dJ6_bitCount_0f7a4_4 ?_
  refine lv_iand hx hb dJ6_bitCount_0f7a4_7 ?_
  refine lv_topi (fun x2 ex2 => ?_)
  have tx2 := z_andr (x := x1) (y := 1431655765) (by decide : (1431655765 : Int32).toInt = 1431655765) (by omega)
  rw [← ex2] at tx2
  refine lv_isub hx hb dJ6_bitCount_0f7a4_8 ?_
  refine lv_topi (fun x3 ex3 => ?_)
  refine lv_istore_n (lv' := [(0, .int x3)]) hx hb dJ6_bitCount_0f7a4_9 rfl hl (by decide) rfl (fun ls hl => ?_)
  refine lv_iload_n hx hb dJ6_bitCount_0f7a4_10 rfl (lv_at hl 0 rfl) ?_
  refine lv_ldcw hx hb hown (hg _ mm_732) dJ6_bitCount_0f7a4_11 ?_
  refine lv_iand hx hb dJ6_bitCount_0f7a4_14 ?_
  refine lv_topi (fun x4 ex4 => ?_)
  have tx4 := z_andr (x := x3) (y := 858993459) (by decide : (858993459 : Int32).toInt = 858993459) (by omega)
  rw [← ex4] at tx4
  refine lv_iload_n hx hb dJ6_bitCount_0f7a4_15 rfl (lv_at hl 0 rfl) ?_
  refine lv_iconst (v := 2) hx hb dJ6_bitCount_0f7a4_16 (by decide) ?_
  refine lv_iushr hx hb dJ6_bitCount_0f7a4_17 rfl ?_
  refine lv_topi (fun x5 ex5 => ?_)
  refine lv_ldcw hx hb hown (hg _ mm_732) dJ6_bitCount_0f7a4_18 ?_
  refine lv_iand hx hb dJ6_bitCount_0f7a4_21 ?_
  refine lv_topi (fun x6 ex6 => ?_)
  have tx6 := z_andr (x := x5) (y := 858993459) (by decide : (858993459 : Int32).toInt = 858993459) (by omega)
  rw [← ex6] at tx6
  refine lv_iadd hx hb dJ6_bitCount_0f7a4_22 ?_
  refine lv_topi (fun x7 ex7 => ?_)
  have tx7 : x7.toInt = x4.toInt + x6.toInt := by rw [ex7]; exact z_add rfl rfl (by omega) (by omega)
  refine lv_istore_n (lv' := [(0, .int x7)]) hx hb dJ6_bitCount_0f7a4_23 rfl hl (by decide) rfl (fun ls hl => ?_)
  refine lv_iload_n hx hb dJ6_bitCount_0f7a4_24 rfl (lv_at hl 0 rfl) ?_
  refine lv_iload_n hx hb dJ6_bitCount_0f7a4_25 rfl (lv_at hl 0 rfl) ?_
  refine lv_iconst (v := 4) hx hb dJ6_bitCount_0f7a4_26 (by decide) ?_
  refine lv_iushr hx hb dJ6_bitCount_0f7a4_27 rfl ?_
  refine lv_topi (fun x8 ex8 => ?_)
  refine lv_iadd hx hb dJ6_bitCount_0f7a4_28 ?_
  refine lv_topi (fun x9 ex9 => ?_)
  refine lv_ldcw hx hb hown (hg _ mm_733) dJ6_bitCount_0f7a4_29 ?_
  refine lv_iand hx hb dJ6_bitCount_0f7a4_32 ?_
  refine lv_topi (fun x10 ex10 => ?_)
  have tx10 := z_andr (x := x9) (y := 252645135) (by decide : (252645135 : Int32).toInt = 252645135) (by omega)
  rw [← ex10] at tx10
  refine lv_istore_n (lv' := [(0, .int x10)]) hx hb dJ6_bitCount_0f7a4_33 rfl hl (by decide) rfl (fun ls hl => ?_)
  refine lv_iload_n hx hb dJ6_bitCount_0f7a4_34 rfl (lv_at hl 0 rfl) ?_
  refine lv_iload_n hx hb dJ6_bitCount_0f7a4_35 rfl (lv_at hl 0 rfl) ?_
  refine lv_bipush (v := 8) hx hb dJ6_bitCount_0f7a4_36 (by decide) ?_
  refine lv_iushr hx hb dJ6_bitCount_0f7a4_38 rfl ?_
  refine lv_topi (fun x11 ex11 => ?_)
  refine lv_iadd hx hb dJ6_bitCount_0f7a4_39 ?_
  refine lv_topi (fun x12 ex12 => ?_)
  refine lv_istore_n (lv' := [(0, .int x12)]) hx hb dJ6_bitCount_0f7a4_40 rfl hl (by decide) rfl (fun ls hl => ?_)
  refine lv_iload_n hx hb dJ6_bitCount_0f7a4_41 rfl (lv_at hl 0 rfl) ?_
  refine lv_iload_n hx hb dJ6_bitCount_0f7a4_42 rfl (lv_at hl 0 rfl) ?_
  refine lv_bipush (v := 16) hx hb dJ6_bitCount_0f7a4_43 (by decide) ?_
  refine lv_iushr hx hb dJ6_bitCount_0f7a4_45 rfl ?_
  refine lv_topi (fun x13 ex13 => ?_)
  refine lv_iadd hx hb dJ6_bitCount_0f7a4_46 ?_
  refine lv_topi (fun x14 ex14 => ?_)
  refine lv_istore_n (lv' := [(0, .int x14)]) hx hb dJ6_bitCount_0f7a4_47 rfl hl (by decide) rfl (fun ls hl => ?_)
  refine lv_iload_n hx hb dJ6_bitCount_0f7a4_48 rfl (lv_at hl 0 rfl) ?_
  refine lv_bipush (v := 63) hx hb dJ6_bitCount_0f7a4_49 (by decide) ?_
  refine lv_iand hx hb dJ6_bitCount_0f7a4_51 ?_
  refine lv_topi (fun x15 ex15 => ?_)
  have tx15 := z_andr (x := x14) (y := 63) (by decide : (63 : Int32).toInt = 63) (by omega)
  rw [← ex15] at tx15
  exact W.iret (v := x15) hx hb hr (fun t ht hW => ⟨x15, rfl, by subst_vars; rfl, ht⟩) (fun q hq => by cases hq) dJ6_bitCount_0f7a4_52
