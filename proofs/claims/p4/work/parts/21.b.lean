set_option maxHeartbeats 4000000 in
set_option maxRecDepth 100000 in
theorem k_X8_isPerson (l : Launch) (g : zG) (ad : Nat → Nat) (pe : Int32) (ct : Nat → va_E) (p0 : Int32) (hI : Inv8 g ad pe ct) : Met l yX8_isPerson (zW yX8_isPerson cX8_isPerson 2 (some .boolean)) ({ frames := 0, cells := 0, slots := 0, locals := 0 }) (va_Pc [.ref (ad 0), .int p0] (zR g (zw 126 ad ct))) (vp_Si (fun r : Int32 => (r = 1 ∧ (0 ≤ p0.toInt) ∧ (p0.toInt < pe.toInt)) ∨ (r = 0 ∧ (¬ (0 ≤ p0.toInt ∧ p0.toInt < pe.toInt))))) 0 0 (fun _ => False) := by
  refine Met.ofW (cc := cX8_isPerson) (maxL := 2) (ret := (some .boolean)) (by decide) rfl ?_
  intro p e s m args below meth c s₁ B hml hv
  obtain ⟨rfl, hP, hK, hN⟩ := hv
  have hx := B.exec
  have hb := B.bytes
  have hr := B.returns
  have hg := zW.law (atoms_spec (ws := (zW yX8_isPerson cX8_isPerson 2 (some .boolean))) B.pre)
  have hown : s.vm.findClass RX8 = some m.cls := findClass_of_methodNamed B.named
  have hlocks := B.notSynchronized
  have hpe0 := hI.1
  have hl := lv_entry ([.ref (ad 0), .int p0]) (n := 2) (Nat.le_of_ble_eq_true rfl)
  rw [lg_entry_eq]
  generalize (lg_sl ([.ref (ad 0), .int p0]) ++ List.replicate (2 - (lg_sl ([.ref (ad 0), .int p0])).length) Slot.unset).toArray = ls at hl ⊢
  have hl : lv_has ls 2 [(0, .ref (ad 0)), (1, .int p0)] := hl
  have rg_p0 := z_rng p0
  refine lv_iload_n hx hb dX8_isPerson_0 rfl (lv_at hl 1 rfl) ?_
  refine lv_if_lt (tgt := 16) hx hb dX8_isPerson_1 (by decide) (fun c1 => ?_) (fun c1 => ?_)
  · skip
    have c1 : p0.toInt < 0 := (z_lt rfl (by decide : (0 : Int32).toInt = 0)).mp c1
    refine lv_iconst (v := 0) hx hb dX8_isPerson_16 (by decide) ?_
    have q2 : (0 : Int32).toInt = 0 := by decide
    exact W.zret (v := 0) hx hb hr rfl (fun t ht hW => ⟨0, rfl, by first | exact Or.inl ⟨rfl, by omega⟩ | exact Or.inr ⟨rfl, by omega⟩ | exact Or.inl rfl | exact Or.inr rfl | exact Or.inl ⟨rfl, by omega, by omega⟩ | exact (z_01 (by omega) (by omega)).symm, ht⟩) (fun q hq => by cases hq) dX8_isPerson_17
  · skip
    have c1 : ¬ (p0.toInt < 0) := fun q => c1 ((z_lt rfl (by decide : (0 : Int32).toInt = 0)).mpr q)
    refine lv_iload_n hx hb dX8_isPerson_4 rfl (lv_at hl 1 rfl) ?_
    refine lv_aload_n hx hb dX8_isPerson_5 rfl (lv_at hl 0 rfl) ?_
    obtain ⟨bk5, dr4, h6, h7, h8, hs3⟩ := a8_0 hI
    refine va_get (D := g.1) (ci := 8) (v := .int pe) (C := RX8) (T := TX8) (N := 13) hx hb hg inG8 hown hK hP 0 (zw_at (by omega) hs3) rfl 11 (by decide) (hg _ mm_371) (fun _ h9 => h9) rfl dX8_isPerson_6 ?_
    refine lv_icmp_ge (tgt := 16) hx hb dX8_isPerson_9 (by decide) (fun c9 => ?_) (fun c9 => ?_)
    · skip
      have c9 : pe.toInt ≤ p0.toInt := (z_le rfl rfl).mp c9
      refine lv_iconst (v := 0) hx hb dX8_isPerson_16 (by decide) ?_
      have q10 : (0 : Int32).toInt = 0 := by decide
      exact W.zret (v := 0) hx hb hr rfl (fun t ht hW => ⟨0, rfl, by first | exact Or.inl ⟨rfl, by omega⟩ | exact Or.inr ⟨rfl, by omega⟩ | exact Or.inl rfl | exact Or.inr rfl | exact Or.inl ⟨rfl, by omega, by omega⟩ | exact (z_01 (by omega) (by omega)).symm, ht⟩) (fun q hq => by cases hq) dX8_isPerson_17
    · skip
      have c9 : ¬ (pe.toInt ≤ p0.toInt) := fun q => c9 ((z_le rfl rfl).mpr q)
      refine lv_iconst (v := 1) hx hb dX8_isPerson_12 (by decide) ?_
      refine lv_goto (tgt := 17) hx hb dX8_isPerson_13 (by decide) ?_
      have q11 : (1 : Int32).toInt = 1 := by decide
      exact W.zret (v := 1) hx hb hr rfl (fun t ht hW => ⟨1, rfl, by first | exact Or.inl ⟨rfl, by omega⟩ | exact Or.inr ⟨rfl, by omega⟩ | exact Or.inl rfl | exact Or.inr rfl | exact Or.inl ⟨rfl, by omega, by omega⟩ | exact (z_01 (by omega) (by omega)).symm, ht⟩) (fun q hq => by cases hq) dX8_isPerson_17

set_option maxHeartbeats 4000000 in
set_option maxRecDepth 100000 in
theorem k_X8_isBook (l : Launch) (g : zG) (ad : Nat → Nat) (pe : Int32) (ct : Nat → va_E) (b : Int32) (hI : Inv8 g ad pe ct) : Met l yX8_isBook (zW yX8_isBook cX8_isBook 2 (some .boolean)) ({ frames := 0, cells := 0, slots := 0, locals := 0 }) (va_Pc [.ref (ad 0), .int b] (zR g (zw 126 ad ct))) (vp_Si (fun r : Int32 => (r = 1 ∧ (0 ≤ b.toInt) ∧ (b.toInt ≤ 3)) ∨ (r = 0))) 0 0 (fun _ => False) := by
  refine Met.ofW (cc := cX8_isBook) (maxL := 2) (ret := (some .boolean)) (by decide) rfl ?_
  intro p e s m args below meth c s₁ B hml hv
  obtain ⟨rfl, hP, hK, hN⟩ := hv
  have hx := B.exec
  have hb := B.bytes
  have hr := B.returns
  have hg := zW.law (atoms_spec (ws := (zW yX8_isBook cX8_isBook 2 (some .boolean))) B.pre)
  have hown : s.vm.findClass RX8 = some m.cls := findClass_of_methodNamed B.named
  have hlocks := B.notSynchronized
  have hpe0 := hI.1
  have hl := lv_entry ([.ref (ad 0), .int b]) (n := 2) (Nat.le_of_ble_eq_true rfl)
  rw [lg_entry_eq]
  generalize (lg_sl ([.ref (ad 0), .int b]) ++ List.replicate (2 - (lg_sl ([.ref (ad 0), .int b])).length) Slot.unset).toArray = ls at hl ⊢
  have hl : lv_has ls 2 [(0, .ref (ad 0)), (1, .int b)] := hl
  have rg_b := z_rng b
  refine lv_iload_n hx hb dX8_isBook_0 rfl (lv_at hl 1 rfl) ?_
  refine lv_if_lt (tgt := 16) hx hb dX8_isBook_1 (by decide) (fun c1 => ?_) (fun c1 => ?_)
  · skip
    have c1 : b.toInt < 0 := (z_lt rfl (by decide : (0 : Int32).toInt = 0)).mp c1
    refine lv_iconst (v := 0) hx hb dX8_isBook_16 (by decide) ?_
    have q2 : (0 : Int32).toInt = 0 := by decide
    exact W.zret (v := 0) hx hb hr rfl (fun t ht hW => ⟨0, rfl, by first | exact Or.inl ⟨rfl, by omega⟩ | exact Or.inr ⟨rfl, by omega⟩ | exact Or.inl rfl | exact Or.inr rfl | exact Or.inl ⟨rfl, by omega, by omega⟩ | exact (z_01 (by omega) (by omega)).symm, ht⟩) (fun q hq => by cases hq) dX8_isBook_17
  · skip
    have c1 : ¬ (b.toInt < 0) := fun q => c1 ((z_lt rfl (by decide : (0 : Int32).toInt = 0)).mpr q)
    refine lv_iload_n hx hb dX8_isBook_4 rfl (lv_at hl 1 rfl) ?_
    refine lv_aload_n hx hb dX8_isBook_5 rfl (lv_at hl 0 rfl) ?_
    obtain ⟨bk5, dr4, h6, h7, h8, hs3⟩ := a8_0 hI
    refine va_get (D := g.1) (ci := 8) (v := .int bk5) (C := RX8) (T := TX8) (N := 13) hx hb hg inG8 hown hK hP 0 (zw_at (by omega) hs3) rfl 12 (by decide) (hg _ mm_372) (fun _ h9 => h9) rfl dX8_isBook_6 ?_
    refine lv_icmp_ge (tgt := 16) hx hb dX8_isBook_9 (by decide) (fun c9 => ?_) (fun c9 => ?_)
    · skip
      have c9 : bk5.toInt ≤ b.toInt := (z_le rfl rfl).mp c9
      refine lv_iconst (v := 0) hx hb dX8_isBook_16 (by decide) ?_
      have q10 : (0 : Int32).toInt = 0 := by decide
      exact W.zret (v := 0) hx hb hr rfl (fun t ht hW => ⟨0, rfl, by first | exact Or.inl ⟨rfl, by omega⟩ | exact Or.inr ⟨rfl, by omega⟩ | exact Or.inl rfl | exact Or.inr rfl | exact Or.inl ⟨rfl, by omega, by omega⟩ | exact (z_01 (by omega) (by omega)).symm, ht⟩) (fun q hq => by cases hq) dX8_isBook_17
    · skip
      have c9 : ¬ (bk5.toInt ≤ b.toInt) := fun q => c9 ((z_le rfl rfl).mpr q)
      refine lv_iconst (v := 1) hx hb dX8_isBook_12 (by decide) ?_
      refine lv_goto (tgt := 17) hx hb dX8_isBook_13 (by decide) ?_
      have q11 : (1 : Int32).toInt = 1 := by decide
      exact W.zret (v := 1) hx hb hr rfl (fun t ht hW => ⟨1, rfl, by first | exact Or.inl ⟨rfl, by omega⟩ | exact Or.inr ⟨rfl, by omega⟩ | exact Or.inl rfl | exact Or.inr rfl | exact Or.inl ⟨rfl, by omega, by omega⟩ | exact (z_01 (by omega) (by omega)).symm, ht⟩) (fun q hq => by cases hq) dX8_isBook_17

set_option maxHeartbeats 4000000 in
set_option maxRecDepth 100000 in
theorem k_X8_isLine (l : Launch) (g : zG) (ad : Nat → Nat) (pe : Int32) (ct : Nat → va_E) (b : Int32) (i : Int32) (hI : Inv8 g ad pe ct) : Met l yX8_isLine (zW yX8_isLine cX8_isLine 3 (some .boolean)) ({ frames := 1, cells := 0, slots := 0, locals := 22 }) (va_Pc [.ref (ad 0), .int b, .int i] (zR g (zw 126 ad ct))) (vp_Si (fun r : Int32 => (r = 1 ∧ (0 ≤ b.toInt ∧ b.toInt ≤ 3) ∧ (0 ≤ i.toInt ∧ i.toInt ≤ 7)) ∨ (r = 0))) 0 0 (fun _ => False) := by
  refine Met.ofW (cc := cX8_isLine) (maxL := 3) (ret := (some .boolean)) (by decide) rfl ?_
  intro p e s m args below meth c s₁ B hml hv
  obtain ⟨rfl, hP, hK, hN⟩ := hv
  have hx := B.exec
  have hb := B.bytes
  have hr := B.returns
  have hg := zW.law (atoms_spec (ws := (zW yX8_isLine cX8_isLine 3 (some .boolean))) B.pre)
  have hown : s.vm.findClass RX8 = some m.cls := findClass_of_methodNamed B.named
  have hlocks := B.notSynchronized
  have hpe0 := hI.1
  have hl := lv_entry ([.ref (ad 0), .int b, .int i]) (n := 3) (Nat.le_of_ble_eq_true rfl)
  rw [lg_entry_eq]
  generalize (lg_sl ([.ref (ad 0), .int b, .int i]) ++ List.replicate (3 - (lg_sl ([.ref (ad 0), .int b, .int i])).length) Slot.unset).toArray = ls at hl ⊢
  have hl : lv_has ls 3 [(0, .ref (ad 0)), (1, .int b), (2, .int i)] := hl
  have rg_b := z_rng b
  have rg_i := z_rng i
  refine lv_aload_n hx hb dX8_isLine_0 rfl (lv_at hl 0 rfl) ?_
  refine lv_iload_n hx hb dX8_isLine_1 rfl (lv_at hl 1 rfl) ?_
  obtain ⟨bk3, dr2, h4, h5, h6, hs1⟩ := a8_0 hI
  refine zc_i (va_runV (As := [.int b]) (rest := []) ⟨hx, hb, hml, hown, hg⟩ (k_X8_isBook l g ad pe ct b hI) (cwV 1 hg (z_gV mm_591 mm_593 mm_20 mm_108 mm_594) rfl rfl rfl (by decide +kernel) ⟨Nat.le_of_ble_eq_true rfl, Nat.le_of_ble_eq_true rfl⟩) ⟨(zR.pre [.ref (ad 0), .int b] hP hK hN).1, va_recv hK hP (ci := 8) (q0 := 0) rfl (zw_at (by omega) hs1), (zR.pre [.ref (ad 0), .int b] hP hK hN).2⟩ rfl rfl hl.1 rfl (lv_room (Nat.le_of_ble_eq_true rfl)) dX8_isLine_2 ⟨Nat.le_of_ble_eq_true rfl, Nat.le_of_ble_eq_true rfl⟩) (fun r7 hr7 => ?_)
  rcases hr7 with hr7 | hr7
  · skip
    obtain ⟨rfl, h8, h9⟩ := hr7
    have h8 : 0 ≤ b.toInt := h8
    have h9 : b.toInt ≤ 3 := h9
    refine lv_if_eq (tgt := 31) hx hb dX8_isLine_5 (by decide) (fun c10 => ?_) (fun c10 => ?_)
    · skip
      exact absurd c10 (by decide)
    · skip
      refine lv_iload_n hx hb dX8_isLine_8 rfl (lv_at hl 2 rfl) ?_
      refine lv_iconst (v := 0) hx hb dX8_isLine_9 (by decide) ?_
      refine lv_aload_n hx hb dX8_isLine_10 rfl (lv_at hl 0 rfl) ?_
      refine va_get (D := g.1) (ci := 8) (v := .ref (ad 5)) (C := RX8) (T := TX8) (N := 13) hx hb hg inG8 hown hK hP 0 (zw_at (by omega) hs1) rfl 3 (by decide) (hg _ mm_363) (fun _ h9 => h9) rfl dX8_isLine_11 ?_
      refine lv_iload_n hx hb dX8_isLine_14 rfl (lv_at hl 1 rfl) ?_
      have hs11 := a8_5 hI
      refine va_aldq hx hb hK hP 5 5 (zw_at (by omega) hs11) rfl (z_in rfl (by omega) (by omega)) dX8_isLine_15 ?_
      rw [zF5_at (x := b) (by omega) (by omega)]
      obtain ⟨lns13, liv14, shw15, h16, h17, h18, h19, hz20, hs12⟩ := a8_40 (kc := (0 + 55 + 11 * b.toInt.toNat)) (by omega) hI
      have bhz20 := z_b01 hz20
      refine va_get (D := g.1) (ci := 2) (v := .int lns13) (C := RX2) (T := TX2) (N := 5) hx hb hg inG2 hown hK hP (0 + 55 + 11 * b.toInt.toNat) (zw_at (by omega) hs12) rfl 0 (by decide) (hg _ mm_342) (fun _ h9 => h9) rfl dX8_isLine_16 ?_
      refine lv_iconst (v := 1) hx hb dX8_isLine_19 (by decide) ?_
      refine lv_isub hx hb dX8_isLine_20 ?_
      refine lv_topi (fun x21 ex21 => ?_)
      have tx21 : x21.toInt = lns13.toInt - 1 := by rw [ex21]; exact z_sub rfl (by decide : (1 : Int32).toInt = 1) (by omega) (by omega)
      refine zc_i (va_runS (As := [.int i, .int 0, .int x21]) (rest := []) ⟨hx, hb, hml, hown, hg⟩ (k_X8_within l g ad pe ct i (0 : Int32) x21 hI) (va_cwS 3 hg (z_gS mm_407 mm_408 mm_108 mm_409) rfl rfl rfl (by decide +kernel) ⟨Nat.le_of_ble_eq_true rfl, Nat.le_of_ble_eq_true rfl⟩) (zR.pre [.int i, .int 0, .int x21] hP hK hN) rfl rfl hl.1 rfl (lv_room (Nat.le_of_ble_eq_true rfl)) dX8_isLine_21 ⟨Nat.le_of_ble_eq_true rfl, Nat.le_of_ble_eq_true rfl⟩) (fun r22 hr22 => ?_)
      rcases hr22 with hr22 | hr22
      · skip
        obtain ⟨rfl, h23, h24⟩ := hr22
        have h23 : (0 : Int) ≤ i.toInt := h23
        have h24 : i.toInt ≤ x21.toInt := h24
        refine lv_if_eq (tgt := 31) hx hb dX8_isLine_24 (by decide) (fun c25 => ?_) (fun c25 => ?_)
        · skip
          exact absurd c25 (by decide)
        · skip
          refine lv_iconst (v := 1) hx hb dX8_isLine_27 (by decide) ?_
          refine lv_goto (tgt := 32) hx hb dX8_isLine_28 (by decide) ?_
          have q26 : (1 : Int32).toInt = 1 := by decide
          exact W.zret (v := 1) hx hb hr rfl (fun t ht hW => ⟨1, rfl, by first | exact Or.inl ⟨rfl, by omega⟩ | exact Or.inr ⟨rfl, by omega⟩ | exact Or.inl rfl | exact Or.inr rfl | exact Or.inl ⟨rfl, by omega, by omega⟩ | exact (z_01 (by omega) (by omega)).symm, ht⟩) (fun q hq => by cases hq) dX8_isLine_32
      · skip
        obtain ⟨rfl, h27⟩ := hr22
        have h27 : ¬ ((0 : Int) ≤ i.toInt ∧ i.toInt ≤ x21.toInt) := h27
        refine lv_if_eq (tgt := 31) hx hb dX8_isLine_24 (by decide) (fun c28 => ?_) (fun c28 => ?_)
        · skip
          refine lv_iconst (v := 0) hx hb dX8_isLine_31 (by decide) ?_
          have q29 : (0 : Int32).toInt = 0 := by decide
          exact W.zret (v := 0) hx hb hr rfl (fun t ht hW => ⟨0, rfl, by first | exact Or.inl ⟨rfl, by omega⟩ | exact Or.inr ⟨rfl, by omega⟩ | exact Or.inl rfl | exact Or.inr rfl | exact Or.inl ⟨rfl, by omega, by omega⟩ | exact (z_01 (by omega) (by omega)).symm, ht⟩) (fun q hq => by cases hq) dX8_isLine_32
        · skip
          exact absurd c28 (by decide)
  · skip
    obtain rfl := hr7
    refine lv_if_eq (tgt := 31) hx hb dX8_isLine_5 (by decide) (fun c30 => ?_) (fun c30 => ?_)
    · skip
      refine lv_iconst (v := 0) hx hb dX8_isLine_31 (by decide) ?_
      have q31 : (0 : Int32).toInt = 0 := by decide
      exact W.zret (v := 0) hx hb hr rfl (fun t ht hW => ⟨0, rfl, by first | exact Or.inl ⟨rfl, by omega⟩ | exact Or.inr ⟨rfl, by omega⟩ | exact Or.inl rfl | exact Or.inr rfl | exact Or.inl ⟨rfl, by omega, by omega⟩ | exact (z_01 (by omega) (by omega)).symm, ht⟩) (fun q hq => by cases hq) dX8_isLine_32
    · skip
      exact absurd c30 (by decide)

set_option maxHeartbeats 4000000 in
set_option maxRecDepth 100000 in
theorem k_X8_isLive (l : Launch) (g : zG) (ad : Nat → Nat) (pe : Int32) (ct : Nat → va_E) (b : Int32) (i : Int32) (hI : Inv8 g ad pe ct) : Met l yX8_isLive (zW yX8_isLive cX8_isLive 3 (some .boolean)) ({ frames := 2, cells := 0, slots := 0, locals := 44 }) (va_Pc [.ref (ad 0), .int b, .int i] (zR g (zw 126 ad ct))) (vp_Si (fun r : Int32 => (r = 1 ∧ (0 ≤ b.toInt ∧ b.toInt ≤ 3) ∧ (0 ≤ i.toInt ∧ i.toInt ≤ 7)) ∨ (r = 0))) 0 0 (fun _ => False) := by
  refine Met.ofW (cc := cX8_isLive) (maxL := 3) (ret := (some .boolean)) (by decide) rfl ?_
  intro p e s m args below meth c s₁ B hml hv
  obtain ⟨rfl, hP, hK, hN⟩ := hv
  have hx := B.exec
  have hb := B.bytes
  have hr := B.returns
  have hg := zW.law (atoms_spec (ws := (zW yX8_isLive cX8_isLive 3 (some .boolean))) B.pre)
  have hown : s.vm.findClass RX8 = some m.cls := findClass_of_methodNamed B.named
  have hlocks := B.notSynchronized
  have hpe0 := hI.1
  have hl := lv_entry ([.ref (ad 0), .int b, .int i]) (n := 3) (Nat.le_of_ble_eq_true rfl)
  rw [lg_entry_eq]
  generalize (lg_sl ([.ref (ad 0), .int b, .int i]) ++ List.replicate (3 - (lg_sl ([.ref (ad 0), .int b, .int i])).length) Slot.unset).toArray = ls at hl ⊢
  have hl : lv_has ls 3 [(0, .ref (ad 0)), (1, .int b), (2, .int i)] := hl
  have rg_b := z_rng b
  have rg_i := z_rng i
  refine lv_aload_n hx hb dX8_isLive_0 rfl (lv_at hl 0 rfl) ?_
  refine lv_iload_n hx hb dX8_isLive_1 rfl (lv_at hl 1 rfl) ?_
  refine lv_iload_n hx hb dX8_isLive_2 rfl (lv_at hl 2 rfl) ?_
  obtain ⟨bk3, dr2, h4, h5, h6, hs1⟩ := a8_0 hI
  refine zc_i (va_runV (As := [.int b, .int i]) (rest := []) ⟨hx, hb, hml, hown, hg⟩ (k_X8_isLine l g ad pe ct b i hI) (cwV 2 hg (z_gV mm_587 mm_589 mm_19 mm_108 mm_590) rfl rfl rfl (by decide +kernel) ⟨Nat.le_of_ble_eq_true rfl, Nat.le_of_ble_eq_true rfl⟩) ⟨(zR.pre [.ref (ad 0), .int b, .int i] hP hK hN).1, va_recv hK hP (ci := 8) (q0 := 0) rfl (zw_at (by omega) hs1), (zR.pre [.ref (ad 0), .int b, .int i] hP hK hN).2⟩ rfl rfl hl.1 rfl (lv_room (Nat.le_of_ble_eq_true rfl)) dX8_isLive_3 ⟨Nat.le_of_ble_eq_true rfl, Nat.le_of_ble_eq_true rfl⟩) (fun r7 hr7 => ?_)
  rcases hr7 with hr7 | hr7
  · skip
    obtain ⟨rfl, h8, h9⟩ := hr7
    have h8 : 0 ≤ b.toInt ∧ b.toInt ≤ 3 := h8
    have h9 : 0 ≤ i.toInt ∧ i.toInt ≤ 7 := h9
    refine lv_if_eq (tgt := 30) hx hb dX8_isLive_6 (by decide) (fun c10 => ?_) (fun c10 => ?_)
    · skip
      exact absurd c10 (by decide)
    · skip
      refine lv_aload_n hx hb dX8_isLive_9 rfl (lv_at hl 0 rfl) ?_
      refine va_get (D := g.1) (ci := 8) (v := .ref (ad 5)) (C := RX8) (T := TX8) (N := 13) hx hb hg inG8 hown hK hP 0 (zw_at (by omega) hs1) rfl 3 (by decide) (hg _ mm_363) (fun _ h9 => h9) rfl dX8_isLive_10 ?_
      refine lv_iload_n hx hb dX8_isLive_13 rfl (lv_at hl 1 rfl) ?_
      have hs11 := a8_5 hI
      refine va_aldq hx hb hK hP 5 5 (zw_at (by omega) hs11) rfl (z_in rfl (by omega) (by omega)) dX8_isLive_14 ?_
      rw [zF5_at (x := b) (by omega) (by omega)]
      obtain ⟨lns13, liv14, shw15, h16, h17, h18, h19, hz20, hs12⟩ := a8_40 (kc := (0 + 55 + 11 * b.toInt.toNat)) (by omega) hI
      have bhz20 := z_b01 hz20
      refine va_get (D := g.1) (ci := 2) (v := .int liv14) (C := RX2) (T := TX2) (N := 5) hx hb hg inG2 hown hK hP (0 + 55 + 11 * b.toInt.toNat) (zw_at (by omega) hs12) rfl 1 (by decide) (hg _ mm_344) (fun _ h9 => h9) rfl dX8_isLive_15 ?_
      refine lv_iload_n hx hb dX8_isLive_18 rfl (lv_at hl 2 rfl) ?_
      refine lv_ishr hx hb dX8_isLive_19 ?_
      refine lv_topi (fun x21 ex21 => ?_)
      have tx21 := z_shr (x := liv14) rfl (by omega) i
      rw [← ex21] at tx21
      refine lv_iconst (v := 1) hx hb dX8_isLive_20 (by decide) ?_
      refine lv_iand hx hb dX8_isLive_21 ?_
      refine lv_topi (fun x22 ex22 => ?_)
      have tx22 := z_andr (x := x21) (y := 1) (by decide : (1 : Int32).toInt = 1) (by omega)
      rw [← ex22] at tx22
      refine lv_iconst (v := 1) hx hb dX8_isLive_22 (by decide) ?_
      refine lv_icmp_ne (tgt := 30) hx hb dX8_isLive_23 (by decide) (fun c23 => ?_) (fun c23 => ?_)
      · skip
        have c23 : ¬ (x22.toInt = 1) := fun q => c23 ((z_eq rfl (by decide : (1 : Int32).toInt = 1)).mpr q)
        refine lv_iconst (v := 0) hx hb dX8_isLive_30 (by decide) ?_
        have q24 : (0 : Int32).toInt = 0 := by decide
        exact W.zret (v := 0) hx hb hr rfl (fun t ht hW => ⟨0, rfl, by first | exact Or.inl ⟨rfl, by omega⟩ | exact Or.inr ⟨rfl, by omega⟩ | exact Or.inl rfl | exact Or.inr rfl | exact Or.inl ⟨rfl, by omega, by omega⟩ | exact (z_01 (by omega) (by omega)).symm, ht⟩) (fun q hq => by cases hq) dX8_isLive_31
      · skip
        have c23 : x22.toInt = 1 := (z_eq rfl (by decide : (1 : Int32).toInt = 1)).mp c23
        refine lv_iconst (v := 1) hx hb dX8_isLive_26 (by decide) ?_
        refine lv_goto (tgt := 31) hx hb dX8_isLive_27 (by decide) ?_
        have q25 : (1 : Int32).toInt = 1 := by decide
        exact W.zret (v := 1) hx hb hr rfl (fun t ht hW => ⟨1, rfl, by first | exact Or.inl ⟨rfl, by omega⟩ | exact Or.inr ⟨rfl, by omega⟩ | exact Or.inl rfl | exact Or.inr rfl | exact Or.inl ⟨rfl, by omega, by omega⟩ | exact (z_01 (by omega) (by omega)).symm, ht⟩) (fun q hq => by cases hq) dX8_isLive_31
  · skip
    obtain rfl := hr7
    refine lv_if_eq (tgt := 30) hx hb dX8_isLive_6 (by decide) (fun c26 => ?_) (fun c26 => ?_)
    · skip
      refine lv_iconst (v := 0) hx hb dX8_isLive_30 (by decide) ?_
      have q27 : (0 : Int32).toInt = 0 := by decide
      exact W.zret (v := 0) hx hb hr rfl (fun t ht hW => ⟨0, rfl, by first | exact Or.inl ⟨rfl, by omega⟩ | exact Or.inr ⟨rfl, by omega⟩ | exact Or.inl rfl | exact Or.inr rfl | exact Or.inl ⟨rfl, by omega, by omega⟩ | exact (z_01 (by omega) (by omega)).symm, ht⟩) (fun q hq => by cases hq) dX8_isLive_31
    · skip
      exact absurd c26 (by decide)

set_option maxHeartbeats 4000000 in
set_option maxRecDepth 100000 in
theorem k_X8_shownBooks (l : Launch) (g : zG) (ad : Nat → Nat) (pe : Int32) (ct : Nat → va_E) (hI : Inv8 g ad pe ct) : Met l yX8_shownBooks (zW yX8_shownBooks cX8_shownBooks 3 (some .int)) ({ frames := 0, cells := 0, slots := 0, locals := 0 }) (va_Pc [.ref (ad 0)] (zR g (zw 126 ad ct))) (vp_Si (fun r : Int32 => (True))) 0 0 (fun _ => False) := by
  refine Met.ofW (cc := cX8_shownBooks) (maxL := 3) (ret := (some .int)) (by decide) rfl ?_
  intro p e s m args below meth c s₁ B hml hv
  obtain ⟨rfl, hP, hK, hN⟩ := hv
  have hx := B.exec
  have hb := B.bytes
  have hr := B.returns
  have hg := zW.law (atoms_spec (ws := (zW yX8_shownBooks cX8_shownBooks 3 (some .int))) B.pre)
  have hown : s.vm.findClass RX8 = some m.cls := findClass_of_methodNamed B.named
  have hlocks := B.notSynchronized
  have hpe0 := hI.1
  have hl := lv_entry ([.ref (ad 0)]) (n := 3) (Nat.le_of_ble_eq_true rfl)
  rw [lg_entry_eq]
  generalize (lg_sl ([.ref (ad 0)]) ++ List.replicate (3 - (lg_sl ([.ref (ad 0)])).length) Slot.unset).toArray = ls at hl ⊢
  have hl : lv_has ls 3 [(0, .ref (ad 0))] := hl
  refine lv_iconst (v := 0) hx hb dX8_shownBooks_0 (by decide) ?_
  refine lv_istore_n (lv' := [(1, .int 0), (0, .ref (ad 0))]) hx hb dX8_shownBooks_1 rfl hl (by decide) rfl (fun ls hl => ?_)
  refine lv_iconst (v := 0) hx hb dX8_shownBooks_2 (by decide) ?_
  refine lv_istore_n (lv' := [(2, .int 0), (1, .int 0), (0, .ref (ad 0))]) hx hb dX8_shownBooks_3 rfl hl (by decide) rfl (fun ls hl => ?_)
  have loop4 : ∀ (n4 : Nat) (v2_4 : Int32) (v1_4 : Int32) (ls : Array Slot), ((4 - v2_4.toInt : Int).toNat < n4) → (0 ≤ v2_4.toInt ∧ v2_4.toInt ≤ 4) → lv_has ls 3 [(2, .int v2_4), (1, .int v1_4), (0, .ref (ad 0))] → W p l e (headSpec (zW yX8_shownBooks cX8_shownBooks 3 (some .int)) ({ frames := 0, cells := 0, slots := 0, locals := 0 })).room s m ([.ref (ad 0)] : List Value).toArray below meth c s.heap [] 0 0 (MQ below (vp_Si (fun r : Int32 => (True))) ([.ref (ad 0)] : List Value).toArray s 0 0 (fun _ => False)) (F0 m 4 ls []) := by
    intro n4
    induction n4 with
    | zero =>
      intro v2_4 v1_4 ls hn4 b2_4 hl
      exact absurd hn4 (Nat.not_lt_zero _)
    | succ n4 ih4 =>
      intro v2_4 v1_4 ls hn4 b2_4 hl
      refine lv_iload_n hx hb dX8_shownBooks_4 rfl (lv_at hl 0 rfl) ?_
      refine lv_aload_n hx hb dX8_shownBooks_5 rfl (lv_at hl 2 rfl) ?_
      obtain ⟨bk3, dr2, h4, h5, h6, hs1⟩ := a8_0 hI
      refine va_get (D := g.1) (ci := 8) (v := .int bk3) (C := RX8) (T := TX8) (N := 13) hx hb hg inG8 hown hK hP 0 (zw_at (by omega) hs1) rfl 12 (by decide) (hg _ mm_372) (fun _ h9 => h9) rfl dX8_shownBooks_6 ?_
      refine lv_icmp_ge (tgt := 36) hx hb dX8_shownBooks_9 (by decide) (fun c7 => ?_) (fun c7 => ?_)
      · skip
        have c7 : bk3.toInt ≤ v2_4.toInt := (z_le rfl rfl).mp c7
        refine lv_iload_n hx hb dX8_shownBooks_36 rfl (lv_at hl 1 rfl) ?_
        exact W.iret (v := v1_4) hx hb hr (fun t ht hW => ⟨v1_4, rfl, trivial, ht⟩) (fun q hq => by cases hq) dX8_shownBooks_37
      · skip
        have c7 : ¬ (bk3.toInt ≤ v2_4.toInt) := fun q => c7 ((z_le rfl rfl).mpr q)
        refine lv_aload_n hx hb dX8_shownBooks_12 rfl (lv_at hl 2 rfl) ?_
        refine va_get (D := g.1) (ci := 8) (v := .ref (ad 5)) (C := RX8) (T := TX8) (N := 13) hx hb hg inG8 hown hK hP 0 (zw_at (by omega) hs1) rfl 3 (by decide) (hg _ mm_363) (fun _ h9 => h9) rfl dX8_shownBooks_13 ?_
        refine lv_iload_n hx hb dX8_shownBooks_16 rfl (lv_at hl 0 rfl) ?_
        have hs8 := a8_5 hI
        refine va_aldq hx hb hK hP 5 5 (zw_at (by omega) hs8) rfl (z_in rfl (by omega) (by omega)) dX8_shownBooks_17 ?_
        rw [zF5_at (x := v2_4) (by omega) (by omega)]
        obtain ⟨lns10, liv11, shw12, h13, h14, h15, h16, hz17, hs9⟩ := a8_40 (kc := (0 + 55 + 11 * v2_4.toInt.toNat)) (by omega) hI
        have bhz17 := z_b01 hz17
        refine va_get (D := g.1) (ci := 2) (v := .int shw12) (C := RX2) (T := TX2) (N := 5) hx hb hg inG2 hown hK hP (0 + 55 + 11 * v2_4.toInt.toNat) (zw_at (by omega) hs9) rfl 2 (by decide) (hg _ mm_346) (fun _ h9 => h9) rfl dX8_shownBooks_18 ?_
        refine lv_if_eq (tgt := 30) hx hb dX8_shownBooks_21 (by decide) (fun c18 => ?_) (fun c18 => ?_)
        · skip
          have c18 : shw12.toInt = 0 := (z_eq rfl (by decide : (0 : Int32).toInt = 0)).mp c18
          obtain ⟨x19, ex19⟩ : ∃ y : Int32, y = v2_4 + 1 := ⟨_, rfl⟩
          have tx19 : x19.toInt = v2_4.toInt + 1 := by rw [ex19]; exact z_add rfl (by decide : (1 : Int32).toInt = 1) (by omega) (by omega)
          refine lv_iinc (v := x19) (lv' := [(2, .int x19), (1, .int v1_4), (0, .ref (ad 0))]) hx hb dX8_shownBooks_30 hl (k := 0) rfl (by rw [ex19]; rfl) (by decide) rfl (fun ls hl => ?_)
          refine lv_goto (tgt := 4) hx hb dX8_shownBooks_33 (by decide) ?_
          exact ih4 x19 v1_4 ls (by omega) (by first | omega | decide) (lv_sub hl [0, 1, 2] rfl)
        · skip
          have c18 : ¬ (shw12.toInt = 0) := fun q => c18 ((z_eq rfl (by decide : (0 : Int32).toInt = 0)).mpr q)
          refine lv_iload_n hx hb dX8_shownBooks_24 rfl (lv_at hl 1 rfl) ?_
          refine lv_iconst (v := 1) hx hb dX8_shownBooks_25 (by decide) ?_
          refine lv_iload_n hx hb dX8_shownBooks_26 rfl (lv_at hl 0 rfl) ?_
          refine lv_ishl hx hb dX8_shownBooks_27 ?_
          refine lv_topi (fun x20 ex20 => ?_)
          have tx20 := z_shl1 (y := v2_4) rfl (by omega) (k := 3) (by decide) (by omega)
          rw [← ex20] at tx20
          refine lv_ior hx hb dX8_shownBooks_28 ?_
          refine lv_topi (fun x21 ex21 => ?_)
          refine lv_istore_n (lv' := [(1, .int x21), (2, .int v2_4), (0, .ref (ad 0))]) hx hb dX8_shownBooks_29 rfl hl (by decide) rfl (fun ls hl => ?_)
          obtain ⟨x22, ex22⟩ : ∃ y : Int32, y = v2_4 + 1 := ⟨_, rfl⟩
          have tx22 : x22.toInt = v2_4.toInt + 1 := by rw [ex22]; exact z_add rfl (by decide : (1 : Int32).toInt = 1) (by omega) (by omega)
          refine lv_iinc (v := x22) (lv' := [(2, .int x22), (1, .int x21), (0, .ref (ad 0))]) hx hb dX8_shownBooks_30 hl (k := 1) rfl (by rw [ex22]; rfl) (by decide) rfl (fun ls hl => ?_)
          refine lv_goto (tgt := 4) hx hb dX8_shownBooks_33 (by decide) ?_
          exact ih4 x22 x21 ls (by omega) (by first | omega | decide) (lv_sub hl [0, 1, 2] rfl)
  exact loop4 ((4 - (0 : Int32).toInt : Int).toNat + 1) (0 : Int32) (0 : Int32) ls (by omega) (by first | omega | decide) (lv_sub hl [0, 1, 2] rfl)

set_option maxHeartbeats 4000000 in
set_option maxRecDepth 100000 in
theorem k_X8_openFor (l : Launch) (g : zG) (ad : Nat → Nat) (pe : Int32) (ct : Nat → va_E) (b : Int32) (hI : Inv8 g ad pe ct) : Met l yX8_openFor (zW yX8_openFor cX8_openFor 2 (some .int)) ({ frames := 1, cells := 0, slots := 0, locals := 22 }) (va_Pc [.ref (ad 0), .int b] (zR g (zw 126 ad ct))) (vp_Si (fun r : Int32 => (True))) 0 0 (fun _ => False) := by
  refine Met.ofW (cc := cX8_openFor) (maxL := 2) (ret := (some .int)) (by decide) rfl ?_
  intro p e s m args below meth c s₁ B hml hv
  obtain ⟨rfl, hP, hK, hN⟩ := hv
  have hx := B.exec
  have hb := B.bytes
  have hr := B.returns
  have hg := zW.law (atoms_spec (ws := (zW yX8_openFor cX8_openFor 2 (some .int))) B.pre)
  have hown : s.vm.findClass RX8 = some m.cls := findClass_of_methodNamed B.named
  have hlocks := B.notSynchronized
  have hpe0 := hI.1
  have hl := lv_entry ([.ref (ad 0), .int b]) (n := 2) (Nat.le_of_ble_eq_true rfl)
  rw [lg_entry_eq]
  generalize (lg_sl ([.ref (ad 0), .int b]) ++ List.replicate (2 - (lg_sl ([.ref (ad 0), .int b])).length) Slot.unset).toArray = ls at hl ⊢
  have hl : lv_has ls 2 [(0, .ref (ad 0)), (1, .int b)] := hl
  have rg_b := z_rng b
  refine lv_aload_n hx hb dX8_openFor_0 rfl (lv_at hl 0 rfl) ?_
  obtain ⟨bk3, dr2, h4, h5, h6, hs1⟩ := a8_0 hI
  refine zc_i (va_runV (As := []) (rest := []) ⟨hx, hb, hml, hown, hg⟩ (k_X8_shownBooks l g ad pe ct  hI) (cwV 0 hg (z_gV mm_663 mm_665 mm_23 mm_108 mm_666) rfl rfl rfl (by decide +kernel) ⟨Nat.le_of_ble_eq_true rfl, Nat.le_of_ble_eq_true rfl⟩) ⟨(zR.pre [.ref (ad 0)] hP hK hN).1, va_recv hK hP (ci := 8) (q0 := 0) rfl (zw_at (by omega) hs1), (zR.pre [.ref (ad 0)] hP hK hN).2⟩ rfl rfl hl.1 rfl (lv_room (Nat.le_of_ble_eq_true rfl)) dX8_openFor_1 ⟨Nat.le_of_ble_eq_true rfl, Nat.le_of_ble_eq_true rfl⟩) (fun r7 hr7 => ?_)
  refine lv_iconst (v := 1) hx hb dX8_openFor_4 (by decide) ?_
  refine lv_iload_n hx hb dX8_openFor_5 rfl (lv_at hl 1 rfl) ?_
  refine lv_ishl hx hb dX8_openFor_6 ?_
  refine lv_topi (fun x8 ex8 => ?_)
  refine lv_ior hx hb dX8_openFor_7 ?_
  refine lv_topi (fun x9 ex9 => ?_)
  exact W.iret (v := x9) hx hb hr (fun t ht hW => ⟨x9, rfl, trivial, ht⟩) (fun q hq => by cases hq) dX8_openFor_8
