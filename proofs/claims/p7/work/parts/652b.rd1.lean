set_option maxHeartbeats 4000000 in
set_option maxRecDepth 100000 in
theorem k_X9_isDigit (l : Launch) (g : zG) (ad : Nat → Nat) (me : Int32) (ct : Nat → va_E) (hI : IR g ad me ct) : Met l yX9_isDigit (zW yX9_isDigit cX9_isDigit 1 (some .boolean)) ({ frames := 1, cells := 0, slots := 0, locals := 20 }) (va_Pc [.ref (ad 0)] (zR g (zw 32 ad ct))) (vp_Si (fun r : Int32 => (r = 1 ∧ (48 ≤ (zhv (ct 0) (ct 11)).toInt) ∧ ((zhv (ct 0) (ct 11)).toInt ≤ 57) ∧ (zfi 17 (ct 0) < zfi 18 (ct 0))) ∨ (r = 0 ∧ (¬ (48 ≤ (zhv (ct 0) (ct 11)).toInt ∧ (zhv (ct 0) (ct 11)).toInt ≤ 57))))) 0 0 (fun _ => False) := by
  refine Met.ofW (cc := cX9_isDigit) (maxL := 1) (ret := (some .boolean)) (by decide) rfl ?_
  intro p e s m args below meth c s₁ B hml hv
  obtain ⟨rfl, hP, hK, hN⟩ := hv
  have hx := B.exec
  have hb := B.bytes
  have hr := B.returns
  have hg := zW.law (atoms_spec (ws := (zW yX9_isDigit cX9_isDigit 1 (some .boolean))) B.pre)
  have hown : s.vm.findClass RX9 = some m.cls := findClass_of_methodNamed B.named
  have hlocks := B.notSynchronized
  have hpe0 := hI.1.1
  have hl := lv_entry ([.ref (ad 0)]) (n := 1) (Nat.le_of_ble_eq_true rfl)
  rw [lg_entry_eq]
  generalize (lg_sl ([.ref (ad 0)]) ++ List.replicate (1 - (lg_sl ([.ref (ad 0)])).length) Slot.unset).toArray = ls at hl ⊢
  have hl : lv_has ls 1 [(0, .ref (ad 0))] := hl
  refine lv_aload_n hx hb dX9_isDigit_0 rfl (lv_at hl 0 rfl) ?_
  obtain ⟨bks2, lks3, gos4, shn5, tpd6, pl07, ln08, flt9, opn10, cmy11, wtg12, nm013, mst14, sus15, cut16, h17, h18, h19, h20, h21, h22, h23, h24, h25, h26, h27, h28, h29, h30, h31, h32, h33, h34, h35, h36, hs1⟩ := a9_0 hI.1
  refine zc_i (va_runV (As := []) (rest := []) ⟨hx, hb, hml, hown, hg⟩ (k_X9_here l g ad me ct  hI) (cwV 0 hg (z_gV mm_1215 mm_1217 mm_63 mm_117 mm_1218) rfl rfl rfl (by decide +kernel) ⟨Nat.le_of_ble_eq_true rfl, Nat.le_of_ble_eq_true rfl⟩) ⟨(zR.pre [.ref (ad 0)] hP hK hN).1, va_recv hK hP (ci := 9) (q0 := 0) rfl (zw_at (by omega) hs1), (zR.pre [.ref (ad 0)] hP hK hN).2⟩ rfl rfl hl.1 rfl (lv_room (Nat.le_of_ble_eq_true rfl)) dX9_isDigit_1 ⟨Nat.le_of_ble_eq_true rfl, Nat.le_of_ble_eq_true rfl⟩) (fun r37 hr37 => ?_)
  obtain ⟨hqr37, h38⟩ := hr37
  subst r37
  replace h38 : (zhv (ct 0) (ct 11)).toInt = -1 ∨ (0 ≤ (zhv (ct 0) (ct 11)).toInt ∧ zfi 17 (ct 0) < zfi 18 (ct 0)) := h38
  refine lv_bipush (v := 48) hx hb dX9_isDigit_4 (by decide) ?_
  refine lv_icmp_lt (tgt := 22) hx hb dX9_isDigit_6 (by decide) (fun c39 => ?_) (fun c39 => ?_)
  · skip
    have c39 : (zhv (ct 0) (ct 11)).toInt < 48 := (z_lt rfl (by decide : (48 : Int32).toInt = 48)).mp c39
    refine lv_iconst (v := 0) hx hb dX9_isDigit_22 (by decide) ?_
    have q40 : (0 : Int32).toInt = 0 := by decide
    exact W.zret (v := 0) hx hb hr rfl (fun t ht hW => ⟨0, rfl, by first | exact Or.inl ⟨rfl, by omega, by omega, by omega⟩ | exact Or.inr ⟨rfl, by omega⟩, ht⟩) (fun q hq => by cases hq) dX9_isDigit_23
  · skip
    have c39 : ¬ ((zhv (ct 0) (ct 11)).toInt < 48) := fun q => c39 ((z_lt rfl (by decide : (48 : Int32).toInt = 48)).mpr q)
    refine lv_aload_n hx hb dX9_isDigit_9 rfl (lv_at hl 0 rfl) ?_
    refine zc_i (va_runV (As := []) (rest := []) ⟨hx, hb, hml, hown, hg⟩ (k_X9_here l g ad me ct  hI) (cwV 0 hg (z_gV mm_1215 mm_1217 mm_63 mm_117 mm_1218) rfl rfl rfl (by decide +kernel) ⟨Nat.le_of_ble_eq_true rfl, Nat.le_of_ble_eq_true rfl⟩) ⟨(zR.pre [.ref (ad 0)] hP hK hN).1, va_recv hK hP (ci := 9) (q0 := 0) rfl (zw_at (by omega) hs1), (zR.pre [.ref (ad 0)] hP hK hN).2⟩ rfl rfl hl.1 rfl (lv_room (Nat.le_of_ble_eq_true rfl)) dX9_isDigit_10 ⟨Nat.le_of_ble_eq_true rfl, Nat.le_of_ble_eq_true rfl⟩) (fun r41 hr41 => ?_)
    obtain ⟨hqr41, h42⟩ := hr41
    subst r41
    replace h42 : (zhv (ct 0) (ct 11)).toInt = -1 ∨ (0 ≤ (zhv (ct 0) (ct 11)).toInt ∧ zfi 17 (ct 0) < zfi 18 (ct 0)) := h42
    refine lv_bipush (v := 57) hx hb dX9_isDigit_13 (by decide) ?_
    refine lv_icmp_gt (tgt := 22) hx hb dX9_isDigit_15 (by decide) (fun c43 => ?_) (fun c43 => ?_)
    · skip
      have c43 : 57 < (zhv (ct 0) (ct 11)).toInt := (z_lt (by decide : (57 : Int32).toInt = 57) rfl).mp c43
      refine lv_iconst (v := 0) hx hb dX9_isDigit_22 (by decide) ?_
      have q44 : (0 : Int32).toInt = 0 := by decide
      exact W.zret (v := 0) hx hb hr rfl (fun t ht hW => ⟨0, rfl, by first | exact Or.inl ⟨rfl, by omega, by omega, by omega⟩ | exact Or.inr ⟨rfl, by omega⟩, ht⟩) (fun q hq => by cases hq) dX9_isDigit_23
    · skip
      have c43 : ¬ (57 < (zhv (ct 0) (ct 11)).toInt) := fun q => c43 ((z_lt (by decide : (57 : Int32).toInt = 57) rfl).mpr q)
      refine lv_iconst (v := 1) hx hb dX9_isDigit_18 (by decide) ?_
      refine lv_goto (tgt := 23) hx hb dX9_isDigit_19 (by decide) ?_
      have q45 : (1 : Int32).toInt = 1 := by decide
      exact W.zret (v := 1) hx hb hr rfl (fun t ht hW => ⟨1, rfl, by first | exact Or.inl ⟨rfl, by omega, by omega, by omega⟩ | exact Or.inr ⟨rfl, by omega⟩, ht⟩) (fun q hq => by cases hq) dX9_isDigit_23
