set_option maxHeartbeats 4000000 in
set_option maxRecDepth 100000 in
theorem k_X9_here (l : Launch) (g : zG) (ad : Nat → Nat) (me : Int32) (ct : Nat → va_E) (hI : IR g ad me ct) : Met l yX9_here (zW yX9_here cX9_here 1 (some .int)) ({ frames := 0, cells := 0, slots := 0, locals := 0 }) (va_Pc [.ref (ad 0)] (zR g (zw 32 ad ct))) (vp_Si (fun r : Int32 => (r = (zhv (ct 0) (ct 11)) ∧ ((zhv (ct 0) (ct 11)).toInt = -1 ∨ (0 ≤ (zhv (ct 0) (ct 11)).toInt ∧ zfi 17 (ct 0) < zfi 18 (ct 0)))))) 0 0 (fun _ => False) := by
  refine Met.ofW (cc := cX9_here) (maxL := 1) (ret := (some .int)) (by decide) rfl ?_
  intro p e s m args below meth c s₁ B hml hv
  obtain ⟨rfl, hP, hK, hN⟩ := hv
  have hx := B.exec
  have hb := B.bytes
  have hr := B.returns
  have hg := zW.law (atoms_spec (ws := (zW yX9_here cX9_here 1 (some .int))) B.pre)
  have hown : s.vm.findClass RX9 = some m.cls := findClass_of_methodNamed B.named
  have hlocks := B.notSynchronized
  have hpe0 := hI.1.1
  have hl := lv_entry ([.ref (ad 0)]) (n := 1) (Nat.le_of_ble_eq_true rfl)
  rw [lg_entry_eq]
  generalize (lg_sl ([.ref (ad 0)]) ++ List.replicate (1 - (lg_sl ([.ref (ad 0)])).length) Slot.unset).toArray = ls at hl ⊢
  have hl : lv_has ls 1 [(0, .ref (ad 0))] := hl
  refine lv_aload_n hx hb dX9_here_0 rfl (lv_at hl 0 rfl) ?_
  obtain ⟨bks2, lks3, gos4, shn5, tpd6, pl07, ln08, flt9, opn10, cmy11, wtg12, nm013, mst14, sus15, cut16, h17, h18, h19, h20, h21, h22, h23, h24, h25, h26, h27, h28, h29, h30, h31, h32, h33, h34, h35, h36, hs1⟩ := a9_0 hI.1
  have z17_hs1 : zfi 17 (ct 0) = pl07.toInt := by rw [hs1]; rfl
  have z18_hs1 : zfi 18 (ct 0) = ln08.toInt := by rw [hs1]; rfl
  have z21_hs1 : zfi 21 (ct 0) = cmy11.toInt := by rw [hs1]; rfl
  have z22_hs1 : zfi 22 (ct 0) = wtg12.toInt := by rw [hs1]; rfl
  refine va_get (D := g.1) (ci := 9) (v := .int pl07) (C := RX9) (T := TX9) (N := 47) hx hb hg inG9 hown hK hP 0 (zw_at (by omega) hs1) rfl 17 (by decide) (hg _ mm_975) (fun _ h9 => h9) rfl dX9_here_1 ?_
  refine lv_aload_n hx hb dX9_here_4 rfl (lv_at hl 0 rfl) ?_
  refine va_get (D := g.1) (ci := 9) (v := .int ln08) (C := RX9) (T := TX9) (N := 47) hx hb hg inG9 hown hK hP 0 (zw_at (by omega) hs1) rfl 18 (by decide) (hg _ mm_976) (fun _ h9 => h9) rfl dX9_here_5 ?_
  refine lv_icmp_ge (tgt := 27) hx hb dX9_here_8 (by decide) (fun c37 => ?_) (fun c37 => ?_)
  · skip
    have c37 : ln08.toInt ≤ pl07.toInt := (z_le rfl rfl).mp c37
    refine lv_iconst (v := (-1)) hx hb dX9_here_27 (by decide) ?_
    have q38 : ((-1) : Int32).toInt = -1 := by decide
    obtain ⟨f40, hs39⟩ := a9_11 hI.1
    exact W.iret (v := (-1)) hx hb hr (fun t ht hW => ⟨(-1), rfl, ⟨by rw [zhv_of hs1 rfl rfl hs39, if_neg (by omega)], Or.inl (by rw [zhv_of hs1 rfl rfl hs39, if_neg (by omega)]; decide)⟩, ht⟩) (fun q hq => by cases hq) dX9_here_28
  · skip
    have c37 : ¬ (ln08.toInt ≤ pl07.toInt) := fun q => c37 ((z_le rfl rfl).mpr q)
    refine lv_aload_n hx hb dX9_here_11 rfl (lv_at hl 0 rfl) ?_
    refine va_get (D := g.1) (ci := 9) (v := .ref (ad 11)) (C := RX9) (T := TX9) (N := 47) hx hb hg inG9 hown hK hP 0 (zw_at (by omega) hs1) rfl 15 (by decide) (hg _ mm_973) (fun _ h9 => h9) rfl dX9_here_12 ?_
    refine lv_aload_n hx hb dX9_here_15 rfl (lv_at hl 0 rfl) ?_
    refine va_get (D := g.1) (ci := 9) (v := .int pl07) (C := RX9) (T := TX9) (N := 47) hx hb hg inG9 hown hK hP 0 (zw_at (by omega) hs1) rfl 17 (by decide) (hg _ mm_975) (fun _ h9 => h9) rfl dX9_here_16 ?_
    obtain ⟨f42, hs41⟩ := a9_11 hI.1
    refine va_bald hx hb hK hP 11 2 (zw_at (by omega) hs41) rfl (z_in rfl (by omega) (by omega)) dX9_here_19 ?_
    refine lv_topi (fun y43 ey43 => ?_)
    refine lv_sipush (v := 255) hx hb dX9_here_20 (by decide) ?_
    refine lv_iand hx hb dX9_here_23 ?_
    refine lv_topi (fun x44 ex44 => ?_)
    have tx44 := z_andr (x := y43) (y := 255) (by decide : (255 : Int32).toInt = 255) (by omega)
    rw [← ex44] at tx44
    refine lv_goto (tgt := 28) hx hb dX9_here_24 (by decide) ?_
    exact W.iret (v := x44) hx hb hr (fun t ht hW => ⟨x44, rfl, ⟨by rw [zhv_of hs1 rfl rfl hs41, if_pos (by omega), ex44, ey43], Or.inr (by rw [zhv_of hs1 rfl rfl hs41, if_pos (by omega), ← ey43, ← ex44]; omega)⟩, ht⟩) (fun q hq => by cases hq) dX9_here_28
