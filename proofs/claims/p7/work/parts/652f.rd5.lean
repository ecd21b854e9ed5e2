set_option maxHeartbeats 4000000 in
set_option maxRecDepth 100000 in
theorem k_X9_top (l : Launch) (g : zG) (ad : Nat → Nat) (me : Int32) (ct : Nat → va_E) (hI : IR g ad me ct) : Met l yX9_top (zW yX9_top cX9_top 1 (some .int)) ({ frames := 0, cells := 0, slots := 0, locals := 0 }) (va_Pc [.ref (ad 0)] (zR g (zw 32 ad ct))) (vp_Si (fun r : Int32 => (((zfi 22 (ct 0) = 0 ∧ r.toInt = -1) ∨ (1 ≤ zfi 22 (ct 0) ∧ zk (ct 13) (zfi 22 (ct 0) - 1) r))))) 0 0 (fun _ => False) := by
  refine Met.ofW (cc := cX9_top) (maxL := 1) (ret := (some .int)) (by decide) rfl ?_
  intro p e s m args below meth c s₁ B hml hv
  obtain ⟨rfl, hP, hK, hN⟩ := hv
  have hx := B.exec
  have hb := B.bytes
  have hr := B.returns
  have hg := zW.law (atoms_spec (ws := (zW yX9_top cX9_top 1 (some .int))) B.pre)
  have hown : s.vm.findClass RX9 = some m.cls := findClass_of_methodNamed B.named
  have hlocks := B.notSynchronized
  have hpe0 := hI.1.1
  have hl := lv_entry ([.ref (ad 0)]) (n := 1) (Nat.le_of_ble_eq_true rfl)
  rw [lg_entry_eq]
  generalize (lg_sl ([.ref (ad 0)]) ++ List.replicate (1 - (lg_sl ([.ref (ad 0)])).length) Slot.unset).toArray = ls at hl ⊢
  have hl : lv_has ls 1 [(0, .ref (ad 0))] := hl
  refine lv_aload_n hx hb dX9_top_0 rfl (lv_at hl 0 rfl) ?_
  obtain ⟨bks2, lks3, gos4, shn5, tpd6, pl07, ln08, flt9, opn10, cmy11, wtg12, nm013, mst14, sus15, cut16, h17, h18, h19, h20, h21, h22, h23, h24, h25, h26, h27, h28, h29, h30, h31, h32, h33, h34, h35, h36, hs1⟩ := a9_0 hI.1
  have z22_hs1 : zfi 22 (ct 0) = wtg12.toInt := by rw [hs1]; rfl
  refine va_get (D := g.1) (ci := 9) (v := .int wtg12) (C := RX9) (T := TX9) (N := 47) hx hb hg inG9 hown hK hP 0 (zw_at (by omega) hs1) rfl 22 (by decide) (hg _ mm_980) (fun _ h9 => h9) rfl dX9_top_1 ?_
  refine lv_if_ne (tgt := 11) hx hb dX9_top_4 (by decide) (fun c37 => ?_) (fun c37 => ?_)
  · skip
    have c37 : ¬ (wtg12.toInt = 0) := fun q => c37 ((z_eq rfl (by decide : (0 : Int32).toInt = 0)).mpr q)
    refine lv_aload_n hx hb dX9_top_11 rfl (lv_at hl 0 rfl) ?_
    refine va_get (D := g.1) (ci := 9) (v := .ref (ad 13)) (C := RX9) (T := TX9) (N := 47) hx hb hg inG9 hown hK hP 0 (zw_at (by omega) hs1) rfl 25 (by decide) (hg _ mm_983) (fun _ h9 => h9) rfl dX9_top_12 ?_
    refine lv_aload_n hx hb dX9_top_15 rfl (lv_at hl 0 rfl) ?_
    refine va_get (D := g.1) (ci := 9) (v := .int wtg12) (C := RX9) (T := TX9) (N := 47) hx hb hg inG9 hown hK hP 0 (zw_at (by omega) hs1) rfl 22 (by decide) (hg _ mm_980) (fun _ h9 => h9) rfl dX9_top_16 ?_
    refine lv_iconst (v := 1) hx hb dX9_top_19 (by decide) ?_
    refine lv_isub hx hb dX9_top_20 ?_
    refine lv_topi (fun x38 ex38 => ?_)
    have tx38 : x38.toInt = wtg12.toInt - 1 := by rw [ex38]; exact z_sub rfl (by decide : (1 : Int32).toInt = 1) (by omega) (by omega)
    obtain ⟨f40, hs39⟩ := a9_13 hI.1
    refine va_iald hx hb hK hP 13 0 (zw_at (by omega) hs39) rfl (z_in rfl (by omega) (by omega)) dX9_top_21 ?_
    refine lv_topi (fun y41 ey41 => ?_)
    refine lv_ldc hx hb hown (hg _ mm_1227) dX9_top_22 ?_
    refine lv_idiv hx hb dX9_top_24 (by decide) ?_
    refine lv_topi (fun x42 ex42 => ?_)
    exact W.iret (v := x42) hx hb hr (fun t ht hW => ⟨x42, rfl, Or.inr ⟨by omega, zk_of hs39 (by omega) (by omega) ey41 ex42⟩, ht⟩) (fun q hq => by cases hq) dX9_top_25
  · skip
    have c37 : wtg12.toInt = 0 := (z_eq rfl (by decide : (0 : Int32).toInt = 0)).mp c37
    refine lv_iconst (v := (-1)) hx hb dX9_top_7 (by decide) ?_
    refine lv_goto (tgt := 25) hx hb dX9_top_8 (by decide) ?_
    have q43 : ((-1) : Int32).toInt = -1 := by decide
    exact W.iret (v := (-1)) hx hb hr (fun t ht hW => ⟨(-1), rfl, Or.inl ⟨by omega, by decide⟩, ht⟩) (fun q hq => by cases hq) dX9_top_25
