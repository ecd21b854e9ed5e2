set_option maxHeartbeats 4000000 in
set_option maxRecDepth 100000 in
theorem k_X9_opens (l : Launch) (g : zG) (sz : Nat) (ad : Nat → Nat) (me : Int32) (ct : Nat → va_E) (wa : Int32) (hl_wa : 0 ≤ wa.toInt ∧ wa.toInt ≤ 14) (hI : IR g ad me ct) (hc : zfi 22 (ct 0) < 120) (hd : zfi 17 (ct 0) < 200) : Met l yX9_opens (zW yX9_opens cX9_opens 2 (some .boolean)) ({ frames := 1, cells := 0, slots := 0, locals := 22 }) (va_Pc [.ref (ad 0), .int wa] (zA g (zw 32 ad ct) sz)) (va_Qi (fun (r : Int32) (u : Int32) => (r = 1 ∧ (u = 1)) ∨ (r = 0 ∧ (u = 0))) (fun (u : Int32) t => ∃ ct2 : Nat → va_E, zP g (zw 32 ad ct2) t.heap ∧ va_D (va_A (zw 32 ad ct) sz) (zw 32 ad ct2) ∧ IR g ad me ct2 ∧ (zfi 18 (ct2 0) = zfi 18 (ct 0)) ∧ (zfi 21 (ct2 0) = zfi 21 (ct 0)) ∧ (u = 1 → zfi 17 (ct2 0) = zfi 17 (ct 0) + 1) ∧ (u = 1 → zfi 22 (ct2 0) = zfi 22 (ct 0) + 1) ∧ (u = 1 → wr (ct 13) (ct2 13) (zfi 22 (ct 0)) (1048576 * wa.toInt)) ∧ (ct2 12 = ct 12)) (va_A (zw 32 ad ct) sz)) 0 0 (va_A (zw 32 ad ct) sz) := by
  refine Met.ofW (cc := cX9_opens) (maxL := 2) (ret := (some .boolean)) (by decide) rfl ?_
  intro p e s m args below meth c s₁ B hml hv
  obtain ⟨rfl, hsz, hP, hK, hD0, hN⟩ := hv
  have hx := B.exec
  have hb := B.bytes
  have hr := B.returns
  have hg := zW.law (atoms_spec (ws := (zW yX9_opens cX9_opens 2 (some .boolean))) B.pre)
  have hown : s.vm.findClass RX9 = some m.cls := findClass_of_methodNamed B.named
  have hlocks := B.notSynchronized
  have hpe0 := hI.1.1
  subst hsz
  have hD := hD0.self (sz := s.heap.size)
  generalize hAe : va_A (zw 32 ad ct) s.heap.size = A at hD ⊢
  have hA : ∀ q : Nat, s.heap.size ≤ q → A q := fun q h => by rw [← hAe]; exact Or.inr h
  have hS : va_S A s.heap s.heap [] := va_S.rf
  have hl := lv_entry ([.ref (ad 0), .int wa]) (n := 2) (Nat.le_of_ble_eq_true rfl)
  rw [lg_entry_eq]
  generalize (lg_sl ([.ref (ad 0), .int wa]) ++ List.replicate (2 - (lg_sl ([.ref (ad 0), .int wa])).length) Slot.unset).toArray = ls at hl ⊢
  have hl : lv_has ls 2 [(0, .ref (ad 0)), (1, .int wa)] := hl
  have hc12 : ct 12 = ct 12 := rfl
  obtain ⟨bks2, lks3, gos4, shn5, tpd6, pl07, ln08, flt9, opn10, cmy11, wtg12, nm013, mst14, sus15, cut16, h17, h18, h19, h20, h21, h22, h23, h24, h25, h26, h27, h28, h29, h30, h31, h32, h33, h34, h35, h36, hs1⟩ := a9_0 hI.1
  have z17_hs1 : zfi 17 (ct 0) = pl07.toInt := by rw [hs1]; rfl
  have z18_hs1 : zfi 18 (ct 0) = ln08.toInt := by rw [hs1]; rfl
  have z21_hs1 : zfi 21 (ct 0) = cmy11.toInt := by rw [hs1]; rfl
  have z22_hs1 : zfi 22 (ct 0) = wtg12.toInt := by rw [hs1]; rfl
  obtain ⟨f38, hs37⟩ := a9_12 hI.1
  obtain ⟨f40, hs39⟩ := a9_13 hI.1
  refine lv_aload_n hx hb dX9_opens_0 rfl (lv_at hl 0 rfl) ?_
  refine va_get (D := g.1) (ci := 9) (v := .int opn10) (C := RX9) (T := TX9) (N := 47) hx hb hg inG9 hown hK hP 0 (zw_at (by omega) hs1) rfl 20 (by decide) (hg _ mm_978) (fun _ h9 => h9) rfl dX9_opens_1 ?_
  refine lv_bipush (v := 6) hx hb dX9_opens_4 (by decide) ?_
  refine lv_icmp_ne (tgt := 19) hx hb dX9_opens_6 (by decide) (fun c41 => ?_) (fun c41 => ?_)
  · skip
    have c41 : ¬ (opn10.toInt = 6) := fun q => c41 ((z_eq rfl (by decide : (6 : Int32).toInt = 6)).mpr q)
    refine lv_aload_n hx hb dX9_opens_19 rfl (lv_at hl 0 rfl) ?_
    refine lv_aload_n hx hb dX9_opens_20 rfl (lv_at hl 0 rfl) ?_
    refine va_get (D := g.1) (ci := 9) (v := .int opn10) (C := RX9) (T := TX9) (N := 47) hx hb hg inG9 hown hK hP 0 (zw_at (by omega) hs1) rfl 20 (by decide) (hg _ mm_978) (fun _ h9 => h9) rfl dX9_opens_21 ?_
    refine lv_iconst (v := 1) hx hb dX9_opens_24 (by decide) ?_
    refine lv_iadd hx hb dX9_opens_25 ?_
    refine lv_topi (fun x42 ex42 => ?_)
    refine va_put (D := g.1) (ci := 9) (v := .int x42) (ty := .int) (C := RX9) (T := TX9) (N := 47) hx hb hg inG9 tyX9 tyX9_ok nmX9 hown hK hP hD hS 0 (zw_at (by omega) hs1) rfl 20 (by decide) (hg _ mm_978) (fun _ h9 => h9) rfl (by decide +kernel) rfl rfl (Nat.le_of_ble_eq_true rfl) dX9_opens_26 (fun H locs hP hD hS => ?_)
    have hP : zP g ((zw 32 ad ct).set 0 (ad 0, .inr (9, [.int me, .ref (ad 1), .ref (ad 2), .ref (ad 3), .ref (ad 4), .int bks2, .int lks3, .int gos4, .int shn5, .ref (ad 5), .ref (ad 6), .ref (ad 7), .ref (ad 8), .ref (ad 9), .ref (ad 10), .ref (ad 11), .int tpd6, .int pl07, .int ln08, .int flt9, .int x42, .int cmy11, .int wtg12, .int nm013, .ref (ad 12), .ref (ad 13), .ref (ad 14), .ref (ad 15), .ref (ad 16), .ref (ad 17), .ref (ad 18), .ref (ad 19), .ref (ad 20), .ref (ad 21), .ref (ad 22), .ref (ad 23), .ref (ad 24), .ref (ad 25), .ref (ad 26), .ref (ad 27), .int mst14, .int sus15, .ref (ad 28), .ref (ad 29), .ref (ad 30), .ref (ad 31), .int cut16]))) H := hP
    have hD : va_D A ((zw 32 ad ct).set 0 (ad 0, .inr (9, [.int me, .ref (ad 1), .ref (ad 2), .ref (ad 3), .ref (ad 4), .int bks2, .int lks3, .int gos4, .int shn5, .ref (ad 5), .ref (ad 6), .ref (ad 7), .ref (ad 8), .ref (ad 9), .ref (ad 10), .ref (ad 11), .int tpd6, .int pl07, .int ln08, .int flt9, .int x42, .int cmy11, .int wtg12, .int nm013, .ref (ad 12), .ref (ad 13), .ref (ad 14), .ref (ad 15), .ref (ad 16), .ref (ad 17), .ref (ad 18), .ref (ad 19), .ref (ad 20), .ref (ad 21), .ref (ad 22), .ref (ad 23), .ref (ad 24), .ref (ad 25), .ref (ad 26), .ref (ad 27), .int mst14, .int sus15, .ref (ad 28), .ref (ad 29), .ref (ad 30), .ref (ad 31), .int cut16]))) := hD
    rw [zw_set (by omega)] at hP hD
    obtain ⟨ct43, ec44⟩ : ∃ z : Nat → va_E, z = va_up ct 0 (.inr (9, [.int me, .ref (ad 1), .ref (ad 2), .ref (ad 3), .ref (ad 4), .int bks2, .int lks3, .int gos4, .int shn5, .ref (ad 5), .ref (ad 6), .ref (ad 7), .ref (ad 8), .ref (ad 9), .ref (ad 10), .ref (ad 11), .int tpd6, .int pl07, .int ln08, .int flt9, .int x42, .int cmy11, .int wtg12, .int nm013, .ref (ad 12), .ref (ad 13), .ref (ad 14), .ref (ad 15), .ref (ad 16), .ref (ad 17), .ref (ad 18), .ref (ad 19), .ref (ad 20), .ref (ad 21), .ref (ad 22), .ref (ad 23), .ref (ad 24), .ref (ad 25), .ref (ad 26), .ref (ad 27), .int mst14, .int sus15, .ref (ad 28), .ref (ad 29), .ref (ad 30), .ref (ad 31), .int cut16])) := ⟨_, rfl⟩
    rw [← ec44] at hP hD
    have hI : IR g ad me ct43 := by rw [ec44]; exact upR hI (by decide) (i9_0 ⟨(bks2 : Int32), (lks3 : Int32), (gos4 : Int32), (shn5 : Int32), (tpd6 : Int32), (pl07 : Int32), (ln08 : Int32), (flt9 : Int32), (x42 : Int32), (cmy11 : Int32), (wtg12 : Int32), (nm013 : Int32), (mst14 : Int32), (sus15 : Int32), (cut16 : Int32), (by first | omega | decide), (by first | omega | decide), (by first | omega | decide), (by first | omega | decide), (by first | omega | decide), (by first | omega | decide), (by first | omega | decide), (by first | omega | decide), (by first | omega | decide), (by first | omega | decide), (by first | omega | decide), (by first | omega | decide), (by first | omega | decide), (by first | omega | decide), (by first | omega | decide), (by first | omega | decide), (by first | omega | decide), (by first | omega | decide), (by first | omega | decide), (by first | omega | decide), rfl⟩)
    have hc12 : ct43 12 = ct 12 := by rw [ec44]; exact (va_up_ne _ _ (by omega)).trans hc12
    have hs45 : ct43 12 = .inl (g.2 0, 120, .inl f38) := by rw [ec44, va_up_ne _ _ (by omega)]; exact hs37
    have hs46 : ct43 13 = .inl (g.2 0, 120, .inl f40) := by rw [ec44, va_up_ne _ _ (by omega)]; exact hs39
    have hs47 : ct43 0 = .inr (9, [.int me, .ref (ad 1), .ref (ad 2), .ref (ad 3), .ref (ad 4), .int bks2, .int lks3, .int gos4, .int shn5, .ref (ad 5), .ref (ad 6), .ref (ad 7), .ref (ad 8), .ref (ad 9), .ref (ad 10), .ref (ad 11), .int tpd6, .int pl07, .int ln08, .int flt9, .int x42, .int cmy11, .int wtg12, .int nm013, .ref (ad 12), .ref (ad 13), .ref (ad 14), .ref (ad 15), .ref (ad 16), .ref (ad 17), .ref (ad 18), .ref (ad 19), .ref (ad 20), .ref (ad 21), .ref (ad 22), .ref (ad 23), .ref (ad 24), .ref (ad 25), .ref (ad 26), .ref (ad 27), .int mst14, .int sus15, .ref (ad 28), .ref (ad 29), .ref (ad 30), .ref (ad 31), .int cut16]) := by rw [ec44]; exact va_up_self _ _ _
    have z17_hs47 : zfi 17 (ct43 0) = (pl07 : Int32).toInt := by rw [hs47]; rfl
    have z18_hs47 : zfi 18 (ct43 0) = (ln08 : Int32).toInt := by rw [hs47]; rfl
    have z21_hs47 : zfi 21 (ct43 0) = (cmy11 : Int32).toInt := by rw [hs47]; rfl
    have z22_hs47 : zfi 22 (ct43 0) = (wtg12 : Int32).toInt := by rw [hs47]; rfl
    refine lv_aload_n hx hb dX9_opens_29 rfl (lv_at hl 0 rfl) ?_
    refine va_get (D := g.1) (ci := 9) (v := .ref (ad 13)) (C := RX9) (T := TX9) (N := 47) hx hb hg inG9 hown hK hP 0 (zw_at (by omega) hs47) rfl 25 (by decide) (hg _ mm_983) (fun _ h9 => h9) rfl dX9_opens_30 ?_
    refine lv_aload_n hx hb dX9_opens_33 rfl (lv_at hl 0 rfl) ?_
    refine va_get (D := g.1) (ci := 9) (v := .int wtg12) (C := RX9) (T := TX9) (N := 47) hx hb hg inG9 hown hK hP 0 (zw_at (by omega) hs47) rfl 22 (by decide) (hg _ mm_980) (fun _ h9 => h9) rfl dX9_opens_34 ?_
    refine lv_ldc hx hb hown (hg _ mm_1227) dX9_opens_37 ?_
    refine lv_iload_n hx hb dX9_opens_39 rfl (lv_at hl 1 rfl) ?_
    refine lv_imul hx hb dX9_opens_40 ?_
    refine lv_topi (fun x48 ex48 => ?_)
    have tx48 : x48.toInt = 1048576 * wa.toInt := by rw [ex48]; exact z_mul (by decide : (1048576 : Int32).toInt = 1048576) rfl (by omega) (by omega)
    refine va_iast hx hb hK hP hD hS 13 0 (zw_at (by omega) hs46) rfl (z_in rfl (by omega) (by omega)) dX9_opens_41 (fun H locs hP hD hS => ?_)
    have hP : zP g ((zw 32 ad ct43).set 13 (ad 13, .inl (g.2 0, 120, .inl (upd f40 (Int32.toNatClampNeg wtg12) x48)))) H := hP
    have hD : va_D A ((zw 32 ad ct43).set 13 (ad 13, .inl (g.2 0, 120, .inl (upd f40 (Int32.toNatClampNeg wtg12) x48)))) := hD
    rw [zw_set (by omega)] at hP hD
    obtain ⟨ct50, ec51⟩ : ∃ z : Nat → va_E, z = va_up ct43 13 (.inl (g.2 0, 120, .inl (upd f40 (Int32.toNatClampNeg wtg12) x48))) := ⟨_, rfl⟩
    rw [← ec51] at hP hD
    have hI : IR g ad me ct50 := by rw [ec51]; exact upR hI (by decide) (i9_13 ⟨_, rfl⟩)
    have hc12 : ct50 12 = ct 12 := by rw [ec51]; exact (va_up_ne _ _ (by omega)).trans hc12
    have hs52 : ct50 12 = .inl (g.2 0, 120, .inl f38) := by rw [ec51, va_up_ne _ _ (by omega)]; exact hs45
    have hs53 : ct50 0 = .inr (9, [.int me, .ref (ad 1), .ref (ad 2), .ref (ad 3), .ref (ad 4), .int bks2, .int lks3, .int gos4, .int shn5, .ref (ad 5), .ref (ad 6), .ref (ad 7), .ref (ad 8), .ref (ad 9), .ref (ad 10), .ref (ad 11), .int tpd6, .int pl07, .int ln08, .int flt9, .int x42, .int cmy11, .int wtg12, .int nm013, .ref (ad 12), .ref (ad 13), .ref (ad 14), .ref (ad 15), .ref (ad 16), .ref (ad 17), .ref (ad 18), .ref (ad 19), .ref (ad 20), .ref (ad 21), .ref (ad 22), .ref (ad 23), .ref (ad 24), .ref (ad 25), .ref (ad 26), .ref (ad 27), .int mst14, .int sus15, .ref (ad 28), .ref (ad 29), .ref (ad 30), .ref (ad 31), .int cut16]) := by rw [ec51, va_up_ne _ _ (by omega)]; exact hs47
    have hs54 : ct50 13 = .inl (g.2 0, 120, .inl (upd f40 (Int32.toNatClampNeg wtg12) x48)) := by rw [ec51]; exact va_up_self _ _ _
    have z17_hs53 : zfi 17 (ct50 0) = (pl07 : Int32).toInt := by rw [hs53]; rfl
    have z18_hs53 : zfi 18 (ct50 0) = (ln08 : Int32).toInt := by rw [hs53]; rfl
    have z21_hs53 : zfi 21 (ct50 0) = (cmy11 : Int32).toInt := by rw [hs53]; rfl
    have z22_hs53 : zfi 22 (ct50 0) = (wtg12 : Int32).toInt := by rw [hs53]; rfl
    refine lv_aload_n hx hb dX9_opens_42 rfl (lv_at hl 0 rfl) ?_
    refine lv_aload_n hx hb dX9_opens_43 rfl (lv_at hl 0 rfl) ?_
    refine va_get (D := g.1) (ci := 9) (v := .int wtg12) (C := RX9) (T := TX9) (N := 47) hx hb hg inG9 hown hK hP 0 (zw_at (by omega) hs53) rfl 22 (by decide) (hg _ mm_980) (fun _ h9 => h9) rfl dX9_opens_44 ?_
    refine lv_iconst (v := 1) hx hb dX9_opens_47 (by decide) ?_
    refine lv_iadd hx hb dX9_opens_48 ?_
    refine lv_topi (fun x55 ex55 => ?_)
    have tx55 : x55.toInt = wtg12.toInt + 1 := by rw [ex55]; exact z_add rfl (by decide : (1 : Int32).toInt = 1) (by omega) (by omega)
    refine va_put (D := g.1) (ci := 9) (v := .int x55) (ty := .int) (C := RX9) (T := TX9) (N := 47) hx hb hg inG9 tyX9 tyX9_ok nmX9 hown hK hP hD hS 0 (zw_at (by omega) hs53) rfl 22 (by decide) (hg _ mm_980) (fun _ h9 => h9) rfl (by decide +kernel) rfl rfl (Nat.le_of_ble_eq_true rfl) dX9_opens_49 (fun H locs hP hD hS => ?_)
    have hP : zP g ((zw 32 ad ct50).set 0 (ad 0, .inr (9, [.int me, .ref (ad 1), .ref (ad 2), .ref (ad 3), .ref (ad 4), .int bks2, .int lks3, .int gos4, .int shn5, .ref (ad 5), .ref (ad 6), .ref (ad 7), .ref (ad 8), .ref (ad 9), .ref (ad 10), .ref (ad 11), .int tpd6, .int pl07, .int ln08, .int flt9, .int x42, .int cmy11, .int x55, .int nm013, .ref (ad 12), .ref (ad 13), .ref (ad 14), .ref (ad 15), .ref (ad 16), .ref (ad 17), .ref (ad 18), .ref (ad 19), .ref (ad 20), .ref (ad 21), .ref (ad 22), .ref (ad 23), .ref (ad 24), .ref (ad 25), .ref (ad 26), .ref (ad 27), .int mst14, .int sus15, .ref (ad 28), .ref (ad 29), .ref (ad 30), .ref (ad 31), .int cut16]))) H := hP
    have hD : va_D A ((zw 32 ad ct50).set 0 (ad 0, .inr (9, [.int me, .ref (ad 1), .ref (ad 2), .ref (ad 3), .ref (ad 4), .int bks2, .int lks3, .int gos4, .int shn5, .ref (ad 5), .ref (ad 6), .ref (ad 7), .ref (ad 8), .ref (ad 9), .ref (ad 10), .ref (ad 11), .int tpd6, .int pl07, .int ln08, .int flt9, .int x42, .int cmy11, .int x55, .int nm013, .ref (ad 12), .ref (ad 13), .ref (ad 14), .ref (ad 15), .ref (ad 16), .ref (ad 17), .ref (ad 18), .ref (ad 19), .ref (ad 20), .ref (ad 21), .ref (ad 22), .ref (ad 23), .ref (ad 24), .ref (ad 25), .ref (ad 26), .ref (ad 27), .int mst14, .int sus15, .ref (ad 28), .ref (ad 29), .ref (ad 30), .ref (ad 31), .int cut16]))) := hD
    rw [zw_set (by omega)] at hP hD
    obtain ⟨ct56, ec57⟩ : ∃ z : Nat → va_E, z = va_up ct50 0 (.inr (9, [.int me, .ref (ad 1), .ref (ad 2), .ref (ad 3), .ref (ad 4), .int bks2, .int lks3, .int gos4, .int shn5, .ref (ad 5), .ref (ad 6), .ref (ad 7), .ref (ad 8), .ref (ad 9), .ref (ad 10), .ref (ad 11), .int tpd6, .int pl07, .int ln08, .int flt9, .int x42, .int cmy11, .int x55, .int nm013, .ref (ad 12), .ref (ad 13), .ref (ad 14), .ref (ad 15), .ref (ad 16), .ref (ad 17), .ref (ad 18), .ref (ad 19), .ref (ad 20), .ref (ad 21), .ref (ad 22), .ref (ad 23), .ref (ad 24), .ref (ad 25), .ref (ad 26), .ref (ad 27), .int mst14, .int sus15, .ref (ad 28), .ref (ad 29), .ref (ad 30), .ref (ad 31), .int cut16])) := ⟨_, rfl⟩
    rw [← ec57] at hP hD
    have hI : IR g ad me ct56 := by rw [ec57]; exact upR hI (by decide) (i9_0 ⟨(bks2 : Int32), (lks3 : Int32), (gos4 : Int32), (shn5 : Int32), (tpd6 : Int32), (pl07 : Int32), (ln08 : Int32), (flt9 : Int32), (x42 : Int32), (cmy11 : Int32), (x55 : Int32), (nm013 : Int32), (mst14 : Int32), (sus15 : Int32), (cut16 : Int32), (by first | omega | decide), (by first | omega | decide), (by first | omega | decide), (by first | omega | decide), (by first | omega | decide), (by first | omega | decide), (by first | omega | decide), (by first | omega | decide), (by first | omega | decide), (by first | omega | decide), (by first | omega | decide), (by first | omega | decide), (by first | omega | decide), (by first | omega | decide), (by first | omega | decide), (by first | omega | decide), (by first | omega | decide), (by first | omega | decide), (by first | omega | decide), (by first | omega | decide), rfl⟩)
    have hc12 : ct56 12 = ct 12 := by rw [ec57]; exact (va_up_ne _ _ (by omega)).trans hc12
    have hs58 : ct56 12 = .inl (g.2 0, 120, .inl f38) := by rw [ec57, va_up_ne _ _ (by omega)]; exact hs52
    have hs59 : ct56 13 = .inl (g.2 0, 120, .inl (upd f40 (Int32.toNatClampNeg wtg12) x48)) := by rw [ec57, va_up_ne _ _ (by omega)]; exact hs54
    have hs60 : ct56 0 = .inr (9, [.int me, .ref (ad 1), .ref (ad 2), .ref (ad 3), .ref (ad 4), .int bks2, .int lks3, .int gos4, .int shn5, .ref (ad 5), .ref (ad 6), .ref (ad 7), .ref (ad 8), .ref (ad 9), .ref (ad 10), .ref (ad 11), .int tpd6, .int pl07, .int ln08, .int flt9, .int x42, .int cmy11, .int x55, .int nm013, .ref (ad 12), .ref (ad 13), .ref (ad 14), .ref (ad 15), .ref (ad 16), .ref (ad 17), .ref (ad 18), .ref (ad 19), .ref (ad 20), .ref (ad 21), .ref (ad 22), .ref (ad 23), .ref (ad 24), .ref (ad 25), .ref (ad 26), .ref (ad 27), .int mst14, .int sus15, .ref (ad 28), .ref (ad 29), .ref (ad 30), .ref (ad 31), .int cut16]) := by rw [ec57]; exact va_up_self _ _ _
    have z17_hs60 : zfi 17 (ct56 0) = (pl07 : Int32).toInt := by rw [hs60]; rfl
    have z18_hs60 : zfi 18 (ct56 0) = (ln08 : Int32).toInt := by rw [hs60]; rfl
    have z21_hs60 : zfi 21 (ct56 0) = (cmy11 : Int32).toInt := by rw [hs60]; rfl
    have z22_hs60 : zfi 22 (ct56 0) = (x55 : Int32).toInt := by rw [hs60]; rfl
    refine lv_aload_n hx hb dX9_opens_52 rfl (lv_at hl 0 rfl) ?_
    refine lv_aload_n hx hb dX9_opens_53 rfl (lv_at hl 0 rfl) ?_
    refine va_get (D := g.1) (ci := 9) (v := .int pl07) (C := RX9) (T := TX9) (N := 47) hx hb hg inG9 hown hK hP 0 (zw_at (by omega) hs60) rfl 17 (by decide) (hg _ mm_975) (fun _ h9 => h9) rfl dX9_opens_54 ?_
    refine lv_iconst (v := 1) hx hb dX9_opens_57 (by decide) ?_
    refine lv_iadd hx hb dX9_opens_58 ?_
    refine lv_topi (fun x61 ex61 => ?_)
    have tx61 : x61.toInt = pl07.toInt + 1 := by rw [ex61]; exact z_add rfl (by decide : (1 : Int32).toInt = 1) (by omega) (by omega)
    refine va_put (D := g.1) (ci := 9) (v := .int x61) (ty := .int) (C := RX9) (T := TX9) (N := 47) hx hb hg inG9 tyX9 tyX9_ok nmX9 hown hK hP hD hS 0 (zw_at (by omega) hs60) rfl 17 (by decide) (hg _ mm_975) (fun _ h9 => h9) rfl (by decide +kernel) rfl rfl (Nat.le_of_ble_eq_true rfl) dX9_opens_59 (fun H locs hP hD hS => ?_)
    have hP : zP g ((zw 32 ad ct56).set 0 (ad 0, .inr (9, [.int me, .ref (ad 1), .ref (ad 2), .ref (ad 3), .ref (ad 4), .int bks2, .int lks3, .int gos4, .int shn5, .ref (ad 5), .ref (ad 6), .ref (ad 7), .ref (ad 8), .ref (ad 9), .ref (ad 10), .ref (ad 11), .int tpd6, .int x61, .int ln08, .int flt9, .int x42, .int cmy11, .int x55, .int nm013, .ref (ad 12), .ref (ad 13), .ref (ad 14), .ref (ad 15), .ref (ad 16), .ref (ad 17), .ref (ad 18), .ref (ad 19), .ref (ad 20), .ref (ad 21), .ref (ad 22), .ref (ad 23), .ref (ad 24), .ref (ad 25), .ref (ad 26), .ref (ad 27), .int mst14, .int sus15, .ref (ad 28), .ref (ad 29), .ref (ad 30), .ref (ad 31), .int cut16]))) H := hP
    have hD : va_D A ((zw 32 ad ct56).set 0 (ad 0, .inr (9, [.int me, .ref (ad 1), .ref (ad 2), .ref (ad 3), .ref (ad 4), .int bks2, .int lks3, .int gos4, .int shn5, .ref (ad 5), .ref (ad 6), .ref (ad 7), .ref (ad 8), .ref (ad 9), .ref (ad 10), .ref (ad 11), .int tpd6, .int x61, .int ln08, .int flt9, .int x42, .int cmy11, .int x55, .int nm013, .ref (ad 12), .ref (ad 13), .ref (ad 14), .ref (ad 15), .ref (ad 16), .ref (ad 17), .ref (ad 18), .ref (ad 19), .ref (ad 20), .ref (ad 21), .ref (ad 22), .ref (ad 23), .ref (ad 24), .ref (ad 25), .ref (ad 26), .ref (ad 27), .int mst14, .int sus15, .ref (ad 28), .ref (ad 29), .ref (ad 30), .ref (ad 31), .int cut16]))) := hD
    rw [zw_set (by omega)] at hP hD
    obtain ⟨ct62, ec63⟩ : ∃ z : Nat → va_E, z = va_up ct56 0 (.inr (9, [.int me, .ref (ad 1), .ref (ad 2), .ref (ad 3), .ref (ad 4), .int bks2, .int lks3, .int gos4, .int shn5, .ref (ad 5), .ref (ad 6), .ref (ad 7), .ref (ad 8), .ref (ad 9), .ref (ad 10), .ref (ad 11), .int tpd6, .int x61, .int ln08, .int flt9, .int x42, .int cmy11, .int x55, .int nm013, .ref (ad 12), .ref (ad 13), .ref (ad 14), .ref (ad 15), .ref (ad 16), .ref (ad 17), .ref (ad 18), .ref (ad 19), .ref (ad 20), .ref (ad 21), .ref (ad 22), .ref (ad 23), .ref (ad 24), .ref (ad 25), .ref (ad 26), .ref (ad 27), .int mst14, .int sus15, .ref (ad 28), .ref (ad 29), .ref (ad 30), .ref (ad 31), .int cut16])) := ⟨_, rfl⟩
    rw [← ec63] at hP hD
    have hI : IR g ad me ct62 := by rw [ec63]; exact upR hI (by decide) (i9_0 ⟨(bks2 : Int32), (lks3 : Int32), (gos4 : Int32), (shn5 : Int32), (tpd6 : Int32), (x61 : Int32), (ln08 : Int32), (flt9 : Int32), (x42 : Int32), (cmy11 : Int32), (x55 : Int32), (nm013 : Int32), (mst14 : Int32), (sus15 : Int32), (cut16 : Int32), (by first | omega | decide), (by first | omega | decide), (by first | omega | decide), (by first | omega | decide), (by first | omega | decide), (by first | omega | decide), (by first | omega | decide), (by first | omega | decide), (by first | omega | decide), (by first | omega | decide), (by first | omega | decide), (by first | omega | decide), (by first | omega | decide), (by first | omega | decide), (by first | omega | decide), (by first | omega | decide), (by first | omega | decide), (by first | omega | decide), (by first | omega | decide), (by first | omega | decide), rfl⟩)
    have hc12 : ct62 12 = ct 12 := by rw [ec63]; exact (va_up_ne _ _ (by omega)).trans hc12
    have hs64 : ct62 12 = .inl (g.2 0, 120, .inl f38) := by rw [ec63, va_up_ne _ _ (by omega)]; exact hs58
    have hs65 : ct62 13 = .inl (g.2 0, 120, .inl (upd f40 (Int32.toNatClampNeg wtg12) x48)) := by rw [ec63, va_up_ne _ _ (by omega)]; exact hs59
    have hs66 : ct62 0 = .inr (9, [.int me, .ref (ad 1), .ref (ad 2), .ref (ad 3), .ref (ad 4), .int bks2, .int lks3, .int gos4, .int shn5, .ref (ad 5), .ref (ad 6), .ref (ad 7), .ref (ad 8), .ref (ad 9), .ref (ad 10), .ref (ad 11), .int tpd6, .int x61, .int ln08, .int flt9, .int x42, .int cmy11, .int x55, .int nm013, .ref (ad 12), .ref (ad 13), .ref (ad 14), .ref (ad 15), .ref (ad 16), .ref (ad 17), .ref (ad 18), .ref (ad 19), .ref (ad 20), .ref (ad 21), .ref (ad 22), .ref (ad 23), .ref (ad 24), .ref (ad 25), .ref (ad 26), .ref (ad 27), .int mst14, .int sus15, .ref (ad 28), .ref (ad 29), .ref (ad 30), .ref (ad 31), .int cut16]) := by rw [ec63]; exact va_up_self _ _ _
    have z17_hs66 : zfi 17 (ct62 0) = (x61 : Int32).toInt := by rw [hs66]; rfl
    have z18_hs66 : zfi 18 (ct62 0) = (ln08 : Int32).toInt := by rw [hs66]; rfl
    have z21_hs66 : zfi 21 (ct62 0) = (cmy11 : Int32).toInt := by rw [hs66]; rfl
    have z22_hs66 : zfi 22 (ct62 0) = (x55 : Int32).toInt := by rw [hs66]; rfl
    refine lv_iconst (v := 1) hx hb dX9_opens_62 (by decide) ?_
    have q67 : (1 : Int32).toInt = 1 := by decide
    exact W.zret (v := 1) hx hb hr rfl (fun t ht hW => ⟨⟨1, 1, rfl, by first | exact Or.inl ⟨rfl, rfl⟩ | exact Or.inr ⟨rfl, rfl⟩, ct62, by rw [ht]; exact hP, hD, hI, (by first | assumption | omega), (by first | assumption | omega), (fun _ => by first | assumption | omega), (fun _ => by first | assumption | omega), (fun _ => wr_id hs39 hs65 (by omega) (by omega) (by omega)), (by first | assumption | omega)⟩, hS.F ht⟩) hS.2.2 dX9_opens_63
  · skip
    have c41 : opn10.toInt = 6 := (z_eq rfl (by decide : (6 : Int32).toInt = 6)).mp c41
    refine lv_aload_n hx hb dX9_opens_9 rfl (lv_at hl 0 rfl) ?_
    refine lv_iconst (v := 5) hx hb dX9_opens_10 (by decide) ?_
    refine lv_aload_n hx hb dX9_opens_11 rfl (lv_at hl 0 rfl) ?_
    refine va_get (D := g.1) (ci := 9) (v := .int pl07) (C := RX9) (T := TX9) (N := 47) hx hb hg inG9 hown hK hP 0 (zw_at (by omega) hs1) rfl 17 (by decide) (hg _ mm_975) (fun _ h9 => h9) rfl dX9_opens_12 ?_
    have hFc := zw_free hD hS hA
    refine va_calli (va_runV (As := [.int 5, .int pl07]) (rest := []) ⟨hx, hb, hml, hown, hg⟩ (k_X9_wrongAt l g _ ad me ct (5 : Int32) pl07 hI) (cwV 2 hg (z_gV mm_1223 mm_1225 mm_65 mm_117 mm_1226) rfl rfl rfl (by decide +kernel) ⟨Nat.le_of_ble_eq_true rfl, Nat.le_of_ble_eq_true rfl⟩) ⟨(zA.pre [.ref (ad 0), .int 5, .int pl07] hP hK hD hN).1, va_recv hK hP (ci := 9) (q0 := 0) rfl (zw_at (by omega) hs1), (zA.pre [.ref (ad 0), .int 5, .int pl07] hP hK hD hN).2⟩ rfl rfl hl.1 rfl (lv_room (Nat.le_of_ble_eq_true rfl)) dX9_opens_15 ⟨Nat.le_of_ble_eq_true rfl, Nat.le_of_ble_eq_true rfl⟩) hS (fun q _ h => hFc q h) hFc (fun r68 _ t H1 locs ht hvm hr68 hB hz1 hk1 hS => ?_)
    obtain ⟨ct69, hP1, hD1, hI, hk70, hk71, hk72, hk73, hk74, hk75⟩ := hB
    rw [ht] at hP1
    have hD := hD1.weaken (fun _ _ _ h => hFc _ h)
    generalize H1 = H at hP1 hS ⊢
    have hP := hP1
    refine W.widen (k := 0) (n := 0) (Nat.le_refl _) (Nat.le_refl _) ?_
    have hc12 : ct69 12 = ct 12 := hk74.trans hc12
    have hs76 : ct69 12 = .inl (g.2 0, 120, .inl f38) := hk74.trans hs37
    have hs77 : ct69 13 = .inl (g.2 0, 120, .inl f40) := hk75.trans hs39
    obtain rfl := hr68
    have q78 : (0 : Int32).toInt = 0 := by decide
    exact W.zret (v := 0) hx hb hr rfl (fun t ht hW => ⟨⟨0, 0, rfl, by first | exact Or.inl ⟨rfl, rfl⟩ | exact Or.inr ⟨rfl, rfl⟩, ct69, by rw [ht]; exact hP, hD, hI, (by first | assumption | omega), (by first | assumption | omega), (fun q => absurd q (by decide)), (fun q => absurd q (by decide)), (fun q => absurd q (by decide)), (by first | assumption | omega)⟩, hS.F ht⟩) hS.2.2 dX9_opens_18
