set_option maxHeartbeats 4000000 in
set_option maxRecDepth 100000 in
theorem k_X9_notes (l : Launch) (g : zG) (sz : Nat) (ad : Nat → Nat) (me : Int32) (ct : Nat → va_E) (op0 : Int32) (v : Int32) (hl_op0 : 0 ≤ op0.toInt ∧ op0.toInt ≤ 14) (hl_v : 0 ≤ v.toInt ∧ v.toInt ≤ 99999) (hI : IR g ad me ct) (hc : zfi 21 (ct 0) < 120) : Met l yX9_notes (zW yX9_notes cX9_notes 3 none) ({ frames := 0, cells := 0, slots := 0, locals := 0 }) (va_Pc [.ref (ad 0), .int op0, .int v] (zA g (zw 32 ad ct) sz)) (va_Qv (fun (_ : Unit) => True) (fun _ t => ∃ ct2 : Nat → va_E, zP g (zw 32 ad ct2) t.heap ∧ va_D (va_A (zw 32 ad ct) sz) (zw 32 ad ct2) ∧ IR g ad me ct2 ∧ (zfi 17 (ct2 0) = zfi 17 (ct 0)) ∧ (zfi 18 (ct2 0) = zfi 18 (ct 0)) ∧ (zfi 22 (ct2 0) = zfi 22 (ct 0)) ∧ (zfi 21 (ct2 0) = zfi 21 (ct 0) + 1) ∧ (wr (ct 12) (ct2 12) (zfi 21 (ct 0)) (1048576 * op0.toInt + v.toInt)) ∧ (ct2 13 = ct 13)) (va_A (zw 32 ad ct) sz)) 0 0 (va_A (zw 32 ad ct) sz) := by
  refine Met.ofW (cc := cX9_notes) (maxL := 3) (ret := none) (by decide) rfl ?_
  intro p e s m args below meth c s₁ B hml hv
  obtain ⟨rfl, hsz, hP, hK, hD0, hN⟩ := hv
  have hx := B.exec
  have hb := B.bytes
  have hr := B.returns
  have hg := zW.law (atoms_spec (ws := (zW yX9_notes cX9_notes 3 none)) B.pre)
  have hown : s.vm.findClass RX9 = some m.cls := findClass_of_methodNamed B.named
  have hlocks := B.notSynchronized
  have hpe0 := hI.1.1
  subst hsz
  have hD := hD0.self (sz := s.heap.size)
  generalize hAe : va_A (zw 32 ad ct) s.heap.size = A at hD ⊢
  have hA : ∀ q : Nat, s.heap.size ≤ q → A q := fun q h => by rw [← hAe]; exact Or.inr h
  have hS : va_S A s.heap s.heap [] := va_S.rf
  have hl := lv_entry ([.ref (ad 0), .int op0, .int v]) (n := 3) (Nat.le_of_ble_eq_true rfl)
  rw [lg_entry_eq]
  generalize (lg_sl ([.ref (ad 0), .int op0, .int v]) ++ List.replicate (3 - (lg_sl ([.ref (ad 0), .int op0, .int v])).length) Slot.unset).toArray = ls at hl ⊢
  have hl : lv_has ls 3 [(0, .ref (ad 0)), (1, .int op0), (2, .int v)] := hl
  have hc13 : ct 13 = ct 13 := rfl
  obtain ⟨bks2, lks3, gos4, shn5, tpd6, pl07, ln08, flt9, opn10, cmy11, wtg12, nm013, mst14, sus15, cut16, h17, h18, h19, h20, h21, h22, h23, h24, h25, h26, h27, h28, h29, h30, h31, h32, h33, h34, h35, h36, hs1⟩ := a9_0 hI.1
  have z17_hs1 : zfi 17 (ct 0) = pl07.toInt := by rw [hs1]; rfl
  have z18_hs1 : zfi 18 (ct 0) = ln08.toInt := by rw [hs1]; rfl
  have z21_hs1 : zfi 21 (ct 0) = cmy11.toInt := by rw [hs1]; rfl
  have z22_hs1 : zfi 22 (ct 0) = wtg12.toInt := by rw [hs1]; rfl
  obtain ⟨f38, hs37⟩ := a9_12 hI.1
  obtain ⟨f40, hs39⟩ := a9_13 hI.1
  refine lv_aload_n hx hb dX9_notes_0 rfl (lv_at hl 0 rfl) ?_
  refine va_get (D := g.1) (ci := 9) (v := .ref (ad 12)) (C := RX9) (T := TX9) (N := 47) hx hb hg inG9 hown hK hP 0 (zw_at (by omega) hs1) rfl 24 (by decide) (hg _ mm_982) (fun _ h9 => h9) rfl dX9_notes_1 ?_
  refine lv_aload_n hx hb dX9_notes_4 rfl (lv_at hl 0 rfl) ?_
  refine va_get (D := g.1) (ci := 9) (v := .int cmy11) (C := RX9) (T := TX9) (N := 47) hx hb hg inG9 hown hK hP 0 (zw_at (by omega) hs1) rfl 21 (by decide) (hg _ mm_979) (fun _ h9 => h9) rfl dX9_notes_5 ?_
  refine lv_ldc hx hb hown (hg _ mm_1227) dX9_notes_8 ?_
  refine lv_iload_n hx hb dX9_notes_10 rfl (lv_at hl 1 rfl) ?_
  refine lv_imul hx hb dX9_notes_11 ?_
  refine lv_topi (fun x41 ex41 => ?_)
  have tx41 : x41.toInt = 1048576 * op0.toInt := by rw [ex41]; exact z_mul (by decide : (1048576 : Int32).toInt = 1048576) rfl (by omega) (by omega)
  refine lv_iload_n hx hb dX9_notes_12 rfl (lv_at hl 2 rfl) ?_
  refine lv_iadd hx hb dX9_notes_13 ?_
  refine lv_topi (fun x42 ex42 => ?_)
  have tx42 : x42.toInt = x41.toInt + v.toInt := by rw [ex42]; exact z_add rfl rfl (by omega) (by omega)
  refine va_iast hx hb hK hP hD hS 12 0 (zw_at (by omega) hs37) rfl (z_in rfl (by omega) (by omega)) dX9_notes_14 (fun H locs hP hD hS => ?_)
  have hP : zP g ((zw 32 ad ct).set 12 (ad 12, .inl (g.2 0, 120, .inl (upd f38 (Int32.toNatClampNeg cmy11) x42)))) H := hP
  have hD : va_D A ((zw 32 ad ct).set 12 (ad 12, .inl (g.2 0, 120, .inl (upd f38 (Int32.toNatClampNeg cmy11) x42)))) := hD
  rw [zw_set (by omega)] at hP hD
  obtain ⟨ct44, ec45⟩ : ∃ z : Nat → va_E, z = va_up ct 12 (.inl (g.2 0, 120, .inl (upd f38 (Int32.toNatClampNeg cmy11) x42))) := ⟨_, rfl⟩
  rw [← ec45] at hP hD
  have hI : IR g ad me ct44 := by rw [ec45]; exact upR hI (by decide) (i9_12 ⟨_, rfl⟩)
  have hc13 : ct44 13 = ct 13 := by rw [ec45]; exact (va_up_ne _ _ (by omega)).trans hc13
  have hs46 : ct44 0 = .inr (9, [.int me, .ref (ad 1), .ref (ad 2), .ref (ad 3), .ref (ad 4), .int bks2, .int lks3, .int gos4, .int shn5, .ref (ad 5), .ref (ad 6), .ref (ad 7), .ref (ad 8), .ref (ad 9), .ref (ad 10), .ref (ad 11), .int tpd6, .int pl07, .int ln08, .int flt9, .int opn10, .int cmy11, .int wtg12, .int nm013, .ref (ad 12), .ref (ad 13), .ref (ad 14), .ref (ad 15), .ref (ad 16), .ref (ad 17), .ref (ad 18), .ref (ad 19), .ref (ad 20), .ref (ad 21), .ref (ad 22), .ref (ad 23), .ref (ad 24), .ref (ad 25), .ref (ad 26), .ref (ad 27), .int mst14, .int sus15, .ref (ad 28), .ref (ad 29), .ref (ad 30), .ref (ad 31), .int cut16]) := by rw [ec45, va_up_ne _ _ (by omega)]; exact hs1
  have hs47 : ct44 13 = .inl (g.2 0, 120, .inl f40) := by rw [ec45, va_up_ne _ _ (by omega)]; exact hs39
  have hs48 : ct44 12 = .inl (g.2 0, 120, .inl (upd f38 (Int32.toNatClampNeg cmy11) x42)) := by rw [ec45]; exact va_up_self _ _ _
  have z17_hs46 : zfi 17 (ct44 0) = (pl07 : Int32).toInt := by rw [hs46]; rfl
  have z18_hs46 : zfi 18 (ct44 0) = (ln08 : Int32).toInt := by rw [hs46]; rfl
  have z21_hs46 : zfi 21 (ct44 0) = (cmy11 : Int32).toInt := by rw [hs46]; rfl
  have z22_hs46 : zfi 22 (ct44 0) = (wtg12 : Int32).toInt := by rw [hs46]; rfl
  refine lv_aload_n hx hb dX9_notes_15 rfl (lv_at hl 0 rfl) ?_
  refine lv_aload_n hx hb dX9_notes_16 rfl (lv_at hl 0 rfl) ?_
  refine va_get (D := g.1) (ci := 9) (v := .int cmy11) (C := RX9) (T := TX9) (N := 47) hx hb hg inG9 hown hK hP 0 (zw_at (by omega) hs46) rfl 21 (by decide) (hg _ mm_979) (fun _ h9 => h9) rfl dX9_notes_17 ?_
  refine lv_iconst (v := 1) hx hb dX9_notes_20 (by decide) ?_
  refine lv_iadd hx hb dX9_notes_21 ?_
  refine lv_topi (fun x49 ex49 => ?_)
  have tx49 : x49.toInt = cmy11.toInt + 1 := by rw [ex49]; exact z_add rfl (by decide : (1 : Int32).toInt = 1) (by omega) (by omega)
  refine va_put (D := g.1) (ci := 9) (v := .int x49) (ty := .int) (C := RX9) (T := TX9) (N := 47) hx hb hg inG9 tyX9 tyX9_ok nmX9 hown hK hP hD hS 0 (zw_at (by omega) hs46) rfl 21 (by decide) (hg _ mm_979) (fun _ h9 => h9) rfl (by decide +kernel) rfl rfl (Nat.le_of_ble_eq_true rfl) dX9_notes_22 (fun H locs hP hD hS => ?_)
  have hP : zP g ((zw 32 ad ct44).set 0 (ad 0, .inr (9, [.int me, .ref (ad 1), .ref (ad 2), .ref (ad 3), .ref (ad 4), .int bks2, .int lks3, .int gos4, .int shn5, .ref (ad 5), .ref (ad 6), .ref (ad 7), .ref (ad 8), .ref (ad 9), .ref (ad 10), .ref (ad 11), .int tpd6, .int pl07, .int ln08, .int flt9, .int opn10, .int x49, .int wtg12, .int nm013, .ref (ad 12), .ref (ad 13), .ref (ad 14), .ref (ad 15), .ref (ad 16), .ref (ad 17), .ref (ad 18), .ref (ad 19), .ref (ad 20), .ref (ad 21), .ref (ad 22), .ref (ad 23), .ref (ad 24), .ref (ad 25), .ref (ad 26), .ref (ad 27), .int mst14, .int sus15, .ref (ad 28), .ref (ad 29), .ref (ad 30), .ref (ad 31), .int cut16]))) H := hP
  have hD : va_D A ((zw 32 ad ct44).set 0 (ad 0, .inr (9, [.int me, .ref (ad 1), .ref (ad 2), .ref (ad 3), .ref (ad 4), .int bks2, .int lks3, .int gos4, .int shn5, .ref (ad 5), .ref (ad 6), .ref (ad 7), .ref (ad 8), .ref (ad 9), .ref (ad 10), .ref (ad 11), .int tpd6, .int pl07, .int ln08, .int flt9, .int opn10, .int x49, .int wtg12, .int nm013, .ref (ad 12), .ref (ad 13), .ref (ad 14), .ref (ad 15), .ref (ad 16), .ref (ad 17), .ref (ad 18), .ref (ad 19), .ref (ad 20), .ref (ad 21), .ref (ad 22), .ref (ad 23), .ref (ad 24), .ref (ad 25), .ref (ad 26), .ref (ad 27), .int mst14, .int sus15, .ref (ad 28), .ref (ad 29), .ref (ad 30), .ref (ad 31), .int cut16]))) := hD
  rw [zw_set (by omega)] at hP hD
  obtain ⟨ct50, ec51⟩ : ∃ z : Nat → va_E, z = va_up ct44 0 (.inr (9, [.int me, .ref (ad 1), .ref (ad 2), .ref (ad 3), .ref (ad 4), .int bks2, .int lks3, .int gos4, .int shn5, .ref (ad 5), .ref (ad 6), .ref (ad 7), .ref (ad 8), .ref (ad 9), .ref (ad 10), .ref (ad 11), .int tpd6, .int pl07, .int ln08, .int flt9, .int opn10, .int x49, .int wtg12, .int nm013, .ref (ad 12), .ref (ad 13), .ref (ad 14), .ref (ad 15), .ref (ad 16), .ref (ad 17), .ref (ad 18), .ref (ad 19), .ref (ad 20), .ref (ad 21), .ref (ad 22), .ref (ad 23), .ref (ad 24), .ref (ad 25), .ref (ad 26), .ref (ad 27), .int mst14, .int sus15, .ref (ad 28), .ref (ad 29), .ref (ad 30), .ref (ad 31), .int cut16])) := ⟨_, rfl⟩
  rw [← ec51] at hP hD
  have hI : IR g ad me ct50 := by rw [ec51]; exact upR hI (by decide) (i9_0 ⟨(bks2 : Int32), (lks3 : Int32), (gos4 : Int32), (shn5 : Int32), (tpd6 : Int32), (pl07 : Int32), (ln08 : Int32), (flt9 : Int32), (opn10 : Int32), (x49 : Int32), (wtg12 : Int32), (nm013 : Int32), (mst14 : Int32), (sus15 : Int32), (cut16 : Int32), (by first | omega | decide), (by first | omega | decide), (by first | omega | decide), (by first | omega | decide), (by first | omega | decide), (by first | omega | decide), (by first | omega | decide), (by first | omega | decide), (by first | omega | decide), (by first | omega | decide), (by first | omega | decide), (by first | omega | decide), (by first | omega | decide), (by first | omega | decide), (by first | omega | decide), (by first | omega | decide), (by first | omega | decide), (by first | omega | decide), (by first | omega | decide), (by first | omega | decide), rfl⟩)
  have hc13 : ct50 13 = ct 13 := by rw [ec51]; exact (va_up_ne _ _ (by omega)).trans hc13
  have hs52 : ct50 13 = .inl (g.2 0, 120, .inl f40) := by rw [ec51, va_up_ne _ _ (by omega)]; exact hs47
  have hs53 : ct50 12 = .inl (g.2 0, 120, .inl (upd f38 (Int32.toNatClampNeg cmy11) x42)) := by rw [ec51, va_up_ne _ _ (by omega)]; exact hs48
  have hs54 : ct50 0 = .inr (9, [.int me, .ref (ad 1), .ref (ad 2), .ref (ad 3), .ref (ad 4), .int bks2, .int lks3, .int gos4, .int shn5, .ref (ad 5), .ref (ad 6), .ref (ad 7), .ref (ad 8), .ref (ad 9), .ref (ad 10), .ref (ad 11), .int tpd6, .int pl07, .int ln08, .int flt9, .int opn10, .int x49, .int wtg12, .int nm013, .ref (ad 12), .ref (ad 13), .ref (ad 14), .ref (ad 15), .ref (ad 16), .ref (ad 17), .ref (ad 18), .ref (ad 19), .ref (ad 20), .ref (ad 21), .ref (ad 22), .ref (ad 23), .ref (ad 24), .ref (ad 25), .ref (ad 26), .ref (ad 27), .int mst14, .int sus15, .ref (ad 28), .ref (ad 29), .ref (ad 30), .ref (ad 31), .int cut16]) := by rw [ec51]; exact va_up_self _ _ _
  have z17_hs54 : zfi 17 (ct50 0) = (pl07 : Int32).toInt := by rw [hs54]; rfl
  have z18_hs54 : zfi 18 (ct50 0) = (ln08 : Int32).toInt := by rw [hs54]; rfl
  have z21_hs54 : zfi 21 (ct50 0) = (x49 : Int32).toInt := by rw [hs54]; rfl
  have z22_hs54 : zfi 22 (ct50 0) = (wtg12 : Int32).toInt := by rw [hs54]; rfl
  exact W.vret hx hb hr (fun t ht hW => ⟨⟨(), rfl, trivial, ct50, by rw [ht]; exact hP, hD, hI, (by first | assumption | omega), (by first | assumption | omega), (by first | assumption | omega), (by first | assumption | omega), (wr_id hs37 hs53 (by omega) (by omega) (by omega)), (by first | assumption | omega)⟩, hS.F ht⟩) hS.2.2 dX9_notes_25
