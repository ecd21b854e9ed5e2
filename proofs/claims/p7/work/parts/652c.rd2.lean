set_option maxHeartbeats 4000000 in
set_option maxRecDepth 100000 in
theorem k_X9_wrongAt (l : Launch) (g : zG) (sz : Nat) (ad : Nat → Nat) (me : Int32) (ct : Nat → va_E) (wa : Int32) (wh : Int32) (hI : IR g ad me ct) : Met l yX9_wrongAt (zW yX9_wrongAt cX9_wrongAt 3 (some .boolean)) ({ frames := 0, cells := 0, slots := 0, locals := 0 }) (va_Pc [.ref (ad 0), .int wa, .int wh] (zA g (zw 32 ad ct) sz)) (va_Qi (fun (r : Int32) (_ : Unit) => (r = 0)) (fun _ t => ∃ ct2 : Nat → va_E, zP g (zw 32 ad ct2) t.heap ∧ va_D (va_A (zw 32 ad ct) sz) (zw 32 ad ct2) ∧ IR g ad me ct2 ∧ (zfi 17 (ct2 0) = zfi 17 (ct 0)) ∧ (zfi 18 (ct2 0) = zfi 18 (ct 0)) ∧ (zfi 21 (ct2 0) = zfi 21 (ct 0)) ∧ (zfi 22 (ct2 0) = zfi 22 (ct 0)) ∧ (ct2 12 = ct 12) ∧ (ct2 13 = ct 13)) (va_A (zw 32 ad ct) sz)) 0 0 (va_A (zw 32 ad ct) sz) := by
  refine Met.ofW (cc := cX9_wrongAt) (maxL := 3) (ret := (some .boolean)) (by decide) rfl ?_
  intro p e s m args below meth c s₁ B hml hv
  obtain ⟨rfl, hsz, hP, hK, hD0, hN⟩ := hv
  have hx := B.exec
  have hb := B.bytes
  have hr := B.returns
  have hg := zW.law (atoms_spec (ws := (zW yX9_wrongAt cX9_wrongAt 3 (some .boolean))) B.pre)
  have hown : s.vm.findClass RX9 = some m.cls := findClass_of_methodNamed B.named
  have hlocks := B.notSynchronized
  have hpe0 := hI.1.1
  subst hsz
  have hD := hD0.self (sz := s.heap.size)
  generalize hAe : va_A (zw 32 ad ct) s.heap.size = A at hD ⊢
  have hA : ∀ q : Nat, s.heap.size ≤ q → A q := fun q h => by rw [← hAe]; exact Or.inr h
  have hS : va_S A s.heap s.heap [] := va_S.rf
  have hl := lv_entry ([.ref (ad 0), .int wa, .int wh]) (n := 3) (Nat.le_of_ble_eq_true rfl)
  rw [lg_entry_eq]
  generalize (lg_sl ([.ref (ad 0), .int wa, .int wh]) ++ List.replicate (3 - (lg_sl ([.ref (ad 0), .int wa, .int wh])).length) Slot.unset).toArray = ls at hl ⊢
  have hl : lv_has ls 3 [(0, .ref (ad 0)), (1, .int wa), (2, .int wh)] := hl
  have hc12 : ct 12 = ct 12 := rfl
  have hc13 : ct 13 = ct 13 := rfl
  have rg_wa := z_rng wa
  have rg_wh := z_rng wh
  refine lv_aload_n hx hb dX9_wrongAt_0 rfl (lv_at hl 0 rfl) ?_
  refine lv_sipush (v := (-1000)) hx hb dX9_wrongAt_1 (by decide) ?_
  refine lv_iload_n hx hb dX9_wrongAt_4 rfl (lv_at hl 1 rfl) ?_
  refine lv_imul hx hb dX9_wrongAt_5 ?_
  refine lv_topi (fun x1 ex1 => ?_)
  refine lv_iload_n hx hb dX9_wrongAt_6 rfl (lv_at hl 2 rfl) ?_
  refine lv_isub hx hb dX9_wrongAt_7 ?_
  refine lv_topi (fun x2 ex2 => ?_)
  obtain ⟨bks4, lks5, gos6, shn7, tpd8, pl09, ln010, flt11, opn12, cmy13, wtg14, nm015, mst16, sus17, cut18, h19, h20, h21, h22, h23, h24, h25, h26, h27, h28, h29, h30, h31, h32, h33, h34, h35, h36, h37, h38, hs3⟩ := a9_0 hI.1
  have z17_hs3 : zfi 17 (ct 0) = pl09.toInt := by rw [hs3]; rfl
  have z18_hs3 : zfi 18 (ct 0) = ln010.toInt := by rw [hs3]; rfl
  have z21_hs3 : zfi 21 (ct 0) = cmy13.toInt := by rw [hs3]; rfl
  have z22_hs3 : zfi 22 (ct 0) = wtg14.toInt := by rw [hs3]; rfl
  refine va_put (D := g.1) (ci := 9) (v := .int x2) (ty := .int) (C := RX9) (T := TX9) (N := 47) hx hb hg inG9 tyX9 tyX9_ok nmX9 hown hK hP hD hS 0 (zw_at (by omega) hs3) rfl 19 (by decide) (hg _ mm_977) (fun _ h9 => h9) rfl (by decide +kernel) rfl rfl (Nat.le_of_ble_eq_true rfl) dX9_wrongAt_8 (fun H locs hP hD hS => ?_)
  have hP : zP g ((zw 32 ad ct).set 0 (ad 0, .inr (9, [.int me, .ref (ad 1), .ref (ad 2), .ref (ad 3), .ref (ad 4), .int bks4, .int lks5, .int gos6, .int shn7, .ref (ad 5), .ref (ad 6), .ref (ad 7), .ref (ad 8), .ref (ad 9), .ref (ad 10), .ref (ad 11), .int tpd8, .int pl09, .int ln010, .int x2, .int opn12, .int cmy13, .int wtg14, .int nm015, .ref (ad 12), .ref (ad 13), .ref (ad 14), .ref (ad 15), .ref (ad 16), .ref (ad 17), .ref (ad 18), .ref (ad 19), .ref (ad 20), .ref (ad 21), .ref (ad 22), .ref (ad 23), .ref (ad 24), .ref (ad 25), .ref (ad 26), .ref (ad 27), .int mst16, .int sus17, .ref (ad 28), .ref (ad 29), .ref (ad 30), .ref (ad 31), .int cut18]))) H := hP
  have hD : va_D A ((zw 32 ad ct).set 0 (ad 0, .inr (9, [.int me, .ref (ad 1), .ref (ad 2), .ref (ad 3), .ref (ad 4), .int bks4, .int lks5, .int gos6, .int shn7, .ref (ad 5), .ref (ad 6), .ref (ad 7), .ref (ad 8), .ref (ad 9), .ref (ad 10), .ref (ad 11), .int tpd8, .int pl09, .int ln010, .int x2, .int opn12, .int cmy13, .int wtg14, .int nm015, .ref (ad 12), .ref (ad 13), .ref (ad 14), .ref (ad 15), .ref (ad 16), .ref (ad 17), .ref (ad 18), .ref (ad 19), .ref (ad 20), .ref (ad 21), .ref (ad 22), .ref (ad 23), .ref (ad 24), .ref (ad 25), .ref (ad 26), .ref (ad 27), .int mst16, .int sus17, .ref (ad 28), .ref (ad 29), .ref (ad 30), .ref (ad 31), .int cut18]))) := hD
  rw [zw_set (by omega)] at hP hD
  obtain ⟨ct39, ec40⟩ : ∃ z : Nat → va_E, z = va_up ct 0 (.inr (9, [.int me, .ref (ad 1), .ref (ad 2), .ref (ad 3), .ref (ad 4), .int bks4, .int lks5, .int gos6, .int shn7, .ref (ad 5), .ref (ad 6), .ref (ad 7), .ref (ad 8), .ref (ad 9), .ref (ad 10), .ref (ad 11), .int tpd8, .int pl09, .int ln010, .int x2, .int opn12, .int cmy13, .int wtg14, .int nm015, .ref (ad 12), .ref (ad 13), .ref (ad 14), .ref (ad 15), .ref (ad 16), .ref (ad 17), .ref (ad 18), .ref (ad 19), .ref (ad 20), .ref (ad 21), .ref (ad 22), .ref (ad 23), .ref (ad 24), .ref (ad 25), .ref (ad 26), .ref (ad 27), .int mst16, .int sus17, .ref (ad 28), .ref (ad 29), .ref (ad 30), .ref (ad 31), .int cut18])) := ⟨_, rfl⟩
  rw [← ec40] at hP hD
  have hI : IR g ad me ct39 := by rw [ec40]; exact upR hI (by decide) (i9_0 ⟨(bks4 : Int32), (lks5 : Int32), (gos6 : Int32), (shn7 : Int32), (tpd8 : Int32), (pl09 : Int32), (ln010 : Int32), (x2 : Int32), (opn12 : Int32), (cmy13 : Int32), (wtg14 : Int32), (nm015 : Int32), (mst16 : Int32), (sus17 : Int32), (cut18 : Int32), (by first | omega | decide), (by first | omega | decide), (by first | omega | decide), (by first | omega | decide), (by first | omega | decide), (by first | omega | decide), (by first | omega | decide), (by first | omega | decide), (by first | omega | decide), (by first | omega | decide), (by first | omega | decide), (by first | omega | decide), (by first | omega | decide), (by first | omega | decide), (by first | omega | decide), (by first | omega | decide), (by first | omega | decide), (by first | omega | decide), (by first | omega | decide), (by first | omega | decide), rfl⟩)
  have hc12 : ct39 12 = ct 12 := by rw [ec40]; exact (va_up_ne _ _ (by omega)).trans hc12
  have hc13 : ct39 13 = ct 13 := by rw [ec40]; exact (va_up_ne _ _ (by omega)).trans hc13
  have hs41 : ct39 0 = .inr (9, [.int me, .ref (ad 1), .ref (ad 2), .ref (ad 3), .ref (ad 4), .int bks4, .int lks5, .int gos6, .int shn7, .ref (ad 5), .ref (ad 6), .ref (ad 7), .ref (ad 8), .ref (ad 9), .ref (ad 10), .ref (ad 11), .int tpd8, .int pl09, .int ln010, .int x2, .int opn12, .int cmy13, .int wtg14, .int nm015, .ref (ad 12), .ref (ad 13), .ref (ad 14), .ref (ad 15), .ref (ad 16), .ref (ad 17), .ref (ad 18), .ref (ad 19), .ref (ad 20), .ref (ad 21), .ref (ad 22), .ref (ad 23), .ref (ad 24), .ref (ad 25), .ref (ad 26), .ref (ad 27), .int mst16, .int sus17, .ref (ad 28), .ref (ad 29), .ref (ad 30), .ref (ad 31), .int cut18]) := by rw [ec40]; exact va_up_self _ _ _
  have z17_hs41 : zfi 17 (ct39 0) = (pl09 : Int32).toInt := by rw [hs41]; rfl
  have z18_hs41 : zfi 18 (ct39 0) = (ln010 : Int32).toInt := by rw [hs41]; rfl
  have z21_hs41 : zfi 21 (ct39 0) = (cmy13 : Int32).toInt := by rw [hs41]; rfl
  have z22_hs41 : zfi 22 (ct39 0) = (wtg14 : Int32).toInt := by rw [hs41]; rfl
  refine lv_iconst (v := 0) hx hb dX9_wrongAt_11 (by decide) ?_
  have q42 : (0 : Int32).toInt = 0 := by decide
  exact W.zret (v := 0) hx hb hr rfl (fun t ht hW => ⟨⟨0, (), rfl, by first | rfl | omega, ct39, by rw [ht]; exact hP, hD, hI, (by first | assumption | omega), (by first | assumption | omega), (by first | assumption | omega), (by first | assumption | omega), (by first | assumption | omega), (by first | assumption | omega)⟩, hS.F ht⟩) hS.2.2 dX9_wrongAt_12
