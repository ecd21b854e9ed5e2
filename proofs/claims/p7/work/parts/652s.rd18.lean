set_option maxHeartbeats 4000000 in
set_option maxRecDepth 100000 in
theorem k_X9_readsWhole (l : Launch) (g : zG) (sz : Nat) (ad : Nat → Nat) (me : Int32) (ct : Nat → va_E) (hI : IR g ad me ct) (h17 : zfi 17 (ct 0) = 0) (h21 : zfi 21 (ct 0) = 0) (h18 : 1 ≤ zfi 18 (ct 0) ∧ zfi 18 (ct 0) ≤ 100) : Met l yX9_readsWhole (zW yX9_readsWhole cX9_readsWhole 1 (some .boolean)) ({ frames := 6, cells := 0, slots := 0, locals := 125 }) (va_Pc [.ref (ad 0)] (zA g (zw 32 ad ct) sz)) (va_Qi (fun (r : Int32) (u : Int32) => (r = 1 ∧ (u = 1)) ∨ (r = 0 ∧ (u = 0))) (fun (u : Int32) t => ∃ ct2 : Nat → va_E, zP g (zw 32 ad ct2) t.heap ∧ va_D (va_A (zw 32 ad ct) sz) (zw 32 ad ct2) ∧ IR g ad me ct2 ∧ (zfi 18 (ct2 0) = zfi 18 (ct 0)) ∧ (u = 1 → CW (g.2 0) ct2)) (va_A (zw 32 ad ct) sz)) 0 0 (va_A (zw 32 ad ct) sz) := by
  refine Met.ofW (cc := cX9_readsWhole) (maxL := 1) (ret := (some .boolean)) (by decide) rfl ?_
  intro p e s m args below meth c s₁ B hml hv
  obtain ⟨rfl, hsz, hP, hK, hD0, hN⟩ := hv
  have hx := B.exec
  have hb := B.bytes
  have hr := B.returns
  have hg := zW.law (atoms_spec (ws := (zW yX9_readsWhole cX9_readsWhole 1 (some .boolean))) B.pre)
  have hown : s.vm.findClass RX9 = some m.cls := findClass_of_methodNamed B.named
  have hlocks := B.notSynchronized
  have hpe0 := hI.1.1
  subst hsz
  have hD := hD0.self (sz := s.heap.size)
  generalize hAe : va_A (zw 32 ad ct) s.heap.size = A at hD ⊢
  have hA : ∀ q : Nat, s.heap.size ≤ q → A q := fun q h => by rw [← hAe]; exact Or.inr h
  have hS : va_S A s.heap s.heap [] := va_S.rf
  have hl := lv_entry ([.ref (ad 0)]) (n := 1) (Nat.le_of_ble_eq_true rfl)
  rw [lg_entry_eq]
  generalize (lg_sl ([.ref (ad 0)]) ++ List.replicate (1 - (lg_sl ([.ref (ad 0)])).length) Slot.unset).toArray = ls at hl ⊢
  have hl : lv_has ls 1 [(0, .ref (ad 0))] := hl
  have q0 : ((0 : Int32)).toInt = 0 := by decide
  have q1 : ((1 : Int32)).toInt = 1 := by decide
  obtain ⟨bks2, lks3, gos4, shn5, tpd6, pl07, ln08, flt9, opn10, cmy11, wtg12, nm013, mst14, sus15, cut16, h17, h18, h19, h20, h21, h22, h23, h24, h25, h26, h27, h28, h29, h30, h31, h32, h33, h34, h35, h36, hs1⟩ := a9_0 hI.1
  have z17_hs1 : zfi 17 (ct 0) = pl07.toInt := by rw [hs1]; rfl
  have z18_hs1 : zfi 18 (ct 0) = ln08.toInt := by rw [hs1]; rfl
  have z21_hs1 : zfi 21 (ct 0) = cmy11.toInt := by rw [hs1]; rfl
  have z22_hs1 : zfi 22 (ct 0) = wtg12.toInt := by rw [hs1]; rfl
  obtain ⟨f38, hs37⟩ := a9_12 hI.1
  obtain ⟨f40, hs39⟩ := a9_13 hI.1
  refine lv_aload_n hx hb dX9_readsWhole_0 rfl (lv_at hl 0 rfl) ?_
  refine va_get (D := g.1) (ci := 9) (v := .ref (ad 13)) (C := RX9) (T := TX9) (N := 47) hx hb hg inG9 hown hK hP 0 (zw_at (by omega) hs1) rfl 25 (by decide) (hg _ mm_983) (fun _ h9 => h9) rfl dX9_readsWhole_1 ?_
  refine lv_iconst (v := 0) hx hb dX9_readsWhole_4 (by decide) ?_
  refine lv_ldc hx hb hown (hg _ mm_1214) dX9_readsWhole_5 ?_
  refine va_iast hx hb hK hP hD hS 13 0 (zw_at (by omega) hs39) rfl (z_in (by decide : (0 : Int32).toInt = 0) (by omega) (by omega)) dX9_readsWhole_7 (fun H locs hP hD hS => ?_)
  have hP : zP g ((zw 32 ad ct).set 13 (ad 13, .inl (g.2 0, 120, .inl (upd f40 (Int32.toNatClampNeg 0) 13631488)))) H := hP
  have hD : va_D A ((zw 32 ad ct).set 13 (ad 13, .inl (g.2 0, 120, .inl (upd f40 (Int32.toNatClampNeg 0) 13631488)))) := hD
  rw [zw_set (by omega)] at hP hD
  obtain ⟨ct42, ec43⟩ : ∃ z : Nat → va_E, z = va_up ct 13 (.inl (g.2 0, 120, .inl (upd f40 (Int32.toNatClampNeg 0) 13631488))) := ⟨_, rfl⟩
  rw [← ec43] at hP hD
  have hI : IR g ad me ct42 := by rw [ec43]; exact upR hI (by decide) (i9_13 ⟨_, rfl⟩)
  have hs44 : ct42 0 = .inr (9, [.int me, .ref (ad 1), .ref (ad 2), .ref (ad 3), .ref (ad 4), .int bks2, .int lks3, .int gos4, .int shn5, .ref (ad 5), .ref (ad 6), .ref (ad 7), .ref (ad 8), .ref (ad 9), .ref (ad 10), .ref (ad 11), .int tpd6, .int pl07, .int ln08, .int flt9, .int opn10, .int cmy11, .int wtg12, .int nm013, .ref (ad 12), .ref (ad 13), .ref (ad 14), .ref (ad 15), .ref (ad 16), .ref (ad 17), .ref (ad 18), .ref (ad 19), .ref (ad 20), .ref (ad 21), .ref (ad 22), .ref (ad 23), .ref (ad 24), .ref (ad 25), .ref (ad 26), .ref (ad 27), .int mst14, .int sus15, .ref (ad 28), .ref (ad 29), .ref (ad 30), .ref (ad 31), .int cut16]) := by rw [ec43, va_up_ne _ _ (by omega)]; exact hs1
  have hs45 : ct42 12 = .inl (g.2 0, 120, .inl f38) := by rw [ec43, va_up_ne _ _ (by omega)]; exact hs37
  have hs46 : ct42 13 = .inl (g.2 0, 120, .inl (upd f40 (Int32.toNatClampNeg 0) 13631488)) := by rw [ec43]; exact va_up_self _ _ _
  have z17_hs44 : zfi 17 (ct42 0) = (pl07 : Int32).toInt := by rw [hs44]; rfl
  have z18_hs44 : zfi 18 (ct42 0) = (ln08 : Int32).toInt := by rw [hs44]; rfl
  have z21_hs44 : zfi 21 (ct42 0) = (cmy11 : Int32).toInt := by rw [hs44]; rfl
  have z22_hs44 : zfi 22 (ct42 0) = (wtg12 : Int32).toInt := by rw [hs44]; rfl
  refine lv_aload_n hx hb dX9_readsWhole_8 rfl (lv_at hl 0 rfl) ?_
  refine lv_iconst (v := 1) hx hb dX9_readsWhole_9 (by decide) ?_
  refine va_put (D := g.1) (ci := 9) (v := .int 1) (ty := .int) (C := RX9) (T := TX9) (N := 47) hx hb hg inG9 tyX9 tyX9_ok nmX9 hown hK hP hD hS 0 (zw_at (by omega) hs44) rfl 22 (by decide) (hg _ mm_980) (fun _ h9 => h9) rfl (by decide +kernel) rfl rfl (Nat.le_of_ble_eq_true rfl) dX9_readsWhole_10 (fun H locs hP hD hS => ?_)
  have hP : zP g ((zw 32 ad ct42).set 0 (ad 0, .inr (9, [.int me, .ref (ad 1), .ref (ad 2), .ref (ad 3), .ref (ad 4), .int bks2, .int lks3, .int gos4, .int shn5, .ref (ad 5), .ref (ad 6), .ref (ad 7), .ref (ad 8), .ref (ad 9), .ref (ad 10), .ref (ad 11), .int tpd6, .int pl07, .int ln08, .int flt9, .int opn10, .int cmy11, .int 1, .int nm013, .ref (ad 12), .ref (ad 13), .ref (ad 14), .ref (ad 15), .ref (ad 16), .ref (ad 17), .ref (ad 18), .ref (ad 19), .ref (ad 20), .ref (ad 21), .ref (ad 22), .ref (ad 23), .ref (ad 24), .ref (ad 25), .ref (ad 26), .ref (ad 27), .int mst14, .int sus15, .ref (ad 28), .ref (ad 29), .ref (ad 30), .ref (ad 31), .int cut16]))) H := hP
  have hD : va_D A ((zw 32 ad ct42).set 0 (ad 0, .inr (9, [.int me, .ref (ad 1), .ref (ad 2), .ref (ad 3), .ref (ad 4), .int bks2, .int lks3, .int gos4, .int shn5, .ref (ad 5), .ref (ad 6), .ref (ad 7), .ref (ad 8), .ref (ad 9), .ref (ad 10), .ref (ad 11), .int tpd6, .int pl07, .int ln08, .int flt9, .int opn10, .int cmy11, .int 1, .int nm013, .ref (ad 12), .ref (ad 13), .ref (ad 14), .ref (ad 15), .ref (ad 16), .ref (ad 17), .ref (ad 18), .ref (ad 19), .ref (ad 20), .ref (ad 21), .ref (ad 22), .ref (ad 23), .ref (ad 24), .ref (ad 25), .ref (ad 26), .ref (ad 27), .int mst14, .int sus15, .ref (ad 28), .ref (ad 29), .ref (ad 30), .ref (ad 31), .int cut16]))) := hD
  rw [zw_set (by omega)] at hP hD
  obtain ⟨ct47, ec48⟩ : ∃ z : Nat → va_E, z = va_up ct42 0 (.inr (9, [.int me, .ref (ad 1), .ref (ad 2), .ref (ad 3), .ref (ad 4), .int bks2, .int lks3, .int gos4, .int shn5, .ref (ad 5), .ref (ad 6), .ref (ad 7), .ref (ad 8), .ref (ad 9), .ref (ad 10), .ref (ad 11), .int tpd6, .int pl07, .int ln08, .int flt9, .int opn10, .int cmy11, .int 1, .int nm013, .ref (ad 12), .ref (ad 13), .ref (ad 14), .ref (ad 15), .ref (ad 16), .ref (ad 17), .ref (ad 18), .ref (ad 19), .ref (ad 20), .ref (ad 21), .ref (ad 22), .ref (ad 23), .ref (ad 24), .ref (ad 25), .ref (ad 26), .ref (ad 27), .int mst14, .int sus15, .ref (ad 28), .ref (ad 29), .ref (ad 30), .ref (ad 31), .int cut16])) := ⟨_, rfl⟩
  rw [← ec48] at hP hD
  have hI : IR g ad me ct47 := by rw [ec48]; exact upR hI (by decide) (i9_0 ⟨(bks2 : Int32), (lks3 : Int32), (gos4 : Int32), (shn5 : Int32), (tpd6 : Int32), (pl07 : Int32), (ln08 : Int32), (flt9 : Int32), (opn10 : Int32), (cmy11 : Int32), (1 : Int32), (nm013 : Int32), (mst14 : Int32), (sus15 : Int32), (cut16 : Int32), (by first | omega | decide), (by first | omega | decide), (by first | omega | decide), (by first | omega | decide), (by first | omega | decide), (by first | omega | decide), (by first | omega | decide), (by first | omega | decide), (by first | omega | decide), (by first | omega | decide), (by first | omega | decide), (by first | omega | decide), (by first | omega | decide), (by first | omega | decide), (by first | omega | decide), (by first | omega | decide), (by first | omega | decide), (by first | omega | decide), (by first | omega | decide), (by first | omega | decide), rfl⟩)
  have hs49 : ct47 12 = .inl (g.2 0, 120, .inl f38) := by rw [ec48, va_up_ne _ _ (by omega)]; exact hs45
  have hs50 : ct47 13 = .inl (g.2 0, 120, .inl (upd f40 (Int32.toNatClampNeg 0) 13631488)) := by rw [ec48, va_up_ne _ _ (by omega)]; exact hs46
  have hs51 : ct47 0 = .inr (9, [.int me, .ref (ad 1), .ref (ad 2), .ref (ad 3), .ref (ad 4), .int bks2, .int lks3, .int gos4, .int shn5, .ref (ad 5), .ref (ad 6), .ref (ad 7), .ref (ad 8), .ref (ad 9), .ref (ad 10), .ref (ad 11), .int tpd6, .int pl07, .int ln08, .int flt9, .int opn10, .int cmy11, .int 1, .int nm013, .ref (ad 12), .ref (ad 13), .ref (ad 14), .ref (ad 15), .ref (ad 16), .ref (ad 17), .ref (ad 18), .ref (ad 19), .ref (ad 20), .ref (ad 21), .ref (ad 22), .ref (ad 23), .ref (ad 24), .ref (ad 25), .ref (ad 26), .ref (ad 27), .int mst14, .int sus15, .ref (ad 28), .ref (ad 29), .ref (ad 30), .ref (ad 31), .int cut16]) := by rw [ec48]; exact va_up_self _ _ _
  have z17_hs51 : zfi 17 (ct47 0) = (pl07 : Int32).toInt := by rw [hs51]; rfl
  have z18_hs51 : zfi 18 (ct47 0) = (ln08 : Int32).toInt := by rw [hs51]; rfl
  have z21_hs51 : zfi 21 (ct47 0) = (cmy11 : Int32).toInt := by rw [hs51]; rfl
  have z22_hs51 : zfi 22 (ct47 0) = (1 : Int32).toInt := by rw [hs51]; rfl
  refine lv_aload_n hx hb dX9_readsWhole_13 rfl (lv_at hl 0 rfl) ?_
  refine lv_iconst (v := 0) hx hb dX9_readsWhole_14 (by decide) ?_
  refine va_put (D := g.1) (ci := 9) (v := .int 0) (ty := .int) (C := RX9) (T := TX9) (N := 47) hx hb hg inG9 tyX9 tyX9_ok nmX9 hown hK hP hD hS 0 (zw_at (by omega) hs51) rfl 20 (by decide) (hg _ mm_978) (fun _ h9 => h9) rfl (by decide +kernel) rfl rfl (Nat.le_of_ble_eq_true rfl) dX9_readsWhole_15 (fun H locs hP hD hS => ?_)
  have hP : zP g ((zw 32 ad ct47).set 0 (ad 0, .inr (9, [.int me, .ref (ad 1), .ref (ad 2), .ref (ad 3), .ref (ad 4), .int bks2, .int lks3, .int gos4, .int shn5, .ref (ad 5), .ref (ad 6), .ref (ad 7), .ref (ad 8), .ref (ad 9), .ref (ad 10), .ref (ad 11), .int tpd6, .int pl07, .int ln08, .int flt9, .int 0, .int cmy11, .int 1, .int nm013, .ref (ad 12), .ref (ad 13), .ref (ad 14), .ref (ad 15), .ref (ad 16), .ref (ad 17), .ref (ad 18), .ref (ad 19), .ref (ad 20), .ref (ad 21), .ref (ad 22), .ref (ad 23), .ref (ad 24), .ref (ad 25), .ref (ad 26), .ref (ad 27), .int mst14, .int sus15, .ref (ad 28), .ref (ad 29), .ref (ad 30), .ref (ad 31), .int cut16]))) H := hP
  have hD : va_D A ((zw 32 ad ct47).set 0 (ad 0, .inr (9, [.int me, .ref (ad 1), .ref (ad 2), .ref (ad 3), .ref (ad 4), .int bks2, .int lks3, .int gos4, .int shn5, .ref (ad 5), .ref (ad 6), .ref (ad 7), .ref (ad 8), .ref (ad 9), .ref (ad 10), .ref (ad 11), .int tpd6, .int pl07, .int ln08, .int flt9, .int 0, .int cmy11, .int 1, .int nm013, .ref (ad 12), .ref (ad 13), .ref (ad 14), .ref (ad 15), .ref (ad 16), .ref (ad 17), .ref (ad 18), .ref (ad 19), .ref (ad 20), .ref (ad 21), .ref (ad 22), .ref (ad 23), .ref (ad 24), .ref (ad 25), .ref (ad 26), .ref (ad 27), .int mst14, .int sus15, .ref (ad 28), .ref (ad 29), .ref (ad 30), .ref (ad 31), .int cut16]))) := hD
  rw [zw_set (by omega)] at hP hD
  obtain ⟨ct52, ec53⟩ : ∃ z : Nat → va_E, z = va_up ct47 0 (.inr (9, [.int me, .ref (ad 1), .ref (ad 2), .ref (ad 3), .ref (ad 4), .int bks2, .int lks3, .int gos4, .int shn5, .ref (ad 5), .ref (ad 6), .ref (ad 7), .ref (ad 8), .ref (ad 9), .ref (ad 10), .ref (ad 11), .int tpd6, .int pl07, .int ln08, .int flt9, .int 0, .int cmy11, .int 1, .int nm013, .ref (ad 12), .ref (ad 13), .ref (ad 14), .ref (ad 15), .ref (ad 16), .ref (ad 17), .ref (ad 18), .ref (ad 19), .ref (ad 20), .ref (ad 21), .ref (ad 22), .ref (ad 23), .ref (ad 24), .ref (ad 25), .ref (ad 26), .ref (ad 27), .int mst14, .int sus15, .ref (ad 28), .ref (ad 29), .ref (ad 30), .ref (ad 31), .int cut16])) := ⟨_, rfl⟩
  rw [← ec53] at hP hD
  have hI : IR g ad me ct52 := by rw [ec53]; exact upR hI (by decide) (i9_0 ⟨(bks2 : Int32), (lks3 : Int32), (gos4 : Int32), (shn5 : Int32), (tpd6 : Int32), (pl07 : Int32), (ln08 : Int32), (flt9 : Int32), (0 : Int32), (cmy11 : Int32), (1 : Int32), (nm013 : Int32), (mst14 : Int32), (sus15 : Int32), (cut16 : Int32), (by first | omega | decide), (by first | omega | decide), (by first | omega | decide), (by first | omega | decide), (by first | omega | decide), (by first | omega | decide), (by first | omega | decide), (by first | omega | decide), (by first | omega | decide), (by first | omega | decide), (by first | omega | decide), (by first | omega | decide), (by first | omega | decide), (by first | omega | decide), (by first | omega | decide), (by first | omega | decide), (by first | omega | decide), (by first | omega | decide), (by first | omega | decide), (by first | omega | decide), rfl⟩)
  have hs54 : ct52 12 = .inl (g.2 0, 120, .inl f38) := by rw [ec53, va_up_ne _ _ (by omega)]; exact hs49
  have hs55 : ct52 13 = .inl (g.2 0, 120, .inl (upd f40 (Int32.toNatClampNeg 0) 13631488)) := by rw [ec53, va_up_ne _ _ (by omega)]; exact hs50
  have hs56 : ct52 0 = .inr (9, [.int me, .ref (ad 1), .ref (ad 2), .ref (ad 3), .ref (ad 4), .int bks2, .int lks3, .int gos4, .int shn5, .ref (ad 5), .ref (ad 6), .ref (ad 7), .ref (ad 8), .ref (ad 9), .ref (ad 10), .ref (ad 11), .int tpd6, .int pl07, .int ln08, .int flt9, .int 0, .int cmy11, .int 1, .int nm013, .ref (ad 12), .ref (ad 13), .ref (ad 14), .ref (ad 15), .ref (ad 16), .ref (ad 17), .ref (ad 18), .ref (ad 19), .ref (ad 20), .ref (ad 21), .ref (ad 22), .ref (ad 23), .ref (ad 24), .ref (ad 25), .ref (ad 26), .ref (ad 27), .int mst14, .int sus15, .ref (ad 28), .ref (ad 29), .ref (ad 30), .ref (ad 31), .int cut16]) := by rw [ec53]; exact va_up_self _ _ _
  have z17_hs56 : zfi 17 (ct52 0) = (pl07 : Int32).toInt := by rw [hs56]; rfl
  have z18_hs56 : zfi 18 (ct52 0) = (ln08 : Int32).toInt := by rw [hs56]; rfl
  have z21_hs56 : zfi 21 (ct52 0) = (cmy11 : Int32).toInt := by rw [hs56]; rfl
  have z22_hs56 : zfi 22 (ct52 0) = (1 : Int32).toInt := by rw [hs56]; rfl
  have loop18 : ∀ (n18 : Nat) (ct57 : Nat → va_E) (H : Heap) (locs : List Loc) (ls : Array Slot), ((zfi 18 (ct57 0) - zfi 17 (ct57 0) : Int).toNat < n18) → (zfi 18 (ct57 0) = zfi 18 (ct 0)) → (PS (g.2 0) ct57 0 0 R0) → (IR g ad me ct57) → zP g (zw 32 ad ct57) H → va_D A (zw 32 ad ct57) → va_S A s.heap H locs → lv_has ls 1 [(0, .ref (ad 0))] → W p l e (headSpec (zW yX9_readsWhole cX9_readsWhole 1 (some .boolean)) ({ frames := 6, cells := 0, slots := 0, locals := 125 })).room s m ([.ref (ad 0)] : List Value).toArray below meth c H locs 0 0 (MQ below (va_Qi (fun (r : Int32) (u : Int32) => (r = 1 ∧ (u = 1)) ∨ (r = 0 ∧ (u = 0))) (fun (u : Int32) t => ∃ ct2 : Nat → va_E, zP g (zw 32 ad ct2) t.heap ∧ va_D A (zw 32 ad ct2) ∧ IR g ad me ct2 ∧ (zfi 18 (ct2 0) = zfi 18 (ct 0)) ∧ (u = 1 → CW (g.2 0) ct2)) A) ([.ref (ad 0)] : List Value).toArray s 0 0 A) (F0 m 18 ls []) := by
    intro n18
    induction n18 with
    | zero =>
      intro ct57 H locs ls hn18 j0_18 j1_18 hI hP hD hS hl
      exact absurd hn18 (Nat.not_lt_zero _)
    | succ n18 ih18 =>
      intro ct57 H locs ls hn18 j0_18 j1_18 hI hP hD hS hl
      have hb0 := PS.bounds j1_18
      obtain ⟨bks59, lks60, gos61, shn62, tpd63, pl064, ln065, flt66, opn67, cmy68, wtg69, nm070, mst71, sus72, cut73, h74, h75, h76, h77, h78, h79, h80, h81, h82, h83, h84, h85, h86, h87, h88, h89, h90, h91, h92, h93, hs58⟩ := a9_0 hI.1
      have z17_hs58 : zfi 17 (ct57 0) = pl064.toInt := by rw [hs58]; rfl
      have z18_hs58 : zfi 18 (ct57 0) = ln065.toInt := by rw [hs58]; rfl
      have z21_hs58 : zfi 21 (ct57 0) = cmy68.toInt := by rw [hs58]; rfl
      have z22_hs58 : zfi 22 (ct57 0) = wtg69.toInt := by rw [hs58]; rfl
      obtain ⟨f95, hs94⟩ := a9_12 hI.1
      obtain ⟨f97, hs96⟩ := a9_13 hI.1
      refine lv_aload_n hx hb dX9_readsWhole_18 rfl (lv_at hl 0 rfl) ?_
      refine zc_i (va_runV (As := []) (rest := []) ⟨hx, hb, hml, hown, hg⟩ (k_X9_here l g ad me ct57  hI) (cwV 0 hg (z_gV mm_1215 mm_1217 mm_63 mm_117 mm_1218) rfl rfl rfl (by decide +kernel) ⟨Nat.le_of_ble_eq_true rfl, Nat.le_of_ble_eq_true rfl⟩) ⟨(zR.pre [.ref (ad 0)] hP hK hN).1, va_recv hK hP (ci := 9) (q0 := 0) rfl (zw_at (by omega) hs58), (zR.pre [.ref (ad 0)] hP hK hN).2⟩ rfl rfl hl.1 rfl (lv_room (Nat.le_of_ble_eq_true rfl)) dX9_readsWhole_19 ⟨Nat.le_of_ble_eq_true rfl, Nat.le_of_ble_eq_true rfl⟩) (fun r98 hr98 => ?_)
      obtain ⟨hqr98, h99⟩ := hr98
      subst r98
      replace h99 : (zhv (ct57 0) (ct57 11)).toInt = -1 ∨ (0 ≤ (zhv (ct57 0) (ct57 11)).toInt ∧ zfi 17 (ct57 0) < zfi 18 (ct57 0)) := h99
      refine lv_bipush (v := 33) hx hb dX9_readsWhole_22 (by decide) ?_
      refine lv_icmp_eq (tgt := 36) hx hb dX9_readsWhole_24 (by decide) (fun c100 => ?_) (fun c100 => ?_)
      · skip
        have c100 : (zhv (ct57 0) (ct57 11)).toInt = 33 := (z_eq rfl (by decide : (33 : Int32).toInt = 33)).mp c100
        refine lv_aload_n hx hb dX9_readsWhole_36 rfl (lv_at hl 0 rfl) ?_
        refine lv_aload_n hx hb dX9_readsWhole_37 rfl (lv_at hl 0 rfl) ?_
        refine zc_i (va_runV (As := []) (rest := [.ref (ad 0)]) ⟨hx, hb, hml, hown, hg⟩ (k_X9_here l g ad me ct57  hI) (cwV 0 hg (z_gV mm_1215 mm_1217 mm_63 mm_117 mm_1218) rfl rfl rfl (by decide +kernel) ⟨Nat.le_of_ble_eq_true rfl, Nat.le_of_ble_eq_true rfl⟩) ⟨(zR.pre [.ref (ad 0)] hP hK hN).1, va_recv hK hP (ci := 9) (q0 := 0) rfl (zw_at (by omega) hs58), (zR.pre [.ref (ad 0)] hP hK hN).2⟩ rfl rfl hl.1 rfl (lv_room (Nat.le_of_ble_eq_true rfl)) dX9_readsWhole_38 ⟨Nat.le_of_ble_eq_true rfl, Nat.le_of_ble_eq_true rfl⟩) (fun r101 hr101 => ?_)
        obtain ⟨hqr101, h102⟩ := hr101
        subst r101
        replace h102 : (zhv (ct57 0) (ct57 11)).toInt = -1 ∨ (0 ≤ (zhv (ct57 0) (ct57 11)).toInt ∧ zfi 17 (ct57 0) < zfi 18 (ct57 0)) := h102
        refine lv_bipush (v := 33) hx hb dX9_readsWhole_41 (by decide) ?_
        refine lv_icmp_ne (tgt := 51) hx hb dX9_readsWhole_43 (by decide) (fun c103 => ?_) (fun c103 => ?_)
        · skip
          have c103 : ¬ ((zhv (ct57 0) (ct57 11)).toInt = 33) := fun q => c103 ((z_eq rfl (by decide : (33 : Int32).toInt = 33)).mpr q)
          refine lv_bipush (v := 13) hx hb dX9_readsWhole_51 (by decide) ?_
          have hFc := zw_free hD hS hA
          refine va_calli (va_runV (As := [.int 13]) (rest := []) ⟨hx, hb, hml, hown, hg⟩ (k_X9_opens l g _ ad me ct57 (13 : Int32) (by first | omega | decide) hI (by first | assumption | omega | decide) (by first | assumption | omega | decide)) (cwV 1 hg (z_gV mm_1219 mm_1221 mm_64 mm_117 mm_1222) rfl rfl rfl (by decide +kernel) ⟨Nat.le_of_ble_eq_true rfl, Nat.le_of_ble_eq_true rfl⟩) ⟨(zA.pre [.ref (ad 0), .int 13] hP hK hD hN).1, va_recv hK hP (ci := 9) (q0 := 0) rfl (zw_at (by omega) hs58), (zA.pre [.ref (ad 0), .int 13] hP hK hD hN).2⟩ rfl rfl hl.1 rfl (lv_room (Nat.le_of_ble_eq_true rfl)) dX9_readsWhole_53 ⟨Nat.le_of_ble_eq_true rfl, Nat.le_of_ble_eq_true rfl⟩) hS (fun q _ h => hFc q h) hFc (fun r104 u112 t H1 locs ht hvm hr104 hB hz1 hk1 hS => ?_)
          obtain ⟨ct105, hP1, hD1, hI, hk106, hk107, hk108, hk109, hk110, hk111⟩ := hB
          rw [ht] at hP1
          have hD := hD1.weaken (fun _ _ _ h => hFc _ h)
          generalize H1 = H at hP1 hS ⊢
          have hP := hP1
          refine W.widen (k := 0) (n := 0) (Nat.le_refl _) (Nat.le_refl _) ?_
          have hs113 : ct105 12 = .inl (g.2 0, 120, .inl f95) := hk111.trans hs94
          rcases hr104 with hr104 | hr104
          · skip
            obtain ⟨rfl, h114⟩ := hr104
            replace h114 : u112 = 1 := h114
            have hk108 := hk108 h114
            have hk109 := hk109 h114
            have hk110 := hk110 h114
            refine lv_if_ne (tgt := 18) hx hb dX9_readsWhole_56 (by decide) (fun c115 => ?_) (fun c115 => ?_)
            · skip
              have hps2 := PS.push j1_18 (x2 := 0) (R2 := R0) (r := 13) (by omega) (by omega) (by omega) (by omega) (by omega) (hk111) (wr_c hk110 rfl rfl rfl (by have q : (13 : Int32).toInt = 13 := rfl; omega)) (Or.inr ⟨by omega, rfl⟩) (fun fw W w h t => h.push (by omega))
              obtain ⟨bks117, lks118, gos119, shn120, tpd121, pl0122, ln0123, flt124, opn125, cmy126, wtg127, nm0128, mst129, sus130, cut131, h132, h133, h134, h135, h136, h137, h138, h139, h140, h141, h142, h143, h144, h145, h146, h147, h148, h149, h150, h151, hs116⟩ := a9_0 hI.1
              have z17_hs116 : zfi 17 (ct105 0) = pl0122.toInt := by rw [hs116]; rfl
              have z18_hs116 : zfi 18 (ct105 0) = ln0123.toInt := by rw [hs116]; rfl
              have z21_hs116 : zfi 21 (ct105 0) = cmy126.toInt := by rw [hs116]; rfl
              have z22_hs116 : zfi 22 (ct105 0) = wtg127.toInt := by rw [hs116]; rfl
              exact ih18  ct105 _ _ ls (by omega) (by first | assumption | omega | decide) (by first | assumption | omega | decide) hI hP hD hS (lv_sub hl [0] rfl)
            · skip
              exact absurd c115 (by decide)
          · skip
            obtain ⟨rfl, h152⟩ := hr104
            replace h152 : u112 = 0 := h152
            refine lv_if_ne (tgt := 18) hx hb dX9_readsWhole_56 (by decide) (fun c153 => ?_) (fun c153 => ?_)
            · skip
              exact absurd c153 (by decide)
            · skip
              refine lv_iconst (v := 0) hx hb dX9_readsWhole_59 (by decide) ?_
              have q154 : (0 : Int32).toInt = 0 := by decide
              exact W.zret (v := 0) hx hb hr rfl (fun t ht hW => ⟨⟨0, 0, rfl, by first | exact Or.inl ⟨rfl, rfl⟩ | exact Or.inr ⟨rfl, rfl⟩, ct105, by rw [ht]; exact hP, hD, hI, (by first | assumption | omega), (fun q => absurd q (by decide))⟩, hS.F ht⟩) hS.2.2 dX9_readsWhole_60
        · skip
          have c103 : (zhv (ct57 0) (ct57 11)).toInt = 33 := (z_eq rfl (by decide : (33 : Int32).toInt = 33)).mp c103
          refine lv_bipush (v := 10) hx hb dX9_readsWhole_46 (by decide) ?_
          refine lv_goto (tgt := 53) hx hb dX9_readsWhole_48 (by decide) ?_
          have hFc := zw_free hD hS hA
          refine va_calli (va_runV (As := [.int 10]) (rest := []) ⟨hx, hb, hml, hown, hg⟩ (k_X9_opens l g _ ad me ct57 (10 : Int32) (by first | omega | decide) hI (by first | assumption | omega | decide) (by first | assumption | omega | decide)) (cwV 1 hg (z_gV mm_1219 mm_1221 mm_64 mm_117 mm_1222) rfl rfl rfl (by decide +kernel) ⟨Nat.le_of_ble_eq_true rfl, Nat.le_of_ble_eq_true rfl⟩) ⟨(zA.pre [.ref (ad 0), .int 10] hP hK hD hN).1, va_recv hK hP (ci := 9) (q0 := 0) rfl (zw_at (by omega) hs58), (zA.pre [.ref (ad 0), .int 10] hP hK hD hN).2⟩ rfl rfl hl.1 rfl (lv_room (Nat.le_of_ble_eq_true rfl)) dX9_readsWhole_53 ⟨Nat.le_of_ble_eq_true rfl, Nat.le_of_ble_eq_true rfl⟩) hS (fun q _ h => hFc q h) hFc (fun r155 u163 t H1 locs ht hvm hr155 hB hz1 hk1 hS => ?_)
          obtain ⟨ct156, hP1, hD1, hI, hk157, hk158, hk159, hk160, hk161, hk162⟩ := hB
          rw [ht] at hP1
          have hD := hD1.weaken (fun _ _ _ h => hFc _ h)
          generalize H1 = H at hP1 hS ⊢
          have hP := hP1
          refine W.widen (k := 0) (n := 0) (Nat.le_refl _) (Nat.le_refl _) ?_
          have hs164 : ct156 12 = .inl (g.2 0, 120, .inl f95) := hk162.trans hs94
          rcases hr155 with hr155 | hr155
          · skip
            obtain ⟨rfl, h165⟩ := hr155
            replace h165 : u163 = 1 := h165
            have hk159 := hk159 h165
            have hk160 := hk160 h165
            have hk161 := hk161 h165
            refine lv_if_ne (tgt := 18) hx hb dX9_readsWhole_56 (by decide) (fun c166 => ?_) (fun c166 => ?_)
            · skip
              have hps2 := PS.push j1_18 (x2 := 0) (R2 := R0) (r := 10) (by omega) (by omega) (by omega) (by omega) (by omega) (hk162) (wr_c hk161 rfl rfl rfl (by have q : (10 : Int32).toInt = 10 := rfl; omega)) (Or.inr ⟨by omega, rfl⟩) (fun fw W w h t => h.push (by omega))
              obtain ⟨bks168, lks169, gos170, shn171, tpd172, pl0173, ln0174, flt175, opn176, cmy177, wtg178, nm0179, mst180, sus181, cut182, h183, h184, h185, h186, h187, h188, h189, h190, h191, h192, h193, h194, h195, h196, h197, h198, h199, h200, h201, h202, hs167⟩ := a9_0 hI.1
              have z17_hs167 : zfi 17 (ct156 0) = pl0173.toInt := by rw [hs167]; rfl
              have z18_hs167 : zfi 18 (ct156 0) = ln0174.toInt := by rw [hs167]; rfl
              have z21_hs167 : zfi 21 (ct156 0) = cmy177.toInt := by rw [hs167]; rfl
              have z22_hs167 : zfi 22 (ct156 0) = wtg178.toInt := by rw [hs167]; rfl
              exact ih18  ct156 _ _ ls (by omega) (by first | assumption | omega | decide) (by first | assumption | omega | decide) hI hP hD hS (lv_sub hl [0] rfl)
            · skip
              exact absurd c166 (by decide)
          · skip
            obtain ⟨rfl, h203⟩ := hr155
            replace h203 : u163 = 0 := h203
            refine lv_if_ne (tgt := 18) hx hb dX9_readsWhole_56 (by decide) (fun c204 => ?_) (fun c204 => ?_)
            · skip
              exact absurd c204 (by decide)
            · skip
              refine lv_iconst (v := 0) hx hb dX9_readsWhole_59 (by decide) ?_
              have q205 : (0 : Int32).toInt = 0 := by decide
              exact W.zret (v := 0) hx hb hr rfl (fun t ht hW => ⟨⟨0, 0, rfl, by first | exact Or.inl ⟨rfl, rfl⟩ | exact Or.inr ⟨rfl, rfl⟩, ct156, by rw [ht]; exact hP, hD, hI, (by first | assumption | omega), (fun q => absurd q (by decide))⟩, hS.F ht⟩) hS.2.2 dX9_readsWhole_60
      · skip
        have c100 : ¬ ((zhv (ct57 0) (ct57 11)).toInt = 33) := fun q => c100 ((z_eq rfl (by decide : (33 : Int32).toInt = 33)).mpr q)
        refine lv_aload_n hx hb dX9_readsWhole_27 rfl (lv_at hl 0 rfl) ?_
        refine zc_i (va_runV (As := []) (rest := []) ⟨hx, hb, hml, hown, hg⟩ (k_X9_here l g ad me ct57  hI) (cwV 0 hg (z_gV mm_1215 mm_1217 mm_63 mm_117 mm_1218) rfl rfl rfl (by decide +kernel) ⟨Nat.le_of_ble_eq_true rfl, Nat.le_of_ble_eq_true rfl⟩) ⟨(zR.pre [.ref (ad 0)] hP hK hN).1, va_recv hK hP (ci := 9) (q0 := 0) rfl (zw_at (by omega) hs58), (zR.pre [.ref (ad 0)] hP hK hN).2⟩ rfl rfl hl.1 rfl (lv_room (Nat.le_of_ble_eq_true rfl)) dX9_readsWhole_28 ⟨Nat.le_of_ble_eq_true rfl, Nat.le_of_ble_eq_true rfl⟩) (fun r206 hr206 => ?_)
        obtain ⟨hqr206, h207⟩ := hr206
        subst r206
        replace h207 : (zhv (ct57 0) (ct57 11)).toInt = -1 ∨ (0 ≤ (zhv (ct57 0) (ct57 11)).toInt ∧ zfi 17 (ct57 0) < zfi 18 (ct57 0)) := h207
        refine lv_bipush (v := 40) hx hb dX9_readsWhole_31 (by decide) ?_
        refine lv_icmp_ne (tgt := 61) hx hb dX9_readsWhole_33 (by decide) (fun c208 => ?_) (fun c208 => ?_)
        · skip
          have c208 : ¬ ((zhv (ct57 0) (ct57 11)).toInt = 40) := fun q => c208 ((z_eq rfl (by decide : (40 : Int32).toInt = 40)).mpr q)
          refine lv_aload_n hx hb dX9_readsWhole_61 rfl (lv_at hl 0 rfl) ?_
          have hFc := zw_free hD hS hA
          refine va_calli (va_runV (As := []) (rest := []) ⟨hx, hb, hml, hown, hg⟩ (k_X9_readsCompared l g _ ad me ct57  hI (j1_18)) (cwV 0 hg (z_gV mm_1228 mm_1230 mm_66 mm_117 mm_1231) rfl rfl rfl (by decide +kernel) ⟨Nat.le_of_ble_eq_true rfl, Nat.le_of_ble_eq_true rfl⟩) ⟨(zA.pre [.ref (ad 0)] hP hK hD hN).1, va_recv hK hP (ci := 9) (q0 := 0) rfl (zw_at (by omega) hs58), (zA.pre [.ref (ad 0)] hP hK hD hN).2⟩ rfl rfl hl.1 rfl (lv_room (Nat.le_of_ble_eq_true rfl)) dX9_readsWhole_62 ⟨Nat.le_of_ble_eq_true rfl, Nat.le_of_ble_eq_true rfl⟩) hS (fun q _ h => hFc q h) hFc (fun r209 u214 t H1 locs ht hvm hr209 hB hz1 hk1 hS => ?_)
          obtain ⟨ct210, hP1, hD1, hI, hk211, hk212, hk213⟩ := hB
          rw [ht] at hP1
          have hD := hD1.weaken (fun _ _ _ h => hFc _ h)
          generalize H1 = H at hP1 hS ⊢
          have hP := hP1
          refine W.widen (k := 0) (n := 0) (Nat.le_refl _) (Nat.le_refl _) ?_
          rcases hr209 with hr209 | hr209
          · skip
            obtain ⟨rfl, h215⟩ := hr209
            replace h215 : u214 = 1 := h215
            have hk212 := hk212 h215
            have hk213 := hk213 h215
            refine lv_if_ne (tgt := 70) hx hb dX9_readsWhole_65 (by decide) (fun c216 => ?_) (fun c216 => ?_)
            · skip
              obtain ⟨bks218, lks219, gos220, shn221, tpd222, pl0223, ln0224, flt225, opn226, cmy227, wtg228, nm0229, mst230, sus231, cut232, h233, h234, h235, h236, h237, h238, h239, h240, h241, h242, h243, h244, h245, h246, h247, h248, h249, h250, h251, h252, hs217⟩ := a9_0 hI.1
              have z17_hs217 : zfi 17 (ct210 0) = pl0223.toInt := by rw [hs217]; rfl
              have z18_hs217 : zfi 18 (ct210 0) = ln0224.toInt := by rw [hs217]; rfl
              have z21_hs217 : zfi 21 (ct210 0) = cmy227.toInt := by rw [hs217]; rfl
              have z22_hs217 : zfi 22 (ct210 0) = wtg228.toInt := by rw [hs217]; rfl
              have loop70 : ∀ (n70 : Nat) (ct253 : Nat → va_E) (H : Heap) (locs : List Loc) (ls : Array Slot), ((zfi 18 (ct253 0) - zfi 17 (ct253 0) : Int).toNat < n70) → (zfi 18 (ct253 0) = zfi 18 (ct 0)) → (zfi 17 (ct57 0) < zfi 17 (ct253 0)) → (PS (g.2 0) ct253 1 0 R0) → (IR g ad me ct253) → zP g (zw 32 ad ct253) H → va_D A (zw 32 ad ct253) → va_S A s.heap H locs → lv_has ls 1 [(0, .ref (ad 0))] → W p l e (headSpec (zW yX9_readsWhole cX9_readsWhole 1 (some .boolean)) ({ frames := 6, cells := 0, slots := 0, locals := 125 })).room s m ([.ref (ad 0)] : List Value).toArray below meth c H locs 0 0 (MQ below (va_Qi (fun (r : Int32) (u : Int32) => (r = 1 ∧ (u = 1)) ∨ (r = 0 ∧ (u = 0))) (fun (u : Int32) t => ∃ ct2 : Nat → va_E, zP g (zw 32 ad ct2) t.heap ∧ va_D A (zw 32 ad ct2) ∧ IR g ad me ct2 ∧ (zfi 18 (ct2 0) = zfi 18 (ct 0)) ∧ (u = 1 → CW (g.2 0) ct2)) A) ([.ref (ad 0)] : List Value).toArray s 0 0 A) (F0 m 70 ls []) := by
                intro n70
                induction n70 with
                | zero =>
                  intro ct253 H locs ls hn70 j0_70 j1_70 j2_70 hI hP hD hS hl
                  exact absurd hn70 (Nat.not_lt_zero _)
                | succ n70 ih70 =>
                  intro ct253 H locs ls hn70 j0_70 j1_70 j2_70 hI hP hD hS hl
                  have hb1 := PS.bounds j2_70
                  refine lv_aload_n hx hb dX9_readsWhole_70 rfl (lv_at hl 0 rfl) ?_
                  obtain ⟨bks255, lks256, gos257, shn258, tpd259, pl0260, ln0261, flt262, opn263, cmy264, wtg265, nm0266, mst267, sus268, cut269, h270, h271, h272, h273, h274, h275, h276, h277, h278, h279, h280, h281, h282, h283, h284, h285, h286, h287, h288, h289, hs254⟩ := a9_0 hI.1
                  have z17_hs254 : zfi 17 (ct253 0) = pl0260.toInt := by rw [hs254]; rfl
                  have z18_hs254 : zfi 18 (ct253 0) = ln0261.toInt := by rw [hs254]; rfl
                  have z21_hs254 : zfi 21 (ct253 0) = cmy264.toInt := by rw [hs254]; rfl
                  have z22_hs254 : zfi 22 (ct253 0) = wtg265.toInt := by rw [hs254]; rfl
                  refine zc_i (va_runV (As := []) (rest := []) ⟨hx, hb, hml, hown, hg⟩ (k_X9_here l g ad me ct253  hI) (cwV 0 hg (z_gV mm_1215 mm_1217 mm_63 mm_117 mm_1218) rfl rfl rfl (by decide +kernel) ⟨Nat.le_of_ble_eq_true rfl, Nat.le_of_ble_eq_true rfl⟩) ⟨(zR.pre [.ref (ad 0)] hP hK hN).1, va_recv hK hP (ci := 9) (q0 := 0) rfl (zw_at (by omega) hs254), (zR.pre [.ref (ad 0)] hP hK hN).2⟩ rfl rfl hl.1 rfl (lv_room (Nat.le_of_ble_eq_true rfl)) dX9_readsWhole_71 ⟨Nat.le_of_ble_eq_true rfl, Nat.le_of_ble_eq_true rfl⟩) (fun r290 hr290 => ?_)
                  obtain ⟨hqr290, h291⟩ := hr290
                  subst r290
                  replace h291 : (zhv (ct253 0) (ct253 11)).toInt = -1 ∨ (0 ≤ (zhv (ct253 0) (ct253 11)).toInt ∧ zfi 17 (ct253 0) < zfi 18 (ct253 0)) := h291
                  refine lv_bipush (v := 41) hx hb dX9_readsWhole_74 (by decide) ?_
                  refine lv_icmp_ne (tgt := 88) hx hb dX9_readsWhole_76 (by decide) (fun c292 => ?_) (fun c292 => ?_)
                  · skip
                    have c292 : ¬ ((zhv (ct253 0) (ct253 11)).toInt = 41) := fun q => c292 ((z_eq rfl (by decide : (41 : Int32).toInt = 41)).mpr q)
                    refine lv_aload_n hx hb dX9_readsWhole_88 rfl (lv_at hl 0 rfl) ?_
                    refine va_get (D := g.1) (ci := 9) (v := .int pl0260) (C := RX9) (T := TX9) (N := 47) hx hb hg inG9 hown hK hP 0 (zw_at (by omega) hs254) rfl 17 (by decide) (hg _ mm_975) (fun _ h9 => h9) rfl dX9_readsWhole_89 ?_
                    refine lv_aload_n hx hb dX9_readsWhole_92 rfl (lv_at hl 0 rfl) ?_
                    refine va_get (D := g.1) (ci := 9) (v := .int ln0261) (C := RX9) (T := TX9) (N := 47) hx hb hg inG9 hown hK hP 0 (zw_at (by omega) hs254) rfl 18 (by decide) (hg _ mm_976) (fun _ h9 => h9) rfl dX9_readsWhole_93 ?_
                    refine lv_icmp_ne (tgt := 130) hx hb dX9_readsWhole_96 (by decide) (fun c293 => ?_) (fun c293 => ?_)
                    · skip
                      have c293 : ¬ (pl0260.toInt = ln0261.toInt) := fun q => c293 ((z_eq rfl rfl).mpr q)
                      refine lv_aload_n hx hb dX9_readsWhole_130 rfl (lv_at hl 0 rfl) ?_
                      refine zc_i (va_runV (As := []) (rest := []) ⟨hx, hb, hml, hown, hg⟩ (k_X9_here l g ad me ct253  hI) (cwV 0 hg (z_gV mm_1215 mm_1217 mm_63 mm_117 mm_1218) rfl rfl rfl (by decide +kernel) ⟨Nat.le_of_ble_eq_true rfl, Nat.le_of_ble_eq_true rfl⟩) ⟨(zR.pre [.ref (ad 0)] hP hK hN).1, va_recv hK hP (ci := 9) (q0 := 0) rfl (zw_at (by omega) hs254), (zR.pre [.ref (ad 0)] hP hK hN).2⟩ rfl rfl hl.1 rfl (lv_room (Nat.le_of_ble_eq_true rfl)) dX9_readsWhole_131 ⟨Nat.le_of_ble_eq_true rfl, Nat.le_of_ble_eq_true rfl⟩) (fun r294 hr294 => ?_)
                      obtain ⟨hqr294, h295⟩ := hr294
                      subst r294
                      replace h295 : (zhv (ct253 0) (ct253 11)).toInt = -1 ∨ (0 ≤ (zhv (ct253 0) (ct253 11)).toInt ∧ zfi 17 (ct253 0) < zfi 18 (ct253 0)) := h295
                      refine lv_bipush (v := 38) hx hb dX9_readsWhole_134 (by decide) ?_
                      refine lv_icmp_eq (tgt := 158) hx hb dX9_readsWhole_136 (by decide) (fun c296 => ?_) (fun c296 => ?_)
                      · skip
                        have c296 : (zhv (ct253 0) (ct253 11)).toInt = 38 := (z_eq rfl (by decide : (38 : Int32).toInt = 38)).mp c296
                        refine lv_aload_n hx hb dX9_readsWhole_158 rfl (lv_at hl 0 rfl) ?_
                        refine lv_aload_n hx hb dX9_readsWhole_159 rfl (lv_at hl 0 rfl) ?_
                        refine zc_i (va_runV (As := []) (rest := [.ref (ad 0)]) ⟨hx, hb, hml, hown, hg⟩ (k_X9_here l g ad me ct253  hI) (cwV 0 hg (z_gV mm_1215 mm_1217 mm_63 mm_117 mm_1218) rfl rfl rfl (by decide +kernel) ⟨Nat.le_of_ble_eq_true rfl, Nat.le_of_ble_eq_true rfl⟩) ⟨(zR.pre [.ref (ad 0)] hP hK hN).1, va_recv hK hP (ci := 9) (q0 := 0) rfl (zw_at (by omega) hs254), (zR.pre [.ref (ad 0)] hP hK hN).2⟩ rfl rfl hl.1 rfl (lv_room (Nat.le_of_ble_eq_true rfl)) dX9_readsWhole_160 ⟨Nat.le_of_ble_eq_true rfl, Nat.le_of_ble_eq_true rfl⟩) (fun r297 hr297 => ?_)
                        obtain ⟨hqr297, h298⟩ := hr297
                        subst r297
                        replace h298 : (zhv (ct253 0) (ct253 11)).toInt = -1 ∨ (0 ≤ (zhv (ct253 0) (ct253 11)).toInt ∧ zfi 17 (ct253 0) < zfi 18 (ct253 0)) := h298
                        refine lv_bipush (v := 124) hx hb dX9_readsWhole_163 (by decide) ?_
                        refine lv_icmp_ne (tgt := 172) hx hb dX9_readsWhole_165 (by decide) (fun c299 => ?_) (fun c299 => ?_)
                        · skip
                          have c299 : ¬ ((zhv (ct253 0) (ct253 11)).toInt = 124) := fun q => c299 ((z_eq rfl (by decide : (124 : Int32).toInt = 124)).mpr q)
                          refine lv_iconst (v := 0) hx hb dX9_readsWhole_172 (by decide) ?_
                          have hFc := zw_free hD hS hA
                          refine va_callv (va_runV (As := [.int 0]) (rest := []) ⟨hx, hb, hml, hown, hg⟩ (k_X9_lands l g _ ad me ct253 (0 : Int32) (by first | omega | decide) hI (j2_70)) (cwV 1 hg (z_gV mm_1278 mm_1280 mm_77 mm_117 mm_1281) rfl rfl rfl (by decide +kernel) ⟨Nat.le_of_ble_eq_true rfl, Nat.le_of_ble_eq_true rfl⟩) ⟨(zA.pre [.ref (ad 0), .int 0] hP hK hD hN).1, va_recv hK hP (ci := 9) (q0 := 0) rfl (zw_at (by omega) hs254), (zA.pre [.ref (ad 0), .int 0] hP hK hD hN).2⟩ rfl rfl hl.1 rfl (lv_room (Nat.le_of_ble_eq_true rfl)) dX9_readsWhole_173 ⟨Nat.le_of_ble_eq_true rfl, Nat.le_of_ble_eq_true rfl⟩) hS (fun q _ h => hFc q h) hFc (fun _ t H1 locs ht hvm hr300 hB hz1 hk1 hS => ?_)
                          obtain ⟨ct301, hP1, hD1, hI, hk302, hk303, hk304⟩ := hB
                          rw [ht] at hP1
                          have hD := hD1.weaken (fun _ _ _ h => hFc _ h)
                          generalize H1 = H at hP1 hS ⊢
                          have hP := hP1
                          refine W.widen (k := 0) (n := 0) (Nat.le_refl _) (Nat.le_refl _) ?_
                          have hps7 := hk304.mono (R2 := R0) (fun _ _ _ h => h.1)
                          refine lv_aload_n hx hb dX9_readsWhole_176 rfl (lv_at hl 0 rfl) ?_
                          refine lv_aload_n hx hb dX9_readsWhole_177 rfl (lv_at hl 0 rfl) ?_
                          obtain ⟨bks306, lks307, gos308, shn309, tpd310, pl0311, ln0312, flt313, opn314, cmy315, wtg316, nm0317, mst318, sus319, cut320, h321, h322, h323, h324, h325, h326, h327, h328, h329, h330, h331, h332, h333, h334, h335, h336, h337, h338, h339, h340, hs305⟩ := a9_0 hI.1
                          have z17_hs305 : zfi 17 (ct301 0) = pl0311.toInt := by rw [hs305]; rfl
                          have z18_hs305 : zfi 18 (ct301 0) = ln0312.toInt := by rw [hs305]; rfl
                          have z21_hs305 : zfi 21 (ct301 0) = cmy315.toInt := by rw [hs305]; rfl
                          have z22_hs305 : zfi 22 (ct301 0) = wtg316.toInt := by rw [hs305]; rfl
                          refine zc_i (va_runV (As := []) (rest := [.ref (ad 0)]) ⟨hx, hb, hml, hown, hg⟩ (k_X9_here l g ad me ct301  hI) (cwV 0 hg (z_gV mm_1215 mm_1217 mm_63 mm_117 mm_1218) rfl rfl rfl (by decide +kernel) ⟨Nat.le_of_ble_eq_true rfl, Nat.le_of_ble_eq_true rfl⟩) ⟨(zR.pre [.ref (ad 0)] hP hK hN).1, va_recv hK hP (ci := 9) (q0 := 0) rfl (zw_at (by omega) hs305), (zR.pre [.ref (ad 0)] hP hK hN).2⟩ rfl rfl hl.1 rfl (lv_room (Nat.le_of_ble_eq_true rfl)) dX9_readsWhole_178 ⟨Nat.le_of_ble_eq_true rfl, Nat.le_of_ble_eq_true rfl⟩) (fun r341 hr341 => ?_)
                          obtain ⟨hqr341, h342⟩ := hr341
                          subst r341
                          replace h342 : (zhv (ct301 0) (ct301 11)).toInt = -1 ∨ (0 ≤ (zhv (ct301 0) (ct301 11)).toInt ∧ zfi 17 (ct301 0) < zfi 18 (ct301 0)) := h342
                          refine lv_bipush (v := 38) hx hb dX9_readsWhole_181 (by decide) ?_
                          refine lv_icmp_ne (tgt := 191) hx hb dX9_readsWhole_183 (by decide) (fun c343 => ?_) (fun c343 => ?_)
                          · skip
                            have c343 : ¬ ((zhv (ct301 0) (ct301 11)).toInt = 38) := fun q => c343 ((z_eq rfl (by decide : (38 : Int32).toInt = 38)).mpr q)
                            refine lv_bipush (v := 12) hx hb dX9_readsWhole_191 (by decide) ?_
                            have hFc := zw_free hD hS hA
                            refine va_callv (va_runV (As := [.int 12]) (rest := []) ⟨hx, hb, hml, hown, hg⟩ (k_X9_jumps l g _ ad me ct301 (12 : Int32) (by first | omega | decide) hI (hps7) (by first | assumption | omega | decide)) (cwV 1 hg (z_gV mm_1282 mm_1284 mm_78 mm_117 mm_1285) rfl rfl rfl (by decide +kernel) ⟨Nat.le_of_ble_eq_true rfl, Nat.le_of_ble_eq_true rfl⟩) ⟨(zA.pre [.ref (ad 0), .int 12] hP hK hD hN).1, va_recv hK hP (ci := 9) (q0 := 0) rfl (zw_at (by omega) hs305), (zA.pre [.ref (ad 0), .int 12] hP hK hD hN).2⟩ rfl rfl hl.1 rfl (lv_room (Nat.le_of_ble_eq_true rfl)) dX9_readsWhole_193 ⟨Nat.le_of_ble_eq_true rfl, Nat.le_of_ble_eq_true rfl⟩) hS (fun q _ h => hFc q h) hFc (fun _ t H1 locs ht hvm hr344 hB hz1 hk1 hS => ?_)
                            obtain ⟨ct345, hP1, hD1, hI, hk346, hk347, hk348⟩ := hB
                            rw [ht] at hP1
                            have hD := hD1.weaken (fun _ _ _ h => hFc _ h)
                            generalize H1 = H at hP1 hS ⊢
                            have hP := hP1
                            refine W.widen (k := 0) (n := 0) (Nat.le_refl _) (Nat.le_refl _) ?_
                            refine lv_goto (tgt := 18) hx hb dX9_readsWhole_196 (by decide) ?_
                            obtain ⟨bks350, lks351, gos352, shn353, tpd354, pl0355, ln0356, flt357, opn358, cmy359, wtg360, nm0361, mst362, sus363, cut364, h365, h366, h367, h368, h369, h370, h371, h372, h373, h374, h375, h376, h377, h378, h379, h380, h381, h382, h383, h384, hs349⟩ := a9_0 hI.1
                            have z17_hs349 : zfi 17 (ct345 0) = pl0355.toInt := by rw [hs349]; rfl
                            have z18_hs349 : zfi 18 (ct345 0) = ln0356.toInt := by rw [hs349]; rfl
                            have z21_hs349 : zfi 21 (ct345 0) = cmy359.toInt := by rw [hs349]; rfl
                            have z22_hs349 : zfi 22 (ct345 0) = wtg360.toInt := by rw [hs349]; rfl
                            exact ih18  ct345 _ _ ls (by omega) (by first | assumption | omega | decide) (by first | assumption | omega | decide) hI hP hD hS (lv_sub hl [0] rfl)
                          · skip
                            have c343 : (zhv (ct301 0) (ct301 11)).toInt = 38 := (z_eq rfl (by decide : (38 : Int32).toInt = 38)).mp c343
                            refine lv_bipush (v := 11) hx hb dX9_readsWhole_186 (by decide) ?_
                            refine lv_goto (tgt := 193) hx hb dX9_readsWhole_188 (by decide) ?_
                            have hFc := zw_free hD hS hA
                            refine va_callv (va_runV (As := [.int 11]) (rest := []) ⟨hx, hb, hml, hown, hg⟩ (k_X9_jumps l g _ ad me ct301 (11 : Int32) (by first | omega | decide) hI (hps7) (by first | assumption | omega | decide)) (cwV 1 hg (z_gV mm_1282 mm_1284 mm_78 mm_117 mm_1285) rfl rfl rfl (by decide +kernel) ⟨Nat.le_of_ble_eq_true rfl, Nat.le_of_ble_eq_true rfl⟩) ⟨(zA.pre [.ref (ad 0), .int 11] hP hK hD hN).1, va_recv hK hP (ci := 9) (q0 := 0) rfl (zw_at (by omega) hs305), (zA.pre [.ref (ad 0), .int 11] hP hK hD hN).2⟩ rfl rfl hl.1 rfl (lv_room (Nat.le_of_ble_eq_true rfl)) dX9_readsWhole_193 ⟨Nat.le_of_ble_eq_true rfl, Nat.le_of_ble_eq_true rfl⟩) hS (fun q _ h => hFc q h) hFc (fun _ t H1 locs ht hvm hr385 hB hz1 hk1 hS => ?_)
                            obtain ⟨ct386, hP1, hD1, hI, hk387, hk388, hk389⟩ := hB
                            rw [ht] at hP1
                            have hD := hD1.weaken (fun _ _ _ h => hFc _ h)
                            generalize H1 = H at hP1 hS ⊢
                            have hP := hP1
                            refine W.widen (k := 0) (n := 0) (Nat.le_refl _) (Nat.le_refl _) ?_
                            refine lv_goto (tgt := 18) hx hb dX9_readsWhole_196 (by decide) ?_
                            obtain ⟨bks391, lks392, gos393, shn394, tpd395, pl0396, ln0397, flt398, opn399, cmy400, wtg401, nm0402, mst403, sus404, cut405, h406, h407, h408, h409, h410, h411, h412, h413, h414, h415, h416, h417, h418, h419, h420, h421, h422, h423, h424, h425, hs390⟩ := a9_0 hI.1
                            have z17_hs390 : zfi 17 (ct386 0) = pl0396.toInt := by rw [hs390]; rfl
                            have z18_hs390 : zfi 18 (ct386 0) = ln0397.toInt := by rw [hs390]; rfl
                            have z21_hs390 : zfi 21 (ct386 0) = cmy400.toInt := by rw [hs390]; rfl
                            have z22_hs390 : zfi 22 (ct386 0) = wtg401.toInt := by rw [hs390]; rfl
                            exact ih18  ct386 _ _ ls (by omega) (by first | assumption | omega | decide) (by first | assumption | omega | decide) hI hP hD hS (lv_sub hl [0] rfl)
                        · skip
                          have c299 : (zhv (ct253 0) (ct253 11)).toInt = 124 := (z_eq rfl (by decide : (124 : Int32).toInt = 124)).mp c299
                          refine lv_iconst (v := 1) hx hb dX9_readsWhole_168 (by decide) ?_
                          refine lv_goto (tgt := 173) hx hb dX9_readsWhole_169 (by decide) ?_
                          have hFc := zw_free hD hS hA
                          refine va_callv (va_runV (As := [.int 1]) (rest := []) ⟨hx, hb, hml, hown, hg⟩ (k_X9_lands l g _ ad me ct253 (1 : Int32) (by first | omega | decide) hI (j2_70)) (cwV 1 hg (z_gV mm_1278 mm_1280 mm_77 mm_117 mm_1281) rfl rfl rfl (by decide +kernel) ⟨Nat.le_of_ble_eq_true rfl, Nat.le_of_ble_eq_true rfl⟩) ⟨(zA.pre [.ref (ad 0), .int 1] hP hK hD hN).1, va_recv hK hP (ci := 9) (q0 := 0) rfl (zw_at (by omega) hs254), (zA.pre [.ref (ad 0), .int 1] hP hK hD hN).2⟩ rfl rfl hl.1 rfl (lv_room (Nat.le_of_ble_eq_true rfl)) dX9_readsWhole_173 ⟨Nat.le_of_ble_eq_true rfl, Nat.le_of_ble_eq_true rfl⟩) hS (fun q _ h => hFc q h) hFc (fun _ t H1 locs ht hvm hr426 hB hz1 hk1 hS => ?_)
                          obtain ⟨ct427, hP1, hD1, hI, hk428, hk429, hk430⟩ := hB
                          rw [ht] at hP1
                          have hD := hD1.weaken (fun _ _ _ h => hFc _ h)
                          generalize H1 = H at hP1 hS ⊢
                          have hP := hP1
                          refine W.widen (k := 0) (n := 0) (Nat.le_refl _) (Nat.le_refl _) ?_
                          have hps7 := hk430.mono (R2 := R0) (fun _ _ _ h => h.1)
                          refine lv_aload_n hx hb dX9_readsWhole_176 rfl (lv_at hl 0 rfl) ?_
                          refine lv_aload_n hx hb dX9_readsWhole_177 rfl (lv_at hl 0 rfl) ?_
                          obtain ⟨bks432, lks433, gos434, shn435, tpd436, pl0437, ln0438, flt439, opn440, cmy441, wtg442, nm0443, mst444, sus445, cut446, h447, h448, h449, h450, h451, h452, h453, h454, h455, h456, h457, h458, h459, h460, h461, h462, h463, h464, h465, h466, hs431⟩ := a9_0 hI.1
                          have z17_hs431 : zfi 17 (ct427 0) = pl0437.toInt := by rw [hs431]; rfl
                          have z18_hs431 : zfi 18 (ct427 0) = ln0438.toInt := by rw [hs431]; rfl
                          have z21_hs431 : zfi 21 (ct427 0) = cmy441.toInt := by rw [hs431]; rfl
                          have z22_hs431 : zfi 22 (ct427 0) = wtg442.toInt := by rw [hs431]; rfl
                          refine zc_i (va_runV (As := []) (rest := [.ref (ad 0)]) ⟨hx, hb, hml, hown, hg⟩ (k_X9_here l g ad me ct427  hI) (cwV 0 hg (z_gV mm_1215 mm_1217 mm_63 mm_117 mm_1218) rfl rfl rfl (by decide +kernel) ⟨Nat.le_of_ble_eq_true rfl, Nat.le_of_ble_eq_true rfl⟩) ⟨(zR.pre [.ref (ad 0)] hP hK hN).1, va_recv hK hP (ci := 9) (q0 := 0) rfl (zw_at (by omega) hs431), (zR.pre [.ref (ad 0)] hP hK hN).2⟩ rfl rfl hl.1 rfl (lv_room (Nat.le_of_ble_eq_true rfl)) dX9_readsWhole_178 ⟨Nat.le_of_ble_eq_true rfl, Nat.le_of_ble_eq_true rfl⟩) (fun r467 hr467 => ?_)
                          obtain ⟨hqr467, h468⟩ := hr467
                          subst r467
                          replace h468 : (zhv (ct427 0) (ct427 11)).toInt = -1 ∨ (0 ≤ (zhv (ct427 0) (ct427 11)).toInt ∧ zfi 17 (ct427 0) < zfi 18 (ct427 0)) := h468
                          refine lv_bipush (v := 38) hx hb dX9_readsWhole_181 (by decide) ?_
                          refine lv_icmp_ne (tgt := 191) hx hb dX9_readsWhole_183 (by decide) (fun c469 => ?_) (fun c469 => ?_)
                          · skip
                            have c469 : ¬ ((zhv (ct427 0) (ct427 11)).toInt = 38) := fun q => c469 ((z_eq rfl (by decide : (38 : Int32).toInt = 38)).mpr q)
                            refine lv_bipush (v := 12) hx hb dX9_readsWhole_191 (by decide) ?_
                            have hFc := zw_free hD hS hA
                            refine va_callv (va_runV (As := [.int 12]) (rest := []) ⟨hx, hb, hml, hown, hg⟩ (k_X9_jumps l g _ ad me ct427 (12 : Int32) (by first | omega | decide) hI (hps7) (by first | assumption | omega | decide)) (cwV 1 hg (z_gV mm_1282 mm_1284 mm_78 mm_117 mm_1285) rfl rfl rfl (by decide +kernel) ⟨Nat.le_of_ble_eq_true rfl, Nat.le_of_ble_eq_true rfl⟩) ⟨(zA.pre [.ref (ad 0), .int 12] hP hK hD hN).1, va_recv hK hP (ci := 9) (q0 := 0) rfl (zw_at (by omega) hs431), (zA.pre [.ref (ad 0), .int 12] hP hK hD hN).2⟩ rfl rfl hl.1 rfl (lv_room (Nat.le_of_ble_eq_true rfl)) dX9_readsWhole_193 ⟨Nat.le_of_ble_eq_true rfl, Nat.le_of_ble_eq_true rfl⟩) hS (fun q _ h => hFc q h) hFc (fun _ t H1 locs ht hvm hr470 hB hz1 hk1 hS => ?_)
                            obtain ⟨ct471, hP1, hD1, hI, hk472, hk473, hk474⟩ := hB
                            rw [ht] at hP1
                            have hD := hD1.weaken (fun _ _ _ h => hFc _ h)
                            generalize H1 = H at hP1 hS ⊢
                            have hP := hP1
                            refine W.widen (k := 0) (n := 0) (Nat.le_refl _) (Nat.le_refl _) ?_
                            refine lv_goto (tgt := 18) hx hb dX9_readsWhole_196 (by decide) ?_
                            obtain ⟨bks476, lks477, gos478, shn479, tpd480, pl0481, ln0482, flt483, opn484, cmy485, wtg486, nm0487, mst488, sus489, cut490, h491, h492, h493, h494, h495, h496, h497, h498, h499, h500, h501, h502, h503, h504, h505, h506, h507, h508, h509, h510, hs475⟩ := a9_0 hI.1
                            have z17_hs475 : zfi 17 (ct471 0) = pl0481.toInt := by rw [hs475]; rfl
                            have z18_hs475 : zfi 18 (ct471 0) = ln0482.toInt := by rw [hs475]; rfl
                            have z21_hs475 : zfi 21 (ct471 0) = cmy485.toInt := by rw [hs475]; rfl
                            have z22_hs475 : zfi 22 (ct471 0) = wtg486.toInt := by rw [hs475]; rfl
                            exact ih18  ct471 _ _ ls (by omega) (by first | assumption | omega | decide) (by first | assumption | omega | decide) hI hP hD hS (lv_sub hl [0] rfl)
                          · skip
                            have c469 : (zhv (ct427 0) (ct427 11)).toInt = 38 := (z_eq rfl (by decide : (38 : Int32).toInt = 38)).mp c469
                            refine lv_bipush (v := 11) hx hb dX9_readsWhole_186 (by decide) ?_
                            refine lv_goto (tgt := 193) hx hb dX9_readsWhole_188 (by decide) ?_
                            have hFc := zw_free hD hS hA
                            refine va_callv (va_runV (As := [.int 11]) (rest := []) ⟨hx, hb, hml, hown, hg⟩ (k_X9_jumps l g _ ad me ct427 (11 : Int32) (by first | omega | decide) hI (hps7) (by first | assumption | omega | decide)) (cwV 1 hg (z_gV mm_1282 mm_1284 mm_78 mm_117 mm_1285) rfl rfl rfl (by decide +kernel) ⟨Nat.le_of_ble_eq_true rfl, Nat.le_of_ble_eq_true rfl⟩) ⟨(zA.pre [.ref (ad 0), .int 11] hP hK hD hN).1, va_recv hK hP (ci := 9) (q0 := 0) rfl (zw_at (by omega) hs431), (zA.pre [.ref (ad 0), .int 11] hP hK hD hN).2⟩ rfl rfl hl.1 rfl (lv_room (Nat.le_of_ble_eq_true rfl)) dX9_readsWhole_193 ⟨Nat.le_of_ble_eq_true rfl, Nat.le_of_ble_eq_true rfl⟩) hS (fun q _ h => hFc q h) hFc (fun _ t H1 locs ht hvm hr511 hB hz1 hk1 hS => ?_)
                            obtain ⟨ct512, hP1, hD1, hI, hk513, hk514, hk515⟩ := hB
                            rw [ht] at hP1
                            have hD := hD1.weaken (fun _ _ _ h => hFc _ h)
                            generalize H1 = H at hP1 hS ⊢
                            have hP := hP1
                            refine W.widen (k := 0) (n := 0) (Nat.le_refl _) (Nat.le_refl _) ?_
                            refine lv_goto (tgt := 18) hx hb dX9_readsWhole_196 (by decide) ?_
                            obtain ⟨bks517, lks518, gos519, shn520, tpd521, pl0522, ln0523, flt524, opn525, cmy526, wtg527, nm0528, mst529, sus530, cut531, h532, h533, h534, h535, h536, h537, h538, h539, h540, h541, h542, h543, h544, h545, h546, h547, h548, h549, h550, h551, hs516⟩ := a9_0 hI.1
                            have z17_hs516 : zfi 17 (ct512 0) = pl0522.toInt := by rw [hs516]; rfl
                            have z18_hs516 : zfi 18 (ct512 0) = ln0523.toInt := by rw [hs516]; rfl
                            have z21_hs516 : zfi 21 (ct512 0) = cmy526.toInt := by rw [hs516]; rfl
                            have z22_hs516 : zfi 22 (ct512 0) = wtg527.toInt := by rw [hs516]; rfl
                            exact ih18  ct512 _ _ ls (by omega) (by first | assumption | omega | decide) (by first | assumption | omega | decide) hI hP hD hS (lv_sub hl [0] rfl)
                      · skip
                        have c296 : ¬ ((zhv (ct253 0) (ct253 11)).toInt = 38) := fun q => c296 ((z_eq rfl (by decide : (38 : Int32).toInt = 38)).mpr q)
                        refine lv_aload_n hx hb dX9_readsWhole_139 rfl (lv_at hl 0 rfl) ?_
                        refine zc_i (va_runV (As := []) (rest := []) ⟨hx, hb, hml, hown, hg⟩ (k_X9_here l g ad me ct253  hI) (cwV 0 hg (z_gV mm_1215 mm_1217 mm_63 mm_117 mm_1218) rfl rfl rfl (by decide +kernel) ⟨Nat.le_of_ble_eq_true rfl, Nat.le_of_ble_eq_true rfl⟩) ⟨(zR.pre [.ref (ad 0)] hP hK hN).1, va_recv hK hP (ci := 9) (q0 := 0) rfl (zw_at (by omega) hs254), (zR.pre [.ref (ad 0)] hP hK hN).2⟩ rfl rfl hl.1 rfl (lv_room (Nat.le_of_ble_eq_true rfl)) dX9_readsWhole_140 ⟨Nat.le_of_ble_eq_true rfl, Nat.le_of_ble_eq_true rfl⟩) (fun r552 hr552 => ?_)
                        obtain ⟨hqr552, h553⟩ := hr552
                        subst r552
                        replace h553 : (zhv (ct253 0) (ct253 11)).toInt = -1 ∨ (0 ≤ (zhv (ct253 0) (ct253 11)).toInt ∧ zfi 17 (ct253 0) < zfi 18 (ct253 0)) := h553
                        refine lv_bipush (v := 124) hx hb dX9_readsWhole_143 (by decide) ?_
                        refine lv_icmp_eq (tgt := 158) hx hb dX9_readsWhole_145 (by decide) (fun c554 => ?_) (fun c554 => ?_)
                        · skip
                          have c554 : (zhv (ct253 0) (ct253 11)).toInt = 124 := (z_eq rfl (by decide : (124 : Int32).toInt = 124)).mp c554
                          refine lv_aload_n hx hb dX9_readsWhole_158 rfl (lv_at hl 0 rfl) ?_
                          refine lv_aload_n hx hb dX9_readsWhole_159 rfl (lv_at hl 0 rfl) ?_
                          refine zc_i (va_runV (As := []) (rest := [.ref (ad 0)]) ⟨hx, hb, hml, hown, hg⟩ (k_X9_here l g ad me ct253  hI) (cwV 0 hg (z_gV mm_1215 mm_1217 mm_63 mm_117 mm_1218) rfl rfl rfl (by decide +kernel) ⟨Nat.le_of_ble_eq_true rfl, Nat.le_of_ble_eq_true rfl⟩) ⟨(zR.pre [.ref (ad 0)] hP hK hN).1, va_recv hK hP (ci := 9) (q0 := 0) rfl (zw_at (by omega) hs254), (zR.pre [.ref (ad 0)] hP hK hN).2⟩ rfl rfl hl.1 rfl (lv_room (Nat.le_of_ble_eq_true rfl)) dX9_readsWhole_160 ⟨Nat.le_of_ble_eq_true rfl, Nat.le_of_ble_eq_true rfl⟩) (fun r555 hr555 => ?_)
                          obtain ⟨hqr555, h556⟩ := hr555
                          subst r555
                          replace h556 : (zhv (ct253 0) (ct253 11)).toInt = -1 ∨ (0 ≤ (zhv (ct253 0) (ct253 11)).toInt ∧ zfi 17 (ct253 0) < zfi 18 (ct253 0)) := h556
                          refine lv_bipush (v := 124) hx hb dX9_readsWhole_163 (by decide) ?_
                          refine lv_icmp_ne (tgt := 172) hx hb dX9_readsWhole_165 (by decide) (fun c557 => ?_) (fun c557 => ?_)
                          · skip
                            have c557 : ¬ ((zhv (ct253 0) (ct253 11)).toInt = 124) := fun q => c557 ((z_eq rfl (by decide : (124 : Int32).toInt = 124)).mpr q)
                            refine lv_iconst (v := 0) hx hb dX9_readsWhole_172 (by decide) ?_
                            have hFc := zw_free hD hS hA
                            refine va_callv (va_runV (As := [.int 0]) (rest := []) ⟨hx, hb, hml, hown, hg⟩ (k_X9_lands l g _ ad me ct253 (0 : Int32) (by first | omega | decide) hI (j2_70)) (cwV 1 hg (z_gV mm_1278 mm_1280 mm_77 mm_117 mm_1281) rfl rfl rfl (by decide +kernel) ⟨Nat.le_of_ble_eq_true rfl, Nat.le_of_ble_eq_true rfl⟩) ⟨(zA.pre [.ref (ad 0), .int 0] hP hK hD hN).1, va_recv hK hP (ci := 9) (q0 := 0) rfl (zw_at (by omega) hs254), (zA.pre [.ref (ad 0), .int 0] hP hK hD hN).2⟩ rfl rfl hl.1 rfl (lv_room (Nat.le_of_ble_eq_true rfl)) dX9_readsWhole_173 ⟨Nat.le_of_ble_eq_true rfl, Nat.le_of_ble_eq_true rfl⟩) hS (fun q _ h => hFc q h) hFc (fun _ t H1 locs ht hvm hr558 hB hz1 hk1 hS => ?_)
                            obtain ⟨ct559, hP1, hD1, hI, hk560, hk561, hk562⟩ := hB
                            rw [ht] at hP1
                            have hD := hD1.weaken (fun _ _ _ h => hFc _ h)
                            generalize H1 = H at hP1 hS ⊢
                            have hP := hP1
                            refine W.widen (k := 0) (n := 0) (Nat.le_refl _) (Nat.le_refl _) ?_
                            have hps7 := hk562.mono (R2 := R0) (fun _ _ _ h => h.1)
                            refine lv_aload_n hx hb dX9_readsWhole_176 rfl (lv_at hl 0 rfl) ?_
                            refine lv_aload_n hx hb dX9_readsWhole_177 rfl (lv_at hl 0 rfl) ?_
                            obtain ⟨bks564, lks565, gos566, shn567, tpd568, pl0569, ln0570, flt571, opn572, cmy573, wtg574, nm0575, mst576, sus577, cut578, h579, h580, h581, h582, h583, h584, h585, h586, h587, h588, h589, h590, h591, h592, h593, h594, h595, h596, h597, h598, hs563⟩ := a9_0 hI.1
                            have z17_hs563 : zfi 17 (ct559 0) = pl0569.toInt := by rw [hs563]; rfl
                            have z18_hs563 : zfi 18 (ct559 0) = ln0570.toInt := by rw [hs563]; rfl
                            have z21_hs563 : zfi 21 (ct559 0) = cmy573.toInt := by rw [hs563]; rfl
                            have z22_hs563 : zfi 22 (ct559 0) = wtg574.toInt := by rw [hs563]; rfl
                            refine zc_i (va_runV (As := []) (rest := [.ref (ad 0)]) ⟨hx, hb, hml, hown, hg⟩ (k_X9_here l g ad me ct559  hI) (cwV 0 hg (z_gV mm_1215 mm_1217 mm_63 mm_117 mm_1218) rfl rfl rfl (by decide +kernel) ⟨Nat.le_of_ble_eq_true rfl, Nat.le_of_ble_eq_true rfl⟩) ⟨(zR.pre [.ref (ad 0)] hP hK hN).1, va_recv hK hP (ci := 9) (q0 := 0) rfl (zw_at (by omega) hs563), (zR.pre [.ref (ad 0)] hP hK hN).2⟩ rfl rfl hl.1 rfl (lv_room (Nat.le_of_ble_eq_true rfl)) dX9_readsWhole_178 ⟨Nat.le_of_ble_eq_true rfl, Nat.le_of_ble_eq_true rfl⟩) (fun r599 hr599 => ?_)
                            obtain ⟨hqr599, h600⟩ := hr599
                            subst r599
                            replace h600 : (zhv (ct559 0) (ct559 11)).toInt = -1 ∨ (0 ≤ (zhv (ct559 0) (ct559 11)).toInt ∧ zfi 17 (ct559 0) < zfi 18 (ct559 0)) := h600
                            refine lv_bipush (v := 38) hx hb dX9_readsWhole_181 (by decide) ?_
                            refine lv_icmp_ne (tgt := 191) hx hb dX9_readsWhole_183 (by decide) (fun c601 => ?_) (fun c601 => ?_)
                            · skip
                              have c601 : ¬ ((zhv (ct559 0) (ct559 11)).toInt = 38) := fun q => c601 ((z_eq rfl (by decide : (38 : Int32).toInt = 38)).mpr q)
                              refine lv_bipush (v := 12) hx hb dX9_readsWhole_191 (by decide) ?_
                              have hFc := zw_free hD hS hA
                              refine va_callv (va_runV (As := [.int 12]) (rest := []) ⟨hx, hb, hml, hown, hg⟩ (k_X9_jumps l g _ ad me ct559 (12 : Int32) (by first | omega | decide) hI (hps7) (by first | assumption | omega | decide)) (cwV 1 hg (z_gV mm_1282 mm_1284 mm_78 mm_117 mm_1285) rfl rfl rfl (by decide +kernel) ⟨Nat.le_of_ble_eq_true rfl, Nat.le_of_ble_eq_true rfl⟩) ⟨(zA.pre [.ref (ad 0), .int 12] hP hK hD hN).1, va_recv hK hP (ci := 9) (q0 := 0) rfl (zw_at (by omega) hs563), (zA.pre [.ref (ad 0), .int 12] hP hK hD hN).2⟩ rfl rfl hl.1 rfl (lv_room (Nat.le_of_ble_eq_true rfl)) dX9_readsWhole_193 ⟨Nat.le_of_ble_eq_true rfl, Nat.le_of_ble_eq_true rfl⟩) hS (fun q _ h => hFc q h) hFc (fun _ t H1 locs ht hvm hr602 hB hz1 hk1 hS => ?_)
                              obtain ⟨ct603, hP1, hD1, hI, hk604, hk605, hk606⟩ := hB
                              rw [ht] at hP1
                              have hD := hD1.weaken (fun _ _ _ h => hFc _ h)
                              generalize H1 = H at hP1 hS ⊢
                              have hP := hP1
                              refine W.widen (k := 0) (n := 0) (Nat.le_refl _) (Nat.le_refl _) ?_
                              refine lv_goto (tgt := 18) hx hb dX9_readsWhole_196 (by decide) ?_
                              obtain ⟨bks608, lks609, gos610, shn611, tpd612, pl0613, ln0614, flt615, opn616, cmy617, wtg618, nm0619, mst620, sus621, cut622, h623, h624, h625, h626, h627, h628, h629, h630, h631, h632, h633, h634, h635, h636, h637, h638, h639, h640, h641, h642, hs607⟩ := a9_0 hI.1
                              have z17_hs607 : zfi 17 (ct603 0) = pl0613.toInt := by rw [hs607]; rfl
                              have z18_hs607 : zfi 18 (ct603 0) = ln0614.toInt := by rw [hs607]; rfl
                              have z21_hs607 : zfi 21 (ct603 0) = cmy617.toInt := by rw [hs607]; rfl
                              have z22_hs607 : zfi 22 (ct603 0) = wtg618.toInt := by rw [hs607]; rfl
                              exact ih18  ct603 _ _ ls (by omega) (by first | assumption | omega | decide) (by first | assumption | omega | decide) hI hP hD hS (lv_sub hl [0] rfl)
                            · skip
                              have c601 : (zhv (ct559 0) (ct559 11)).toInt = 38 := (z_eq rfl (by decide : (38 : Int32).toInt = 38)).mp c601
                              refine lv_bipush (v := 11) hx hb dX9_readsWhole_186 (by decide) ?_
                              refine lv_goto (tgt := 193) hx hb dX9_readsWhole_188 (by decide) ?_
                              have hFc := zw_free hD hS hA
                              refine va_callv (va_runV (As := [.int 11]) (rest := []) ⟨hx, hb, hml, hown, hg⟩ (k_X9_jumps l g _ ad me ct559 (11 : Int32) (by first | omega | decide) hI (hps7) (by first | assumption | omega | decide)) (cwV 1 hg (z_gV mm_1282 mm_1284 mm_78 mm_117 mm_1285) rfl rfl rfl (by decide +kernel) ⟨Nat.le_of_ble_eq_true rfl, Nat.le_of_ble_eq_true rfl⟩) ⟨(zA.pre [.ref (ad 0), .int 11] hP hK hD hN).1, va_recv hK hP (ci := 9) (q0 := 0) rfl (zw_at (by omega) hs563), (zA.pre [.ref (ad 0), .int 11] hP hK hD hN).2⟩ rfl rfl hl.1 rfl (lv_room (Nat.le_of_ble_eq_true rfl)) dX9_readsWhole_193 ⟨Nat.le_of_ble_eq_true rfl, Nat.le_of_ble_eq_true rfl⟩) hS (fun q _ h => hFc q h) hFc (fun _ t H1 locs ht hvm hr643 hB hz1 hk1 hS => ?_)
                              obtain ⟨ct644, hP1, hD1, hI, hk645, hk646, hk647⟩ := hB
                              rw [ht] at hP1
                              have hD := hD1.weaken (fun _ _ _ h => hFc _ h)
                              generalize H1 = H at hP1 hS ⊢
                              have hP := hP1
                              refine W.widen (k := 0) (n := 0) (Nat.le_refl _) (Nat.le_refl _) ?_
                              refine lv_goto (tgt := 18) hx hb dX9_readsWhole_196 (by decide) ?_
                              obtain ⟨bks649, lks650, gos651, shn652, tpd653, pl0654, ln0655, flt656, opn657, cmy658, wtg659, nm0660, mst661, sus662, cut663, h664, h665, h666, h667, h668, h669, h670, h671, h672, h673, h674, h675, h676, h677, h678, h679, h680, h681, h682, h683, hs648⟩ := a9_0 hI.1
                              have z17_hs648 : zfi 17 (ct644 0) = pl0654.toInt := by rw [hs648]; rfl
                              have z18_hs648 : zfi 18 (ct644 0) = ln0655.toInt := by rw [hs648]; rfl
                              have z21_hs648 : zfi 21 (ct644 0) = cmy658.toInt := by rw [hs648]; rfl
                              have z22_hs648 : zfi 22 (ct644 0) = wtg659.toInt := by rw [hs648]; rfl
                              exact ih18  ct644 _ _ ls (by omega) (by first | assumption | omega | decide) (by first | assumption | omega | decide) hI hP hD hS (lv_sub hl [0] rfl)
                          · skip
                            have c557 : (zhv (ct253 0) (ct253 11)).toInt = 124 := (z_eq rfl (by decide : (124 : Int32).toInt = 124)).mp c557
                            refine lv_iconst (v := 1) hx hb dX9_readsWhole_168 (by decide) ?_
                            refine lv_goto (tgt := 173) hx hb dX9_readsWhole_169 (by decide) ?_
                            have hFc := zw_free hD hS hA
                            refine va_callv (va_runV (As := [.int 1]) (rest := []) ⟨hx, hb, hml, hown, hg⟩ (k_X9_lands l g _ ad me ct253 (1 : Int32) (by first | omega | decide) hI (j2_70)) (cwV 1 hg (z_gV mm_1278 mm_1280 mm_77 mm_117 mm_1281) rfl rfl rfl (by decide +kernel) ⟨Nat.le_of_ble_eq_true rfl, Nat.le_of_ble_eq_true rfl⟩) ⟨(zA.pre [.ref (ad 0), .int 1] hP hK hD hN).1, va_recv hK hP (ci := 9) (q0 := 0) rfl (zw_at (by omega) hs254), (zA.pre [.ref (ad 0), .int 1] hP hK hD hN).2⟩ rfl rfl hl.1 rfl (lv_room (Nat.le_of_ble_eq_true rfl)) dX9_readsWhole_173 ⟨Nat.le_of_ble_eq_true rfl, Nat.le_of_ble_eq_true rfl⟩) hS (fun q _ h => hFc q h) hFc (fun _ t H1 locs ht hvm hr684 hB hz1 hk1 hS => ?_)
                            obtain ⟨ct685, hP1, hD1, hI, hk686, hk687, hk688⟩ := hB
                            rw [ht] at hP1
                            have hD := hD1.weaken (fun _ _ _ h => hFc _ h)
                            generalize H1 = H at hP1 hS ⊢
                            have hP := hP1
                            refine W.widen (k := 0) (n := 0) (Nat.le_refl _) (Nat.le_refl _) ?_
                            have hps7 := hk688.mono (R2 := R0) (fun _ _ _ h => h.1)
                            refine lv_aload_n hx hb dX9_readsWhole_176 rfl (lv_at hl 0 rfl) ?_
                            refine lv_aload_n hx hb dX9_readsWhole_177 rfl (lv_at hl 0 rfl) ?_
                            obtain ⟨bks690, lks691, gos692, shn693, tpd694, pl0695, ln0696, flt697, opn698, cmy699, wtg700, nm0701, mst702, sus703, cut704, h705, h706, h707, h708, h709, h710, h711, h712, h713, h714, h715, h716, h717, h718, h719, h720, h721, h722, h723, h724, hs689⟩ := a9_0 hI.1
                            have z17_hs689 : zfi 17 (ct685 0) = pl0695.toInt := by rw [hs689]; rfl
                            have z18_hs689 : zfi 18 (ct685 0) = ln0696.toInt := by rw [hs689]; rfl
                            have z21_hs689 : zfi 21 (ct685 0) = cmy699.toInt := by rw [hs689]; rfl
                            have z22_hs689 : zfi 22 (ct685 0) = wtg700.toInt := by rw [hs689]; rfl
                            refine zc_i (va_runV (As := []) (rest := [.ref (ad 0)]) ⟨hx, hb, hml, hown, hg⟩ (k_X9_here l g ad me ct685  hI) (cwV 0 hg (z_gV mm_1215 mm_1217 mm_63 mm_117 mm_1218) rfl rfl rfl (by decide +kernel) ⟨Nat.le_of_ble_eq_true rfl, Nat.le_of_ble_eq_true rfl⟩) ⟨(zR.pre [.ref (ad 0)] hP hK hN).1, va_recv hK hP (ci := 9) (q0 := 0) rfl (zw_at (by omega) hs689), (zR.pre [.ref (ad 0)] hP hK hN).2⟩ rfl rfl hl.1 rfl (lv_room (Nat.le_of_ble_eq_true rfl)) dX9_readsWhole_178 ⟨Nat.le_of_ble_eq_true rfl, Nat.le_of_ble_eq_true rfl⟩) (fun r725 hr725 => ?_)
                            obtain ⟨hqr725, h726⟩ := hr725
                            subst r725
                            replace h726 : (zhv (ct685 0) (ct685 11)).toInt = -1 ∨ (0 ≤ (zhv (ct685 0) (ct685 11)).toInt ∧ zfi 17 (ct685 0) < zfi 18 (ct685 0)) := h726
                            refine lv_bipush (v := 38) hx hb dX9_readsWhole_181 (by decide) ?_
                            refine lv_icmp_ne (tgt := 191) hx hb dX9_readsWhole_183 (by decide) (fun c727 => ?_) (fun c727 => ?_)
                            · skip
                              have c727 : ¬ ((zhv (ct685 0) (ct685 11)).toInt = 38) := fun q => c727 ((z_eq rfl (by decide : (38 : Int32).toInt = 38)).mpr q)
                              refine lv_bipush (v := 12) hx hb dX9_readsWhole_191 (by decide) ?_
                              have hFc := zw_free hD hS hA
                              refine va_callv (va_runV (As := [.int 12]) (rest := []) ⟨hx, hb, hml, hown, hg⟩ (k_X9_jumps l g _ ad me ct685 (12 : Int32) (by first | omega | decide) hI (hps7) (by first | assumption | omega | decide)) (cwV 1 hg (z_gV mm_1282 mm_1284 mm_78 mm_117 mm_1285) rfl rfl rfl (by decide +kernel) ⟨Nat.le_of_ble_eq_true rfl, Nat.le_of_ble_eq_true rfl⟩) ⟨(zA.pre [.ref (ad 0), .int 12] hP hK hD hN).1, va_recv hK hP (ci := 9) (q0 := 0) rfl (zw_at (by omega) hs689), (zA.pre [.ref (ad 0), .int 12] hP hK hD hN).2⟩ rfl rfl hl.1 rfl (lv_room (Nat.le_of_ble_eq_true rfl)) dX9_readsWhole_193 ⟨Nat.le_of_ble_eq_true rfl, Nat.le_of_ble_eq_true rfl⟩) hS (fun q _ h => hFc q h) hFc (fun _ t H1 locs ht hvm hr728 hB hz1 hk1 hS => ?_)
                              obtain ⟨ct729, hP1, hD1, hI, hk730, hk731, hk732⟩ := hB
                              rw [ht] at hP1
                              have hD := hD1.weaken (fun _ _ _ h => hFc _ h)
                              generalize H1 = H at hP1 hS ⊢
                              have hP := hP1
                              refine W.widen (k := 0) (n := 0) (Nat.le_refl _) (Nat.le_refl _) ?_
                              refine lv_goto (tgt := 18) hx hb dX9_readsWhole_196 (by decide) ?_
                              obtain ⟨bks734, lks735, gos736, shn737, tpd738, pl0739, ln0740, flt741, opn742, cmy743, wtg744, nm0745, mst746, sus747, cut748, h749, h750, h751, h752, h753, h754, h755, h756, h757, h758, h759, h760, h761, h762, h763, h764, h765, h766, h767, h768, hs733⟩ := a9_0 hI.1
                              have z17_hs733 : zfi 17 (ct729 0) = pl0739.toInt := by rw [hs733]; rfl
                              have z18_hs733 : zfi 18 (ct729 0) = ln0740.toInt := by rw [hs733]; rfl
                              have z21_hs733 : zfi 21 (ct729 0) = cmy743.toInt := by rw [hs733]; rfl
                              have z22_hs733 : zfi 22 (ct729 0) = wtg744.toInt := by rw [hs733]; rfl
                              exact ih18  ct729 _ _ ls (by omega) (by first | assumption | omega | decide) (by first | assumption | omega | decide) hI hP hD hS (lv_sub hl [0] rfl)
                            · skip
                              have c727 : (zhv (ct685 0) (ct685 11)).toInt = 38 := (z_eq rfl (by decide : (38 : Int32).toInt = 38)).mp c727
                              refine lv_bipush (v := 11) hx hb dX9_readsWhole_186 (by decide) ?_
                              refine lv_goto (tgt := 193) hx hb dX9_readsWhole_188 (by decide) ?_
                              have hFc := zw_free hD hS hA
                              refine va_callv (va_runV (As := [.int 11]) (rest := []) ⟨hx, hb, hml, hown, hg⟩ (k_X9_jumps l g _ ad me ct685 (11 : Int32) (by first | omega | decide) hI (hps7) (by first | assumption | omega | decide)) (cwV 1 hg (z_gV mm_1282 mm_1284 mm_78 mm_117 mm_1285) rfl rfl rfl (by decide +kernel) ⟨Nat.le_of_ble_eq_true rfl, Nat.le_of_ble_eq_true rfl⟩) ⟨(zA.pre [.ref (ad 0), .int 11] hP hK hD hN).1, va_recv hK hP (ci := 9) (q0 := 0) rfl (zw_at (by omega) hs689), (zA.pre [.ref (ad 0), .int 11] hP hK hD hN).2⟩ rfl rfl hl.1 rfl (lv_room (Nat.le_of_ble_eq_true rfl)) dX9_readsWhole_193 ⟨Nat.le_of_ble_eq_true rfl, Nat.le_of_ble_eq_true rfl⟩) hS (fun q _ h => hFc q h) hFc (fun _ t H1 locs ht hvm hr769 hB hz1 hk1 hS => ?_)
                              obtain ⟨ct770, hP1, hD1, hI, hk771, hk772, hk773⟩ := hB
                              rw [ht] at hP1
                              have hD := hD1.weaken (fun _ _ _ h => hFc _ h)
                              generalize H1 = H at hP1 hS ⊢
                              have hP := hP1
                              refine W.widen (k := 0) (n := 0) (Nat.le_refl _) (Nat.le_refl _) ?_
                              refine lv_goto (tgt := 18) hx hb dX9_readsWhole_196 (by decide) ?_
                              obtain ⟨bks775, lks776, gos777, shn778, tpd779, pl0780, ln0781, flt782, opn783, cmy784, wtg785, nm0786, mst787, sus788, cut789, h790, h791, h792, h793, h794, h795, h796, h797, h798, h799, h800, h801, h802, h803, h804, h805, h806, h807, h808, h809, hs774⟩ := a9_0 hI.1
                              have z17_hs774 : zfi 17 (ct770 0) = pl0780.toInt := by rw [hs774]; rfl
                              have z18_hs774 : zfi 18 (ct770 0) = ln0781.toInt := by rw [hs774]; rfl
                              have z21_hs774 : zfi 21 (ct770 0) = cmy784.toInt := by rw [hs774]; rfl
                              have z22_hs774 : zfi 22 (ct770 0) = wtg785.toInt := by rw [hs774]; rfl
                              exact ih18  ct770 _ _ ls (by omega) (by first | assumption | omega | decide) (by first | assumption | omega | decide) hI hP hD hS (lv_sub hl [0] rfl)
                        · skip
                          have c554 : ¬ ((zhv (ct253 0) (ct253 11)).toInt = 124) := fun q => c554 ((z_eq rfl (by decide : (124 : Int32).toInt = 124)).mpr q)
                          refine lv_aload_n hx hb dX9_readsWhole_148 rfl (lv_at hl 0 rfl) ?_
                          refine lv_iconst (v := 1) hx hb dX9_readsWhole_149 (by decide) ?_
                          refine lv_aload_n hx hb dX9_readsWhole_150 rfl (lv_at hl 0 rfl) ?_
                          refine va_get (D := g.1) (ci := 9) (v := .int pl0260) (C := RX9) (T := TX9) (N := 47) hx hb hg inG9 hown hK hP 0 (zw_at (by omega) hs254) rfl 17 (by decide) (hg _ mm_975) (fun _ h9 => h9) rfl dX9_readsWhole_151 ?_
                          have hFc := zw_free hD hS hA
                          refine va_calli (va_runV (As := [.int 1, .int pl0260]) (rest := []) ⟨hx, hb, hml, hown, hg⟩ (k_X9_wrongAt l g _ ad me ct253 (1 : Int32) pl0260 hI) (cwV 2 hg (z_gV mm_1223 mm_1225 mm_65 mm_117 mm_1226) rfl rfl rfl (by decide +kernel) ⟨Nat.le_of_ble_eq_true rfl, Nat.le_of_ble_eq_true rfl⟩) ⟨(zA.pre [.ref (ad 0), .int 1, .int pl0260] hP hK hD hN).1, va_recv hK hP (ci := 9) (q0 := 0) rfl (zw_at (by omega) hs254), (zA.pre [.ref (ad 0), .int 1, .int pl0260] hP hK hD hN).2⟩ rfl rfl hl.1 rfl (lv_room (Nat.le_of_ble_eq_true rfl)) dX9_readsWhole_154 ⟨Nat.le_of_ble_eq_true rfl, Nat.le_of_ble_eq_true rfl⟩) hS (fun q _ h => hFc q h) hFc (fun r810 _ t H1 locs ht hvm hr810 hB hz1 hk1 hS => ?_)
                          obtain ⟨ct811, hP1, hD1, hI, hk812, hk813, hk814, hk815, hk816, hk817⟩ := hB
                          rw [ht] at hP1
                          have hD := hD1.weaken (fun _ _ _ h => hFc _ h)
                          generalize H1 = H at hP1 hS ⊢
                          have hP := hP1
                          refine W.widen (k := 0) (n := 0) (Nat.le_refl _) (Nat.le_refl _) ?_
                          obtain rfl := hr810
                          have q818 : (0 : Int32).toInt = 0 := by decide
                          exact W.zret (v := 0) hx hb hr rfl (fun t ht hW => ⟨⟨0, 0, rfl, by first | exact Or.inl ⟨rfl, rfl⟩ | exact Or.inr ⟨rfl, rfl⟩, ct811, by rw [ht]; exact hP, hD, hI, (by first | assumption | omega), (fun q => absurd q (by decide))⟩, hS.F ht⟩) hS.2.2 dX9_readsWhole_157
                    · skip
                      have c293 : pl0260.toInt = ln0261.toInt := (z_eq rfl rfl).mp c293
                      refine lv_aload_n hx hb dX9_readsWhole_99 rfl (lv_at hl 0 rfl) ?_
                      refine lv_iconst (v := 1) hx hb dX9_readsWhole_100 (by decide) ?_
                      have hFc := zw_free hD hS hA
                      refine va_callv (va_runV (As := [.int 1]) (rest := []) ⟨hx, hb, hml, hown, hg⟩ (k_X9_lands l g _ ad me ct253 (1 : Int32) (by first | omega | decide) hI (j2_70)) (cwV 1 hg (z_gV mm_1278 mm_1280 mm_77 mm_117 mm_1281) rfl rfl rfl (by decide +kernel) ⟨Nat.le_of_ble_eq_true rfl, Nat.le_of_ble_eq_true rfl⟩) ⟨(zA.pre [.ref (ad 0), .int 1] hP hK hD hN).1, va_recv hK hP (ci := 9) (q0 := 0) rfl (zw_at (by omega) hs254), (zA.pre [.ref (ad 0), .int 1] hP hK hD hN).2⟩ rfl rfl hl.1 rfl (lv_room (Nat.le_of_ble_eq_true rfl)) dX9_readsWhole_101 ⟨Nat.le_of_ble_eq_true rfl, Nat.le_of_ble_eq_true rfl⟩) hS (fun q _ h => hFc q h) hFc (fun _ t H1 locs ht hvm hr819 hB hz1 hk1 hS => ?_)
                      obtain ⟨ct820, hP1, hD1, hI, hk821, hk822, hk823⟩ := hB
                      rw [ht] at hP1
                      have hD := hD1.weaken (fun _ _ _ h => hFc _ h)
                      generalize H1 = H at hP1 hS ⊢
                      have hP := hP1
                      refine W.widen (k := 0) (n := 0) (Nat.le_refl _) (Nat.le_refl _) ?_
                      refine lv_aload_n hx hb dX9_readsWhole_104 rfl (lv_at hl 0 rfl) ?_
                      obtain ⟨bks825, lks826, gos827, shn828, tpd829, pl0830, ln0831, flt832, opn833, cmy834, wtg835, nm0836, mst837, sus838, cut839, h840, h841, h842, h843, h844, h845, h846, h847, h848, h849, h850, h851, h852, h853, h854, h855, h856, h857, h858, h859, hs824⟩ := a9_0 hI.1
                      have z17_hs824 : zfi 17 (ct820 0) = pl0830.toInt := by rw [hs824]; rfl
                      have z18_hs824 : zfi 18 (ct820 0) = ln0831.toInt := by rw [hs824]; rfl
                      have z21_hs824 : zfi 21 (ct820 0) = cmy834.toInt := by rw [hs824]; rfl
                      have z22_hs824 : zfi 22 (ct820 0) = wtg835.toInt := by rw [hs824]; rfl
                      refine va_get (D := g.1) (ci := 9) (v := .int wtg835) (C := RX9) (T := TX9) (N := 47) hx hb hg inG9 hown hK hP 0 (zw_at (by omega) hs824) rfl 22 (by decide) (hg _ mm_980) (fun _ h9 => h9) rfl dX9_readsWhole_105 ?_
                      refine lv_iconst (v := 1) hx hb dX9_readsWhole_108 (by decide) ?_
                      refine lv_icmp_eq (tgt := 124) hx hb dX9_readsWhole_109 (by decide) (fun c860 => ?_) (fun c860 => ?_)
                      · skip
                        have c860 : wtg835.toInt = 1 := (z_eq rfl (by decide : (1 : Int32).toInt = 1)).mp c860
                        have hcw := PS.done hk823 (by omega)
                        refine lv_iconst (v := 1) hx hb dX9_readsWhole_124 (by decide) ?_
                        refine lv_goto (tgt := 129) hx hb dX9_readsWhole_125 (by decide) ?_
                        have q861 : (1 : Int32).toInt = 1 := by decide
                        exact W.zret (v := 1) hx hb hr rfl (fun t ht hW => ⟨⟨1, 1, rfl, by first | exact Or.inl ⟨rfl, rfl⟩ | exact Or.inr ⟨rfl, rfl⟩, ct820, by rw [ht]; exact hP, hD, hI, (by first | assumption | omega), (fun _ => by first | assumption | omega)⟩, hS.F ht⟩) hS.2.2 dX9_readsWhole_129
                      · skip
                        have c860 : ¬ (wtg835.toInt = 1) := fun q => c860 ((z_eq rfl (by decide : (1 : Int32).toInt = 1)).mpr q)
                        refine lv_aload_n hx hb dX9_readsWhole_112 rfl (lv_at hl 0 rfl) ?_
                        refine lv_iconst (v := 1) hx hb dX9_readsWhole_113 (by decide) ?_
                        refine lv_aload_n hx hb dX9_readsWhole_114 rfl (lv_at hl 0 rfl) ?_
                        refine va_get (D := g.1) (ci := 9) (v := .int pl0830) (C := RX9) (T := TX9) (N := 47) hx hb hg inG9 hown hK hP 0 (zw_at (by omega) hs824) rfl 17 (by decide) (hg _ mm_975) (fun _ h9 => h9) rfl dX9_readsWhole_115 ?_
                        have hFc := zw_free hD hS hA
                        refine va_calli (va_runV (As := [.int 1, .int pl0830]) (rest := []) ⟨hx, hb, hml, hown, hg⟩ (k_X9_wrongAt l g _ ad me ct820 (1 : Int32) pl0830 hI) (cwV 2 hg (z_gV mm_1223 mm_1225 mm_65 mm_117 mm_1226) rfl rfl rfl (by decide +kernel) ⟨Nat.le_of_ble_eq_true rfl, Nat.le_of_ble_eq_true rfl⟩) ⟨(zA.pre [.ref (ad 0), .int 1, .int pl0830] hP hK hD hN).1, va_recv hK hP (ci := 9) (q0 := 0) rfl (zw_at (by omega) hs824), (zA.pre [.ref (ad 0), .int 1, .int pl0830] hP hK hD hN).2⟩ rfl rfl hl.1 rfl (lv_room (Nat.le_of_ble_eq_true rfl)) dX9_readsWhole_118 ⟨Nat.le_of_ble_eq_true rfl, Nat.le_of_ble_eq_true rfl⟩) hS (fun q _ h => hFc q h) hFc (fun r862 _ t H1 locs ht hvm hr862 hB hz1 hk1 hS => ?_)
                        obtain ⟨ct863, hP1, hD1, hI, hk864, hk865, hk866, hk867, hk868, hk869⟩ := hB
                        rw [ht] at hP1
                        have hD := hD1.weaken (fun _ _ _ h => hFc _ h)
                        generalize H1 = H at hP1 hS ⊢
                        have hP := hP1
                        refine W.widen (k := 0) (n := 0) (Nat.le_refl _) (Nat.le_refl _) ?_
                        obtain rfl := hr862
                        refine lv_if_eq (tgt := 128) hx hb dX9_readsWhole_121 (by decide) (fun c870 => ?_) (fun c870 => ?_)
                        · skip
                          refine lv_iconst (v := 0) hx hb dX9_readsWhole_128 (by decide) ?_
                          have q871 : (0 : Int32).toInt = 0 := by decide
                          exact W.zret (v := 0) hx hb hr rfl (fun t ht hW => ⟨⟨0, 0, rfl, by first | exact Or.inl ⟨rfl, rfl⟩ | exact Or.inr ⟨rfl, rfl⟩, ct863, by rw [ht]; exact hP, hD, hI, (by first | assumption | omega), (fun q => absurd q (by decide))⟩, hS.F ht⟩) hS.2.2 dX9_readsWhole_129
                        · skip
                          exact absurd c870 (by decide)
                  · skip
                    have c292 : (zhv (ct253 0) (ct253 11)).toInt = 41 := (z_eq rfl (by decide : (41 : Int32).toInt = 41)).mp c292
                    refine lv_aload_n hx hb dX9_readsWhole_79 rfl (lv_at hl 0 rfl) ?_
                    have hFc := zw_free hD hS hA
                    refine va_calli (va_runV (As := []) (rest := []) ⟨hx, hb, hml, hown, hg⟩ (k_X9_closes l g _ ad me ct253  hI (j2_70) (by first | assumption | omega | decide)) (cwV 0 hg (z_gV mm_1274 mm_1276 mm_76 mm_117 mm_1277) rfl rfl rfl (by decide +kernel) ⟨Nat.le_of_ble_eq_true rfl, Nat.le_of_ble_eq_true rfl⟩) ⟨(zA.pre [.ref (ad 0)] hP hK hD hN).1, va_recv hK hP (ci := 9) (q0 := 0) rfl (zw_at (by omega) hs254), (zA.pre [.ref (ad 0)] hP hK hD hN).2⟩ rfl rfl hl.1 rfl (lv_room (Nat.le_of_ble_eq_true rfl)) dX9_readsWhole_80 ⟨Nat.le_of_ble_eq_true rfl, Nat.le_of_ble_eq_true rfl⟩) hS (fun q _ h => hFc q h) hFc (fun r872 u877 t H1 locs ht hvm hr872 hB hz1 hk1 hS => ?_)
                    obtain ⟨ct873, hP1, hD1, hI, hk874, hk875, hk876⟩ := hB
                    rw [ht] at hP1
                    have hD := hD1.weaken (fun _ _ _ h => hFc _ h)
                    generalize H1 = H at hP1 hS ⊢
                    have hP := hP1
                    refine W.widen (k := 0) (n := 0) (Nat.le_refl _) (Nat.le_refl _) ?_
                    rcases hr872 with hr872 | hr872
                    · skip
                      obtain ⟨rfl, h878⟩ := hr872
                      replace h878 : u877 = 1 := h878
                      have hk875 := hk875 h878
                      have hk876 := hk876 h878
                      refine lv_if_ne (tgt := 70) hx hb dX9_readsWhole_83 (by decide) (fun c879 => ?_) (fun c879 => ?_)
                      · skip
                        obtain ⟨bks881, lks882, gos883, shn884, tpd885, pl0886, ln0887, flt888, opn889, cmy890, wtg891, nm0892, mst893, sus894, cut895, h896, h897, h898, h899, h900, h901, h902, h903, h904, h905, h906, h907, h908, h909, h910, h911, h912, h913, h914, h915, hs880⟩ := a9_0 hI.1
                        have z17_hs880 : zfi 17 (ct873 0) = pl0886.toInt := by rw [hs880]; rfl
                        have z18_hs880 : zfi 18 (ct873 0) = ln0887.toInt := by rw [hs880]; rfl
                        have z21_hs880 : zfi 21 (ct873 0) = cmy890.toInt := by rw [hs880]; rfl
                        have z22_hs880 : zfi 22 (ct873 0) = wtg891.toInt := by rw [hs880]; rfl
                        exact ih70  ct873 _ _ ls (by omega) (by first | assumption | omega | decide) (by first | assumption | omega | decide) (by first | assumption | omega | decide) hI hP hD hS (lv_sub hl [0] rfl)
                      · skip
                        exact absurd c879 (by decide)
                    · skip
                      obtain ⟨rfl, h916⟩ := hr872
                      replace h916 : u877 = 0 := h916
                      refine lv_if_ne (tgt := 70) hx hb dX9_readsWhole_83 (by decide) (fun c917 => ?_) (fun c917 => ?_)
                      · skip
                        exact absurd c917 (by decide)
                      · skip
                        refine lv_iconst (v := 0) hx hb dX9_readsWhole_86 (by decide) ?_
                        have q918 : (0 : Int32).toInt = 0 := by decide
                        exact W.zret (v := 0) hx hb hr rfl (fun t ht hW => ⟨⟨0, 0, rfl, by first | exact Or.inl ⟨rfl, rfl⟩ | exact Or.inr ⟨rfl, rfl⟩, ct873, by rw [ht]; exact hP, hD, hI, (by first | assumption | omega), (fun q => absurd q (by decide))⟩, hS.F ht⟩) hS.2.2 dX9_readsWhole_87
              exact loop70 ((zfi 18 (ct210 0) - zfi 17 (ct210 0) : Int).toNat + 1)  ct210 _ _ ls (by omega) (by first | assumption | omega | decide) (by first | assumption | omega | decide) (by first | assumption | omega | decide) hI hP hD hS (lv_sub hl [0] rfl)
            · skip
              exact absurd c216 (by decide)
          · skip
            obtain ⟨rfl, h919⟩ := hr209
            replace h919 : u214 = 0 := h919
            refine lv_if_ne (tgt := 70) hx hb dX9_readsWhole_65 (by decide) (fun c920 => ?_) (fun c920 => ?_)
            · skip
              exact absurd c920 (by decide)
            · skip
              refine lv_iconst (v := 0) hx hb dX9_readsWhole_68 (by decide) ?_
              have q921 : (0 : Int32).toInt = 0 := by decide
              exact W.zret (v := 0) hx hb hr rfl (fun t ht hW => ⟨⟨0, 0, rfl, by first | exact Or.inl ⟨rfl, rfl⟩ | exact Or.inr ⟨rfl, rfl⟩, ct210, by rw [ht]; exact hP, hD, hI, (by first | assumption | omega), (fun q => absurd q (by decide))⟩, hS.F ht⟩) hS.2.2 dX9_readsWhole_69
        · skip
          have c208 : (zhv (ct57 0) (ct57 11)).toInt = 40 := (z_eq rfl (by decide : (40 : Int32).toInt = 40)).mp c208
          refine lv_aload_n hx hb dX9_readsWhole_36 rfl (lv_at hl 0 rfl) ?_
          refine lv_aload_n hx hb dX9_readsWhole_37 rfl (lv_at hl 0 rfl) ?_
          refine zc_i (va_runV (As := []) (rest := [.ref (ad 0)]) ⟨hx, hb, hml, hown, hg⟩ (k_X9_here l g ad me ct57  hI) (cwV 0 hg (z_gV mm_1215 mm_1217 mm_63 mm_117 mm_1218) rfl rfl rfl (by decide +kernel) ⟨Nat.le_of_ble_eq_true rfl, Nat.le_of_ble_eq_true rfl⟩) ⟨(zR.pre [.ref (ad 0)] hP hK hN).1, va_recv hK hP (ci := 9) (q0 := 0) rfl (zw_at (by omega) hs58), (zR.pre [.ref (ad 0)] hP hK hN).2⟩ rfl rfl hl.1 rfl (lv_room (Nat.le_of_ble_eq_true rfl)) dX9_readsWhole_38 ⟨Nat.le_of_ble_eq_true rfl, Nat.le_of_ble_eq_true rfl⟩) (fun r922 hr922 => ?_)
          obtain ⟨hqr922, h923⟩ := hr922
          subst r922
          replace h923 : (zhv (ct57 0) (ct57 11)).toInt = -1 ∨ (0 ≤ (zhv (ct57 0) (ct57 11)).toInt ∧ zfi 17 (ct57 0) < zfi 18 (ct57 0)) := h923
          refine lv_bipush (v := 33) hx hb dX9_readsWhole_41 (by decide) ?_
          refine lv_icmp_ne (tgt := 51) hx hb dX9_readsWhole_43 (by decide) (fun c924 => ?_) (fun c924 => ?_)
          · skip
            have c924 : ¬ ((zhv (ct57 0) (ct57 11)).toInt = 33) := fun q => c924 ((z_eq rfl (by decide : (33 : Int32).toInt = 33)).mpr q)
            refine lv_bipush (v := 13) hx hb dX9_readsWhole_51 (by decide) ?_
            have hFc := zw_free hD hS hA
            refine va_calli (va_runV (As := [.int 13]) (rest := []) ⟨hx, hb, hml, hown, hg⟩ (k_X9_opens l g _ ad me ct57 (13 : Int32) (by first | omega | decide) hI (by first | assumption | omega | decide) (by first | assumption | omega | decide)) (cwV 1 hg (z_gV mm_1219 mm_1221 mm_64 mm_117 mm_1222) rfl rfl rfl (by decide +kernel) ⟨Nat.le_of_ble_eq_true rfl, Nat.le_of_ble_eq_true rfl⟩) ⟨(zA.pre [.ref (ad 0), .int 13] hP hK hD hN).1, va_recv hK hP (ci := 9) (q0 := 0) rfl (zw_at (by omega) hs58), (zA.pre [.ref (ad 0), .int 13] hP hK hD hN).2⟩ rfl rfl hl.1 rfl (lv_room (Nat.le_of_ble_eq_true rfl)) dX9_readsWhole_53 ⟨Nat.le_of_ble_eq_true rfl, Nat.le_of_ble_eq_true rfl⟩) hS (fun q _ h => hFc q h) hFc (fun r925 u933 t H1 locs ht hvm hr925 hB hz1 hk1 hS => ?_)
            obtain ⟨ct926, hP1, hD1, hI, hk927, hk928, hk929, hk930, hk931, hk932⟩ := hB
            rw [ht] at hP1
            have hD := hD1.weaken (fun _ _ _ h => hFc _ h)
            generalize H1 = H at hP1 hS ⊢
            have hP := hP1
            refine W.widen (k := 0) (n := 0) (Nat.le_refl _) (Nat.le_refl _) ?_
            have hs934 : ct926 12 = .inl (g.2 0, 120, .inl f95) := hk932.trans hs94
            rcases hr925 with hr925 | hr925
            · skip
              obtain ⟨rfl, h935⟩ := hr925
              replace h935 : u933 = 1 := h935
              have hk929 := hk929 h935
              have hk930 := hk930 h935
              have hk931 := hk931 h935
              refine lv_if_ne (tgt := 18) hx hb dX9_readsWhole_56 (by decide) (fun c936 => ?_) (fun c936 => ?_)
              · skip
                have hps2 := PS.push j1_18 (x2 := 0) (R2 := R0) (r := 13) (by omega) (by omega) (by omega) (by omega) (by omega) (hk932) (wr_c hk931 rfl rfl rfl (by have q : (13 : Int32).toInt = 13 := rfl; omega)) (Or.inr ⟨by omega, rfl⟩) (fun fw W w h t => h.push (by omega))
                obtain ⟨bks938, lks939, gos940, shn941, tpd942, pl0943, ln0944, flt945, opn946, cmy947, wtg948, nm0949, mst950, sus951, cut952, h953, h954, h955, h956, h957, h958, h959, h960, h961, h962, h963, h964, h965, h966, h967, h968, h969, h970, h971, h972, hs937⟩ := a9_0 hI.1
                have z17_hs937 : zfi 17 (ct926 0) = pl0943.toInt := by rw [hs937]; rfl
                have z18_hs937 : zfi 18 (ct926 0) = ln0944.toInt := by rw [hs937]; rfl
                have z21_hs937 : zfi 21 (ct926 0) = cmy947.toInt := by rw [hs937]; rfl
                have z22_hs937 : zfi 22 (ct926 0) = wtg948.toInt := by rw [hs937]; rfl
                exact ih18  ct926 _ _ ls (by omega) (by first | assumption | omega | decide) (by first | assumption | omega | decide) hI hP hD hS (lv_sub hl [0] rfl)
              · skip
                exact absurd c936 (by decide)
            · skip
              obtain ⟨rfl, h973⟩ := hr925
              replace h973 : u933 = 0 := h973
              refine lv_if_ne (tgt := 18) hx hb dX9_readsWhole_56 (by decide) (fun c974 => ?_) (fun c974 => ?_)
              · skip
                exact absurd c974 (by decide)
              · skip
                refine lv_iconst (v := 0) hx hb dX9_readsWhole_59 (by decide) ?_
                have q975 : (0 : Int32).toInt = 0 := by decide
                exact W.zret (v := 0) hx hb hr rfl (fun t ht hW => ⟨⟨0, 0, rfl, by first | exact Or.inl ⟨rfl, rfl⟩ | exact Or.inr ⟨rfl, rfl⟩, ct926, by rw [ht]; exact hP, hD, hI, (by first | assumption | omega), (fun q => absurd q (by decide))⟩, hS.F ht⟩) hS.2.2 dX9_readsWhole_60
          · skip
            have c924 : (zhv (ct57 0) (ct57 11)).toInt = 33 := (z_eq rfl (by decide : (33 : Int32).toInt = 33)).mp c924
            refine lv_bipush (v := 10) hx hb dX9_readsWhole_46 (by decide) ?_
            refine lv_goto (tgt := 53) hx hb dX9_readsWhole_48 (by decide) ?_
            have hFc := zw_free hD hS hA
            refine va_calli (va_runV (As := [.int 10]) (rest := []) ⟨hx, hb, hml, hown, hg⟩ (k_X9_opens l g _ ad me ct57 (10 : Int32) (by first | omega | decide) hI (by first | assumption | omega | decide) (by first | assumption | omega | decide)) (cwV 1 hg (z_gV mm_1219 mm_1221 mm_64 mm_117 mm_1222) rfl rfl rfl (by decide +kernel) ⟨Nat.le_of_ble_eq_true rfl, Nat.le_of_ble_eq_true rfl⟩) ⟨(zA.pre [.ref (ad 0), .int 10] hP hK hD hN).1, va_recv hK hP (ci := 9) (q0 := 0) rfl (zw_at (by omega) hs58), (zA.pre [.ref (ad 0), .int 10] hP hK hD hN).2⟩ rfl rfl hl.1 rfl (lv_room (Nat.le_of_ble_eq_true rfl)) dX9_readsWhole_53 ⟨Nat.le_of_ble_eq_true rfl, Nat.le_of_ble_eq_true rfl⟩) hS (fun q _ h => hFc q h) hFc (fun r976 u984 t H1 locs ht hvm hr976 hB hz1 hk1 hS => ?_)
            obtain ⟨ct977, hP1, hD1, hI, hk978, hk979, hk980, hk981, hk982, hk983⟩ := hB
            rw [ht] at hP1
            have hD := hD1.weaken (fun _ _ _ h => hFc _ h)
            generalize H1 = H at hP1 hS ⊢
            have hP := hP1
            refine W.widen (k := 0) (n := 0) (Nat.le_refl _) (Nat.le_refl _) ?_
            have hs985 : ct977 12 = .inl (g.2 0, 120, .inl f95) := hk983.trans hs94
            rcases hr976 with hr976 | hr976
            · skip
              obtain ⟨rfl, h986⟩ := hr976
              replace h986 : u984 = 1 := h986
              have hk980 := hk980 h986
              have hk981 := hk981 h986
              have hk982 := hk982 h986
              refine lv_if_ne (tgt := 18) hx hb dX9_readsWhole_56 (by decide) (fun c987 => ?_) (fun c987 => ?_)
              · skip
                have hps2 := PS.push j1_18 (x2 := 0) (R2 := R0) (r := 10) (by omega) (by omega) (by omega) (by omega) (by omega) (hk983) (wr_c hk982 rfl rfl rfl (by have q : (10 : Int32).toInt = 10 := rfl; omega)) (Or.inr ⟨by omega, rfl⟩) (fun fw W w h t => h.push (by omega))
                obtain ⟨bks989, lks990, gos991, shn992, tpd993, pl0994, ln0995, flt996, opn997, cmy998, wtg999, nm01000, mst1001, sus1002, cut1003, h1004, h1005, h1006, h1007, h1008, h1009, h1010, h1011, h1012, h1013, h1014, h1015, h1016, h1017, h1018, h1019, h1020, h1021, h1022, h1023, hs988⟩ := a9_0 hI.1
                have z17_hs988 : zfi 17 (ct977 0) = pl0994.toInt := by rw [hs988]; rfl
                have z18_hs988 : zfi 18 (ct977 0) = ln0995.toInt := by rw [hs988]; rfl
                have z21_hs988 : zfi 21 (ct977 0) = cmy998.toInt := by rw [hs988]; rfl
                have z22_hs988 : zfi 22 (ct977 0) = wtg999.toInt := by rw [hs988]; rfl
                exact ih18  ct977 _ _ ls (by omega) (by first | assumption | omega | decide) (by first | assumption | omega | decide) hI hP hD hS (lv_sub hl [0] rfl)
              · skip
                exact absurd c987 (by decide)
            · skip
              obtain ⟨rfl, h1024⟩ := hr976
              replace h1024 : u984 = 0 := h1024
              refine lv_if_ne (tgt := 18) hx hb dX9_readsWhole_56 (by decide) (fun c1025 => ?_) (fun c1025 => ?_)
              · skip
                exact absurd c1025 (by decide)
              · skip
                refine lv_iconst (v := 0) hx hb dX9_readsWhole_59 (by decide) ?_
                have q1026 : (0 : Int32).toInt = 0 := by decide
                exact W.zret (v := 0) hx hb hr rfl (fun t ht hW => ⟨⟨0, 0, rfl, by first | exact Or.inl ⟨rfl, rfl⟩ | exact Or.inr ⟨rfl, rfl⟩, ct977, by rw [ht]; exact hP, hD, hI, (by first | assumption | omega), (fun q => absurd q (by decide))⟩, hS.F ht⟩) hS.2.2 dX9_readsWhole_60
  have hps2 := PS.start (w := 13631488) (by omega) (by omega) (by omega) ⟨by omega, by omega⟩ hs54 hs55 rfl
  exact loop18 ((zfi 18 (ct52 0) - zfi 17 (ct52 0) : Int).toNat + 1)  ct52 _ _ ls (by omega) (by first | assumption | omega | decide) (by first | assumption | omega | decide) hI hP hD hS (lv_sub hl [0] rfl)
