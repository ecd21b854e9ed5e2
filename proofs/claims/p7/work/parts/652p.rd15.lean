set_option maxHeartbeats 4000000 in
set_option maxRecDepth 100000 in
theorem k_X9_jumps (l : Launch) (g : zG) (sz : Nat) (ad : Nat → Nat) (me : Int32) (ct : Nat → va_E) (op0 : Int32) (hl_op0 : 11 ≤ op0.toInt ∧ op0.toInt ≤ 12) (hI : IR g ad me ct) (hps : PS (g.2 0) ct 1 0 R0) (hpl : zfi 17 (ct 0) < zfi 18 (ct 0)) : Met l yX9_jumps (zW yX9_jumps cX9_jumps 2 none) ({ frames := 1, cells := 0, slots := 0, locals := 22 }) (va_Pc [.ref (ad 0), .int op0] (zA g (zw 32 ad ct) sz)) (va_Qv (fun (_ : Unit) => True) (fun _ t => ∃ ct2 : Nat → va_E, zP g (zw 32 ad ct2) t.heap ∧ va_D (va_A (zw 32 ad ct) sz) (zw 32 ad ct2) ∧ IR g ad me ct2 ∧ (zfi 18 (ct2 0) = zfi 18 (ct 0)) ∧ (zfi 17 (ct2 0) = zfi 17 (ct 0) + 1) ∧ (PS (g.2 0) ct2 0 0 R0)) (va_A (zw 32 ad ct) sz)) 0 0 (va_A (zw 32 ad ct) sz) := by
  refine Met.ofW (cc := cX9_jumps) (maxL := 2) (ret := none) (by decide) rfl ?_
  intro p e s m args below meth c s₁ B hml hv
  obtain ⟨rfl, hsz, hP, hK, hD0, hN⟩ := hv
  have hx := B.exec
  have hb := B.bytes
  have hr := B.returns
  have hg := zW.law (atoms_spec (ws := (zW yX9_jumps cX9_jumps 2 none)) B.pre)
  have hown : s.vm.findClass RX9 = some m.cls := findClass_of_methodNamed B.named
  have hlocks := B.notSynchronized
  have hpe0 := hI.1.1
  subst hsz
  have hD := hD0.self (sz := s.heap.size)
  generalize hAe : va_A (zw 32 ad ct) s.heap.size = A at hD ⊢
  have hA : ∀ q : Nat, s.heap.size ≤ q → A q := fun q h => by rw [← hAe]; exact Or.inr h
  have hS : va_S A s.heap s.heap [] := va_S.rf
  have hl := lv_entry ([.ref (ad 0), .int op0]) (n := 2) (Nat.le_of_ble_eq_true rfl)
  rw [lg_entry_eq]
  generalize (lg_sl ([.ref (ad 0), .int op0]) ++ List.replicate (2 - (lg_sl ([.ref (ad 0), .int op0])).length) Slot.unset).toArray = ls at hl ⊢
  have hl : lv_has ls 2 [(0, .ref (ad 0)), (1, .int op0)] := hl
  have hb0 := PS.bounds hps
  obtain ⟨bks2, lks3, gos4, shn5, tpd6, pl07, ln08, flt9, opn10, cmy11, wtg12, nm013, mst14, sus15, cut16, h17, h18, h19, h20, h21, h22, h23, h24, h25, h26, h27, h28, h29, h30, h31, h32, h33, h34, h35, h36, hs1⟩ := a9_0 hI.1
  have z17_hs1 : zfi 17 (ct 0) = pl07.toInt := by rw [hs1]; rfl
  have z18_hs1 : zfi 18 (ct 0) = ln08.toInt := by rw [hs1]; rfl
  have z21_hs1 : zfi 21 (ct 0) = cmy11.toInt := by rw [hs1]; rfl
  have z22_hs1 : zfi 22 (ct 0) = wtg12.toInt := by rw [hs1]; rfl
  obtain ⟨f38, hs37⟩ := a9_12 hI.1
  obtain ⟨f40, hs39⟩ := a9_13 hI.1
  refine lv_aload_n hx hb dX9_jumps_0 rfl (lv_at hl 0 rfl) ?_
  refine va_get (D := g.1) (ci := 9) (v := .ref (ad 13)) (C := RX9) (T := TX9) (N := 47) hx hb hg inG9 hown hK hP 0 (zw_at (by omega) hs1) rfl 25 (by decide) (hg _ mm_983) (fun _ h9 => h9) rfl dX9_jumps_1 ?_
  refine lv_aload_n hx hb dX9_jumps_4 rfl (lv_at hl 0 rfl) ?_
  refine va_get (D := g.1) (ci := 9) (v := .int wtg12) (C := RX9) (T := TX9) (N := 47) hx hb hg inG9 hown hK hP 0 (zw_at (by omega) hs1) rfl 22 (by decide) (hg _ mm_980) (fun _ h9 => h9) rfl dX9_jumps_5 ?_
  refine lv_ldc hx hb hown (hg _ mm_1227) dX9_jumps_8 ?_
  refine lv_iload_n hx hb dX9_jumps_10 rfl (lv_at hl 1 rfl) ?_
  refine lv_imul hx hb dX9_jumps_11 ?_
  refine lv_topi (fun x41 ex41 => ?_)
  have tx41 : x41.toInt = 1048576 * op0.toInt := by rw [ex41]; exact z_mul (by decide : (1048576 : Int32).toInt = 1048576) rfl (by omega) (by omega)
  refine lv_aload_n hx hb dX9_jumps_12 rfl (lv_at hl 0 rfl) ?_
  refine va_get (D := g.1) (ci := 9) (v := .int cmy11) (C := RX9) (T := TX9) (N := 47) hx hb hg inG9 hown hK hP 0 (zw_at (by omega) hs1) rfl 21 (by decide) (hg _ mm_979) (fun _ h9 => h9) rfl dX9_jumps_13 ?_
  refine lv_iadd hx hb dX9_jumps_16 ?_
  refine lv_topi (fun x42 ex42 => ?_)
  have tx42 : x42.toInt = x41.toInt + cmy11.toInt := by rw [ex42]; exact z_add rfl rfl (by omega) (by omega)
  refine va_iast hx hb hK hP hD hS 13 0 (zw_at (by omega) hs39) rfl (z_in rfl (by omega) (by omega)) dX9_jumps_17 (fun H locs hP hD hS => ?_)
  have hP : zP g ((zw 32 ad ct).set 13 (ad 13, .inl (g.2 0, 120, .inl (upd f40 (Int32.toNatClampNeg wtg12) x42)))) H := hP
  have hD : va_D A ((zw 32 ad ct).set 13 (ad 13, .inl (g.2 0, 120, .inl (upd f40 (Int32.toNatClampNeg wtg12) x42)))) := hD
  rw [zw_set (by omega)] at hP hD
  obtain ⟨ct44, ec45⟩ : ∃ z : Nat → va_E, z = va_up ct 13 (.inl (g.2 0, 120, .inl (upd f40 (Int32.toNatClampNeg wtg12) x42))) := ⟨_, rfl⟩
  rw [← ec45] at hP hD
  have hI : IR g ad me ct44 := by rw [ec45]; exact upR hI (by decide) (i9_13 ⟨_, rfl⟩)
  have hs46 : ct44 0 = .inr (9, [.int me, .ref (ad 1), .ref (ad 2), .ref (ad 3), .ref (ad 4), .int bks2, .int lks3, .int gos4, .int shn5, .ref (ad 5), .ref (ad 6), .ref (ad 7), .ref (ad 8), .ref (ad 9), .ref (ad 10), .ref (ad 11), .int tpd6, .int pl07, .int ln08, .int flt9, .int opn10, .int cmy11, .int wtg12, .int nm013, .ref (ad 12), .ref (ad 13), .ref (ad 14), .ref (ad 15), .ref (ad 16), .ref (ad 17), .ref (ad 18), .ref (ad 19), .ref (ad 20), .ref (ad 21), .ref (ad 22), .ref (ad 23), .ref (ad 24), .ref (ad 25), .ref (ad 26), .ref (ad 27), .int mst14, .int sus15, .ref (ad 28), .ref (ad 29), .ref (ad 30), .ref (ad 31), .int cut16]) := by rw [ec45, va_up_ne _ _ (by omega)]; exact hs1
  have hs47 : ct44 12 = .inl (g.2 0, 120, .inl f38) := by rw [ec45, va_up_ne _ _ (by omega)]; exact hs37
  have hs48 : ct44 13 = .inl (g.2 0, 120, .inl (upd f40 (Int32.toNatClampNeg wtg12) x42)) := by rw [ec45]; exact va_up_self _ _ _
  have z17_hs46 : zfi 17 (ct44 0) = (pl07 : Int32).toInt := by rw [hs46]; rfl
  have z18_hs46 : zfi 18 (ct44 0) = (ln08 : Int32).toInt := by rw [hs46]; rfl
  have z21_hs46 : zfi 21 (ct44 0) = (cmy11 : Int32).toInt := by rw [hs46]; rfl
  have z22_hs46 : zfi 22 (ct44 0) = (wtg12 : Int32).toInt := by rw [hs46]; rfl
  refine lv_aload_n hx hb dX9_jumps_18 rfl (lv_at hl 0 rfl) ?_
  refine lv_aload_n hx hb dX9_jumps_19 rfl (lv_at hl 0 rfl) ?_
  refine va_get (D := g.1) (ci := 9) (v := .int wtg12) (C := RX9) (T := TX9) (N := 47) hx hb hg inG9 hown hK hP 0 (zw_at (by omega) hs46) rfl 22 (by decide) (hg _ mm_980) (fun _ h9 => h9) rfl dX9_jumps_20 ?_
  refine lv_iconst (v := 1) hx hb dX9_jumps_23 (by decide) ?_
  refine lv_iadd hx hb dX9_jumps_24 ?_
  refine lv_topi (fun x49 ex49 => ?_)
  have tx49 : x49.toInt = wtg12.toInt + 1 := by rw [ex49]; exact z_add rfl (by decide : (1 : Int32).toInt = 1) (by omega) (by omega)
  refine va_put (D := g.1) (ci := 9) (v := .int x49) (ty := .int) (C := RX9) (T := TX9) (N := 47) hx hb hg inG9 tyX9 tyX9_ok nmX9 hown hK hP hD hS 0 (zw_at (by omega) hs46) rfl 22 (by decide) (hg _ mm_980) (fun _ h9 => h9) rfl (by decide +kernel) rfl rfl (Nat.le_of_ble_eq_true rfl) dX9_jumps_25 (fun H locs hP hD hS => ?_)
  have hP : zP g ((zw 32 ad ct44).set 0 (ad 0, .inr (9, [.int me, .ref (ad 1), .ref (ad 2), .ref (ad 3), .ref (ad 4), .int bks2, .int lks3, .int gos4, .int shn5, .ref (ad 5), .ref (ad 6), .ref (ad 7), .ref (ad 8), .ref (ad 9), .ref (ad 10), .ref (ad 11), .int tpd6, .int pl07, .int ln08, .int flt9, .int opn10, .int cmy11, .int x49, .int nm013, .ref (ad 12), .ref (ad 13), .ref (ad 14), .ref (ad 15), .ref (ad 16), .ref (ad 17), .ref (ad 18), .ref (ad 19), .ref (ad 20), .ref (ad 21), .ref (ad 22), .ref (ad 23), .ref (ad 24), .ref (ad 25), .ref (ad 26), .ref (ad 27), .int mst14, .int sus15, .ref (ad 28), .ref (ad 29), .ref (ad 30), .ref (ad 31), .int cut16]))) H := hP
  have hD : va_D A ((zw 32 ad ct44).set 0 (ad 0, .inr (9, [.int me, .ref (ad 1), .ref (ad 2), .ref (ad 3), .ref (ad 4), .int bks2, .int lks3, .int gos4, .int shn5, .ref (ad 5), .ref (ad 6), .ref (ad 7), .ref (ad 8), .ref (ad 9), .ref (ad 10), .ref (ad 11), .int tpd6, .int pl07, .int ln08, .int flt9, .int opn10, .int cmy11, .int x49, .int nm013, .ref (ad 12), .ref (ad 13), .ref (ad 14), .ref (ad 15), .ref (ad 16), .ref (ad 17), .ref (ad 18), .ref (ad 19), .ref (ad 20), .ref (ad 21), .ref (ad 22), .ref (ad 23), .ref (ad 24), .ref (ad 25), .ref (ad 26), .ref (ad 27), .int mst14, .int sus15, .ref (ad 28), .ref (ad 29), .ref (ad 30), .ref (ad 31), .int cut16]))) := hD
  rw [zw_set (by omega)] at hP hD
  obtain ⟨ct50, ec51⟩ : ∃ z : Nat → va_E, z = va_up ct44 0 (.inr (9, [.int me, .ref (ad 1), .ref (ad 2), .ref (ad 3), .ref (ad 4), .int bks2, .int lks3, .int gos4, .int shn5, .ref (ad 5), .ref (ad 6), .ref (ad 7), .ref (ad 8), .ref (ad 9), .ref (ad 10), .ref (ad 11), .int tpd6, .int pl07, .int ln08, .int flt9, .int opn10, .int cmy11, .int x49, .int nm013, .ref (ad 12), .ref (ad 13), .ref (ad 14), .ref (ad 15), .ref (ad 16), .ref (ad 17), .ref (ad 18), .ref (ad 19), .ref (ad 20), .ref (ad 21), .ref (ad 22), .ref (ad 23), .ref (ad 24), .ref (ad 25), .ref (ad 26), .ref (ad 27), .int mst14, .int sus15, .ref (ad 28), .ref (ad 29), .ref (ad 30), .ref (ad 31), .int cut16])) := ⟨_, rfl⟩
  rw [← ec51] at hP hD
  have hI : IR g ad me ct50 := by rw [ec51]; exact upR hI (by decide) (i9_0 ⟨(bks2 : Int32), (lks3 : Int32), (gos4 : Int32), (shn5 : Int32), (tpd6 : Int32), (pl07 : Int32), (ln08 : Int32), (flt9 : Int32), (opn10 : Int32), (cmy11 : Int32), (x49 : Int32), (nm013 : Int32), (mst14 : Int32), (sus15 : Int32), (cut16 : Int32), (by first | omega | decide), (by first | omega | decide), (by first | omega | decide), (by first | omega | decide), (by first | omega | decide), (by first | omega | decide), (by first | omega | decide), (by first | omega | decide), (by first | omega | decide), (by first | omega | decide), (by first | omega | decide), (by first | omega | decide), (by first | omega | decide), (by first | omega | decide), (by first | omega | decide), (by first | omega | decide), (by first | omega | decide), (by first | omega | decide), (by first | omega | decide), (by first | omega | decide), rfl⟩)
  have hs52 : ct50 12 = .inl (g.2 0, 120, .inl f38) := by rw [ec51, va_up_ne _ _ (by omega)]; exact hs47
  have hs53 : ct50 13 = .inl (g.2 0, 120, .inl (upd f40 (Int32.toNatClampNeg wtg12) x42)) := by rw [ec51, va_up_ne _ _ (by omega)]; exact hs48
  have hs54 : ct50 0 = .inr (9, [.int me, .ref (ad 1), .ref (ad 2), .ref (ad 3), .ref (ad 4), .int bks2, .int lks3, .int gos4, .int shn5, .ref (ad 5), .ref (ad 6), .ref (ad 7), .ref (ad 8), .ref (ad 9), .ref (ad 10), .ref (ad 11), .int tpd6, .int pl07, .int ln08, .int flt9, .int opn10, .int cmy11, .int x49, .int nm013, .ref (ad 12), .ref (ad 13), .ref (ad 14), .ref (ad 15), .ref (ad 16), .ref (ad 17), .ref (ad 18), .ref (ad 19), .ref (ad 20), .ref (ad 21), .ref (ad 22), .ref (ad 23), .ref (ad 24), .ref (ad 25), .ref (ad 26), .ref (ad 27), .int mst14, .int sus15, .ref (ad 28), .ref (ad 29), .ref (ad 30), .ref (ad 31), .int cut16]) := by rw [ec51]; exact va_up_self _ _ _
  have z17_hs54 : zfi 17 (ct50 0) = (pl07 : Int32).toInt := by rw [hs54]; rfl
  have z18_hs54 : zfi 18 (ct50 0) = (ln08 : Int32).toInt := by rw [hs54]; rfl
  have z21_hs54 : zfi 21 (ct50 0) = (cmy11 : Int32).toInt := by rw [hs54]; rfl
  have z22_hs54 : zfi 22 (ct50 0) = (x49 : Int32).toInt := by rw [hs54]; rfl
  refine lv_aload_n hx hb dX9_jumps_28 rfl (lv_at hl 0 rfl) ?_
  refine lv_iload_n hx hb dX9_jumps_29 rfl (lv_at hl 1 rfl) ?_
  refine lv_iconst (v := 0) hx hb dX9_jumps_30 (by decide) ?_
  have hFc := zw_free hD hS hA
  refine va_callv (va_runV (As := [.int op0, .int 0]) (rest := []) ⟨hx, hb, hml, hown, hg⟩ (k_X9_notes l g _ ad me ct50 op0 (0 : Int32) (by first | omega | decide) (by first | omega | decide) hI (by first | assumption | omega | decide)) (cwV 2 hg (z_gV mm_1248 mm_1250 mm_71 mm_117 mm_1251) rfl rfl rfl (by decide +kernel) ⟨Nat.le_of_ble_eq_true rfl, Nat.le_of_ble_eq_true rfl⟩) ⟨(zA.pre [.ref (ad 0), .int op0, .int 0] hP hK hD hN).1, va_recv hK hP (ci := 9) (q0 := 0) rfl (zw_at (by omega) hs54), (zA.pre [.ref (ad 0), .int op0, .int 0] hP hK hD hN).2⟩ rfl rfl hl.1 rfl (lv_room (Nat.le_of_ble_eq_true rfl)) dX9_jumps_31 ⟨Nat.le_of_ble_eq_true rfl, Nat.le_of_ble_eq_true rfl⟩) hS (fun q _ h => hFc q h) hFc (fun _ t H1 locs ht hvm hr55 hB hz1 hk1 hS => ?_)
  obtain ⟨ct56, hP1, hD1, hI, hk57, hk58, hk59, hk60, hk61, hk62⟩ := hB
  rw [ht] at hP1
  have hD := hD1.weaken (fun _ _ _ h => hFc _ h)
  generalize H1 = H at hP1 hS ⊢
  have hP := hP1
  refine W.widen (k := 0) (n := 0) (Nat.le_refl _) (Nat.le_refl _) ?_
  have hs63 : ct56 13 = .inl (g.2 0, 120, .inl (upd f40 (Int32.toNatClampNeg wtg12) x42)) := hk62.trans hs53
  obtain ⟨bks65, lks66, gos67, shn68, tpd69, pl070, ln071, flt72, opn73, cmy74, wtg75, nm076, mst77, sus78, cut79, h80, h81, h82, h83, h84, h85, h86, h87, h88, h89, h90, h91, h92, h93, h94, h95, h96, h97, h98, h99, hs64⟩ := a9_0 hI.1
  have z17_hs64 : zfi 17 (ct56 0) = pl070.toInt := by rw [hs64]; rfl
  have z18_hs64 : zfi 18 (ct56 0) = ln071.toInt := by rw [hs64]; rfl
  have z21_hs64 : zfi 21 (ct56 0) = cmy74.toInt := by rw [hs64]; rfl
  have z22_hs64 : zfi 22 (ct56 0) = wtg75.toInt := by rw [hs64]; rfl
  obtain ⟨f101, hs100⟩ := a9_12 hI.1
  refine lv_aload_n hx hb dX9_jumps_34 rfl (lv_at hl 0 rfl) ?_
  refine lv_aload_n hx hb dX9_jumps_35 rfl (lv_at hl 0 rfl) ?_
  refine va_get (D := g.1) (ci := 9) (v := .int pl070) (C := RX9) (T := TX9) (N := 47) hx hb hg inG9 hown hK hP 0 (zw_at (by omega) hs64) rfl 17 (by decide) (hg _ mm_975) (fun _ h9 => h9) rfl dX9_jumps_36 ?_
  refine lv_iconst (v := 1) hx hb dX9_jumps_39 (by decide) ?_
  refine lv_iadd hx hb dX9_jumps_40 ?_
  refine lv_topi (fun x102 ex102 => ?_)
  have tx102 : x102.toInt = pl070.toInt + 1 := by rw [ex102]; exact z_add rfl (by decide : (1 : Int32).toInt = 1) (by omega) (by omega)
  refine va_put (D := g.1) (ci := 9) (v := .int x102) (ty := .int) (C := RX9) (T := TX9) (N := 47) hx hb hg inG9 tyX9 tyX9_ok nmX9 hown hK hP hD hS 0 (zw_at (by omega) hs64) rfl 17 (by decide) (hg _ mm_975) (fun _ h9 => h9) rfl (by decide +kernel) rfl rfl (Nat.le_of_ble_eq_true rfl) dX9_jumps_41 (fun H locs hP hD hS => ?_)
  have hP : zP g ((zw 32 ad ct56).set 0 (ad 0, .inr (9, [.int me, .ref (ad 1), .ref (ad 2), .ref (ad 3), .ref (ad 4), .int bks65, .int lks66, .int gos67, .int shn68, .ref (ad 5), .ref (ad 6), .ref (ad 7), .ref (ad 8), .ref (ad 9), .ref (ad 10), .ref (ad 11), .int tpd69, .int x102, .int ln071, .int flt72, .int opn73, .int cmy74, .int wtg75, .int nm076, .ref (ad 12), .ref (ad 13), .ref (ad 14), .ref (ad 15), .ref (ad 16), .ref (ad 17), .ref (ad 18), .ref (ad 19), .ref (ad 20), .ref (ad 21), .ref (ad 22), .ref (ad 23), .ref (ad 24), .ref (ad 25), .ref (ad 26), .ref (ad 27), .int mst77, .int sus78, .ref (ad 28), .ref (ad 29), .ref (ad 30), .ref (ad 31), .int cut79]))) H := hP
  have hD : va_D A ((zw 32 ad ct56).set 0 (ad 0, .inr (9, [.int me, .ref (ad 1), .ref (ad 2), .ref (ad 3), .ref (ad 4), .int bks65, .int lks66, .int gos67, .int shn68, .ref (ad 5), .ref (ad 6), .ref (ad 7), .ref (ad 8), .ref (ad 9), .ref (ad 10), .ref (ad 11), .int tpd69, .int x102, .int ln071, .int flt72, .int opn73, .int cmy74, .int wtg75, .int nm076, .ref (ad 12), .ref (ad 13), .ref (ad 14), .ref (ad 15), .ref (ad 16), .ref (ad 17), .ref (ad 18), .ref (ad 19), .ref (ad 20), .ref (ad 21), .ref (ad 22), .ref (ad 23), .ref (ad 24), .ref (ad 25), .ref (ad 26), .ref (ad 27), .int mst77, .int sus78, .ref (ad 28), .ref (ad 29), .ref (ad 30), .ref (ad 31), .int cut79]))) := hD
  rw [zw_set (by omega)] at hP hD
  obtain ⟨ct103, ec104⟩ : ∃ z : Nat → va_E, z = va_up ct56 0 (.inr (9, [.int me, .ref (ad 1), .ref (ad 2), .ref (ad 3), .ref (ad 4), .int bks65, .int lks66, .int gos67, .int shn68, .ref (ad 5), .ref (ad 6), .ref (ad 7), .ref (ad 8), .ref (ad 9), .ref (ad 10), .ref (ad 11), .int tpd69, .int x102, .int ln071, .int flt72, .int opn73, .int cmy74, .int wtg75, .int nm076, .ref (ad 12), .ref (ad 13), .ref (ad 14), .ref (ad 15), .ref (ad 16), .ref (ad 17), .ref (ad 18), .ref (ad 19), .ref (ad 20), .ref (ad 21), .ref (ad 22), .ref (ad 23), .ref (ad 24), .ref (ad 25), .ref (ad 26), .ref (ad 27), .int mst77, .int sus78, .ref (ad 28), .ref (ad 29), .ref (ad 30), .ref (ad 31), .int cut79])) := ⟨_, rfl⟩
  rw [← ec104] at hP hD
  have hI : IR g ad me ct103 := by rw [ec104]; exact upR hI (by decide) (i9_0 ⟨(bks65 : Int32), (lks66 : Int32), (gos67 : Int32), (shn68 : Int32), (tpd69 : Int32), (x102 : Int32), (ln071 : Int32), (flt72 : Int32), (opn73 : Int32), (cmy74 : Int32), (wtg75 : Int32), (nm076 : Int32), (mst77 : Int32), (sus78 : Int32), (cut79 : Int32), (by first | omega | decide), (by first | omega | decide), (by first | omega | decide), (by first | omega | decide), (by first | omega | decide), (by first | omega | decide), (by first | omega | decide), (by first | omega | decide), (by first | omega | decide), (by first | omega | decide), (by first | omega | decide), (by first | omega | decide), (by first | omega | decide), (by first | omega | decide), (by first | omega | decide), (by first | omega | decide), (by first | omega | decide), (by first | omega | decide), (by first | omega | decide), (by first | omega | decide), rfl⟩)
  have hs105 : ct103 13 = .inl (g.2 0, 120, .inl (upd f40 (Int32.toNatClampNeg wtg12) x42)) := by rw [ec104, va_up_ne _ _ (by omega)]; exact hs63
  have hs106 : ct103 12 = .inl (g.2 0, 120, .inl f101) := by rw [ec104, va_up_ne _ _ (by omega)]; exact hs100
  have hs107 : ct103 0 = .inr (9, [.int me, .ref (ad 1), .ref (ad 2), .ref (ad 3), .ref (ad 4), .int bks65, .int lks66, .int gos67, .int shn68, .ref (ad 5), .ref (ad 6), .ref (ad 7), .ref (ad 8), .ref (ad 9), .ref (ad 10), .ref (ad 11), .int tpd69, .int x102, .int ln071, .int flt72, .int opn73, .int cmy74, .int wtg75, .int nm076, .ref (ad 12), .ref (ad 13), .ref (ad 14), .ref (ad 15), .ref (ad 16), .ref (ad 17), .ref (ad 18), .ref (ad 19), .ref (ad 20), .ref (ad 21), .ref (ad 22), .ref (ad 23), .ref (ad 24), .ref (ad 25), .ref (ad 26), .ref (ad 27), .int mst77, .int sus78, .ref (ad 28), .ref (ad 29), .ref (ad 30), .ref (ad 31), .int cut79]) := by rw [ec104]; exact va_up_self _ _ _
  have z17_hs107 : zfi 17 (ct103 0) = (x102 : Int32).toInt := by rw [hs107]; rfl
  have z18_hs107 : zfi 18 (ct103 0) = (ln071 : Int32).toInt := by rw [hs107]; rfl
  have z21_hs107 : zfi 21 (ct103 0) = (cmy74 : Int32).toInt := by rw [hs107]; rfl
  have z22_hs107 : zfi 22 (ct103 0) = (wtg75 : Int32).toInt := by rw [hs107]; rfl
  have hps2 := PS.jump hps (r := op0.toInt) (by omega) (by omega) (by omega) (by omega) (by omega) (wr_c hk61 (hs52.trans hs37.symm) (hs106.trans hs100.symm) (by omega) (by have q0 : (0 : Int32).toInt = 0 := rfl; omega)) (wr_c (wr_id (k := zfi 22 (ct 0)) (val := 1048576 * op0.toInt + zfi 21 (ct 0)) hs39 hs53 (by omega) (by omega) (by omega)) rfl (hs105.trans hs53.symm) rfl rfl) (by omega)
  exact W.vret hx hb hr (fun t ht hW => ⟨⟨(), rfl, trivial, ct103, by rw [ht]; exact hP, hD, hI, (by first | assumption | omega), (by first | assumption | omega), (by first | assumption | omega)⟩, hS.F ht⟩) hS.2.2 dX9_jumps_44
