set_option maxHeartbeats 4000000 in
set_option maxRecDepth 100000 in
theorem k_X9_closes (l : Launch) (g : zG) (sz : Nat) (ad : Nat → Nat) (me : Int32) (ct : Nat → va_E) (hI : IR g ad me ct) (hps : PS (g.2 0) ct 1 0 R0) (hpl : zfi 17 (ct 0) < zfi 18 (ct 0)) : Met l yX9_closes (zW yX9_closes cX9_closes 1 (some .boolean)) ({ frames := 2, cells := 0, slots := 0, locals := 42 }) (va_Pc [.ref (ad 0)] (zA g (zw 32 ad ct) sz)) (va_Qi (fun (r : Int32) (u : Int32) => (r = 1 ∧ (u = 1)) ∨ (r = 0 ∧ (u = 0))) (fun (u : Int32) t => ∃ ct2 : Nat → va_E, zP g (zw 32 ad ct2) t.heap ∧ va_D (va_A (zw 32 ad ct) sz) (zw 32 ad ct2) ∧ IR g ad me ct2 ∧ (zfi 18 (ct2 0) = zfi 18 (ct 0)) ∧ (u = 1 → zfi 17 (ct 0) < zfi 17 (ct2 0)) ∧ (u = 1 → PS (g.2 0) ct2 1 0 R0)) (va_A (zw 32 ad ct) sz)) 0 0 (va_A (zw 32 ad ct) sz) := by
  refine Met.ofW (cc := cX9_closes) (maxL := 1) (ret := (some .boolean)) (by decide) rfl ?_
  intro p e s m args below meth c s₁ B hml hv
  obtain ⟨rfl, hsz, hP, hK, hD0, hN⟩ := hv
  have hx := B.exec
  have hb := B.bytes
  have hr := B.returns
  have hg := zW.law (atoms_spec (ws := (zW yX9_closes cX9_closes 1 (some .boolean))) B.pre)
  have hown : s.vm.findClass RX9 = some m.cls := findClass_of_methodNamed B.named
  have hlocks := B.notSynchronized
  have hpe0 := hI.1.1
  subst hsz
  have hD := hD0.self (sz := s.heap.size)
  generalize hAe : va_A (zw 32 ad ct) s.heap.size = A at hD ⊢
  have hA : ∀ q : Nat, s.heap.size ≤ q → A q := fun q h => by rw [← hAe]; exact Or.inr h
  have hS : va_S A s.heap s.heap [] := va_S.rf
  have hl := lv_entry ([.ref (ad 0)]) (n := 1) (Nat.le_of_ble_eq_true rfl)
  rw [lg_entry_eq]
  generalize (lg_sl ([.ref (ad 0)]) ++ List.replicate (1 - (lg_sl ([.ref (ad 0)])).length) Slot.unset).toArray = ls at hl ⊢
  have hl : lv_has ls 1 [(0, .ref (ad 0))] := hl
  refine lv_aload_n hx hb dX9_closes_0 rfl (lv_at hl 0 rfl) ?_
  refine lv_iconst (v := 1) hx hb dX9_closes_1 (by decide) ?_
  obtain ⟨bks2, lks3, gos4, shn5, tpd6, pl07, ln08, flt9, opn10, cmy11, wtg12, nm013, mst14, sus15, cut16, h17, h18, h19, h20, h21, h22, h23, h24, h25, h26, h27, h28, h29, h30, h31, h32, h33, h34, h35, h36, hs1⟩ := a9_0 hI.1
  have z17_hs1 : zfi 17 (ct 0) = pl07.toInt := by rw [hs1]; rfl
  have z18_hs1 : zfi 18 (ct 0) = ln08.toInt := by rw [hs1]; rfl
  have z21_hs1 : zfi 21 (ct 0) = cmy11.toInt := by rw [hs1]; rfl
  have z22_hs1 : zfi 22 (ct 0) = wtg12.toInt := by rw [hs1]; rfl
  have hFc := zw_free hD hS hA
  refine va_callv (va_runV (As := [.int 1]) (rest := []) ⟨hx, hb, hml, hown, hg⟩ (k_X9_lands l g _ ad me ct (1 : Int32) (by first | omega | decide) hI (hps)) (cwV 1 hg (z_gV mm_1278 mm_1280 mm_77 mm_117 mm_1281) rfl rfl rfl (by decide +kernel) ⟨Nat.le_of_ble_eq_true rfl, Nat.le_of_ble_eq_true rfl⟩) ⟨(zA.pre [.ref (ad 0), .int 1] hP hK hD hN).1, va_recv hK hP (ci := 9) (q0 := 0) rfl (zw_at (by omega) hs1), (zA.pre [.ref (ad 0), .int 1] hP hK hD hN).2⟩ rfl rfl hl.1 rfl (lv_room (Nat.le_of_ble_eq_true rfl)) dX9_closes_2 ⟨Nat.le_of_ble_eq_true rfl, Nat.le_of_ble_eq_true rfl⟩) hS (fun q _ h => hFc q h) hFc (fun _ t H1 locs ht hvm hr37 hB hz1 hk1 hS => ?_)
  obtain ⟨ct38, hP1, hD1, hI, hk39, hk40, hk41⟩ := hB
  rw [ht] at hP1
  have hD := hD1.weaken (fun _ _ _ h => hFc _ h)
  generalize H1 = H at hP1 hS ⊢
  have hP := hP1
  refine W.widen (k := 0) (n := 0) (Nat.le_refl _) (Nat.le_refl _) ?_
  have hb0 := PS.bounds hk41
  obtain ⟨bks43, lks44, gos45, shn46, tpd47, pl048, ln049, flt50, opn51, cmy52, wtg53, nm054, mst55, sus56, cut57, h58, h59, h60, h61, h62, h63, h64, h65, h66, h67, h68, h69, h70, h71, h72, h73, h74, h75, h76, h77, hs42⟩ := a9_0 hI.1
  have z17_hs42 : zfi 17 (ct38 0) = pl048.toInt := by rw [hs42]; rfl
  have z18_hs42 : zfi 18 (ct38 0) = ln049.toInt := by rw [hs42]; rfl
  have z21_hs42 : zfi 21 (ct38 0) = cmy52.toInt := by rw [hs42]; rfl
  have z22_hs42 : zfi 22 (ct38 0) = wtg53.toInt := by rw [hs42]; rfl
  obtain ⟨f79, hs78⟩ := a9_12 hI.1
  obtain ⟨f81, hs80⟩ := a9_13 hI.1
  refine lv_aload_n hx hb dX9_closes_5 rfl (lv_at hl 0 rfl) ?_
  refine va_get (D := g.1) (ci := 9) (v := .int wtg53) (C := RX9) (T := TX9) (N := 47) hx hb hg inG9 hown hK hP 0 (zw_at (by omega) hs42) rfl 22 (by decide) (hg _ mm_980) (fun _ h9 => h9) rfl dX9_closes_6 ?_
  refine lv_iconst (v := 1) hx hb dX9_closes_9 (by decide) ?_
  refine lv_icmp_ne (tgt := 23) hx hb dX9_closes_10 (by decide) (fun c82 => ?_) (fun c82 => ?_)
  · skip
    have c82 : ¬ (wtg53.toInt = 1) := fun q => c82 ((z_eq rfl (by decide : (1 : Int32).toInt = 1)).mpr q)
    refine lv_aload_n hx hb dX9_closes_23 rfl (lv_at hl 0 rfl) ?_
    refine lv_aload_n hx hb dX9_closes_24 rfl (lv_at hl 0 rfl) ?_
    refine va_get (D := g.1) (ci := 9) (v := .int wtg53) (C := RX9) (T := TX9) (N := 47) hx hb hg inG9 hown hK hP 0 (zw_at (by omega) hs42) rfl 22 (by decide) (hg _ mm_980) (fun _ h9 => h9) rfl dX9_closes_25 ?_
    refine lv_iconst (v := 1) hx hb dX9_closes_28 (by decide) ?_
    refine lv_isub hx hb dX9_closes_29 ?_
    refine lv_topi (fun x83 ex83 => ?_)
    have tx83 : x83.toInt = wtg53.toInt - 1 := by rw [ex83]; exact z_sub rfl (by decide : (1 : Int32).toInt = 1) (by omega) (by omega)
    refine va_put (D := g.1) (ci := 9) (v := .int x83) (ty := .int) (C := RX9) (T := TX9) (N := 47) hx hb hg inG9 tyX9 tyX9_ok nmX9 hown hK hP hD hS 0 (zw_at (by omega) hs42) rfl 22 (by decide) (hg _ mm_980) (fun _ h9 => h9) rfl (by decide +kernel) rfl rfl (Nat.le_of_ble_eq_true rfl) dX9_closes_30 (fun H locs hP hD hS => ?_)
    have hP : zP g ((zw 32 ad ct38).set 0 (ad 0, .inr (9, [.int me, .ref (ad 1), .ref (ad 2), .ref (ad 3), .ref (ad 4), .int bks43, .int lks44, .int gos45, .int shn46, .ref (ad 5), .ref (ad 6), .ref (ad 7), .ref (ad 8), .ref (ad 9), .ref (ad 10), .ref (ad 11), .int tpd47, .int pl048, .int ln049, .int flt50, .int opn51, .int cmy52, .int x83, .int nm054, .ref (ad 12), .ref (ad 13), .ref (ad 14), .ref (ad 15), .ref (ad 16), .ref (ad 17), .ref (ad 18), .ref (ad 19), .ref (ad 20), .ref (ad 21), .ref (ad 22), .ref (ad 23), .ref (ad 24), .ref (ad 25), .ref (ad 26), .ref (ad 27), .int mst55, .int sus56, .ref (ad 28), .ref (ad 29), .ref (ad 30), .ref (ad 31), .int cut57]))) H := hP
    have hD : va_D A ((zw 32 ad ct38).set 0 (ad 0, .inr (9, [.int me, .ref (ad 1), .ref (ad 2), .ref (ad 3), .ref (ad 4), .int bks43, .int lks44, .int gos45, .int shn46, .ref (ad 5), .ref (ad 6), .ref (ad 7), .ref (ad 8), .ref (ad 9), .ref (ad 10), .ref (ad 11), .int tpd47, .int pl048, .int ln049, .int flt50, .int opn51, .int cmy52, .int x83, .int nm054, .ref (ad 12), .ref (ad 13), .ref (ad 14), .ref (ad 15), .ref (ad 16), .ref (ad 17), .ref (ad 18), .ref (ad 19), .ref (ad 20), .ref (ad 21), .ref (ad 22), .ref (ad 23), .ref (ad 24), .ref (ad 25), .ref (ad 26), .ref (ad 27), .int mst55, .int sus56, .ref (ad 28), .ref (ad 29), .ref (ad 30), .ref (ad 31), .int cut57]))) := hD
    rw [zw_set (by omega)] at hP hD
    obtain ⟨ct84, ec85⟩ : ∃ z : Nat → va_E, z = va_up ct38 0 (.inr (9, [.int me, .ref (ad 1), .ref (ad 2), .ref (ad 3), .ref (ad 4), .int bks43, .int lks44, .int gos45, .int shn46, .ref (ad 5), .ref (ad 6), .ref (ad 7), .ref (ad 8), .ref (ad 9), .ref (ad 10), .ref (ad 11), .int tpd47, .int pl048, .int ln049, .int flt50, .int opn51, .int cmy52, .int x83, .int nm054, .ref (ad 12), .ref (ad 13), .ref (ad 14), .ref (ad 15), .ref (ad 16), .ref (ad 17), .ref (ad 18), .ref (ad 19), .ref (ad 20), .ref (ad 21), .ref (ad 22), .ref (ad 23), .ref (ad 24), .ref (ad 25), .ref (ad 26), .ref (ad 27), .int mst55, .int sus56, .ref (ad 28), .ref (ad 29), .ref (ad 30), .ref (ad 31), .int cut57])) := ⟨_, rfl⟩
    rw [← ec85] at hP hD
    have hI : IR g ad me ct84 := by rw [ec85]; exact upR hI (by decide) (i9_0 ⟨(bks43 : Int32), (lks44 : Int32), (gos45 : Int32), (shn46 : Int32), (tpd47 : Int32), (pl048 : Int32), (ln049 : Int32), (flt50 : Int32), (opn51 : Int32), (cmy52 : Int32), (x83 : Int32), (nm054 : Int32), (mst55 : Int32), (sus56 : Int32), (cut57 : Int32), (by first | omega | decide), (by first | omega | decide), (by first | omega | decide), (by first | omega | decide), (by first | omega | decide), (by first | omega | decide), (by first | omega | decide), (by first | omega | decide), (by first | omega | decide), (by first | omega | decide), (by first | omega | decide), (by first | omega | decide), (by first | omega | decide), (by first | omega | decide), (by first | omega | decide), (by first | omega | decide), (by first | omega | decide), (by first | omega | decide), (by first | omega | decide), (by first | omega | decide), rfl⟩)
    have hs86 : ct84 12 = .inl (g.2 0, 120, .inl f79) := by rw [ec85, va_up_ne _ _ (by omega)]; exact hs78
    have hs87 : ct84 13 = .inl (g.2 0, 120, .inl f81) := by rw [ec85, va_up_ne _ _ (by omega)]; exact hs80
    have hs88 : ct84 0 = .inr (9, [.int me, .ref (ad 1), .ref (ad 2), .ref (ad 3), .ref (ad 4), .int bks43, .int lks44, .int gos45, .int shn46, .ref (ad 5), .ref (ad 6), .ref (ad 7), .ref (ad 8), .ref (ad 9), .ref (ad 10), .ref (ad 11), .int tpd47, .int pl048, .int ln049, .int flt50, .int opn51, .int cmy52, .int x83, .int nm054, .ref (ad 12), .ref (ad 13), .ref (ad 14), .ref (ad 15), .ref (ad 16), .ref (ad 17), .ref (ad 18), .ref (ad 19), .ref (ad 20), .ref (ad 21), .ref (ad 22), .ref (ad 23), .ref (ad 24), .ref (ad 25), .ref (ad 26), .ref (ad 27), .int mst55, .int sus56, .ref (ad 28), .ref (ad 29), .ref (ad 30), .ref (ad 31), .int cut57]) := by rw [ec85]; exact va_up_self _ _ _
    have z17_hs88 : zfi 17 (ct84 0) = (pl048 : Int32).toInt := by rw [hs88]; rfl
    have z18_hs88 : zfi 18 (ct84 0) = (ln049 : Int32).toInt := by rw [hs88]; rfl
    have z21_hs88 : zfi 21 (ct84 0) = (cmy52 : Int32).toInt := by rw [hs88]; rfl
    have z22_hs88 : zfi 22 (ct84 0) = (x83 : Int32).toInt := by rw [hs88]; rfl
    refine lv_aload_n hx hb dX9_closes_33 rfl (lv_at hl 0 rfl) ?_
    refine lv_aload_n hx hb dX9_closes_34 rfl (lv_at hl 0 rfl) ?_
    refine va_get (D := g.1) (ci := 9) (v := .int opn51) (C := RX9) (T := TX9) (N := 47) hx hb hg inG9 hown hK hP 0 (zw_at (by omega) hs88) rfl 20 (by decide) (hg _ mm_978) (fun _ h9 => h9) rfl dX9_closes_35 ?_
    refine lv_iconst (v := 1) hx hb dX9_closes_38 (by decide) ?_
    refine lv_isub hx hb dX9_closes_39 ?_
    refine lv_topi (fun x89 ex89 => ?_)
    refine va_put (D := g.1) (ci := 9) (v := .int x89) (ty := .int) (C := RX9) (T := TX9) (N := 47) hx hb hg inG9 tyX9 tyX9_ok nmX9 hown hK hP hD hS 0 (zw_at (by omega) hs88) rfl 20 (by decide) (hg _ mm_978) (fun _ h9 => h9) rfl (by decide +kernel) rfl rfl (Nat.le_of_ble_eq_true rfl) dX9_closes_40 (fun H locs hP hD hS => ?_)
    have hP : zP g ((zw 32 ad ct84).set 0 (ad 0, .inr (9, [.int me, .ref (ad 1), .ref (ad 2), .ref (ad 3), .ref (ad 4), .int bks43, .int lks44, .int gos45, .int shn46, .ref (ad 5), .ref (ad 6), .ref (ad 7), .ref (ad 8), .ref (ad 9), .ref (ad 10), .ref (ad 11), .int tpd47, .int pl048, .int ln049, .int flt50, .int x89, .int cmy52, .int x83, .int nm054, .ref (ad 12), .ref (ad 13), .ref (ad 14), .ref (ad 15), .ref (ad 16), .ref (ad 17), .ref (ad 18), .ref (ad 19), .ref (ad 20), .ref (ad 21), .ref (ad 22), .ref (ad 23), .ref (ad 24), .ref (ad 25), .ref (ad 26), .ref (ad 27), .int mst55, .int sus56, .ref (ad 28), .ref (ad 29), .ref (ad 30), .ref (ad 31), .int cut57]))) H := hP
    have hD : va_D A ((zw 32 ad ct84).set 0 (ad 0, .inr (9, [.int me, .ref (ad 1), .ref (ad 2), .ref (ad 3), .ref (ad 4), .int bks43, .int lks44, .int gos45, .int shn46, .ref (ad 5), .ref (ad 6), .ref (ad 7), .ref (ad 8), .ref (ad 9), .ref (ad 10), .ref (ad 11), .int tpd47, .int pl048, .int ln049, .int flt50, .int x89, .int cmy52, .int x83, .int nm054, .ref (ad 12), .ref (ad 13), .ref (ad 14), .ref (ad 15), .ref (ad 16), .ref (ad 17), .ref (ad 18), .ref (ad 19), .ref (ad 20), .ref (ad 21), .ref (ad 22), .ref (ad 23), .ref (ad 24), .ref (ad 25), .ref (ad 26), .ref (ad 27), .int mst55, .int sus56, .ref (ad 28), .ref (ad 29), .ref (ad 30), .ref (ad 31), .int cut57]))) := hD
    rw [zw_set (by omega)] at hP hD
    obtain ⟨ct90, ec91⟩ : ∃ z : Nat → va_E, z = va_up ct84 0 (.inr (9, [.int me, .ref (ad 1), .ref (ad 2), .ref (ad 3), .ref (ad 4), .int bks43, .int lks44, .int gos45, .int shn46, .ref (ad 5), .ref (ad 6), .ref (ad 7), .ref (ad 8), .ref (ad 9), .ref (ad 10), .ref (ad 11), .int tpd47, .int pl048, .int ln049, .int flt50, .int x89, .int cmy52, .int x83, .int nm054, .ref (ad 12), .ref (ad 13), .ref (ad 14), .ref (ad 15), .ref (ad 16), .ref (ad 17), .ref (ad 18), .ref (ad 19), .ref (ad 20), .ref (ad 21), .ref (ad 22), .ref (ad 23), .ref (ad 24), .ref (ad 25), .ref (ad 26), .ref (ad 27), .int mst55, .int sus56, .ref (ad 28), .ref (ad 29), .ref (ad 30), .ref (ad 31), .int cut57])) := ⟨_, rfl⟩
    rw [← ec91] at hP hD
    have hI : IR g ad me ct90 := by rw [ec91]; exact upR hI (by decide) (i9_0 ⟨(bks43 : Int32), (lks44 : Int32), (gos45 : Int32), (shn46 : Int32), (tpd47 : Int32), (pl048 : Int32), (ln049 : Int32), (flt50 : Int32), (x89 : Int32), (cmy52 : Int32), (x83 : Int32), (nm054 : Int32), (mst55 : Int32), (sus56 : Int32), (cut57 : Int32), (by first | omega | decide), (by first | omega | decide), (by first | omega | decide), (by first | omega | decide), (by first | omega | decide), (by first | omega | decide), (by first | omega | decide), (by first | omega | decide), (by first | omega | decide), (by first | omega | decide), (by first | omega | decide), (by first | omega | decide), (by first | omega | decide), (by first | omega | decide), (by first | omega | decide), (by first | omega | decide), (by first | omega | decide), (by first | omega | decide), (by first | omega | decide), (by first | omega | decide), rfl⟩)
    have hs92 : ct90 12 = .inl (g.2 0, 120, .inl f79) := by rw [ec91, va_up_ne _ _ (by omega)]; exact hs86
    have hs93 : ct90 13 = .inl (g.2 0, 120, .inl f81) := by rw [ec91, va_up_ne _ _ (by omega)]; exact hs87
    have hs94 : ct90 0 = .inr (9, [.int me, .ref (ad 1), .ref (ad 2), .ref (ad 3), .ref (ad 4), .int bks43, .int lks44, .int gos45, .int shn46, .ref (ad 5), .ref (ad 6), .ref (ad 7), .ref (ad 8), .ref (ad 9), .ref (ad 10), .ref (ad 11), .int tpd47, .int pl048, .int ln049, .int flt50, .int x89, .int cmy52, .int x83, .int nm054, .ref (ad 12), .ref (ad 13), .ref (ad 14), .ref (ad 15), .ref (ad 16), .ref (ad 17), .ref (ad 18), .ref (ad 19), .ref (ad 20), .ref (ad 21), .ref (ad 22), .ref (ad 23), .ref (ad 24), .ref (ad 25), .ref (ad 26), .ref (ad 27), .int mst55, .int sus56, .ref (ad 28), .ref (ad 29), .ref (ad 30), .ref (ad 31), .int cut57]) := by rw [ec91]; exact va_up_self _ _ _
    have z17_hs94 : zfi 17 (ct90 0) = (pl048 : Int32).toInt := by rw [hs94]; rfl
    have z18_hs94 : zfi 18 (ct90 0) = (ln049 : Int32).toInt := by rw [hs94]; rfl
    have z21_hs94 : zfi 21 (ct90 0) = (cmy52 : Int32).toInt := by rw [hs94]; rfl
    have z22_hs94 : zfi 22 (ct90 0) = (x83 : Int32).toInt := by rw [hs94]; rfl
    refine lv_aload_n hx hb dX9_closes_43 rfl (lv_at hl 0 rfl) ?_
    refine lv_aload_n hx hb dX9_closes_44 rfl (lv_at hl 0 rfl) ?_
    refine va_get (D := g.1) (ci := 9) (v := .int pl048) (C := RX9) (T := TX9) (N := 47) hx hb hg inG9 hown hK hP 0 (zw_at (by omega) hs94) rfl 17 (by decide) (hg _ mm_975) (fun _ h9 => h9) rfl dX9_closes_45 ?_
    refine lv_iconst (v := 1) hx hb dX9_closes_48 (by decide) ?_
    refine lv_iadd hx hb dX9_closes_49 ?_
    refine lv_topi (fun x95 ex95 => ?_)
    have tx95 : x95.toInt = pl048.toInt + 1 := by rw [ex95]; exact z_add rfl (by decide : (1 : Int32).toInt = 1) (by omega) (by omega)
    refine va_put (D := g.1) (ci := 9) (v := .int x95) (ty := .int) (C := RX9) (T := TX9) (N := 47) hx hb hg inG9 tyX9 tyX9_ok nmX9 hown hK hP hD hS 0 (zw_at (by omega) hs94) rfl 17 (by decide) (hg _ mm_975) (fun _ h9 => h9) rfl (by decide +kernel) rfl rfl (Nat.le_of_ble_eq_true rfl) dX9_closes_50 (fun H locs hP hD hS => ?_)
    have hP : zP g ((zw 32 ad ct90).set 0 (ad 0, .inr (9, [.int me, .ref (ad 1), .ref (ad 2), .ref (ad 3), .ref (ad 4), .int bks43, .int lks44, .int gos45, .int shn46, .ref (ad 5), .ref (ad 6), .ref (ad 7), .ref (ad 8), .ref (ad 9), .ref (ad 10), .ref (ad 11), .int tpd47, .int x95, .int ln049, .int flt50, .int x89, .int cmy52, .int x83, .int nm054, .ref (ad 12), .ref (ad 13), .ref (ad 14), .ref (ad 15), .ref (ad 16), .ref (ad 17), .ref (ad 18), .ref (ad 19), .ref (ad 20), .ref (ad 21), .ref (ad 22), .ref (ad 23), .ref (ad 24), .ref (ad 25), .ref (ad 26), .ref (ad 27), .int mst55, .int sus56, .ref (ad 28), .ref (ad 29), .ref (ad 30), .ref (ad 31), .int cut57]))) H := hP
    have hD : va_D A ((zw 32 ad ct90).set 0 (ad 0, .inr (9, [.int me, .ref (ad 1), .ref (ad 2), .ref (ad 3), .ref (ad 4), .int bks43, .int lks44, .int gos45, .int shn46, .ref (ad 5), .ref (ad 6), .ref (ad 7), .ref (ad 8), .ref (ad 9), .ref (ad 10), .ref (ad 11), .int tpd47, .int x95, .int ln049, .int flt50, .int x89, .int cmy52, .int x83, .int nm054, .ref (ad 12), .ref (ad 13), .ref (ad 14), .ref (ad 15), .ref (ad 16), .ref (ad 17), .ref (ad 18), .ref (ad 19), .ref (ad 20), .ref (ad 21), .ref (ad 22), .ref (ad 23), .ref (ad 24), .ref (ad 25), .ref (ad 26), .ref (ad 27), .int mst55, .int sus56, .ref (ad 28), .ref (ad 29), .ref (ad 30), .ref (ad 31), .int cut57]))) := hD
    rw [zw_set (by omega)] at hP hD
    obtain ⟨ct96, ec97⟩ : ∃ z : Nat → va_E, z = va_up ct90 0 (.inr (9, [.int me, .ref (ad 1), .ref (ad 2), .ref (ad 3), .ref (ad 4), .int bks43, .int lks44, .int gos45, .int shn46, .ref (ad 5), .ref (ad 6), .ref (ad 7), .ref (ad 8), .ref (ad 9), .ref (ad 10), .ref (ad 11), .int tpd47, .int x95, .int ln049, .int flt50, .int x89, .int cmy52, .int x83, .int nm054, .ref (ad 12), .ref (ad 13), .ref (ad 14), .ref (ad 15), .ref (ad 16), .ref (ad 17), .ref (ad 18), .ref (ad 19), .ref (ad 20), .ref (ad 21), .ref (ad 22), .ref (ad 23), .ref (ad 24), .ref (ad 25), .ref (ad 26), .ref (ad 27), .int mst55, .int sus56, .ref (ad 28), .ref (ad 29), .ref (ad 30), .ref (ad 31), .int cut57])) := ⟨_, rfl⟩
    rw [← ec97] at hP hD
    have hI : IR g ad me ct96 := by rw [ec97]; exact upR hI (by decide) (i9_0 ⟨(bks43 : Int32), (lks44 : Int32), (gos45 : Int32), (shn46 : Int32), (tpd47 : Int32), (x95 : Int32), (ln049 : Int32), (flt50 : Int32), (x89 : Int32), (cmy52 : Int32), (x83 : Int32), (nm054 : Int32), (mst55 : Int32), (sus56 : Int32), (cut57 : Int32), (by first | omega | decide), (by first | omega | decide), (by first | omega | decide), (by first | omega | decide), (by first | omega | decide), (by first | omega | decide), (by first | omega | decide), (by first | omega | decide), (by first | omega | decide), (by first | omega | decide), (by first | omega | decide), (by first | omega | decide), (by first | omega | decide), (by first | omega | decide), (by first | omega | decide), (by first | omega | decide), (by first | omega | decide), (by first | omega | decide), (by first | omega | decide), (by first | omega | decide), rfl⟩)
    have hs98 : ct96 12 = .inl (g.2 0, 120, .inl f79) := by rw [ec97, va_up_ne _ _ (by omega)]; exact hs92
    have hs99 : ct96 13 = .inl (g.2 0, 120, .inl f81) := by rw [ec97, va_up_ne _ _ (by omega)]; exact hs93
    have hs100 : ct96 0 = .inr (9, [.int me, .ref (ad 1), .ref (ad 2), .ref (ad 3), .ref (ad 4), .int bks43, .int lks44, .int gos45, .int shn46, .ref (ad 5), .ref (ad 6), .ref (ad 7), .ref (ad 8), .ref (ad 9), .ref (ad 10), .ref (ad 11), .int tpd47, .int x95, .int ln049, .int flt50, .int x89, .int cmy52, .int x83, .int nm054, .ref (ad 12), .ref (ad 13), .ref (ad 14), .ref (ad 15), .ref (ad 16), .ref (ad 17), .ref (ad 18), .ref (ad 19), .ref (ad 20), .ref (ad 21), .ref (ad 22), .ref (ad 23), .ref (ad 24), .ref (ad 25), .ref (ad 26), .ref (ad 27), .int mst55, .int sus56, .ref (ad 28), .ref (ad 29), .ref (ad 30), .ref (ad 31), .int cut57]) := by rw [ec97]; exact va_up_self _ _ _
    have z17_hs100 : zfi 17 (ct96 0) = (x95 : Int32).toInt := by rw [hs100]; rfl
    have z18_hs100 : zfi 18 (ct96 0) = (ln049 : Int32).toInt := by rw [hs100]; rfl
    have z21_hs100 : zfi 21 (ct96 0) = (cmy52 : Int32).toInt := by rw [hs100]; rfl
    have z22_hs100 : zfi 22 (ct96 0) = (x83 : Int32).toInt := by rw [hs100]; rfl
    have hps2 := PS.pop hk41 (R2 := R0) (by omega) (by omega) (by omega) (by omega) (by omega) (by omega) (hs98.trans hs78.symm) (hs99.trans hs80.symm) (fun fw W q hw1 => by
      obtain ⟨q1, q2⟩ := q
      have q3 := q2 rfl
      rw [Nat.add_sub_cancel] at q3
      exact ⟨(R0.pop q1).2, q3, (R0.pop q1).1⟩)
    refine lv_aload_n hx hb dX9_closes_53 rfl (lv_at hl 0 rfl) ?_
    have hFc := zw_free hD hS hA
    refine va_callv (va_runV (As := []) (rest := []) ⟨hx, hb, hml, hown, hg⟩ (k_X9_endsPiece l g _ ad me ct96  hI (hps2)) (cwV 0 hg (z_gV mm_1270 mm_1272 mm_75 mm_117 mm_1273) rfl rfl rfl (by decide +kernel) ⟨Nat.le_of_ble_eq_true rfl, Nat.le_of_ble_eq_true rfl⟩) ⟨(zA.pre [.ref (ad 0)] hP hK hD hN).1, va_recv hK hP (ci := 9) (q0 := 0) rfl (zw_at (by omega) hs100), (zA.pre [.ref (ad 0)] hP hK hD hN).2⟩ rfl rfl hl.1 rfl (lv_room (Nat.le_of_ble_eq_true rfl)) dX9_closes_54 ⟨Nat.le_of_ble_eq_true rfl, Nat.le_of_ble_eq_true rfl⟩) hS (fun q _ h => hFc q h) hFc (fun _ t H1 locs ht hvm hr101 hB hz1 hk1 hS => ?_)
    obtain ⟨ct102, hP1, hD1, hI, hk103, hk104, hk105⟩ := hB
    rw [ht] at hP1
    have hD := hD1.weaken (fun _ _ _ h => hFc _ h)
    generalize H1 = H at hP1 hS ⊢
    have hP := hP1
    refine W.widen (k := 0) (n := 0) (Nat.le_refl _) (Nat.le_refl _) ?_
    refine lv_iconst (v := 1) hx hb dX9_closes_57 (by decide) ?_
    have q106 : (1 : Int32).toInt = 1 := by decide
    exact W.zret (v := 1) hx hb hr rfl (fun t ht hW => ⟨⟨1, 1, rfl, by first | exact Or.inl ⟨rfl, rfl⟩ | exact Or.inr ⟨rfl, rfl⟩, ct102, by rw [ht]; exact hP, hD, hI, (by first | assumption | omega), (fun _ => by first | assumption | omega), (fun _ => by first | assumption | omega)⟩, hS.F ht⟩) hS.2.2 dX9_closes_58
  · skip
    have c82 : wtg53.toInt = 1 := (z_eq rfl (by decide : (1 : Int32).toInt = 1)).mp c82
    refine lv_aload_n hx hb dX9_closes_13 rfl (lv_at hl 0 rfl) ?_
    refine lv_iconst (v := 1) hx hb dX9_closes_14 (by decide) ?_
    refine lv_aload_n hx hb dX9_closes_15 rfl (lv_at hl 0 rfl) ?_
    refine va_get (D := g.1) (ci := 9) (v := .int pl048) (C := RX9) (T := TX9) (N := 47) hx hb hg inG9 hown hK hP 0 (zw_at (by omega) hs42) rfl 17 (by decide) (hg _ mm_975) (fun _ h9 => h9) rfl dX9_closes_16 ?_
    have hFc := zw_free hD hS hA
    refine va_calli (va_runV (As := [.int 1, .int pl048]) (rest := []) ⟨hx, hb, hml, hown, hg⟩ (k_X9_wrongAt l g _ ad me ct38 (1 : Int32) pl048 hI) (cwV 2 hg (z_gV mm_1223 mm_1225 mm_65 mm_117 mm_1226) rfl rfl rfl (by decide +kernel) ⟨Nat.le_of_ble_eq_true rfl, Nat.le_of_ble_eq_true rfl⟩) ⟨(zA.pre [.ref (ad 0), .int 1, .int pl048] hP hK hD hN).1, va_recv hK hP (ci := 9) (q0 := 0) rfl (zw_at (by omega) hs42), (zA.pre [.ref (ad 0), .int 1, .int pl048] hP hK hD hN).2⟩ rfl rfl hl.1 rfl (lv_room (Nat.le_of_ble_eq_true rfl)) dX9_closes_19 ⟨Nat.le_of_ble_eq_true rfl, Nat.le_of_ble_eq_true rfl⟩) hS (fun q _ h => hFc q h) hFc (fun r107 _ t H1 locs ht hvm hr107 hB hz1 hk1 hS => ?_)
    obtain ⟨ct108, hP1, hD1, hI, hk109, hk110, hk111, hk112, hk113, hk114⟩ := hB
    rw [ht] at hP1
    have hD := hD1.weaken (fun _ _ _ h => hFc _ h)
    generalize H1 = H at hP1 hS ⊢
    have hP := hP1
    refine W.widen (k := 0) (n := 0) (Nat.le_refl _) (Nat.le_refl _) ?_
    have hs115 : ct108 12 = .inl (g.2 0, 120, .inl f79) := hk113.trans hs78
    have hs116 : ct108 13 = .inl (g.2 0, 120, .inl f81) := hk114.trans hs80
    obtain rfl := hr107
    have q117 : (0 : Int32).toInt = 0 := by decide
    exact W.zret (v := 0) hx hb hr rfl (fun t ht hW => ⟨⟨0, 0, rfl, by first | exact Or.inl ⟨rfl, rfl⟩ | exact Or.inr ⟨rfl, rfl⟩, ct108, by rw [ht]; exact hP, hD, hI, (by first | assumption | omega), (fun q => absurd q (by decide)), (fun q => absurd q (by decide))⟩, hS.F ht⟩) hS.2.2 dX9_closes_22
