set_option maxHeartbeats 4000000 in
set_option maxRecDepth 100000 in
theorem k_X9_readsNumber (l : Launch) (g : zG) (sz : Nat) (ad : Nat → Nat) (me : Int32) (ct : Nat → va_E) (hI : IR g ad me ct) (hd : 48 ≤ (zhv (ct 0) (ct 11)).toInt ∧ (zhv (ct 0) (ct 11)).toInt ≤ 57) (hpl : zfi 17 (ct 0) < zfi 18 (ct 0)) : Met l yX9_readsNumber (zW yX9_readsNumber cX9_readsNumber 2 (some .boolean)) ({ frames := 2, cells := 0, slots := 0, locals := 40 }) (va_Pc [.ref (ad 0)] (zA g (zw 32 ad ct) sz)) (va_Qi (fun (r : Int32) (u : Int32) => (r = 1 ∧ (u = 1)) ∨ (r = 0 ∧ (u = 0))) (fun (u : Int32) t => ∃ ct2 : Nat → va_E, zP g (zw 32 ad ct2) t.heap ∧ va_D (va_A (zw 32 ad ct) sz) (zw 32 ad ct2) ∧ IR g ad me ct2 ∧ (zfi 18 (ct2 0) = zfi 18 (ct 0)) ∧ (zfi 21 (ct2 0) = zfi 21 (ct 0)) ∧ (zfi 22 (ct2 0) = zfi 22 (ct 0)) ∧ (u = 1 → zfi 17 (ct 0) < zfi 17 (ct2 0)) ∧ (u = 1 → zfi 17 (ct2 0) ≤ zfi 18 (ct 0)) ∧ (u = 1 → 0 ≤ zfi 23 (ct2 0) ∧ zfi 23 (ct2 0) ≤ 99999) ∧ (ct2 12 = ct 12) ∧ (ct2 13 = ct 13)) (va_A (zw 32 ad ct) sz)) 0 0 (va_A (zw 32 ad ct) sz) := by
  refine Met.ofW (cc := cX9_readsNumber) (maxL := 2) (ret := (some .boolean)) (by decide) rfl ?_
  intro p e s m args below meth c s₁ B hml hv
  obtain ⟨rfl, hsz, hP, hK, hD0, hN⟩ := hv
  have hx := B.exec
  have hb := B.bytes
  have hr := B.returns
  have hg := zW.law (atoms_spec (ws := (zW yX9_readsNumber cX9_readsNumber 2 (some .boolean))) B.pre)
  have hown : s.vm.findClass RX9 = some m.cls := findClass_of_methodNamed B.named
  have hlocks := B.notSynchronized
  have hpe0 := hI.1.1
  subst hsz
  have hD := hD0.self (sz := s.heap.size)
  generalize hAe : va_A (zw 32 ad ct) s.heap.size = A at hD ⊢
  have hA : ∀ q : Nat, s.heap.size ≤ q → A q := fun q h => by rw [← hAe]; exact Or.inr h
  have hS : va_S A s.heap s.heap [] := va_S.rf
  have hl := lv_entry ([.ref (ad 0)]) (n := 2) (Nat.le_of_ble_eq_true rfl)
  rw [lg_entry_eq]
  generalize (lg_sl ([.ref (ad 0)]) ++ List.replicate (2 - (lg_sl ([.ref (ad 0)])).length) Slot.unset).toArray = ls at hl ⊢
  have hl : lv_has ls 2 [(0, .ref (ad 0))] := hl
  have hc12 : ct 12 = ct 12 := rfl
  have hc13 : ct 13 = ct 13 := rfl
  obtain ⟨bks2, lks3, gos4, shn5, tpd6, pl07, ln08, flt9, opn10, cmy11, wtg12, nm013, mst14, sus15, cut16, h17, h18, h19, h20, h21, h22, h23, h24, h25, h26, h27, h28, h29, h30, h31, h32, h33, h34, h35, h36, hs1⟩ := a9_0 hI.1
  have z17_hs1 : zfi 17 (ct 0) = pl07.toInt := by rw [hs1]; rfl
  have z18_hs1 : zfi 18 (ct 0) = ln08.toInt := by rw [hs1]; rfl
  have z21_hs1 : zfi 21 (ct 0) = cmy11.toInt := by rw [hs1]; rfl
  have z22_hs1 : zfi 22 (ct 0) = wtg12.toInt := by rw [hs1]; rfl
  have z23_hs1 : zfi 23 (ct 0) = nm013.toInt := by rw [hs1]; rfl
  obtain ⟨f38, hs37⟩ := a9_11 hI.1
  refine lv_aload_n hx hb dX9_readsNumber_0 rfl (lv_at hl 0 rfl) ?_
  refine va_get (D := g.1) (ci := 9) (v := .int pl07) (C := RX9) (T := TX9) (N := 47) hx hb hg inG9 hown hK hP 0 (zw_at (by omega) hs1) rfl 17 (by decide) (hg _ mm_975) (fun _ h9 => h9) rfl dX9_readsNumber_1 ?_
  refine lv_istore_n (lv' := [(1, .int pl07), (0, .ref (ad 0))]) hx hb dX9_readsNumber_4 rfl hl (by decide) rfl (fun ls hl => ?_)
  refine lv_aload_n hx hb dX9_readsNumber_5 rfl (lv_at hl 1 rfl) ?_
  refine lv_iconst (v := 0) hx hb dX9_readsNumber_6 (by decide) ?_
  refine va_put (D := g.1) (ci := 9) (v := .int 0) (ty := .int) (C := RX9) (T := TX9) (N := 47) hx hb hg inG9 tyX9 tyX9_ok nmX9 hown hK hP hD hS 0 (zw_at (by omega) hs1) rfl 23 (by decide) (hg _ mm_981) (fun _ h9 => h9) rfl (by decide +kernel) rfl rfl (Nat.le_of_ble_eq_true rfl) dX9_readsNumber_7 (fun H locs hP hD hS => ?_)
  have hP : zP g ((zw 32 ad ct).set 0 (ad 0, .inr (9, [.int me, .ref (ad 1), .ref (ad 2), .ref (ad 3), .ref (ad 4), .int bks2, .int lks3, .int gos4, .int shn5, .ref (ad 5), .ref (ad 6), .ref (ad 7), .ref (ad 8), .ref (ad 9), .ref (ad 10), .ref (ad 11), .int tpd6, .int pl07, .int ln08, .int flt9, .int opn10, .int cmy11, .int wtg12, .int 0, .ref (ad 12), .ref (ad 13), .ref (ad 14), .ref (ad 15), .ref (ad 16), .ref (ad 17), .ref (ad 18), .ref (ad 19), .ref (ad 20), .ref (ad 21), .ref (ad 22), .ref (ad 23), .ref (ad 24), .ref (ad 25), .ref (ad 26), .ref (ad 27), .int mst14, .int sus15, .ref (ad 28), .ref (ad 29), .ref (ad 30), .ref (ad 31), .int cut16]))) H := hP
  have hD : va_D A ((zw 32 ad ct).set 0 (ad 0, .inr (9, [.int me, .ref (ad 1), .ref (ad 2), .ref (ad 3), .ref (ad 4), .int bks2, .int lks3, .int gos4, .int shn5, .ref (ad 5), .ref (ad 6), .ref (ad 7), .ref (ad 8), .ref (ad 9), .ref (ad 10), .ref (ad 11), .int tpd6, .int pl07, .int ln08, .int flt9, .int opn10, .int cmy11, .int wtg12, .int 0, .ref (ad 12), .ref (ad 13), .ref (ad 14), .ref (ad 15), .ref (ad 16), .ref (ad 17), .ref (ad 18), .ref (ad 19), .ref (ad 20), .ref (ad 21), .ref (ad 22), .ref (ad 23), .ref (ad 24), .ref (ad 25), .ref (ad 26), .ref (ad 27), .int mst14, .int sus15, .ref (ad 28), .ref (ad 29), .ref (ad 30), .ref (ad 31), .int cut16]))) := hD
  rw [zw_set (by omega)] at hP hD
  obtain ⟨ct39, ec40⟩ : ∃ z : Nat → va_E, z = va_up ct 0 (.inr (9, [.int me, .ref (ad 1), .ref (ad 2), .ref (ad 3), .ref (ad 4), .int bks2, .int lks3, .int gos4, .int shn5, .ref (ad 5), .ref (ad 6), .ref (ad 7), .ref (ad 8), .ref (ad 9), .ref (ad 10), .ref (ad 11), .int tpd6, .int pl07, .int ln08, .int flt9, .int opn10, .int cmy11, .int wtg12, .int 0, .ref (ad 12), .ref (ad 13), .ref (ad 14), .ref (ad 15), .ref (ad 16), .ref (ad 17), .ref (ad 18), .ref (ad 19), .ref (ad 20), .ref (ad 21), .ref (ad 22), .ref (ad 23), .ref (ad 24), .ref (ad 25), .ref (ad 26), .ref (ad 27), .int mst14, .int sus15, .ref (ad 28), .ref (ad 29), .ref (ad 30), .ref (ad 31), .int cut16])) := ⟨_, rfl⟩
  rw [← ec40] at hP hD
  have hI : IR g ad me ct39 := by rw [ec40]; exact upR hI (by decide) (i9_0 ⟨(bks2 : Int32), (lks3 : Int32), (gos4 : Int32), (shn5 : Int32), (tpd6 : Int32), (pl07 : Int32), (ln08 : Int32), (flt9 : Int32), (opn10 : Int32), (cmy11 : Int32), (wtg12 : Int32), (0 : Int32), (mst14 : Int32), (sus15 : Int32), (cut16 : Int32), (by first | omega | decide), (by first | omega | decide), (by first | omega | decide), (by first | omega | decide), (by first | omega | decide), (by first | omega | decide), (by first | omega | decide), (by first | omega | decide), (by first | omega | decide), (by first | omega | decide), (by first | omega | decide), (by first | omega | decide), (by first | omega | decide), (by first | omega | decide), (by first | omega | decide), (by first | omega | decide), (by first | omega | decide), (by first | omega | decide), (by first | omega | decide), (by first | omega | decide), rfl⟩)
  have hc12 : ct39 12 = ct 12 := by rw [ec40]; exact (va_up_ne _ _ (by omega)).trans hc12
  have hc13 : ct39 13 = ct 13 := by rw [ec40]; exact (va_up_ne _ _ (by omega)).trans hc13
  have hs41 : ct39 11 = .inl (g.2 2, 200, .inl f38) := by rw [ec40, va_up_ne _ _ (by omega)]; exact hs37
  have hs42 : ct39 0 = .inr (9, [.int me, .ref (ad 1), .ref (ad 2), .ref (ad 3), .ref (ad 4), .int bks2, .int lks3, .int gos4, .int shn5, .ref (ad 5), .ref (ad 6), .ref (ad 7), .ref (ad 8), .ref (ad 9), .ref (ad 10), .ref (ad 11), .int tpd6, .int pl07, .int ln08, .int flt9, .int opn10, .int cmy11, .int wtg12, .int 0, .ref (ad 12), .ref (ad 13), .ref (ad 14), .ref (ad 15), .ref (ad 16), .ref (ad 17), .ref (ad 18), .ref (ad 19), .ref (ad 20), .ref (ad 21), .ref (ad 22), .ref (ad 23), .ref (ad 24), .ref (ad 25), .ref (ad 26), .ref (ad 27), .int mst14, .int sus15, .ref (ad 28), .ref (ad 29), .ref (ad 30), .ref (ad 31), .int cut16]) := by rw [ec40]; exact va_up_self _ _ _
  have z17_hs42 : zfi 17 (ct39 0) = (pl07 : Int32).toInt := by rw [hs42]; rfl
  have z18_hs42 : zfi 18 (ct39 0) = (ln08 : Int32).toInt := by rw [hs42]; rfl
  have z21_hs42 : zfi 21 (ct39 0) = (cmy11 : Int32).toInt := by rw [hs42]; rfl
  have z22_hs42 : zfi 22 (ct39 0) = (wtg12 : Int32).toInt := by rw [hs42]; rfl
  have z23_hs42 : zfi 23 (ct39 0) = (0 : Int32).toInt := by rw [hs42]; rfl
  have loop10 : ∀ (n10 : Nat) (ct43 : Nat → va_E) (H : Heap) (locs : List Loc) (ls : Array Slot), ((zfi 18 (ct43 0) - zfi 17 (ct43 0) : Int).toNat < n10) → (zfi 18 (ct43 0) = zfi 18 (ct 0)) → (zfi 21 (ct43 0) = zfi 21 (ct 0)) → (zfi 22 (ct43 0) = zfi 22 (ct 0)) → (zfi 17 (ct 0) ≤ zfi 17 (ct43 0) ∧ zfi 17 (ct43 0) ≤ zfi 18 (ct 0)) → (dgp (zfi 17 (ct43 0)) (zfi 17 (ct 0)) (zfi 23 (ct43 0))) → (dhp (zfi 17 (ct43 0)) (zfi 17 (ct 0)) (zhv (ct43 0) (ct43 11)).toInt) → (ct43 12 = ct 12) → (ct43 13 = ct 13) → (IR g ad me ct43) → zP g (zw 32 ad ct43) H → va_D A (zw 32 ad ct43) → va_S A s.heap H locs → lv_has ls 2 [(1, .int pl07), (0, .ref (ad 0))] → W p l e (headSpec (zW yX9_readsNumber cX9_readsNumber 2 (some .boolean)) ({ frames := 2, cells := 0, slots := 0, locals := 40 })).room s m ([.ref (ad 0)] : List Value).toArray below meth c H locs 0 0 (MQ below (va_Qi (fun (r : Int32) (u : Int32) => (r = 1 ∧ (u = 1)) ∨ (r = 0 ∧ (u = 0))) (fun (u : Int32) t => ∃ ct2 : Nat → va_E, zP g (zw 32 ad ct2) t.heap ∧ va_D A (zw 32 ad ct2) ∧ IR g ad me ct2 ∧ (zfi 18 (ct2 0) = zfi 18 (ct 0)) ∧ (zfi 21 (ct2 0) = zfi 21 (ct 0)) ∧ (zfi 22 (ct2 0) = zfi 22 (ct 0)) ∧ (u = 1 → zfi 17 (ct 0) < zfi 17 (ct2 0)) ∧ (u = 1 → zfi 17 (ct2 0) ≤ zfi 18 (ct 0)) ∧ (u = 1 → 0 ≤ zfi 23 (ct2 0) ∧ zfi 23 (ct2 0) ≤ 99999) ∧ (ct2 12 = ct 12) ∧ (ct2 13 = ct 13)) A) ([.ref (ad 0)] : List Value).toArray s 0 0 A) (F0 m 10 ls []) := by
    intro n10
    induction n10 with
    | zero =>
      intro ct43 H locs ls hn10 j0_10 j1_10 j2_10 j3_10 j4_10 j5_10 hc12 hc13 hI hP hD hS hl
      exact absurd hn10 (Nat.not_lt_zero _)
    | succ n10 ih10 =>
      intro ct43 H locs ls hn10 j0_10 j1_10 j2_10 j3_10 j4_10 j5_10 hc12 hc13 hI hP hD hS hl
      refine lv_aload_n hx hb dX9_readsNumber_10 rfl (lv_at hl 1 rfl) ?_
      obtain ⟨bks45, lks46, gos47, shn48, tpd49, pl050, ln051, flt52, opn53, cmy54, wtg55, nm056, mst57, sus58, cut59, h60, h61, h62, h63, h64, h65, h66, h67, h68, h69, h70, h71, h72, h73, h74, h75, h76, h77, h78, h79, hs44⟩ := a9_0 hI.1
      have z17_hs44 : zfi 17 (ct43 0) = pl050.toInt := by rw [hs44]; rfl
      have z18_hs44 : zfi 18 (ct43 0) = ln051.toInt := by rw [hs44]; rfl
      have z21_hs44 : zfi 21 (ct43 0) = cmy54.toInt := by rw [hs44]; rfl
      have z22_hs44 : zfi 22 (ct43 0) = wtg55.toInt := by rw [hs44]; rfl
      have z23_hs44 : zfi 23 (ct43 0) = nm056.toInt := by rw [hs44]; rfl
      refine zc_i (va_runV (As := []) (rest := []) ⟨hx, hb, hml, hown, hg⟩ (k_X9_isDigit l g ad me ct43  hI) (cwV 0 hg (z_gV mm_1240 mm_1242 mm_69 mm_117 mm_1243) rfl rfl rfl (by decide +kernel) ⟨Nat.le_of_ble_eq_true rfl, Nat.le_of_ble_eq_true rfl⟩) ⟨(zR.pre [.ref (ad 0)] hP hK hN).1, va_recv hK hP (ci := 9) (q0 := 0) rfl (zw_at (by omega) hs44), (zR.pre [.ref (ad 0)] hP hK hN).2⟩ rfl rfl hl.1 rfl (lv_room (Nat.le_of_ble_eq_true rfl)) dX9_readsNumber_11 ⟨Nat.le_of_ble_eq_true rfl, Nat.le_of_ble_eq_true rfl⟩) (fun r80 hr80 => ?_)
      rcases hr80 with hr80 | hr80
      · skip
        obtain ⟨rfl, h81, h82, h83⟩ := hr80
        replace h81 : 48 ≤ (zhv (ct43 0) (ct43 11)).toInt := h81
        replace h82 : (zhv (ct43 0) (ct43 11)).toInt ≤ 57 := h82
        replace h83 : zfi 17 (ct43 0) < zfi 18 (ct43 0) := h83
        refine lv_if_eq (tgt := 69) hx hb dX9_readsNumber_14 (by decide) (fun c84 => ?_) (fun c84 => ?_)
        · skip
          exact absurd c84 (by decide)
        · skip
          refine lv_aload_n hx hb dX9_readsNumber_17 rfl (lv_at hl 1 rfl) ?_
          refine va_get (D := g.1) (ci := 9) (v := .int pl050) (C := RX9) (T := TX9) (N := 47) hx hb hg inG9 hown hK hP 0 (zw_at (by omega) hs44) rfl 17 (by decide) (hg _ mm_975) (fun _ h9 => h9) rfl dX9_readsNumber_18 ?_
          refine lv_iload_n hx hb dX9_readsNumber_21 rfl (lv_at hl 0 rfl) ?_
          refine lv_iconst (v := 5) hx hb dX9_readsNumber_22 (by decide) ?_
          refine lv_iadd hx hb dX9_readsNumber_23 ?_
          refine lv_topi (fun x85 ex85 => ?_)
          have tx85 : x85.toInt = pl07.toInt + 5 := by rw [ex85]; exact z_add rfl (by decide : (5 : Int32).toInt = 5) (by omega) (by omega)
          refine lv_icmp_ne (tgt := 37) hx hb dX9_readsNumber_24 (by decide) (fun c86 => ?_) (fun c86 => ?_)
          · skip
            have c86 : ¬ (pl050.toInt = x85.toInt) := fun q => c86 ((z_eq rfl rfl).mpr q)
            have hdl := dgp_le j4_10 (by omega)
            refine lv_aload_n hx hb dX9_readsNumber_37 rfl (lv_at hl 1 rfl) ?_
            refine lv_bipush (v := 10) hx hb dX9_readsNumber_38 (by decide) ?_
            refine lv_aload_n hx hb dX9_readsNumber_40 rfl (lv_at hl 1 rfl) ?_
            refine va_get (D := g.1) (ci := 9) (v := .int nm056) (C := RX9) (T := TX9) (N := 47) hx hb hg inG9 hown hK hP 0 (zw_at (by omega) hs44) rfl 23 (by decide) (hg _ mm_981) (fun _ h9 => h9) rfl dX9_readsNumber_41 ?_
            refine lv_imul hx hb dX9_readsNumber_44 ?_
            refine lv_topi (fun x87 ex87 => ?_)
            have tx87 : x87.toInt = 10 * nm056.toInt := by rw [ex87]; exact z_mul (by decide : (10 : Int32).toInt = 10) rfl (by omega) (by omega)
            refine lv_aload_n hx hb dX9_readsNumber_45 rfl (lv_at hl 1 rfl) ?_
            refine zc_i (va_runV (As := []) (rest := [.int x87, .ref (ad 0)]) ⟨hx, hb, hml, hown, hg⟩ (k_X9_here l g ad me ct43  hI) (cwV 0 hg (z_gV mm_1215 mm_1217 mm_63 mm_117 mm_1218) rfl rfl rfl (by decide +kernel) ⟨Nat.le_of_ble_eq_true rfl, Nat.le_of_ble_eq_true rfl⟩) ⟨(zR.pre [.ref (ad 0)] hP hK hN).1, va_recv hK hP (ci := 9) (q0 := 0) rfl (zw_at (by omega) hs44), (zR.pre [.ref (ad 0)] hP hK hN).2⟩ rfl rfl hl.1 rfl (lv_room (Nat.le_of_ble_eq_true rfl)) dX9_readsNumber_46 ⟨Nat.le_of_ble_eq_true rfl, Nat.le_of_ble_eq_true rfl⟩) (fun r88 hr88 => ?_)
            obtain ⟨hqr88, h89⟩ := hr88
            subst r88
            replace h89 : (zhv (ct43 0) (ct43 11)).toInt = -1 ∨ (0 ≤ (zhv (ct43 0) (ct43 11)).toInt ∧ zfi 17 (ct43 0) < zfi 18 (ct43 0)) := h89
            refine lv_iadd hx hb dX9_readsNumber_49 ?_
            refine lv_topi (fun x90 ex90 => ?_)
            have tx90 : x90.toInt = x87.toInt + (zhv (ct43 0) (ct43 11)).toInt := by rw [ex90]; exact z_add rfl rfl (by omega) (by omega)
            refine lv_bipush (v := 48) hx hb dX9_readsNumber_50 (by decide) ?_
            refine lv_isub hx hb dX9_readsNumber_52 ?_
            refine lv_topi (fun x91 ex91 => ?_)
            have tx91 : x91.toInt = x90.toInt - 48 := by rw [ex91]; exact z_sub rfl (by decide : (48 : Int32).toInt = 48) (by omega) (by omega)
            refine va_put (D := g.1) (ci := 9) (v := .int x91) (ty := .int) (C := RX9) (T := TX9) (N := 47) hx hb hg inG9 tyX9 tyX9_ok nmX9 hown hK hP hD hS 0 (zw_at (by omega) hs44) rfl 23 (by decide) (hg _ mm_981) (fun _ h9 => h9) rfl (by decide +kernel) rfl rfl (Nat.le_of_ble_eq_true rfl) dX9_readsNumber_53 (fun H locs hP hD hS => ?_)
            have hP : zP g ((zw 32 ad ct43).set 0 (ad 0, .inr (9, [.int me, .ref (ad 1), .ref (ad 2), .ref (ad 3), .ref (ad 4), .int bks45, .int lks46, .int gos47, .int shn48, .ref (ad 5), .ref (ad 6), .ref (ad 7), .ref (ad 8), .ref (ad 9), .ref (ad 10), .ref (ad 11), .int tpd49, .int pl050, .int ln051, .int flt52, .int opn53, .int cmy54, .int wtg55, .int x91, .ref (ad 12), .ref (ad 13), .ref (ad 14), .ref (ad 15), .ref (ad 16), .ref (ad 17), .ref (ad 18), .ref (ad 19), .ref (ad 20), .ref (ad 21), .ref (ad 22), .ref (ad 23), .ref (ad 24), .ref (ad 25), .ref (ad 26), .ref (ad 27), .int mst57, .int sus58, .ref (ad 28), .ref (ad 29), .ref (ad 30), .ref (ad 31), .int cut59]))) H := hP
            have hD : va_D A ((zw 32 ad ct43).set 0 (ad 0, .inr (9, [.int me, .ref (ad 1), .ref (ad 2), .ref (ad 3), .ref (ad 4), .int bks45, .int lks46, .int gos47, .int shn48, .ref (ad 5), .ref (ad 6), .ref (ad 7), .ref (ad 8), .ref (ad 9), .ref (ad 10), .ref (ad 11), .int tpd49, .int pl050, .int ln051, .int flt52, .int opn53, .int cmy54, .int wtg55, .int x91, .ref (ad 12), .ref (ad 13), .ref (ad 14), .ref (ad 15), .ref (ad 16), .ref (ad 17), .ref (ad 18), .ref (ad 19), .ref (ad 20), .ref (ad 21), .ref (ad 22), .ref (ad 23), .ref (ad 24), .ref (ad 25), .ref (ad 26), .ref (ad 27), .int mst57, .int sus58, .ref (ad 28), .ref (ad 29), .ref (ad 30), .ref (ad 31), .int cut59]))) := hD
            rw [zw_set (by omega)] at hP hD
            obtain ⟨ct92, ec93⟩ : ∃ z : Nat → va_E, z = va_up ct43 0 (.inr (9, [.int me, .ref (ad 1), .ref (ad 2), .ref (ad 3), .ref (ad 4), .int bks45, .int lks46, .int gos47, .int shn48, .ref (ad 5), .ref (ad 6), .ref (ad 7), .ref (ad 8), .ref (ad 9), .ref (ad 10), .ref (ad 11), .int tpd49, .int pl050, .int ln051, .int flt52, .int opn53, .int cmy54, .int wtg55, .int x91, .ref (ad 12), .ref (ad 13), .ref (ad 14), .ref (ad 15), .ref (ad 16), .ref (ad 17), .ref (ad 18), .ref (ad 19), .ref (ad 20), .ref (ad 21), .ref (ad 22), .ref (ad 23), .ref (ad 24), .ref (ad 25), .ref (ad 26), .ref (ad 27), .int mst57, .int sus58, .ref (ad 28), .ref (ad 29), .ref (ad 30), .ref (ad 31), .int cut59])) := ⟨_, rfl⟩
            rw [← ec93] at hP hD
            have hI : IR g ad me ct92 := by rw [ec93]; exact upR hI (by decide) (i9_0 ⟨(bks45 : Int32), (lks46 : Int32), (gos47 : Int32), (shn48 : Int32), (tpd49 : Int32), (pl050 : Int32), (ln051 : Int32), (flt52 : Int32), (opn53 : Int32), (cmy54 : Int32), (wtg55 : Int32), (x91 : Int32), (mst57 : Int32), (sus58 : Int32), (cut59 : Int32), (by first | omega | decide), (by first | omega | decide), (by first | omega | decide), (by first | omega | decide), (by first | omega | decide), (by first | omega | decide), (by first | omega | decide), (by first | omega | decide), (by first | omega | decide), (by first | omega | decide), (by first | omega | decide), (by first | omega | decide), (by first | omega | decide), (by first | omega | decide), (by first | omega | decide), (by first | omega | decide), (by first | omega | decide), (by first | omega | decide), (by first | omega | decide), (by first | omega | decide), rfl⟩)
            have hc12 : ct92 12 = ct 12 := by rw [ec93]; exact (va_up_ne _ _ (by omega)).trans hc12
            have hc13 : ct92 13 = ct 13 := by rw [ec93]; exact (va_up_ne _ _ (by omega)).trans hc13
            have hs94 : ct92 0 = .inr (9, [.int me, .ref (ad 1), .ref (ad 2), .ref (ad 3), .ref (ad 4), .int bks45, .int lks46, .int gos47, .int shn48, .ref (ad 5), .ref (ad 6), .ref (ad 7), .ref (ad 8), .ref (ad 9), .ref (ad 10), .ref (ad 11), .int tpd49, .int pl050, .int ln051, .int flt52, .int opn53, .int cmy54, .int wtg55, .int x91, .ref (ad 12), .ref (ad 13), .ref (ad 14), .ref (ad 15), .ref (ad 16), .ref (ad 17), .ref (ad 18), .ref (ad 19), .ref (ad 20), .ref (ad 21), .ref (ad 22), .ref (ad 23), .ref (ad 24), .ref (ad 25), .ref (ad 26), .ref (ad 27), .int mst57, .int sus58, .ref (ad 28), .ref (ad 29), .ref (ad 30), .ref (ad 31), .int cut59]) := by rw [ec93]; exact va_up_self _ _ _
            have z17_hs94 : zfi 17 (ct92 0) = (pl050 : Int32).toInt := by rw [hs94]; rfl
            have z18_hs94 : zfi 18 (ct92 0) = (ln051 : Int32).toInt := by rw [hs94]; rfl
            have z21_hs94 : zfi 21 (ct92 0) = (cmy54 : Int32).toInt := by rw [hs94]; rfl
            have z22_hs94 : zfi 22 (ct92 0) = (wtg55 : Int32).toInt := by rw [hs94]; rfl
            have z23_hs94 : zfi 23 (ct92 0) = (x91 : Int32).toInt := by rw [hs94]; rfl
            refine lv_aload_n hx hb dX9_readsNumber_56 rfl (lv_at hl 1 rfl) ?_
            refine lv_aload_n hx hb dX9_readsNumber_57 rfl (lv_at hl 1 rfl) ?_
            refine va_get (D := g.1) (ci := 9) (v := .int pl050) (C := RX9) (T := TX9) (N := 47) hx hb hg inG9 hown hK hP 0 (zw_at (by omega) hs94) rfl 17 (by decide) (hg _ mm_975) (fun _ h9 => h9) rfl dX9_readsNumber_58 ?_
            refine lv_iconst (v := 1) hx hb dX9_readsNumber_61 (by decide) ?_
            refine lv_iadd hx hb dX9_readsNumber_62 ?_
            refine lv_topi (fun x95 ex95 => ?_)
            have tx95 : x95.toInt = pl050.toInt + 1 := by rw [ex95]; exact z_add rfl (by decide : (1 : Int32).toInt = 1) (by omega) (by omega)
            refine va_put (D := g.1) (ci := 9) (v := .int x95) (ty := .int) (C := RX9) (T := TX9) (N := 47) hx hb hg inG9 tyX9 tyX9_ok nmX9 hown hK hP hD hS 0 (zw_at (by omega) hs94) rfl 17 (by decide) (hg _ mm_975) (fun _ h9 => h9) rfl (by decide +kernel) rfl rfl (Nat.le_of_ble_eq_true rfl) dX9_readsNumber_63 (fun H locs hP hD hS => ?_)
            have hP : zP g ((zw 32 ad ct92).set 0 (ad 0, .inr (9, [.int me, .ref (ad 1), .ref (ad 2), .ref (ad 3), .ref (ad 4), .int bks45, .int lks46, .int gos47, .int shn48, .ref (ad 5), .ref (ad 6), .ref (ad 7), .ref (ad 8), .ref (ad 9), .ref (ad 10), .ref (ad 11), .int tpd49, .int x95, .int ln051, .int flt52, .int opn53, .int cmy54, .int wtg55, .int x91, .ref (ad 12), .ref (ad 13), .ref (ad 14), .ref (ad 15), .ref (ad 16), .ref (ad 17), .ref (ad 18), .ref (ad 19), .ref (ad 20), .ref (ad 21), .ref (ad 22), .ref (ad 23), .ref (ad 24), .ref (ad 25), .ref (ad 26), .ref (ad 27), .int mst57, .int sus58, .ref (ad 28), .ref (ad 29), .ref (ad 30), .ref (ad 31), .int cut59]))) H := hP
            have hD : va_D A ((zw 32 ad ct92).set 0 (ad 0, .inr (9, [.int me, .ref (ad 1), .ref (ad 2), .ref (ad 3), .ref (ad 4), .int bks45, .int lks46, .int gos47, .int shn48, .ref (ad 5), .ref (ad 6), .ref (ad 7), .ref (ad 8), .ref (ad 9), .ref (ad 10), .ref (ad 11), .int tpd49, .int x95, .int ln051, .int flt52, .int opn53, .int cmy54, .int wtg55, .int x91, .ref (ad 12), .ref (ad 13), .ref (ad 14), .ref (ad 15), .ref (ad 16), .ref (ad 17), .ref (ad 18), .ref (ad 19), .ref (ad 20), .ref (ad 21), .ref (ad 22), .ref (ad 23), .ref (ad 24), .ref (ad 25), .ref (ad 26), .ref (ad 27), .int mst57, .int sus58, .ref (ad 28), .ref (ad 29), .ref (ad 30), .ref (ad 31), .int cut59]))) := hD
            rw [zw_set (by omega)] at hP hD
            obtain ⟨ct96, ec97⟩ : ∃ z : Nat → va_E, z = va_up ct92 0 (.inr (9, [.int me, .ref (ad 1), .ref (ad 2), .ref (ad 3), .ref (ad 4), .int bks45, .int lks46, .int gos47, .int shn48, .ref (ad 5), .ref (ad 6), .ref (ad 7), .ref (ad 8), .ref (ad 9), .ref (ad 10), .ref (ad 11), .int tpd49, .int x95, .int ln051, .int flt52, .int opn53, .int cmy54, .int wtg55, .int x91, .ref (ad 12), .ref (ad 13), .ref (ad 14), .ref (ad 15), .ref (ad 16), .ref (ad 17), .ref (ad 18), .ref (ad 19), .ref (ad 20), .ref (ad 21), .ref (ad 22), .ref (ad 23), .ref (ad 24), .ref (ad 25), .ref (ad 26), .ref (ad 27), .int mst57, .int sus58, .ref (ad 28), .ref (ad 29), .ref (ad 30), .ref (ad 31), .int cut59])) := ⟨_, rfl⟩
            rw [← ec97] at hP hD
            have hI : IR g ad me ct96 := by rw [ec97]; exact upR hI (by decide) (i9_0 ⟨(bks45 : Int32), (lks46 : Int32), (gos47 : Int32), (shn48 : Int32), (tpd49 : Int32), (x95 : Int32), (ln051 : Int32), (flt52 : Int32), (opn53 : Int32), (cmy54 : Int32), (wtg55 : Int32), (x91 : Int32), (mst57 : Int32), (sus58 : Int32), (cut59 : Int32), (by first | omega | decide), (by first | omega | decide), (by first | omega | decide), (by first | omega | decide), (by first | omega | decide), (by first | omega | decide), (by first | omega | decide), (by first | omega | decide), (by first | omega | decide), (by first | omega | decide), (by first | omega | decide), (by first | omega | decide), (by first | omega | decide), (by first | omega | decide), (by first | omega | decide), (by first | omega | decide), (by first | omega | decide), (by first | omega | decide), (by first | omega | decide), (by first | omega | decide), rfl⟩)
            have hc12 : ct96 12 = ct 12 := by rw [ec97]; exact (va_up_ne _ _ (by omega)).trans hc12
            have hc13 : ct96 13 = ct 13 := by rw [ec97]; exact (va_up_ne _ _ (by omega)).trans hc13
            have hs98 : ct96 0 = .inr (9, [.int me, .ref (ad 1), .ref (ad 2), .ref (ad 3), .ref (ad 4), .int bks45, .int lks46, .int gos47, .int shn48, .ref (ad 5), .ref (ad 6), .ref (ad 7), .ref (ad 8), .ref (ad 9), .ref (ad 10), .ref (ad 11), .int tpd49, .int x95, .int ln051, .int flt52, .int opn53, .int cmy54, .int wtg55, .int x91, .ref (ad 12), .ref (ad 13), .ref (ad 14), .ref (ad 15), .ref (ad 16), .ref (ad 17), .ref (ad 18), .ref (ad 19), .ref (ad 20), .ref (ad 21), .ref (ad 22), .ref (ad 23), .ref (ad 24), .ref (ad 25), .ref (ad 26), .ref (ad 27), .int mst57, .int sus58, .ref (ad 28), .ref (ad 29), .ref (ad 30), .ref (ad 31), .int cut59]) := by rw [ec97]; exact va_up_self _ _ _
            have z17_hs98 : zfi 17 (ct96 0) = (x95 : Int32).toInt := by rw [hs98]; rfl
            have z18_hs98 : zfi 18 (ct96 0) = (ln051 : Int32).toInt := by rw [hs98]; rfl
            have z21_hs98 : zfi 21 (ct96 0) = (cmy54 : Int32).toInt := by rw [hs98]; rfl
            have z22_hs98 : zfi 22 (ct96 0) = (wtg55 : Int32).toInt := by rw [hs98]; rfl
            have z23_hs98 : zfi 23 (ct96 0) = (x91 : Int32).toInt := by rw [hs98]; rfl
            have hdg1 : dgp (zfi 17 (ct96 0)) (zfi 17 (ct 0)) (zfi 23 (ct96 0)) := by
              have q := dgp_step (c := (zhv (ct43 0) (ct43 11)).toInt) j4_10 (by omega) (by omega) (by omega)
              rw [show zfi 17 (ct96 0) = zfi 17 (ct43 0) + 1 by omega, show zfi 23 (ct96 0) = 10 * zfi 23 (ct43 0) + (zhv (ct43 0) (ct43 11)).toInt - 48 by omega]
              exact q
            have hdh1 : dhp (zfi 17 (ct96 0)) (zfi 17 (ct 0)) (zhv (ct96 0) (ct96 11)).toInt := Or.inl (by omega)
            refine lv_goto (tgt := 10) hx hb dX9_readsNumber_66 (by decide) ?_
            exact ih10  ct96 _ _ ls (by omega) (by first | assumption | omega | decide) (by first | assumption | omega | decide) (by first | assumption | omega | decide) (by first | assumption | omega | decide) (by first | assumption | omega | decide) (by first | assumption | omega | decide) (by first | assumption | omega | decide) (by first | assumption | omega | decide) hI hP hD hS (lv_sub hl [0, 1] rfl)
          · skip
            have c86 : pl050.toInt = x85.toInt := (z_eq rfl rfl).mp c86
            refine lv_aload_n hx hb dX9_readsNumber_27 rfl (lv_at hl 1 rfl) ?_
            refine lv_iconst (v := 2) hx hb dX9_readsNumber_28 (by decide) ?_
            refine lv_aload_n hx hb dX9_readsNumber_29 rfl (lv_at hl 1 rfl) ?_
            refine va_get (D := g.1) (ci := 9) (v := .int pl050) (C := RX9) (T := TX9) (N := 47) hx hb hg inG9 hown hK hP 0 (zw_at (by omega) hs44) rfl 17 (by decide) (hg _ mm_975) (fun _ h9 => h9) rfl dX9_readsNumber_30 ?_
            have hFc := zw_free hD hS hA
            refine va_calli (va_runV (As := [.int 2, .int pl050]) (rest := []) ⟨hx, hb, hml, hown, hg⟩ (k_X9_wrongAt l g _ ad me ct43 (2 : Int32) pl050 hI) (cwV 2 hg (z_gV mm_1223 mm_1225 mm_65 mm_117 mm_1226) rfl rfl rfl (by decide +kernel) ⟨Nat.le_of_ble_eq_true rfl, Nat.le_of_ble_eq_true rfl⟩) ⟨(zA.pre [.ref (ad 0), .int 2, .int pl050] hP hK hD hN).1, va_recv hK hP (ci := 9) (q0 := 0) rfl (zw_at (by omega) hs44), (zA.pre [.ref (ad 0), .int 2, .int pl050] hP hK hD hN).2⟩ rfl rfl hl.1 rfl (lv_room (Nat.le_of_ble_eq_true rfl)) dX9_readsNumber_33 ⟨Nat.le_of_ble_eq_true rfl, Nat.le_of_ble_eq_true rfl⟩) hS (fun q _ h => hFc q h) hFc (fun r99 _ t H1 locs ht hvm hr99 hB hz1 hk1 hS => ?_)
            obtain ⟨ct100, hP1, hD1, hI, hk101, hk102, hk103, hk104, hk105, hk106⟩ := hB
            rw [ht] at hP1
            have hD := hD1.weaken (fun _ _ _ h => hFc _ h)
            generalize H1 = H at hP1 hS ⊢
            have hP := hP1
            refine W.widen (k := 0) (n := 0) (Nat.le_refl _) (Nat.le_refl _) ?_
            have hc12 : ct100 12 = ct 12 := hk105.trans hc12
            have hc13 : ct100 13 = ct 13 := hk106.trans hc13
            obtain rfl := hr99
            have q107 : (0 : Int32).toInt = 0 := by decide
            exact W.zret (v := 0) hx hb hr rfl (fun t ht hW => ⟨⟨0, 0, rfl, by first | exact Or.inl ⟨rfl, rfl⟩ | exact Or.inr ⟨rfl, rfl⟩, ct100, by rw [ht]; exact hP, hD, hI, (by first | assumption | omega), (by first | assumption | omega), (by first | assumption | omega), (fun q => absurd q (by decide)), (fun q => absurd q (by decide)), (fun q => absurd q (by decide)), (by first | assumption | omega), (by first | assumption | omega)⟩, hS.F ht⟩) hS.2.2 dX9_readsNumber_36
      · skip
        obtain ⟨rfl, h108⟩ := hr80
        replace h108 : ¬ (48 ≤ (zhv (ct43 0) (ct43 11)).toInt ∧ (zhv (ct43 0) (ct43 11)).toInt ≤ 57) := h108
        refine lv_if_eq (tgt := 69) hx hb dX9_readsNumber_14 (by decide) (fun c109 => ?_) (fun c109 => ?_)
        · skip
          refine lv_iconst (v := 1) hx hb dX9_readsNumber_69 (by decide) ?_
          have q110 : (1 : Int32).toInt = 1 := by decide
          exact W.zret (v := 1) hx hb hr rfl (fun t ht hW => ⟨⟨1, 1, rfl, by first | exact Or.inl ⟨rfl, rfl⟩ | exact Or.inr ⟨rfl, rfl⟩, ct43, by rw [ht]; exact hP, hD, hI, (by first | assumption | omega), (by first | assumption | omega), (by first | assumption | omega), (fun _ => dhp_use j5_10 (by omega)), (fun _ => by first | assumption | omega), (fun _ => dgp_hi j4_10), (by first | assumption | omega), (by first | assumption | omega)⟩, hS.F ht⟩) hS.2.2 dX9_readsNumber_70
        · skip
          exact absurd c109 (by decide)
  have hz1 : zhv (ct39 0) (ct39 11) = zhv (ct 0) (ct 11) := by rw [zhv_of hs42 rfl rfl hs41, zhv_of hs1 rfl rfl hs37]
  have q0 : ((0 : Int32)).toInt = 0 := by decide
  have hdg0 : dgp (zfi 17 (ct39 0)) (zfi 17 (ct 0)) (zfi 23 (ct39 0)) := dgp_0 (by omega) (by omega)
  have hdh0 : dhp (zfi 17 (ct39 0)) (zfi 17 (ct 0)) (zhv (ct39 0) (ct39 11)).toInt := Or.inr (by rw [hz1]; exact hd)
  exact loop10 ((zfi 18 (ct39 0) - zfi 17 (ct39 0) : Int).toNat + 1)  ct39 _ _ ls (by omega) (by first | assumption | omega | decide) (by first | assumption | omega | decide) (by first | assumption | omega | decide) (by first | assumption | omega | decide) (by first | assumption | omega | decide) (by first | assumption | omega | decide) (by first | assumption | omega | decide) (by first | assumption | omega | decide) hI hP hD hS (lv_sub hl [0, 1] rfl)
