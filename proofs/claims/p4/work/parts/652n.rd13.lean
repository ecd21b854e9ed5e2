set_option maxHeartbeats 4000000 in
set_option maxRecDepth 100000 in
theorem k_X9_endsPiece (l : Launch) (g : zG) (sz : Nat) (ad : Nat → Nat) (me : Int32) (ct : Nat → va_E) (hI : IR g ad me ct) (hps : PS (g.2 0) ct 1 0 R0) : Met l yX9_endsPiece (zW yX9_endsPiece cX9_endsPiece 1 none) ({ frames := 1, cells := 0, slots := 0, locals := 22 }) (va_Pc [.ref (ad 0)] (zA g (zw 32 ad ct) sz)) (va_Qv (fun (_ : Unit) => True) (fun _ t => ∃ ct2 : Nat → va_E, zP g (zw 32 ad ct2) t.heap ∧ va_D (va_A (zw 32 ad ct) sz) (zw 32 ad ct2) ∧ IR g ad me ct2 ∧ (zfi 17 (ct2 0) = zfi 17 (ct 0)) ∧ (zfi 18 (ct2 0) = zfi 18 (ct 0)) ∧ (PS (g.2 0) ct2 1 0 R0)) (va_A (zw 32 ad ct) sz)) 0 0 (va_A (zw 32 ad ct) sz) := by
  refine Met.ofW (cc := cX9_endsPiece) (maxL := 1) (ret := none) (by decide) rfl ?_
  intro p e s m args below meth c s₁ B hml hv
  obtain ⟨rfl, hsz, hP, hK, hD0, hN⟩ := hv
  have hx := B.exec
  have hb := B.bytes
  have hr := B.returns
  have hg := zW.law (atoms_spec (ws := (zW yX9_endsPiece cX9_endsPiece 1 none)) B.pre)
  have hown : s.vm.findClass RX9 = some m.cls := findClass_of_methodNamed B.named
  have hlocks := B.notSynchronized
  have hpe0 := hI.1.1
  subst hsz
  have hD := hD0.self (sz := s.heap.size)
  generalize hAe : va_A (zw 32 ad ct) s.heap.size = A at hD ⊢
  have hA : ∀ q : Nat, s.heap.size ≤ q → A q := fun q h => by rw [← hAe]; exact Or.inr h
  have hS : va_S A s.heap s.heap [] := va_S.rf
  have hl := lv_entry ([.ref (ad 0)]) (n := 1) (Nat.le_of_ble_eq_true rfl)
  rw [lg_entry_eq]
  generalize (lg_sl ([.ref (ad 0)]) ++ List.replicate (1 - (lg_sl ([.ref (ad 0)])).length) Slot.unset).toArray = ls at hl ⊢
  have hl : lv_has ls 1 [(0, .ref (ad 0))] := hl
  obtain ⟨bks2, lks3, gos4, shn5, tpd6, pl07, ln08, flt9, opn10, cmy11, wtg12, nm013, mst14, sus15, cut16, h17, h18, h19, h20, h21, h22, h23, h24, h25, h26, h27, h28, h29, h30, h31, h32, h33, h34, h35, h36, hs1⟩ := a9_0 hI.1
  have z17_hs1 : zfi 17 (ct 0) = pl07.toInt := by rw [hs1]; rfl
  have z18_hs1 : zfi 18 (ct 0) = ln08.toInt := by rw [hs1]; rfl
  have z21_hs1 : zfi 21 (ct 0) = cmy11.toInt := by rw [hs1]; rfl
  have z22_hs1 : zfi 22 (ct 0) = wtg12.toInt := by rw [hs1]; rfl
  have loop0 : ∀ (n0 : Nat) (ct37 : Nat → va_E) (H : Heap) (locs : List Loc) (ls : Array Slot), ((zfi 22 (ct37 0) : Int).toNat < n0) → (zfi 17 (ct37 0) = zfi 17 (ct 0)) → (zfi 18 (ct37 0) = zfi 18 (ct 0)) → (PS (g.2 0) ct37 1 0 R0) → (IR g ad me ct37) → zP g (zw 32 ad ct37) H → va_D A (zw 32 ad ct37) → va_S A s.heap H locs → lv_has ls 1 [(0, .ref (ad 0))] → W p l e (headSpec (zW yX9_endsPiece cX9_endsPiece 1 none) ({ frames := 1, cells := 0, slots := 0, locals := 22 })).room s m ([.ref (ad 0)] : List Value).toArray below meth c H locs 0 0 (MQ below (va_Qv (fun (_ : Unit) => True) (fun _ t => ∃ ct2 : Nat → va_E, zP g (zw 32 ad ct2) t.heap ∧ va_D A (zw 32 ad ct2) ∧ IR g ad me ct2 ∧ (zfi 17 (ct2 0) = zfi 17 (ct 0)) ∧ (zfi 18 (ct2 0) = zfi 18 (ct 0)) ∧ (PS (g.2 0) ct2 1 0 R0)) A) ([.ref (ad 0)] : List Value).toArray s 0 0 A) (F0 m 0 ls []) := by
    intro n0
    induction n0 with
    | zero =>
      intro ct37 H locs ls hn0 j0_0 j1_0 j2_0 hI hP hD hS hl
      exact absurd hn0 (Nat.not_lt_zero _)
    | succ n0 ih0 =>
      intro ct37 H locs ls hn0 j0_0 j1_0 j2_0 hI hP hD hS hl
      have hb0 := PS.bounds j2_0
      obtain ⟨bks39, lks40, gos41, shn42, tpd43, pl044, ln045, flt46, opn47, cmy48, wtg49, nm050, mst51, sus52, cut53, h54, h55, h56, h57, h58, h59, h60, h61, h62, h63, h64, h65, h66, h67, h68, h69, h70, h71, h72, h73, hs38⟩ := a9_0 hI.1
      have z17_hs38 : zfi 17 (ct37 0) = pl044.toInt := by rw [hs38]; rfl
      have z18_hs38 : zfi 18 (ct37 0) = ln045.toInt := by rw [hs38]; rfl
      have z21_hs38 : zfi 21 (ct37 0) = cmy48.toInt := by rw [hs38]; rfl
      have z22_hs38 : zfi 22 (ct37 0) = wtg49.toInt := by rw [hs38]; rfl
      obtain ⟨f75, hs74⟩ := a9_12 hI.1
      obtain ⟨f77, hs76⟩ := a9_13 hI.1
      refine lv_aload_n hx hb dX9_endsPiece_0 rfl (lv_at hl 0 rfl) ?_
      refine zc_i (va_runV (As := []) (rest := []) ⟨hx, hb, hml, hown, hg⟩ (k_X9_top l g ad me ct37  hI) (cwV 0 hg (z_gV mm_1262 mm_1264 mm_73 mm_117 mm_1265) rfl rfl rfl (by decide +kernel) ⟨Nat.le_of_ble_eq_true rfl, Nat.le_of_ble_eq_true rfl⟩) ⟨(zR.pre [.ref (ad 0)] hP hK hN).1, va_recv hK hP (ci := 9) (q0 := 0) rfl (zw_at (by omega) hs38), (zR.pre [.ref (ad 0)] hP hK hN).2⟩ rfl rfl hl.1 rfl (lv_room (Nat.le_of_ble_eq_true rfl)) dX9_endsPiece_1 ⟨Nat.le_of_ble_eq_true rfl, Nat.le_of_ble_eq_true rfl⟩) (fun r78 hr78 => ?_)
      have h79 := hr78
      clear hr78
      replace h79 : (zfi 22 (ct37 0) = 0 ∧ r78.toInt = -1) ∨ (1 ≤ zfi 22 (ct37 0) ∧ zk (ct37 13) (zfi 22 (ct37 0) - 1) r78) := h79
      have hvr78 := PS.topv j2_0 ((h79.resolve_left (by omega)).2)
      refine lv_bipush (v := 10) hx hb dX9_endsPiece_4 (by decide) ?_
      refine lv_icmp_ne (tgt := 39) hx hb dX9_endsPiece_6 (by decide) (fun c80 => ?_) (fun c80 => ?_)
      · skip
        have c80 : ¬ (r78.toInt = 10) := fun q => c80 ((z_eq rfl (by decide : (10 : Int32).toInt = 10)).mpr q)
        exact W.vret hx hb hr (fun t ht hW => ⟨⟨(), rfl, trivial, ct37, by rw [ht]; exact hP, hD, hI, (by first | assumption | omega), (by first | assumption | omega), (by first | assumption | omega)⟩, hS.F ht⟩) hS.2.2 dX9_endsPiece_39
      · skip
        have c80 : r78.toInt = 10 := (z_eq rfl (by decide : (10 : Int32).toInt = 10)).mp c80
        refine lv_aload_n hx hb dX9_endsPiece_9 rfl (lv_at hl 0 rfl) ?_
        refine lv_bipush (v := 10) hx hb dX9_endsPiece_10 (by decide) ?_
        refine lv_iconst (v := 0) hx hb dX9_endsPiece_12 (by decide) ?_
        have hFc := zw_free hD hS hA
        refine va_callv (va_runV (As := [.int 10, .int 0]) (rest := []) ⟨hx, hb, hml, hown, hg⟩ (k_X9_notes l g _ ad me ct37 (10 : Int32) (0 : Int32) (by first | omega | decide) (by first | omega | decide) hI (by first | assumption | omega | decide)) (cwV 2 hg (z_gV mm_1248 mm_1250 mm_71 mm_117 mm_1251) rfl rfl rfl (by decide +kernel) ⟨Nat.le_of_ble_eq_true rfl, Nat.le_of_ble_eq_true rfl⟩) ⟨(zA.pre [.ref (ad 0), .int 10, .int 0] hP hK hD hN).1, va_recv hK hP (ci := 9) (q0 := 0) rfl (zw_at (by omega) hs38), (zA.pre [.ref (ad 0), .int 10, .int 0] hP hK hD hN).2⟩ rfl rfl hl.1 rfl (lv_room (Nat.le_of_ble_eq_true rfl)) dX9_endsPiece_13 ⟨Nat.le_of_ble_eq_true rfl, Nat.le_of_ble_eq_true rfl⟩) hS (fun q _ h => hFc q h) hFc (fun _ t H1 locs ht hvm hr81 hB hz1 hk1 hS => ?_)
        obtain ⟨ct82, hP1, hD1, hI, hk83, hk84, hk85, hk86, hk87, hk88⟩ := hB
        rw [ht] at hP1
        have hD := hD1.weaken (fun _ _ _ h => hFc _ h)
        generalize H1 = H at hP1 hS ⊢
        have hP := hP1
        refine W.widen (k := 0) (n := 0) (Nat.le_refl _) (Nat.le_refl _) ?_
        have hs89 : ct82 13 = .inl (g.2 0, 120, .inl f77) := hk88.trans hs76
        obtain ⟨bks91, lks92, gos93, shn94, tpd95, pl096, ln097, flt98, opn99, cmy100, wtg101, nm0102, mst103, sus104, cut105, h106, h107, h108, h109, h110, h111, h112, h113, h114, h115, h116, h117, h118, h119, h120, h121, h122, h123, h124, h125, hs90⟩ := a9_0 hI.1
        have z17_hs90 : zfi 17 (ct82 0) = pl096.toInt := by rw [hs90]; rfl
        have z18_hs90 : zfi 18 (ct82 0) = ln097.toInt := by rw [hs90]; rfl
        have z21_hs90 : zfi 21 (ct82 0) = cmy100.toInt := by rw [hs90]; rfl
        have z22_hs90 : zfi 22 (ct82 0) = wtg101.toInt := by rw [hs90]; rfl
        obtain ⟨f127, hs126⟩ := a9_12 hI.1
        refine lv_aload_n hx hb dX9_endsPiece_16 rfl (lv_at hl 0 rfl) ?_
        refine lv_aload_n hx hb dX9_endsPiece_17 rfl (lv_at hl 0 rfl) ?_
        refine va_get (D := g.1) (ci := 9) (v := .int wtg101) (C := RX9) (T := TX9) (N := 47) hx hb hg inG9 hown hK hP 0 (zw_at (by omega) hs90) rfl 22 (by decide) (hg _ mm_980) (fun _ h9 => h9) rfl dX9_endsPiece_18 ?_
        refine lv_iconst (v := 1) hx hb dX9_endsPiece_21 (by decide) ?_
        refine lv_isub hx hb dX9_endsPiece_22 ?_
        refine lv_topi (fun x128 ex128 => ?_)
        have tx128 : x128.toInt = wtg101.toInt - 1 := by rw [ex128]; exact z_sub rfl (by decide : (1 : Int32).toInt = 1) (by omega) (by omega)
        refine va_put (D := g.1) (ci := 9) (v := .int x128) (ty := .int) (C := RX9) (T := TX9) (N := 47) hx hb hg inG9 tyX9 tyX9_ok nmX9 hown hK hP hD hS 0 (zw_at (by omega) hs90) rfl 22 (by decide) (hg _ mm_980) (fun _ h9 => h9) rfl (by decide +kernel) rfl rfl (Nat.le_of_ble_eq_true rfl) dX9_endsPiece_23 (fun H locs hP hD hS => ?_)
        have hP : zP g ((zw 32 ad ct82).set 0 (ad 0, .inr (9, [.int me, .ref (ad 1), .ref (ad 2), .ref (ad 3), .ref (ad 4), .int bks91, .int lks92, .int gos93, .int shn94, .ref (ad 5), .ref (ad 6), .ref (ad 7), .ref (ad 8), .ref (ad 9), .ref (ad 10), .ref (ad 11), .int tpd95, .int pl096, .int ln097, .int flt98, .int opn99, .int cmy100, .int x128, .int nm0102, .ref (ad 12), .ref (ad 13), .ref (ad 14), .ref (ad 15), .ref (ad 16), .ref (ad 17), .ref (ad 18), .ref (ad 19), .ref (ad 20), .ref (ad 21), .ref (ad 22), .ref (ad 23), .ref (ad 24), .ref (ad 25), .ref (ad 26), .ref (ad 27), .int mst103, .int sus104, .ref (ad 28), .ref (ad 29), .ref (ad 30), .ref (ad 31), .int cut105]))) H := hP
        have hD : va_D A ((zw 32 ad ct82).set 0 (ad 0, .inr (9, [.int me, .ref (ad 1), .ref (ad 2), .ref (ad 3), .ref (ad 4), .int bks91, .int lks92, .int gos93, .int shn94, .ref (ad 5), .ref (ad 6), .ref (ad 7), .ref (ad 8), .ref (ad 9), .ref (ad 10), .ref (ad 11), .int tpd95, .int pl096, .int ln097, .int flt98, .int opn99, .int cmy100, .int x128, .int nm0102, .ref (ad 12), .ref (ad 13), .ref (ad 14), .ref (ad 15), .ref (ad 16), .ref (ad 17), .ref (ad 18), .ref (ad 19), .ref (ad 20), .ref (ad 21), .ref (ad 22), .ref (ad 23), .ref (ad 24), .ref (ad 25), .ref (ad 26), .ref (ad 27), .int mst103, .int sus104, .ref (ad 28), .ref (ad 29), .ref (ad 30), .ref (ad 31), .int cut105]))) := hD
        rw [zw_set (by omega)] at hP hD
        obtain ⟨ct129, ec130⟩ : ∃ z : Nat → va_E, z = va_up ct82 0 (.inr (9, [.int me, .ref (ad 1), .ref (ad 2), .ref (ad 3), .ref (ad 4), .int bks91, .int lks92, .int gos93, .int shn94, .ref (ad 5), .ref (ad 6), .ref (ad 7), .ref (ad 8), .ref (ad 9), .ref (ad 10), .ref (ad 11), .int tpd95, .int pl096, .int ln097, .int flt98, .int opn99, .int cmy100, .int x128, .int nm0102, .ref (ad 12), .ref (ad 13), .ref (ad 14), .ref (ad 15), .ref (ad 16), .ref (ad 17), .ref (ad 18), .ref (ad 19), .ref (ad 20), .ref (ad 21), .ref (ad 22), .ref (ad 23), .ref (ad 24), .ref (ad 25), .ref (ad 26), .ref (ad 27), .int mst103, .int sus104, .ref (ad 28), .ref (ad 29), .ref (ad 30), .ref (ad 31), .int cut105])) := ⟨_, rfl⟩
        rw [← ec130] at hP hD
        have hI : IR g ad me ct129 := by rw [ec130]; exact upR hI (by decide) (i9_0 ⟨(bks91 : Int32), (lks92 : Int32), (gos93 : Int32), (shn94 : Int32), (tpd95 : Int32), (pl096 : Int32), (ln097 : Int32), (flt98 : Int32), (opn99 : Int32), (cmy100 : Int32), (x128 : Int32), (nm0102 : Int32), (mst103 : Int32), (sus104 : Int32), (cut105 : Int32), (by first | omega | decide), (by first | omega | decide), (by first | omega | decide), (by first | omega | decide), (by first | omega | decide), (by first | omega | decide), (by first | omega | decide), (by first | omega | decide), (by first | omega | decide), (by first | omega | decide), (by first | omega | decide), (by first | omega | decide), (by first | omega | decide), (by first | omega | decide), (by first | omega | decide), (by first | omega | decide), (by first | omega | decide), (by first | omega | decide), (by first | omega | decide), (by first | omega | decide), rfl⟩)
        have hs131 : ct129 13 = .inl (g.2 0, 120, .inl f77) := by rw [ec130, va_up_ne _ _ (by omega)]; exact hs89
        have hs132 : ct129 12 = .inl (g.2 0, 120, .inl f127) := by rw [ec130, va_up_ne _ _ (by omega)]; exact hs126
        have hs133 : ct129 0 = .inr (9, [.int me, .ref (ad 1), .ref (ad 2), .ref (ad 3), .ref (ad 4), .int bks91, .int lks92, .int gos93, .int shn94, .ref (ad 5), .ref (ad 6), .ref (ad 7), .ref (ad 8), .ref (ad 9), .ref (ad 10), .ref (ad 11), .int tpd95, .int pl096, .int ln097, .int flt98, .int opn99, .int cmy100, .int x128, .int nm0102, .ref (ad 12), .ref (ad 13), .ref (ad 14), .ref (ad 15), .ref (ad 16), .ref (ad 17), .ref (ad 18), .ref (ad 19), .ref (ad 20), .ref (ad 21), .ref (ad 22), .ref (ad 23), .ref (ad 24), .ref (ad 25), .ref (ad 26), .ref (ad 27), .int mst103, .int sus104, .ref (ad 28), .ref (ad 29), .ref (ad 30), .ref (ad 31), .int cut105]) := by rw [ec130]; exact va_up_self _ _ _
        have z17_hs133 : zfi 17 (ct129 0) = (pl096 : Int32).toInt := by rw [hs133]; rfl
        have z18_hs133 : zfi 18 (ct129 0) = (ln097 : Int32).toInt := by rw [hs133]; rfl
        have z21_hs133 : zfi 21 (ct129 0) = (cmy100 : Int32).toInt := by rw [hs133]; rfl
        have z22_hs133 : zfi 22 (ct129 0) = (x128 : Int32).toInt := by rw [hs133]; rfl
        refine lv_aload_n hx hb dX9_endsPiece_26 rfl (lv_at hl 0 rfl) ?_
        refine lv_aload_n hx hb dX9_endsPiece_27 rfl (lv_at hl 0 rfl) ?_
        refine va_get (D := g.1) (ci := 9) (v := .int opn99) (C := RX9) (T := TX9) (N := 47) hx hb hg inG9 hown hK hP 0 (zw_at (by omega) hs133) rfl 20 (by decide) (hg _ mm_978) (fun _ h9 => h9) rfl dX9_endsPiece_28 ?_
        refine lv_iconst (v := 1) hx hb dX9_endsPiece_31 (by decide) ?_
        refine lv_isub hx hb dX9_endsPiece_32 ?_
        refine lv_topi (fun x134 ex134 => ?_)
        refine va_put (D := g.1) (ci := 9) (v := .int x134) (ty := .int) (C := RX9) (T := TX9) (N := 47) hx hb hg inG9 tyX9 tyX9_ok nmX9 hown hK hP hD hS 0 (zw_at (by omega) hs133) rfl 20 (by decide) (hg _ mm_978) (fun _ h9 => h9) rfl (by decide +kernel) rfl rfl (Nat.le_of_ble_eq_true rfl) dX9_endsPiece_33 (fun H locs hP hD hS => ?_)
        have hP : zP g ((zw 32 ad ct129).set 0 (ad 0, .inr (9, [.int me, .ref (ad 1), .ref (ad 2), .ref (ad 3), .ref (ad 4), .int bks91, .int lks92, .int gos93, .int shn94, .ref (ad 5), .ref (ad 6), .ref (ad 7), .ref (ad 8), .ref (ad 9), .ref (ad 10), .ref (ad 11), .int tpd95, .int pl096, .int ln097, .int flt98, .int x134, .int cmy100, .int x128, .int nm0102, .ref (ad 12), .ref (ad 13), .ref (ad 14), .ref (ad 15), .ref (ad 16), .ref (ad 17), .ref (ad 18), .ref (ad 19), .ref (ad 20), .ref (ad 21), .ref (ad 22), .ref (ad 23), .ref (ad 24), .ref (ad 25), .ref (ad 26), .ref (ad 27), .int mst103, .int sus104, .ref (ad 28), .ref (ad 29), .ref (ad 30), .ref (ad 31), .int cut105]))) H := hP
        have hD : va_D A ((zw 32 ad ct129).set 0 (ad 0, .inr (9, [.int me, .ref (ad 1), .ref (ad 2), .ref (ad 3), .ref (ad 4), .int bks91, .int lks92, .int gos93, .int shn94, .ref (ad 5), .ref (ad 6), .ref (ad 7), .ref (ad 8), .ref (ad 9), .ref (ad 10), .ref (ad 11), .int tpd95, .int pl096, .int ln097, .int flt98, .int x134, .int cmy100, .int x128, .int nm0102, .ref (ad 12), .ref (ad 13), .ref (ad 14), .ref (ad 15), .ref (ad 16), .ref (ad 17), .ref (ad 18), .ref (ad 19), .ref (ad 20), .ref (ad 21), .ref (ad 22), .ref (ad 23), .ref (ad 24), .ref (ad 25), .ref (ad 26), .ref (ad 27), .int mst103, .int sus104, .ref (ad 28), .ref (ad 29), .ref (ad 30), .ref (ad 31), .int cut105]))) := hD
        rw [zw_set (by omega)] at hP hD
        obtain ⟨ct135, ec136⟩ : ∃ z : Nat → va_E, z = va_up ct129 0 (.inr (9, [.int me, .ref (ad 1), .ref (ad 2), .ref (ad 3), .ref (ad 4), .int bks91, .int lks92, .int gos93, .int shn94, .ref (ad 5), .ref (ad 6), .ref (ad 7), .ref (ad 8), .ref (ad 9), .ref (ad 10), .ref (ad 11), .int tpd95, .int pl096, .int ln097, .int flt98, .int x134, .int cmy100, .int x128, .int nm0102, .ref (ad 12), .ref (ad 13), .ref (ad 14), .ref (ad 15), .ref (ad 16), .ref (ad 17), .ref (ad 18), .ref (ad 19), .ref (ad 20), .ref (ad 21), .ref (ad 22), .ref (ad 23), .ref (ad 24), .ref (ad 25), .ref (ad 26), .ref (ad 27), .int mst103, .int sus104, .ref (ad 28), .ref (ad 29), .ref (ad 30), .ref (ad 31), .int cut105])) := ⟨_, rfl⟩
        rw [← ec136] at hP hD
        have hI : IR g ad me ct135 := by rw [ec136]; exact upR hI (by decide) (i9_0 ⟨(bks91 : Int32), (lks92 : Int32), (gos93 : Int32), (shn94 : Int32), (tpd95 : Int32), (pl096 : Int32), (ln097 : Int32), (flt98 : Int32), (x134 : Int32), (cmy100 : Int32), (x128 : Int32), (nm0102 : Int32), (mst103 : Int32), (sus104 : Int32), (cut105 : Int32), (by first | omega | decide), (by first | omega | decide), (by first | omega | decide), (by first | omega | decide), (by first | omega | decide), (by first | omega | decide), (by first | omega | decide), (by first | omega | decide), (by first | omega | decide), (by first | omega | decide), (by first | omega | decide), (by first | omega | decide), (by first | omega | decide), (by first | omega | decide), (by first | omega | decide), (by first | omega | decide), (by first | omega | decide), (by first | omega | decide), (by first | omega | decide), (by first | omega | decide), rfl⟩)
        have hs137 : ct135 13 = .inl (g.2 0, 120, .inl f77) := by rw [ec136, va_up_ne _ _ (by omega)]; exact hs131
        have hs138 : ct135 12 = .inl (g.2 0, 120, .inl f127) := by rw [ec136, va_up_ne _ _ (by omega)]; exact hs132
        have hs139 : ct135 0 = .inr (9, [.int me, .ref (ad 1), .ref (ad 2), .ref (ad 3), .ref (ad 4), .int bks91, .int lks92, .int gos93, .int shn94, .ref (ad 5), .ref (ad 6), .ref (ad 7), .ref (ad 8), .ref (ad 9), .ref (ad 10), .ref (ad 11), .int tpd95, .int pl096, .int ln097, .int flt98, .int x134, .int cmy100, .int x128, .int nm0102, .ref (ad 12), .ref (ad 13), .ref (ad 14), .ref (ad 15), .ref (ad 16), .ref (ad 17), .ref (ad 18), .ref (ad 19), .ref (ad 20), .ref (ad 21), .ref (ad 22), .ref (ad 23), .ref (ad 24), .ref (ad 25), .ref (ad 26), .ref (ad 27), .int mst103, .int sus104, .ref (ad 28), .ref (ad 29), .ref (ad 30), .ref (ad 31), .int cut105]) := by rw [ec136]; exact va_up_self _ _ _
        have z17_hs139 : zfi 17 (ct135 0) = (pl096 : Int32).toInt := by rw [hs139]; rfl
        have z18_hs139 : zfi 18 (ct135 0) = (ln097 : Int32).toInt := by rw [hs139]; rfl
        have z21_hs139 : zfi 21 (ct135 0) = (cmy100 : Int32).toInt := by rw [hs139]; rfl
        have z22_hs139 : zfi 22 (ct135 0) = (x128 : Int32).toInt := by rw [hs139]; rfl
        have hps2 := PS.not j2_0 (x := 0) (r := r78) (by omega) (by omega) (by omega) (by omega) (wr_c hk87 rfl (hs138.trans hs126.symm) rfl (by have q0 : (0 : Int32).toInt = 0 := rfl; have q1 : (10 : Int32).toInt = 10 := rfl; omega)) (hs137.trans hs76.symm) ((h79.resolve_left (by omega)).2) (by omega)
        refine lv_goto (tgt := 0) hx hb dX9_endsPiece_36 (by decide) ?_
        exact ih0  ct135 _ _ ls (by omega) (by first | assumption | omega | decide) (by first | assumption | omega | decide) (by first | assumption | omega | decide) hI hP hD hS (lv_sub hl [0] rfl)
  exact loop0 ((zfi 22 (ct 0) : Int).toNat + 1)  ct _ _ ls (by omega) (by first | assumption | omega | decide) (by first | assumption | omega | decide) (by first | assumption | omega | decide) hI hP hD hS (lv_sub hl [0] rfl)
