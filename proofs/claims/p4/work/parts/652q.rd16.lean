set_option maxHeartbeats 4000000 in
set_option maxRecDepth 100000 in
theorem k_X9_readsCompared (l : Launch) (g : zG) (sz : Nat) (ad : Nat → Nat) (me : Int32) (ct : Nat → va_E) (hI : IR g ad me ct) (hps : PS (g.2 0) ct 0 0 R0) : Met l yX9_readsCompared (zW yX9_readsCompared cX9_readsCompared 2 (some .boolean)) ({ frames := 5, cells := 0, slots := 0, locals := 104 }) (va_Pc [.ref (ad 0)] (zA g (zw 32 ad ct) sz)) (va_Qi (fun (r : Int32) (u : Int32) => (r = 1 ∧ (u = 1)) ∨ (r = 0 ∧ (u = 0))) (fun (u : Int32) t => ∃ ct2 : Nat → va_E, zP g (zw 32 ad ct2) t.heap ∧ va_D (va_A (zw 32 ad ct) sz) (zw 32 ad ct2) ∧ IR g ad me ct2 ∧ (zfi 18 (ct2 0) = zfi 18 (ct 0)) ∧ (u = 1 → zfi 17 (ct 0) < zfi 17 (ct2 0)) ∧ (u = 1 → PS (g.2 0) ct2 1 0 R0)) (va_A (zw 32 ad ct) sz)) 0 0 (va_A (zw 32 ad ct) sz) := by
  refine Met.ofW (cc := cX9_readsCompared) (maxL := 2) (ret := (some .boolean)) (by decide) rfl ?_
  intro p e s m args below meth c s₁ B hml hv
  obtain ⟨rfl, hsz, hP, hK, hD0, hN⟩ := hv
  have hx := B.exec
  have hb := B.bytes
  have hr := B.returns
  have hg := zW.law (atoms_spec (ws := (zW yX9_readsCompared cX9_readsCompared 2 (some .boolean))) B.pre)
  have hown : s.vm.findClass RX9 = some m.cls := findClass_of_methodNamed B.named
  have hlocks := B.notSynchronized
  have hpe0 := hI.1.1
  subst hsz
  have hD := hD0.self (sz := s.heap.size)
  generalize hAe : va_A (zw 32 ad ct) s.heap.size = A at hD ⊢
  have hA : ∀ q : Nat, s.heap.size ≤ q → A q := fun q h => by rw [← hAe]; exact Or.inr h
  have hS : va_S A s.heap s.heap [] := va_S.rf
  have hl := lv_entry ([.ref (ad 0)]) (n := 2) (Nat.le_of_ble_eq_true rfl)
  rw [lg_entry_eq]
  generalize (lg_sl ([.ref (ad 0)]) ++ List.replicate (2 - (lg_sl ([.ref (ad 0)])).length) Slot.unset).toArray = ls at hl ⊢
  have hl : lv_has ls 2 [(0, .ref (ad 0))] := hl
  refine lv_aload_n hx hb dX9_readsCompared_0 rfl (lv_at hl 0 rfl) ?_
  obtain ⟨bks2, lks3, gos4, shn5, tpd6, pl07, ln08, flt9, opn10, cmy11, wtg12, nm013, mst14, sus15, cut16, h17, h18, h19, h20, h21, h22, h23, h24, h25, h26, h27, h28, h29, h30, h31, h32, h33, h34, h35, h36, hs1⟩ := a9_0 hI.1
  have z17_hs1 : zfi 17 (ct 0) = pl07.toInt := by rw [hs1]; rfl
  have z18_hs1 : zfi 18 (ct 0) = ln08.toInt := by rw [hs1]; rfl
  have z21_hs1 : zfi 21 (ct 0) = cmy11.toInt := by rw [hs1]; rfl
  have z22_hs1 : zfi 22 (ct 0) = wtg12.toInt := by rw [hs1]; rfl
  have hFc := zw_free hD hS hA
  refine va_calli (va_runV (As := []) (rest := []) ⟨hx, hb, hml, hown, hg⟩ (k_X9_readsSum l g _ ad me ct 0 0 hI (hps)) (cwV 0 hg (z_gV mm_1232 mm_1234 mm_67 mm_117 mm_1235) rfl rfl rfl (by decide +kernel) ⟨Nat.le_of_ble_eq_true rfl, Nat.le_of_ble_eq_true rfl⟩) ⟨(zA.pre [.ref (ad 0)] hP hK hD hN).1, va_recv hK hP (ci := 9) (q0 := 0) rfl (zw_at (by omega) hs1), (zA.pre [.ref (ad 0)] hP hK hD hN).2⟩ rfl rfl hl.1 rfl (lv_room (Nat.le_of_ble_eq_true rfl)) dX9_readsCompared_1 ⟨Nat.le_of_ble_eq_true rfl, Nat.le_of_ble_eq_true rfl⟩) hS (fun q _ h => hFc q h) hFc (fun r37 u42 t H1 locs ht hvm hr37 hB hz1 hk1 hS => ?_)
  obtain ⟨ct38, hP1, hD1, hI, hk39, hk40, hk41⟩ := hB
  rw [ht] at hP1
  have hD := hD1.weaken (fun _ _ _ h => hFc _ h)
  generalize H1 = H at hP1 hS ⊢
  have hP := hP1
  refine W.widen (k := 0) (n := 0) (Nat.le_refl _) (Nat.le_refl _) ?_
  rcases hr37 with hr37 | hr37
  · skip
    obtain ⟨rfl, h43⟩ := hr37
    replace h43 : u42 = 1 := h43
    have hk40 := hk40 h43
    have hk41 := hk41 h43
    refine lv_if_ne (tgt := 9) hx hb dX9_readsCompared_4 (by decide) (fun c44 => ?_) (fun c44 => ?_)
    · skip
      refine lv_aload_n hx hb dX9_readsCompared_9 rfl (lv_at hl 0 rfl) ?_
      obtain ⟨bks46, lks47, gos48, shn49, tpd50, pl051, ln052, flt53, opn54, cmy55, wtg56, nm057, mst58, sus59, cut60, h61, h62, h63, h64, h65, h66, h67, h68, h69, h70, h71, h72, h73, h74, h75, h76, h77, h78, h79, h80, hs45⟩ := a9_0 hI.1
      have z17_hs45 : zfi 17 (ct38 0) = pl051.toInt := by rw [hs45]; rfl
      have z18_hs45 : zfi 18 (ct38 0) = ln052.toInt := by rw [hs45]; rfl
      have z21_hs45 : zfi 21 (ct38 0) = cmy55.toInt := by rw [hs45]; rfl
      have z22_hs45 : zfi 22 (ct38 0) = wtg56.toInt := by rw [hs45]; rfl
      refine zc_i (va_runV (As := []) (rest := []) ⟨hx, hb, hml, hown, hg⟩ (k_X9_here l g ad me ct38  hI) (cwV 0 hg (z_gV mm_1215 mm_1217 mm_63 mm_117 mm_1218) rfl rfl rfl (by decide +kernel) ⟨Nat.le_of_ble_eq_true rfl, Nat.le_of_ble_eq_true rfl⟩) ⟨(zR.pre [.ref (ad 0)] hP hK hN).1, va_recv hK hP (ci := 9) (q0 := 0) rfl (zw_at (by omega) hs45), (zR.pre [.ref (ad 0)] hP hK hN).2⟩ rfl rfl hl.1 rfl (lv_room (Nat.le_of_ble_eq_true rfl)) dX9_readsCompared_10 ⟨Nat.le_of_ble_eq_true rfl, Nat.le_of_ble_eq_true rfl⟩) (fun r81 hr81 => ?_)
      obtain ⟨hqr81, h82⟩ := hr81
      subst r81
      replace h82 : (zhv (ct38 0) (ct38 11)).toInt = -1 ∨ (0 ≤ (zhv (ct38 0) (ct38 11)).toInt ∧ zfi 17 (ct38 0) < zfi 18 (ct38 0)) := h82
      refine lv_bipush (v := 60) hx hb dX9_readsCompared_13 (by decide) ?_
      refine lv_icmp_ne (tgt := 23) hx hb dX9_readsCompared_15 (by decide) (fun c83 => ?_) (fun c83 => ?_)
      · skip
        have c83 : ¬ ((zhv (ct38 0) (ct38 11)).toInt = 60) := fun q => c83 ((z_eq rfl (by decide : (60 : Int32).toInt = 60)).mpr q)
        refine lv_aload_n hx hb dX9_readsCompared_23 rfl (lv_at hl 0 rfl) ?_
        refine zc_i (va_runV (As := []) (rest := []) ⟨hx, hb, hml, hown, hg⟩ (k_X9_here l g ad me ct38  hI) (cwV 0 hg (z_gV mm_1215 mm_1217 mm_63 mm_117 mm_1218) rfl rfl rfl (by decide +kernel) ⟨Nat.le_of_ble_eq_true rfl, Nat.le_of_ble_eq_true rfl⟩) ⟨(zR.pre [.ref (ad 0)] hP hK hN).1, va_recv hK hP (ci := 9) (q0 := 0) rfl (zw_at (by omega) hs45), (zR.pre [.ref (ad 0)] hP hK hN).2⟩ rfl rfl hl.1 rfl (lv_room (Nat.le_of_ble_eq_true rfl)) dX9_readsCompared_24 ⟨Nat.le_of_ble_eq_true rfl, Nat.le_of_ble_eq_true rfl⟩) (fun r84 hr84 => ?_)
        obtain ⟨hqr84, h85⟩ := hr84
        subst r84
        replace h85 : (zhv (ct38 0) (ct38 11)).toInt = -1 ∨ (0 ≤ (zhv (ct38 0) (ct38 11)).toInt ∧ zfi 17 (ct38 0) < zfi 18 (ct38 0)) := h85
        refine lv_bipush (v := 62) hx hb dX9_readsCompared_27 (by decide) ?_
        refine lv_icmp_ne (tgt := 37) hx hb dX9_readsCompared_29 (by decide) (fun c86 => ?_) (fun c86 => ?_)
        · skip
          have c86 : ¬ ((zhv (ct38 0) (ct38 11)).toInt = 62) := fun q => c86 ((z_eq rfl (by decide : (62 : Int32).toInt = 62)).mpr q)
          refine lv_aload_n hx hb dX9_readsCompared_37 rfl (lv_at hl 0 rfl) ?_
          refine zc_i (va_runV (As := []) (rest := []) ⟨hx, hb, hml, hown, hg⟩ (k_X9_here l g ad me ct38  hI) (cwV 0 hg (z_gV mm_1215 mm_1217 mm_63 mm_117 mm_1218) rfl rfl rfl (by decide +kernel) ⟨Nat.le_of_ble_eq_true rfl, Nat.le_of_ble_eq_true rfl⟩) ⟨(zR.pre [.ref (ad 0)] hP hK hN).1, va_recv hK hP (ci := 9) (q0 := 0) rfl (zw_at (by omega) hs45), (zR.pre [.ref (ad 0)] hP hK hN).2⟩ rfl rfl hl.1 rfl (lv_room (Nat.le_of_ble_eq_true rfl)) dX9_readsCompared_38 ⟨Nat.le_of_ble_eq_true rfl, Nat.le_of_ble_eq_true rfl⟩) (fun r87 hr87 => ?_)
          obtain ⟨hqr87, h88⟩ := hr87
          subst r87
          replace h88 : (zhv (ct38 0) (ct38 11)).toInt = -1 ∨ (0 ≤ (zhv (ct38 0) (ct38 11)).toInt ∧ zfi 17 (ct38 0) < zfi 18 (ct38 0)) := h88
          refine lv_bipush (v := 61) hx hb dX9_readsCompared_41 (by decide) ?_
          refine lv_icmp_ne (tgt := 51) hx hb dX9_readsCompared_43 (by decide) (fun c89 => ?_) (fun c89 => ?_)
          · skip
            have c89 : ¬ ((zhv (ct38 0) (ct38 11)).toInt = 61) := fun q => c89 ((z_eq rfl (by decide : (61 : Int32).toInt = 61)).mpr q)
            refine lv_iconst (v := (-1)) hx hb dX9_readsCompared_51 (by decide) ?_
            refine lv_istore_n (lv' := [(1, .int (-1)), (0, .ref (ad 0))]) hx hb dX9_readsCompared_52 rfl hl (by decide) rfl (fun ls hl => ?_)
            refine lv_iload_n hx hb dX9_readsCompared_53 rfl (lv_at hl 0 rfl) ?_
            refine lv_iconst (v := (-1)) hx hb dX9_readsCompared_54 (by decide) ?_
            refine lv_icmp_ne (tgt := 68) hx hb dX9_readsCompared_55 (by decide) (fun c90 => ?_) (fun c90 => ?_)
            · skip
              exact absurd c90 (by decide)
            · skip
              refine lv_aload_n hx hb dX9_readsCompared_58 rfl (lv_at hl 1 rfl) ?_
              refine lv_iconst (v := 1) hx hb dX9_readsCompared_59 (by decide) ?_
              refine lv_aload_n hx hb dX9_readsCompared_60 rfl (lv_at hl 1 rfl) ?_
              refine va_get (D := g.1) (ci := 9) (v := .int pl051) (C := RX9) (T := TX9) (N := 47) hx hb hg inG9 hown hK hP 0 (zw_at (by omega) hs45) rfl 17 (by decide) (hg _ mm_975) (fun _ h9 => h9) rfl dX9_readsCompared_61 ?_
              have hFc := zw_free hD hS hA
              refine va_calli (va_runV (As := [.int 1, .int pl051]) (rest := []) ⟨hx, hb, hml, hown, hg⟩ (k_X9_wrongAt l g _ ad me ct38 (1 : Int32) pl051 hI) (cwV 2 hg (z_gV mm_1223 mm_1225 mm_65 mm_117 mm_1226) rfl rfl rfl (by decide +kernel) ⟨Nat.le_of_ble_eq_true rfl, Nat.le_of_ble_eq_true rfl⟩) ⟨(zA.pre [.ref (ad 0), .int 1, .int pl051] hP hK hD hN).1, va_recv hK hP (ci := 9) (q0 := 0) rfl (zw_at (by omega) hs45), (zA.pre [.ref (ad 0), .int 1, .int pl051] hP hK hD hN).2⟩ rfl rfl hl.1 rfl (lv_room (Nat.le_of_ble_eq_true rfl)) dX9_readsCompared_64 ⟨Nat.le_of_ble_eq_true rfl, Nat.le_of_ble_eq_true rfl⟩) hS (fun q _ h => hFc q h) hFc (fun r91 _ t H1 locs ht hvm hr91 hB hz1 hk1 hS => ?_)
              obtain ⟨ct92, hP1, hD1, hI, hk93, hk94, hk95, hk96, hk97, hk98⟩ := hB
              rw [ht] at hP1
              have hD := hD1.weaken (fun _ _ _ h => hFc _ h)
              generalize H1 = H at hP1 hS ⊢
              have hP := hP1
              refine W.widen (k := 0) (n := 0) (Nat.le_refl _) (Nat.le_refl _) ?_
              obtain rfl := hr91
              have q99 : (0 : Int32).toInt = 0 := by decide
              exact W.zret (v := 0) hx hb hr rfl (fun t ht hW => ⟨⟨0, 0, rfl, by first | exact Or.inl ⟨rfl, rfl⟩ | exact Or.inr ⟨rfl, rfl⟩, ct92, by rw [ht]; exact hP, hD, hI, (by first | assumption | omega), (fun q => absurd q (by decide)), (fun q => absurd q (by decide))⟩, hS.F ht⟩) hS.2.2 dX9_readsCompared_67
          · skip
            have c89 : (zhv (ct38 0) (ct38 11)).toInt = 61 := (z_eq rfl (by decide : (61 : Int32).toInt = 61)).mp c89
            refine lv_bipush (v := 9) hx hb dX9_readsCompared_46 (by decide) ?_
            refine lv_goto (tgt := 52) hx hb dX9_readsCompared_48 (by decide) ?_
            refine lv_istore_n (lv' := [(1, .int 9), (0, .ref (ad 0))]) hx hb dX9_readsCompared_52 rfl hl (by decide) rfl (fun ls hl => ?_)
            refine lv_iload_n hx hb dX9_readsCompared_53 rfl (lv_at hl 0 rfl) ?_
            refine lv_iconst (v := (-1)) hx hb dX9_readsCompared_54 (by decide) ?_
            refine lv_icmp_ne (tgt := 68) hx hb dX9_readsCompared_55 (by decide) (fun c100 => ?_) (fun c100 => ?_)
            · skip
              have hb1 := PS.bounds hk41
              obtain ⟨f102, hs101⟩ := a9_12 hI.1
              obtain ⟨f104, hs103⟩ := a9_13 hI.1
              refine lv_aload_n hx hb dX9_readsCompared_68 rfl (lv_at hl 1 rfl) ?_
              refine lv_aload_n hx hb dX9_readsCompared_69 rfl (lv_at hl 1 rfl) ?_
              refine va_get (D := g.1) (ci := 9) (v := .int pl051) (C := RX9) (T := TX9) (N := 47) hx hb hg inG9 hown hK hP 0 (zw_at (by omega) hs45) rfl 17 (by decide) (hg _ mm_975) (fun _ h9 => h9) rfl dX9_readsCompared_70 ?_
              refine lv_iconst (v := 1) hx hb dX9_readsCompared_73 (by decide) ?_
              refine lv_iadd hx hb dX9_readsCompared_74 ?_
              refine lv_topi (fun x105 ex105 => ?_)
              have tx105 : x105.toInt = pl051.toInt + 1 := by rw [ex105]; exact z_add rfl (by decide : (1 : Int32).toInt = 1) (by omega) (by omega)
              refine va_put (D := g.1) (ci := 9) (v := .int x105) (ty := .int) (C := RX9) (T := TX9) (N := 47) hx hb hg inG9 tyX9 tyX9_ok nmX9 hown hK hP hD hS 0 (zw_at (by omega) hs45) rfl 17 (by decide) (hg _ mm_975) (fun _ h9 => h9) rfl (by decide +kernel) rfl rfl (Nat.le_of_ble_eq_true rfl) dX9_readsCompared_75 (fun H locs hP hD hS => ?_)
              have hP : zP g ((zw 32 ad ct38).set 0 (ad 0, .inr (9, [.int me, .ref (ad 1), .ref (ad 2), .ref (ad 3), .ref (ad 4), .int bks46, .int lks47, .int gos48, .int shn49, .ref (ad 5), .ref (ad 6), .ref (ad 7), .ref (ad 8), .ref (ad 9), .ref (ad 10), .ref (ad 11), .int tpd50, .int x105, .int ln052, .int flt53, .int opn54, .int cmy55, .int wtg56, .int nm057, .ref (ad 12), .ref (ad 13), .ref (ad 14), .ref (ad 15), .ref (ad 16), .ref (ad 17), .ref (ad 18), .ref (ad 19), .ref (ad 20), .ref (ad 21), .ref (ad 22), .ref (ad 23), .ref (ad 24), .ref (ad 25), .ref (ad 26), .ref (ad 27), .int mst58, .int sus59, .ref (ad 28), .ref (ad 29), .ref (ad 30), .ref (ad 31), .int cut60]))) H := hP
              have hD : va_D A ((zw 32 ad ct38).set 0 (ad 0, .inr (9, [.int me, .ref (ad 1), .ref (ad 2), .ref (ad 3), .ref (ad 4), .int bks46, .int lks47, .int gos48, .int shn49, .ref (ad 5), .ref (ad 6), .ref (ad 7), .ref (ad 8), .ref (ad 9), .ref (ad 10), .ref (ad 11), .int tpd50, .int x105, .int ln052, .int flt53, .int opn54, .int cmy55, .int wtg56, .int nm057, .ref (ad 12), .ref (ad 13), .ref (ad 14), .ref (ad 15), .ref (ad 16), .ref (ad 17), .ref (ad 18), .ref (ad 19), .ref (ad 20), .ref (ad 21), .ref (ad 22), .ref (ad 23), .ref (ad 24), .ref (ad 25), .ref (ad 26), .ref (ad 27), .int mst58, .int sus59, .ref (ad 28), .ref (ad 29), .ref (ad 30), .ref (ad 31), .int cut60]))) := hD
              rw [zw_set (by omega)] at hP hD
              obtain ⟨ct106, ec107⟩ : ∃ z : Nat → va_E, z = va_up ct38 0 (.inr (9, [.int me, .ref (ad 1), .ref (ad 2), .ref (ad 3), .ref (ad 4), .int bks46, .int lks47, .int gos48, .int shn49, .ref (ad 5), .ref (ad 6), .ref (ad 7), .ref (ad 8), .ref (ad 9), .ref (ad 10), .ref (ad 11), .int tpd50, .int x105, .int ln052, .int flt53, .int opn54, .int cmy55, .int wtg56, .int nm057, .ref (ad 12), .ref (ad 13), .ref (ad 14), .ref (ad 15), .ref (ad 16), .ref (ad 17), .ref (ad 18), .ref (ad 19), .ref (ad 20), .ref (ad 21), .ref (ad 22), .ref (ad 23), .ref (ad 24), .ref (ad 25), .ref (ad 26), .ref (ad 27), .int mst58, .int sus59, .ref (ad 28), .ref (ad 29), .ref (ad 30), .ref (ad 31), .int cut60])) := ⟨_, rfl⟩
              rw [← ec107] at hP hD
              have hI : IR g ad me ct106 := by rw [ec107]; exact upR hI (by decide) (i9_0 ⟨(bks46 : Int32), (lks47 : Int32), (gos48 : Int32), (shn49 : Int32), (tpd50 : Int32), (x105 : Int32), (ln052 : Int32), (flt53 : Int32), (opn54 : Int32), (cmy55 : Int32), (wtg56 : Int32), (nm057 : Int32), (mst58 : Int32), (sus59 : Int32), (cut60 : Int32), (by first | omega | decide), (by first | omega | decide), (by first | omega | decide), (by first | omega | decide), (by first | omega | decide), (by first | omega | decide), (by first | omega | decide), (by first | omega | decide), (by first | omega | decide), (by first | omega | decide), (by first | omega | decide), (by first | omega | decide), (by first | omega | decide), (by first | omega | decide), (by first | omega | decide), (by first | omega | decide), (by first | omega | decide), (by first | omega | decide), (by first | omega | decide), (by first | omega | decide), rfl⟩)
              have hs108 : ct106 12 = .inl (g.2 0, 120, .inl f102) := by rw [ec107, va_up_ne _ _ (by omega)]; exact hs101
              have hs109 : ct106 13 = .inl (g.2 0, 120, .inl f104) := by rw [ec107, va_up_ne _ _ (by omega)]; exact hs103
              have hs110 : ct106 0 = .inr (9, [.int me, .ref (ad 1), .ref (ad 2), .ref (ad 3), .ref (ad 4), .int bks46, .int lks47, .int gos48, .int shn49, .ref (ad 5), .ref (ad 6), .ref (ad 7), .ref (ad 8), .ref (ad 9), .ref (ad 10), .ref (ad 11), .int tpd50, .int x105, .int ln052, .int flt53, .int opn54, .int cmy55, .int wtg56, .int nm057, .ref (ad 12), .ref (ad 13), .ref (ad 14), .ref (ad 15), .ref (ad 16), .ref (ad 17), .ref (ad 18), .ref (ad 19), .ref (ad 20), .ref (ad 21), .ref (ad 22), .ref (ad 23), .ref (ad 24), .ref (ad 25), .ref (ad 26), .ref (ad 27), .int mst58, .int sus59, .ref (ad 28), .ref (ad 29), .ref (ad 30), .ref (ad 31), .int cut60]) := by rw [ec107]; exact va_up_self _ _ _
              have z17_hs110 : zfi 17 (ct106 0) = (x105 : Int32).toInt := by rw [hs110]; rfl
              have z18_hs110 : zfi 18 (ct106 0) = (ln052 : Int32).toInt := by rw [hs110]; rfl
              have z21_hs110 : zfi 21 (ct106 0) = (cmy55 : Int32).toInt := by rw [hs110]; rfl
              have z22_hs110 : zfi 22 (ct106 0) = (wtg56 : Int32).toInt := by rw [hs110]; rfl
              have hps2 := PS.same hk41 (y2 := 1) (R2 := R0) (fun _ _ h => h) (by omega) (by omega) (by omega) (by omega) (by omega) (hs108.trans hs101.symm) (hs109.trans hs103.symm) (by omega)
              refine lv_aload_n hx hb dX9_readsCompared_78 rfl (lv_at hl 1 rfl) ?_
              have hFc := zw_free hD hS hA
              refine va_calli (va_runV (As := []) (rest := []) ⟨hx, hb, hml, hown, hg⟩ (k_X9_readsSum l g _ ad me ct106 1 1 hI (hps2)) (cwV 0 hg (z_gV mm_1232 mm_1234 mm_67 mm_117 mm_1235) rfl rfl rfl (by decide +kernel) ⟨Nat.le_of_ble_eq_true rfl, Nat.le_of_ble_eq_true rfl⟩) ⟨(zA.pre [.ref (ad 0)] hP hK hD hN).1, va_recv hK hP (ci := 9) (q0 := 0) rfl (zw_at (by omega) hs110), (zA.pre [.ref (ad 0)] hP hK hD hN).2⟩ rfl rfl hl.1 rfl (lv_room (Nat.le_of_ble_eq_true rfl)) dX9_readsCompared_79 ⟨Nat.le_of_ble_eq_true rfl, Nat.le_of_ble_eq_true rfl⟩) hS (fun q _ h => hFc q h) hFc (fun r111 u116 t H1 locs ht hvm hr111 hB hz1 hk1 hS => ?_)
              obtain ⟨ct112, hP1, hD1, hI, hk113, hk114, hk115⟩ := hB
              rw [ht] at hP1
              have hD := hD1.weaken (fun _ _ _ h => hFc _ h)
              generalize H1 = H at hP1 hS ⊢
              have hP := hP1
              refine W.widen (k := 0) (n := 0) (Nat.le_refl _) (Nat.le_refl _) ?_
              rcases hr111 with hr111 | hr111
              · skip
                obtain ⟨rfl, h117⟩ := hr111
                replace h117 : u116 = 1 := h117
                have hk114 := hk114 h117
                have hk115 := hk115 h117
                refine lv_if_ne (tgt := 87) hx hb dX9_readsCompared_82 (by decide) (fun c118 => ?_) (fun c118 => ?_)
                · skip
                  have hb2 := PS.bounds hk115
                  refine lv_aload_n hx hb dX9_readsCompared_87 rfl (lv_at hl 1 rfl) ?_
                  refine lv_iload_n hx hb dX9_readsCompared_88 rfl (lv_at hl 0 rfl) ?_
                  refine lv_iconst (v := 0) hx hb dX9_readsCompared_89 (by decide) ?_
                  obtain ⟨bks120, lks121, gos122, shn123, tpd124, pl0125, ln0126, flt127, opn128, cmy129, wtg130, nm0131, mst132, sus133, cut134, h135, h136, h137, h138, h139, h140, h141, h142, h143, h144, h145, h146, h147, h148, h149, h150, h151, h152, h153, h154, hs119⟩ := a9_0 hI.1
                  have z17_hs119 : zfi 17 (ct112 0) = pl0125.toInt := by rw [hs119]; rfl
                  have z18_hs119 : zfi 18 (ct112 0) = ln0126.toInt := by rw [hs119]; rfl
                  have z21_hs119 : zfi 21 (ct112 0) = cmy129.toInt := by rw [hs119]; rfl
                  have z22_hs119 : zfi 22 (ct112 0) = wtg130.toInt := by rw [hs119]; rfl
                  have hFc := zw_free hD hS hA
                  refine va_callv (va_runV (As := [.int 9, .int 0]) (rest := []) ⟨hx, hb, hml, hown, hg⟩ (k_X9_notes l g _ ad me ct112 (9 : Int32) (0 : Int32) (by first | omega | decide) (by first | omega | decide) hI (by first | assumption | omega | decide)) (cwV 2 hg (z_gV mm_1248 mm_1250 mm_71 mm_117 mm_1251) rfl rfl rfl (by decide +kernel) ⟨Nat.le_of_ble_eq_true rfl, Nat.le_of_ble_eq_true rfl⟩) ⟨(zA.pre [.ref (ad 0), .int 9, .int 0] hP hK hD hN).1, va_recv hK hP (ci := 9) (q0 := 0) rfl (zw_at (by omega) hs119), (zA.pre [.ref (ad 0), .int 9, .int 0] hP hK hD hN).2⟩ rfl rfl hl.1 rfl (lv_room (Nat.le_of_ble_eq_true rfl)) dX9_readsCompared_90 ⟨Nat.le_of_ble_eq_true rfl, Nat.le_of_ble_eq_true rfl⟩) hS (fun q _ h => hFc q h) hFc (fun _ t H1 locs ht hvm hr155 hB hz1 hk1 hS => ?_)
                  obtain ⟨ct156, hP1, hD1, hI, hk157, hk158, hk159, hk160, hk161, hk162⟩ := hB
                  rw [ht] at hP1
                  have hD := hD1.weaken (fun _ _ _ h => hFc _ h)
                  generalize H1 = H at hP1 hS ⊢
                  have hP := hP1
                  refine W.widen (k := 0) (n := 0) (Nat.le_refl _) (Nat.le_refl _) ?_
                  have hps3 := PS.cmp (x := 0) (y := 0) (r := (9 : Int32)) hk115 (by omega) (by omega) (by omega) (by omega) (wr_c hk161 rfl rfl rfl (by have q0 : (0 : Int32).toInt = 0 := rfl; omega)) hk162 (by decide) (by decide)
                  refine lv_aload_n hx hb dX9_readsCompared_93 rfl (lv_at hl 1 rfl) ?_
                  obtain ⟨bks164, lks165, gos166, shn167, tpd168, pl0169, ln0170, flt171, opn172, cmy173, wtg174, nm0175, mst176, sus177, cut178, h179, h180, h181, h182, h183, h184, h185, h186, h187, h188, h189, h190, h191, h192, h193, h194, h195, h196, h197, h198, hs163⟩ := a9_0 hI.1
                  have z17_hs163 : zfi 17 (ct156 0) = pl0169.toInt := by rw [hs163]; rfl
                  have z18_hs163 : zfi 18 (ct156 0) = ln0170.toInt := by rw [hs163]; rfl
                  have z21_hs163 : zfi 21 (ct156 0) = cmy173.toInt := by rw [hs163]; rfl
                  have z22_hs163 : zfi 22 (ct156 0) = wtg174.toInt := by rw [hs163]; rfl
                  have hFc := zw_free hD hS hA
                  refine va_callv (va_runV (As := []) (rest := []) ⟨hx, hb, hml, hown, hg⟩ (k_X9_endsPiece l g _ ad me ct156  hI (hps3)) (cwV 0 hg (z_gV mm_1270 mm_1272 mm_75 mm_117 mm_1273) rfl rfl rfl (by decide +kernel) ⟨Nat.le_of_ble_eq_true rfl, Nat.le_of_ble_eq_true rfl⟩) ⟨(zA.pre [.ref (ad 0)] hP hK hD hN).1, va_recv hK hP (ci := 9) (q0 := 0) rfl (zw_at (by omega) hs163), (zA.pre [.ref (ad 0)] hP hK hD hN).2⟩ rfl rfl hl.1 rfl (lv_room (Nat.le_of_ble_eq_true rfl)) dX9_readsCompared_94 ⟨Nat.le_of_ble_eq_true rfl, Nat.le_of_ble_eq_true rfl⟩) hS (fun q _ h => hFc q h) hFc (fun _ t H1 locs ht hvm hr199 hB hz1 hk1 hS => ?_)
                  obtain ⟨ct200, hP1, hD1, hI, hk201, hk202, hk203⟩ := hB
                  rw [ht] at hP1
                  have hD := hD1.weaken (fun _ _ _ h => hFc _ h)
                  generalize H1 = H at hP1 hS ⊢
                  have hP := hP1
                  refine W.widen (k := 0) (n := 0) (Nat.le_refl _) (Nat.le_refl _) ?_
                  refine lv_iconst (v := 1) hx hb dX9_readsCompared_97 (by decide) ?_
                  have q204 : (1 : Int32).toInt = 1 := by decide
                  exact W.zret (v := 1) hx hb hr rfl (fun t ht hW => ⟨⟨1, 1, rfl, by first | exact Or.inl ⟨rfl, rfl⟩ | exact Or.inr ⟨rfl, rfl⟩, ct200, by rw [ht]; exact hP, hD, hI, (by first | assumption | omega), (fun _ => by first | assumption | omega), (fun _ => by first | assumption | omega)⟩, hS.F ht⟩) hS.2.2 dX9_readsCompared_98
                · skip
                  exact absurd c118 (by decide)
              · skip
                obtain ⟨rfl, h205⟩ := hr111
                replace h205 : u116 = 0 := h205
                refine lv_if_ne (tgt := 87) hx hb dX9_readsCompared_82 (by decide) (fun c206 => ?_) (fun c206 => ?_)
                · skip
                  exact absurd c206 (by decide)
                · skip
                  refine lv_iconst (v := 0) hx hb dX9_readsCompared_85 (by decide) ?_
                  have q207 : (0 : Int32).toInt = 0 := by decide
                  exact W.zret (v := 0) hx hb hr rfl (fun t ht hW => ⟨⟨0, 0, rfl, by first | exact Or.inl ⟨rfl, rfl⟩ | exact Or.inr ⟨rfl, rfl⟩, ct112, by rw [ht]; exact hP, hD, hI, (by first | assumption | omega), (fun q => absurd q (by decide)), (fun q => absurd q (by decide))⟩, hS.F ht⟩) hS.2.2 dX9_readsCompared_86
            · skip
              exact absurd c100 (by decide)
        · skip
          have c86 : (zhv (ct38 0) (ct38 11)).toInt = 62 := (z_eq rfl (by decide : (62 : Int32).toInt = 62)).mp c86
          refine lv_bipush (v := 8) hx hb dX9_readsCompared_32 (by decide) ?_
          refine lv_goto (tgt := 52) hx hb dX9_readsCompared_34 (by decide) ?_
          refine lv_istore_n (lv' := [(1, .int 8), (0, .ref (ad 0))]) hx hb dX9_readsCompared_52 rfl hl (by decide) rfl (fun ls hl => ?_)
          refine lv_iload_n hx hb dX9_readsCompared_53 rfl (lv_at hl 0 rfl) ?_
          refine lv_iconst (v := (-1)) hx hb dX9_readsCompared_54 (by decide) ?_
          refine lv_icmp_ne (tgt := 68) hx hb dX9_readsCompared_55 (by decide) (fun c208 => ?_) (fun c208 => ?_)
          · skip
            have hb1 := PS.bounds hk41
            obtain ⟨f210, hs209⟩ := a9_12 hI.1
            obtain ⟨f212, hs211⟩ := a9_13 hI.1
            refine lv_aload_n hx hb dX9_readsCompared_68 rfl (lv_at hl 1 rfl) ?_
            refine lv_aload_n hx hb dX9_readsCompared_69 rfl (lv_at hl 1 rfl) ?_
            refine va_get (D := g.1) (ci := 9) (v := .int pl051) (C := RX9) (T := TX9) (N := 47) hx hb hg inG9 hown hK hP 0 (zw_at (by omega) hs45) rfl 17 (by decide) (hg _ mm_975) (fun _ h9 => h9) rfl dX9_readsCompared_70 ?_
            refine lv_iconst (v := 1) hx hb dX9_readsCompared_73 (by decide) ?_
            refine lv_iadd hx hb dX9_readsCompared_74 ?_
            refine lv_topi (fun x213 ex213 => ?_)
            have tx213 : x213.toInt = pl051.toInt + 1 := by rw [ex213]; exact z_add rfl (by decide : (1 : Int32).toInt = 1) (by omega) (by omega)
            refine va_put (D := g.1) (ci := 9) (v := .int x213) (ty := .int) (C := RX9) (T := TX9) (N := 47) hx hb hg inG9 tyX9 tyX9_ok nmX9 hown hK hP hD hS 0 (zw_at (by omega) hs45) rfl 17 (by decide) (hg _ mm_975) (fun _ h9 => h9) rfl (by decide +kernel) rfl rfl (Nat.le_of_ble_eq_true rfl) dX9_readsCompared_75 (fun H locs hP hD hS => ?_)
            have hP : zP g ((zw 32 ad ct38).set 0 (ad 0, .inr (9, [.int me, .ref (ad 1), .ref (ad 2), .ref (ad 3), .ref (ad 4), .int bks46, .int lks47, .int gos48, .int shn49, .ref (ad 5), .ref (ad 6), .ref (ad 7), .ref (ad 8), .ref (ad 9), .ref (ad 10), .ref (ad 11), .int tpd50, .int x213, .int ln052, .int flt53, .int opn54, .int cmy55, .int wtg56, .int nm057, .ref (ad 12), .ref (ad 13), .ref (ad 14), .ref (ad 15), .ref (ad 16), .ref (ad 17), .ref (ad 18), .ref (ad 19), .ref (ad 20), .ref (ad 21), .ref (ad 22), .ref (ad 23), .ref (ad 24), .ref (ad 25), .ref (ad 26), .ref (ad 27), .int mst58, .int sus59, .ref (ad 28), .ref (ad 29), .ref (ad 30), .ref (ad 31), .int cut60]))) H := hP
            have hD : va_D A ((zw 32 ad ct38).set 0 (ad 0, .inr (9, [.int me, .ref (ad 1), .ref (ad 2), .ref (ad 3), .ref (ad 4), .int bks46, .int lks47, .int gos48, .int shn49, .ref (ad 5), .ref (ad 6), .ref (ad 7), .ref (ad 8), .ref (ad 9), .ref (ad 10), .ref (ad 11), .int tpd50, .int x213, .int ln052, .int flt53, .int opn54, .int cmy55, .int wtg56, .int nm057, .ref (ad 12), .ref (ad 13), .ref (ad 14), .ref (ad 15), .ref (ad 16), .ref (ad 17), .ref (ad 18), .ref (ad 19), .ref (ad 20), .ref (ad 21), .ref (ad 22), .ref (ad 23), .ref (ad 24), .ref (ad 25), .ref (ad 26), .ref (ad 27), .int mst58, .int sus59, .ref (ad 28), .ref (ad 29), .ref (ad 30), .ref (ad 31), .int cut60]))) := hD
            rw [zw_set (by omega)] at hP hD
            obtain ⟨ct214, ec215⟩ : ∃ z : Nat → va_E, z = va_up ct38 0 (.inr (9, [.int me, .ref (ad 1), .ref (ad 2), .ref (ad 3), .ref (ad 4), .int bks46, .int lks47, .int gos48, .int shn49, .ref (ad 5), .ref (ad 6), .ref (ad 7), .ref (ad 8), .ref (ad 9), .ref (ad 10), .ref (ad 11), .int tpd50, .int x213, .int ln052, .int flt53, .int opn54, .int cmy55, .int wtg56, .int nm057, .ref (ad 12), .ref (ad 13), .ref (ad 14), .ref (ad 15), .ref (ad 16), .ref (ad 17), .ref (ad 18), .ref (ad 19), .ref (ad 20), .ref (ad 21), .ref (ad 22), .ref (ad 23), .ref (ad 24), .ref (ad 25), .ref (ad 26), .ref (ad 27), .int mst58, .int sus59, .ref (ad 28), .ref (ad 29), .ref (ad 30), .ref (ad 31), .int cut60])) := ⟨_, rfl⟩
            rw [← ec215] at hP hD
            have hI : IR g ad me ct214 := by rw [ec215]; exact upR hI (by decide) (i9_0 ⟨(bks46 : Int32), (lks47 : Int32), (gos48 : Int32), (shn49 : Int32), (tpd50 : Int32), (x213 : Int32), (ln052 : Int32), (flt53 : Int32), (opn54 : Int32), (cmy55 : Int32), (wtg56 : Int32), (nm057 : Int32), (mst58 : Int32), (sus59 : Int32), (cut60 : Int32), (by first | omega | decide), (by first | omega | decide), (by first | omega | decide), (by first | omega | decide), (by first | omega | decide), (by first | omega | decide), (by first | omega | decide), (by first | omega | decide), (by first | omega | decide), (by first | omega | decide), (by first | omega | decide), (by first | omega | decide), (by first | omega | decide), (by first | omega | decide), (by first | omega | decide), (by first | omega | decide), (by first | omega | decide), (by first | omega | decide), (by first | omega | decide), (by first | omega | decide), rfl⟩)
            have hs216 : ct214 12 = .inl (g.2 0, 120, .inl f210) := by rw [ec215, va_up_ne _ _ (by omega)]; exact hs209
            have hs217 : ct214 13 = .inl (g.2 0, 120, .inl f212) := by rw [ec215, va_up_ne _ _ (by omega)]; exact hs211
            have hs218 : ct214 0 = .inr (9, [.int me, .ref (ad 1), .ref (ad 2), .ref (ad 3), .ref (ad 4), .int bks46, .int lks47, .int gos48, .int shn49, .ref (ad 5), .ref (ad 6), .ref (ad 7), .ref (ad 8), .ref (ad 9), .ref (ad 10), .ref (ad 11), .int tpd50, .int x213, .int ln052, .int flt53, .int opn54, .int cmy55, .int wtg56, .int nm057, .ref (ad 12), .ref (ad 13), .ref (ad 14), .ref (ad 15), .ref (ad 16), .ref (ad 17), .ref (ad 18), .ref (ad 19), .ref (ad 20), .ref (ad 21), .ref (ad 22), .ref (ad 23), .ref (ad 24), .ref (ad 25), .ref (ad 26), .ref (ad 27), .int mst58, .int sus59, .ref (ad 28), .ref (ad 29), .ref (ad 30), .ref (ad 31), .int cut60]) := by rw [ec215]; exact va_up_self _ _ _
            have z17_hs218 : zfi 17 (ct214 0) = (x213 : Int32).toInt := by rw [hs218]; rfl
            have z18_hs218 : zfi 18 (ct214 0) = (ln052 : Int32).toInt := by rw [hs218]; rfl
            have z21_hs218 : zfi 21 (ct214 0) = (cmy55 : Int32).toInt := by rw [hs218]; rfl
            have z22_hs218 : zfi 22 (ct214 0) = (wtg56 : Int32).toInt := by rw [hs218]; rfl
            have hps2 := PS.same hk41 (y2 := 1) (R2 := R0) (fun _ _ h => h) (by omega) (by omega) (by omega) (by omega) (by omega) (hs216.trans hs209.symm) (hs217.trans hs211.symm) (by omega)
            refine lv_aload_n hx hb dX9_readsCompared_78 rfl (lv_at hl 1 rfl) ?_
            have hFc := zw_free hD hS hA
            refine va_calli (va_runV (As := []) (rest := []) ⟨hx, hb, hml, hown, hg⟩ (k_X9_readsSum l g _ ad me ct214 1 1 hI (hps2)) (cwV 0 hg (z_gV mm_1232 mm_1234 mm_67 mm_117 mm_1235) rfl rfl rfl (by decide +kernel) ⟨Nat.le_of_ble_eq_true rfl, Nat.le_of_ble_eq_true rfl⟩) ⟨(zA.pre [.ref (ad 0)] hP hK hD hN).1, va_recv hK hP (ci := 9) (q0 := 0) rfl (zw_at (by omega) hs218), (zA.pre [.ref (ad 0)] hP hK hD hN).2⟩ rfl rfl hl.1 rfl (lv_room (Nat.le_of_ble_eq_true rfl)) dX9_readsCompared_79 ⟨Nat.le_of_ble_eq_true rfl, Nat.le_of_ble_eq_true rfl⟩) hS (fun q _ h => hFc q h) hFc (fun r219 u224 t H1 locs ht hvm hr219 hB hz1 hk1 hS => ?_)
            obtain ⟨ct220, hP1, hD1, hI, hk221, hk222, hk223⟩ := hB
            rw [ht] at hP1
            have hD := hD1.weaken (fun _ _ _ h => hFc _ h)
            generalize H1 = H at hP1 hS ⊢
            have hP := hP1
            refine W.widen (k := 0) (n := 0) (Nat.le_refl _) (Nat.le_refl _) ?_
            rcases hr219 with hr219 | hr219
            · skip
              obtain ⟨rfl, h225⟩ := hr219
              replace h225 : u224 = 1 := h225
              have hk222 := hk222 h225
              have hk223 := hk223 h225
              refine lv_if_ne (tgt := 87) hx hb dX9_readsCompared_82 (by decide) (fun c226 => ?_) (fun c226 => ?_)
              · skip
                have hb2 := PS.bounds hk223
                refine lv_aload_n hx hb dX9_readsCompared_87 rfl (lv_at hl 1 rfl) ?_
                refine lv_iload_n hx hb dX9_readsCompared_88 rfl (lv_at hl 0 rfl) ?_
                refine lv_iconst (v := 0) hx hb dX9_readsCompared_89 (by decide) ?_
                obtain ⟨bks228, lks229, gos230, shn231, tpd232, pl0233, ln0234, flt235, opn236, cmy237, wtg238, nm0239, mst240, sus241, cut242, h243, h244, h245, h246, h247, h248, h249, h250, h251, h252, h253, h254, h255, h256, h257, h258, h259, h260, h261, h262, hs227⟩ := a9_0 hI.1
                have z17_hs227 : zfi 17 (ct220 0) = pl0233.toInt := by rw [hs227]; rfl
                have z18_hs227 : zfi 18 (ct220 0) = ln0234.toInt := by rw [hs227]; rfl
                have z21_hs227 : zfi 21 (ct220 0) = cmy237.toInt := by rw [hs227]; rfl
                have z22_hs227 : zfi 22 (ct220 0) = wtg238.toInt := by rw [hs227]; rfl
                have hFc := zw_free hD hS hA
                refine va_callv (va_runV (As := [.int 8, .int 0]) (rest := []) ⟨hx, hb, hml, hown, hg⟩ (k_X9_notes l g _ ad me ct220 (8 : Int32) (0 : Int32) (by first | omega | decide) (by first | omega | decide) hI (by first | assumption | omega | decide)) (cwV 2 hg (z_gV mm_1248 mm_1250 mm_71 mm_117 mm_1251) rfl rfl rfl (by decide +kernel) ⟨Nat.le_of_ble_eq_true rfl, Nat.le_of_ble_eq_true rfl⟩) ⟨(zA.pre [.ref (ad 0), .int 8, .int 0] hP hK hD hN).1, va_recv hK hP (ci := 9) (q0 := 0) rfl (zw_at (by omega) hs227), (zA.pre [.ref (ad 0), .int 8, .int 0] hP hK hD hN).2⟩ rfl rfl hl.1 rfl (lv_room (Nat.le_of_ble_eq_true rfl)) dX9_readsCompared_90 ⟨Nat.le_of_ble_eq_true rfl, Nat.le_of_ble_eq_true rfl⟩) hS (fun q _ h => hFc q h) hFc (fun _ t H1 locs ht hvm hr263 hB hz1 hk1 hS => ?_)
                obtain ⟨ct264, hP1, hD1, hI, hk265, hk266, hk267, hk268, hk269, hk270⟩ := hB
                rw [ht] at hP1
                have hD := hD1.weaken (fun _ _ _ h => hFc _ h)
                generalize H1 = H at hP1 hS ⊢
                have hP := hP1
                refine W.widen (k := 0) (n := 0) (Nat.le_refl _) (Nat.le_refl _) ?_
                have hps3 := PS.cmp (x := 0) (y := 0) (r := (8 : Int32)) hk223 (by omega) (by omega) (by omega) (by omega) (wr_c hk269 rfl rfl rfl (by have q0 : (0 : Int32).toInt = 0 := rfl; omega)) hk270 (by decide) (by decide)
                refine lv_aload_n hx hb dX9_readsCompared_93 rfl (lv_at hl 1 rfl) ?_
                obtain ⟨bks272, lks273, gos274, shn275, tpd276, pl0277, ln0278, flt279, opn280, cmy281, wtg282, nm0283, mst284, sus285, cut286, h287, h288, h289, h290, h291, h292, h293, h294, h295, h296, h297, h298, h299, h300, h301, h302, h303, h304, h305, h306, hs271⟩ := a9_0 hI.1
                have z17_hs271 : zfi 17 (ct264 0) = pl0277.toInt := by rw [hs271]; rfl
                have z18_hs271 : zfi 18 (ct264 0) = ln0278.toInt := by rw [hs271]; rfl
                have z21_hs271 : zfi 21 (ct264 0) = cmy281.toInt := by rw [hs271]; rfl
                have z22_hs271 : zfi 22 (ct264 0) = wtg282.toInt := by rw [hs271]; rfl
                have hFc := zw_free hD hS hA
                refine va_callv (va_runV (As := []) (rest := []) ⟨hx, hb, hml, hown, hg⟩ (k_X9_endsPiece l g _ ad me ct264  hI (hps3)) (cwV 0 hg (z_gV mm_1270 mm_1272 mm_75 mm_117 mm_1273) rfl rfl rfl (by decide +kernel) ⟨Nat.le_of_ble_eq_true rfl, Nat.le_of_ble_eq_true rfl⟩) ⟨(zA.pre [.ref (ad 0)] hP hK hD hN).1, va_recv hK hP (ci := 9) (q0 := 0) rfl (zw_at (by omega) hs271), (zA.pre [.ref (ad 0)] hP hK hD hN).2⟩ rfl rfl hl.1 rfl (lv_room (Nat.le_of_ble_eq_true rfl)) dX9_readsCompared_94 ⟨Nat.le_of_ble_eq_true rfl, Nat.le_of_ble_eq_true rfl⟩) hS (fun q _ h => hFc q h) hFc (fun _ t H1 locs ht hvm hr307 hB hz1 hk1 hS => ?_)
                obtain ⟨ct308, hP1, hD1, hI, hk309, hk310, hk311⟩ := hB
                rw [ht] at hP1
                have hD := hD1.weaken (fun _ _ _ h => hFc _ h)
                generalize H1 = H at hP1 hS ⊢
                have hP := hP1
                refine W.widen (k := 0) (n := 0) (Nat.le_refl _) (Nat.le_refl _) ?_
                refine lv_iconst (v := 1) hx hb dX9_readsCompared_97 (by decide) ?_
                have q312 : (1 : Int32).toInt = 1 := by decide
                exact W.zret (v := 1) hx hb hr rfl (fun t ht hW => ⟨⟨1, 1, rfl, by first | exact Or.inl ⟨rfl, rfl⟩ | exact Or.inr ⟨rfl, rfl⟩, ct308, by rw [ht]; exact hP, hD, hI, (by first | assumption | omega), (fun _ => by first | assumption | omega), (fun _ => by first | assumption | omega)⟩, hS.F ht⟩) hS.2.2 dX9_readsCompared_98
              · skip
                exact absurd c226 (by decide)
            · skip
              obtain ⟨rfl, h313⟩ := hr219
              replace h313 : u224 = 0 := h313
              refine lv_if_ne (tgt := 87) hx hb dX9_readsCompared_82 (by decide) (fun c314 => ?_) (fun c314 => ?_)
              · skip
                exact absurd c314 (by decide)
              · skip
                refine lv_iconst (v := 0) hx hb dX9_readsCompared_85 (by decide) ?_
                have q315 : (0 : Int32).toInt = 0 := by decide
                exact W.zret (v := 0) hx hb hr rfl (fun t ht hW => ⟨⟨0, 0, rfl, by first | exact Or.inl ⟨rfl, rfl⟩ | exact Or.inr ⟨rfl, rfl⟩, ct220, by rw [ht]; exact hP, hD, hI, (by first | assumption | omega), (fun q => absurd q (by decide)), (fun q => absurd q (by decide))⟩, hS.F ht⟩) hS.2.2 dX9_readsCompared_86
          · skip
            exact absurd c208 (by decide)
      · skip
        have c83 : (zhv (ct38 0) (ct38 11)).toInt = 60 := (z_eq rfl (by decide : (60 : Int32).toInt = 60)).mp c83
        refine lv_bipush (v := 7) hx hb dX9_readsCompared_18 (by decide) ?_
        refine lv_goto (tgt := 52) hx hb dX9_readsCompared_20 (by decide) ?_
        refine lv_istore_n (lv' := [(1, .int 7), (0, .ref (ad 0))]) hx hb dX9_readsCompared_52 rfl hl (by decide) rfl (fun ls hl => ?_)
        refine lv_iload_n hx hb dX9_readsCompared_53 rfl (lv_at hl 0 rfl) ?_
        refine lv_iconst (v := (-1)) hx hb dX9_readsCompared_54 (by decide) ?_
        refine lv_icmp_ne (tgt := 68) hx hb dX9_readsCompared_55 (by decide) (fun c316 => ?_) (fun c316 => ?_)
        · skip
          have hb1 := PS.bounds hk41
          obtain ⟨f318, hs317⟩ := a9_12 hI.1
          obtain ⟨f320, hs319⟩ := a9_13 hI.1
          refine lv_aload_n hx hb dX9_readsCompared_68 rfl (lv_at hl 1 rfl) ?_
          refine lv_aload_n hx hb dX9_readsCompared_69 rfl (lv_at hl 1 rfl) ?_
          refine va_get (D := g.1) (ci := 9) (v := .int pl051) (C := RX9) (T := TX9) (N := 47) hx hb hg inG9 hown hK hP 0 (zw_at (by omega) hs45) rfl 17 (by decide) (hg _ mm_975) (fun _ h9 => h9) rfl dX9_readsCompared_70 ?_
          refine lv_iconst (v := 1) hx hb dX9_readsCompared_73 (by decide) ?_
          refine lv_iadd hx hb dX9_readsCompared_74 ?_
          refine lv_topi (fun x321 ex321 => ?_)
          have tx321 : x321.toInt = pl051.toInt + 1 := by rw [ex321]; exact z_add rfl (by decide : (1 : Int32).toInt = 1) (by omega) (by omega)
          refine va_put (D := g.1) (ci := 9) (v := .int x321) (ty := .int) (C := RX9) (T := TX9) (N := 47) hx hb hg inG9 tyX9 tyX9_ok nmX9 hown hK hP hD hS 0 (zw_at (by omega) hs45) rfl 17 (by decide) (hg _ mm_975) (fun _ h9 => h9) rfl (by decide +kernel) rfl rfl (Nat.le_of_ble_eq_true rfl) dX9_readsCompared_75 (fun H locs hP hD hS => ?_)
          have hP : zP g ((zw 32 ad ct38).set 0 (ad 0, .inr (9, [.int me, .ref (ad 1), .ref (ad 2), .ref (ad 3), .ref (ad 4), .int bks46, .int lks47, .int gos48, .int shn49, .ref (ad 5), .ref (ad 6), .ref (ad 7), .ref (ad 8), .ref (ad 9), .ref (ad 10), .ref (ad 11), .int tpd50, .int x321, .int ln052, .int flt53, .int opn54, .int cmy55, .int wtg56, .int nm057, .ref (ad 12), .ref (ad 13), .ref (ad 14), .ref (ad 15), .ref (ad 16), .ref (ad 17), .ref (ad 18), .ref (ad 19), .ref (ad 20), .ref (ad 21), .ref (ad 22), .ref (ad 23), .ref (ad 24), .ref (ad 25), .ref (ad 26), .ref (ad 27), .int mst58, .int sus59, .ref (ad 28), .ref (ad 29), .ref (ad 30), .ref (ad 31), .int cut60]))) H := hP
          have hD : va_D A ((zw 32 ad ct38).set 0 (ad 0, .inr (9, [.int me, .ref (ad 1), .ref (ad 2), .ref (ad 3), .ref (ad 4), .int bks46, .int lks47, .int gos48, .int shn49, .ref (ad 5), .ref (ad 6), .ref (ad 7), .ref (ad 8), .ref (ad 9), .ref (ad 10), .ref (ad 11), .int tpd50, .int x321, .int ln052, .int flt53, .int opn54, .int cmy55, .int wtg56, .int nm057, .ref (ad 12), .ref (ad 13), .ref (ad 14), .ref (ad 15), .ref (ad 16), .ref (ad 17), .ref (ad 18), .ref (ad 19), .ref (ad 20), .ref (ad 21), .ref (ad 22), .ref (ad 23), .ref (ad 24), .ref (ad 25), .ref (ad 26), .ref (ad 27), .int mst58, .int sus59, .ref (ad 28), .ref (ad 29), .ref (ad 30), .ref (ad 31), .int cut60]))) := hD
          rw [zw_set (by omega)] at hP hD
          obtain ⟨ct322, ec323⟩ : ∃ z : Nat → va_E, z = va_up ct38 0 (.inr (9, [.int me, .ref (ad 1), .ref (ad 2), .ref (ad 3), .ref (ad 4), .int bks46, .int lks47, .int gos48, .int shn49, .ref (ad 5), .ref (ad 6), .ref (ad 7), .ref (ad 8), .ref (ad 9), .ref (ad 10), .ref (ad 11), .int tpd50, .int x321, .int ln052, .int flt53, .int opn54, .int cmy55, .int wtg56, .int nm057, .ref (ad 12), .ref (ad 13), .ref (ad 14), .ref (ad 15), .ref (ad 16), .ref (ad 17), .ref (ad 18), .ref (ad 19), .ref (ad 20), .ref (ad 21), .ref (ad 22), .ref (ad 23), .ref (ad 24), .ref (ad 25), .ref (ad 26), .ref (ad 27), .int mst58, .int sus59, .ref (ad 28), .ref (ad 29), .ref (ad 30), .ref (ad 31), .int cut60])) := ⟨_, rfl⟩
          rw [← ec323] at hP hD
          have hI : IR g ad me ct322 := by rw [ec323]; exact upR hI (by decide) (i9_0 ⟨(bks46 : Int32), (lks47 : Int32), (gos48 : Int32), (shn49 : Int32), (tpd50 : Int32), (x321 : Int32), (ln052 : Int32), (flt53 : Int32), (opn54 : Int32), (cmy55 : Int32), (wtg56 : Int32), (nm057 : Int32), (mst58 : Int32), (sus59 : Int32), (cut60 : Int32), (by first | omega | decide), (by first | omega | decide), (by first | omega | decide), (by first | omega | decide), (by first | omega | decide), (by first | omega | decide), (by first | omega | decide), (by first | omega | decide), (by first | omega | decide), (by first | omega | decide), (by first | omega | decide), (by first | omega | decide), (by first | omega | decide), (by first | omega | decide), (by first | omega | decide), (by first | omega | decide), (by first | omega | decide), (by first | omega | decide), (by first | omega | decide), (by first | omega | decide), rfl⟩)
          have hs324 : ct322 12 = .inl (g.2 0, 120, .inl f318) := by rw [ec323, va_up_ne _ _ (by omega)]; exact hs317
          have hs325 : ct322 13 = .inl (g.2 0, 120, .inl f320) := by rw [ec323, va_up_ne _ _ (by omega)]; exact hs319
          have hs326 : ct322 0 = .inr (9, [.int me, .ref (ad 1), .ref (ad 2), .ref (ad 3), .ref (ad 4), .int bks46, .int lks47, .int gos48, .int shn49, .ref (ad 5), .ref (ad 6), .ref (ad 7), .ref (ad 8), .ref (ad 9), .ref (ad 10), .ref (ad 11), .int tpd50, .int x321, .int ln052, .int flt53, .int opn54, .int cmy55, .int wtg56, .int nm057, .ref (ad 12), .ref (ad 13), .ref (ad 14), .ref (ad 15), .ref (ad 16), .ref (ad 17), .ref (ad 18), .ref (ad 19), .ref (ad 20), .ref (ad 21), .ref (ad 22), .ref (ad 23), .ref (ad 24), .ref (ad 25), .ref (ad 26), .ref (ad 27), .int mst58, .int sus59, .ref (ad 28), .ref (ad 29), .ref (ad 30), .ref (ad 31), .int cut60]) := by rw [ec323]; exact va_up_self _ _ _
          have z17_hs326 : zfi 17 (ct322 0) = (x321 : Int32).toInt := by rw [hs326]; rfl
          have z18_hs326 : zfi 18 (ct322 0) = (ln052 : Int32).toInt := by rw [hs326]; rfl
          have z21_hs326 : zfi 21 (ct322 0) = (cmy55 : Int32).toInt := by rw [hs326]; rfl
          have z22_hs326 : zfi 22 (ct322 0) = (wtg56 : Int32).toInt := by rw [hs326]; rfl
          have hps2 := PS.same hk41 (y2 := 1) (R2 := R0) (fun _ _ h => h) (by omega) (by omega) (by omega) (by omega) (by omega) (hs324.trans hs317.symm) (hs325.trans hs319.symm) (by omega)
          refine lv_aload_n hx hb dX9_readsCompared_78 rfl (lv_at hl 1 rfl) ?_
          have hFc := zw_free hD hS hA
          refine va_calli (va_runV (As := []) (rest := []) ⟨hx, hb, hml, hown, hg⟩ (k_X9_readsSum l g _ ad me ct322 1 1 hI (hps2)) (cwV 0 hg (z_gV mm_1232 mm_1234 mm_67 mm_117 mm_1235) rfl rfl rfl (by decide +kernel) ⟨Nat.le_of_ble_eq_true rfl, Nat.le_of_ble_eq_true rfl⟩) ⟨(zA.pre [.ref (ad 0)] hP hK hD hN).1, va_recv hK hP (ci := 9) (q0 := 0) rfl (zw_at (by omega) hs326), (zA.pre [.ref (ad 0)] hP hK hD hN).2⟩ rfl rfl hl.1 rfl (lv_room (Nat.le_of_ble_eq_true rfl)) dX9_readsCompared_79 ⟨Nat.le_of_ble_eq_true rfl, Nat.le_of_ble_eq_true rfl⟩) hS (fun q _ h => hFc q h) hFc (fun r327 u332 t H1 locs ht hvm hr327 hB hz1 hk1 hS => ?_)
          obtain ⟨ct328, hP1, hD1, hI, hk329, hk330, hk331⟩ := hB
          rw [ht] at hP1
          have hD := hD1.weaken (fun _ _ _ h => hFc _ h)
          generalize H1 = H at hP1 hS ⊢
          have hP := hP1
          refine W.widen (k := 0) (n := 0) (Nat.le_refl _) (Nat.le_refl _) ?_
          rcases hr327 with hr327 | hr327
          · skip
            obtain ⟨rfl, h333⟩ := hr327
            replace h333 : u332 = 1 := h333
            have hk330 := hk330 h333
            have hk331 := hk331 h333
            refine lv_if_ne (tgt := 87) hx hb dX9_readsCompared_82 (by decide) (fun c334 => ?_) (fun c334 => ?_)
            · skip
              have hb2 := PS.bounds hk331
              refine lv_aload_n hx hb dX9_readsCompared_87 rfl (lv_at hl 1 rfl) ?_
              refine lv_iload_n hx hb dX9_readsCompared_88 rfl (lv_at hl 0 rfl) ?_
              refine lv_iconst (v := 0) hx hb dX9_readsCompared_89 (by decide) ?_
              obtain ⟨bks336, lks337, gos338, shn339, tpd340, pl0341, ln0342, flt343, opn344, cmy345, wtg346, nm0347, mst348, sus349, cut350, h351, h352, h353, h354, h355, h356, h357, h358, h359, h360, h361, h362, h363, h364, h365, h366, h367, h368, h369, h370, hs335⟩ := a9_0 hI.1
              have z17_hs335 : zfi 17 (ct328 0) = pl0341.toInt := by rw [hs335]; rfl
              have z18_hs335 : zfi 18 (ct328 0) = ln0342.toInt := by rw [hs335]; rfl
              have z21_hs335 : zfi 21 (ct328 0) = cmy345.toInt := by rw [hs335]; rfl
              have z22_hs335 : zfi 22 (ct328 0) = wtg346.toInt := by rw [hs335]; rfl
              have hFc := zw_free hD hS hA
              refine va_callv (va_runV (As := [.int 7, .int 0]) (rest := []) ⟨hx, hb, hml, hown, hg⟩ (k_X9_notes l g _ ad me ct328 (7 : Int32) (0 : Int32) (by first | omega | decide) (by first | omega | decide) hI (by first | assumption | omega | decide)) (cwV 2 hg (z_gV mm_1248 mm_1250 mm_71 mm_117 mm_1251) rfl rfl rfl (by decide +kernel) ⟨Nat.le_of_ble_eq_true rfl, Nat.le_of_ble_eq_true rfl⟩) ⟨(zA.pre [.ref (ad 0), .int 7, .int 0] hP hK hD hN).1, va_recv hK hP (ci := 9) (q0 := 0) rfl (zw_at (by omega) hs335), (zA.pre [.ref (ad 0), .int 7, .int 0] hP hK hD hN).2⟩ rfl rfl hl.1 rfl (lv_room (Nat.le_of_ble_eq_true rfl)) dX9_readsCompared_90 ⟨Nat.le_of_ble_eq_true rfl, Nat.le_of_ble_eq_true rfl⟩) hS (fun q _ h => hFc q h) hFc (fun _ t H1 locs ht hvm hr371 hB hz1 hk1 hS => ?_)
              obtain ⟨ct372, hP1, hD1, hI, hk373, hk374, hk375, hk376, hk377, hk378⟩ := hB
              rw [ht] at hP1
              have hD := hD1.weaken (fun _ _ _ h => hFc _ h)
              generalize H1 = H at hP1 hS ⊢
              have hP := hP1
              refine W.widen (k := 0) (n := 0) (Nat.le_refl _) (Nat.le_refl _) ?_
              have hps3 := PS.cmp (x := 0) (y := 0) (r := (7 : Int32)) hk331 (by omega) (by omega) (by omega) (by omega) (wr_c hk377 rfl rfl rfl (by have q0 : (0 : Int32).toInt = 0 := rfl; omega)) hk378 (by decide) (by decide)
              refine lv_aload_n hx hb dX9_readsCompared_93 rfl (lv_at hl 1 rfl) ?_
              obtain ⟨bks380, lks381, gos382, shn383, tpd384, pl0385, ln0386, flt387, opn388, cmy389, wtg390, nm0391, mst392, sus393, cut394, h395, h396, h397, h398, h399, h400, h401, h402, h403, h404, h405, h406, h407, h408, h409, h410, h411, h412, h413, h414, hs379⟩ := a9_0 hI.1
              have z17_hs379 : zfi 17 (ct372 0) = pl0385.toInt := by rw [hs379]; rfl
              have z18_hs379 : zfi 18 (ct372 0) = ln0386.toInt := by rw [hs379]; rfl
              have z21_hs379 : zfi 21 (ct372 0) = cmy389.toInt := by rw [hs379]; rfl
              have z22_hs379 : zfi 22 (ct372 0) = wtg390.toInt := by rw [hs379]; rfl
              have hFc := zw_free hD hS hA
              refine va_callv (va_runV (As := []) (rest := []) ⟨hx, hb, hml, hown, hg⟩ (k_X9_endsPiece l g _ ad me ct372  hI (hps3)) (cwV 0 hg (z_gV mm_1270 mm_1272 mm_75 mm_117 mm_1273) rfl rfl rfl (by decide +kernel) ⟨Nat.le_of_ble_eq_true rfl, Nat.le_of_ble_eq_true rfl⟩) ⟨(zA.pre [.ref (ad 0)] hP hK hD hN).1, va_recv hK hP (ci := 9) (q0 := 0) rfl (zw_at (by omega) hs379), (zA.pre [.ref (ad 0)] hP hK hD hN).2⟩ rfl rfl hl.1 rfl (lv_room (Nat.le_of_ble_eq_true rfl)) dX9_readsCompared_94 ⟨Nat.le_of_ble_eq_true rfl, Nat.le_of_ble_eq_true rfl⟩) hS (fun q _ h => hFc q h) hFc (fun _ t H1 locs ht hvm hr415 hB hz1 hk1 hS => ?_)
              obtain ⟨ct416, hP1, hD1, hI, hk417, hk418, hk419⟩ := hB
              rw [ht] at hP1
              have hD := hD1.weaken (fun _ _ _ h => hFc _ h)
              generalize H1 = H at hP1 hS ⊢
              have hP := hP1
              refine W.widen (k := 0) (n := 0) (Nat.le_refl _) (Nat.le_refl _) ?_
              refine lv_iconst (v := 1) hx hb dX9_readsCompared_97 (by decide) ?_
              have q420 : (1 : Int32).toInt = 1 := by decide
              exact W.zret (v := 1) hx hb hr rfl (fun t ht hW => ⟨⟨1, 1, rfl, by first | exact Or.inl ⟨rfl, rfl⟩ | exact Or.inr ⟨rfl, rfl⟩, ct416, by rw [ht]; exact hP, hD, hI, (by first | assumption | omega), (fun _ => by first | assumption | omega), (fun _ => by first | assumption | omega)⟩, hS.F ht⟩) hS.2.2 dX9_readsCompared_98
            · skip
              exact absurd c334 (by decide)
          · skip
            obtain ⟨rfl, h421⟩ := hr327
            replace h421 : u332 = 0 := h421
            refine lv_if_ne (tgt := 87) hx hb dX9_readsCompared_82 (by decide) (fun c422 => ?_) (fun c422 => ?_)
            · skip
              exact absurd c422 (by decide)
            · skip
              refine lv_iconst (v := 0) hx hb dX9_readsCompared_85 (by decide) ?_
              have q423 : (0 : Int32).toInt = 0 := by decide
              exact W.zret (v := 0) hx hb hr rfl (fun t ht hW => ⟨⟨0, 0, rfl, by first | exact Or.inl ⟨rfl, rfl⟩ | exact Or.inr ⟨rfl, rfl⟩, ct328, by rw [ht]; exact hP, hD, hI, (by first | assumption | omega), (fun q => absurd q (by decide)), (fun q => absurd q (by decide))⟩, hS.F ht⟩) hS.2.2 dX9_readsCompared_86
        · skip
          exact absurd c316 (by decide)
    · skip
      exact absurd c44 (by decide)
  · skip
    obtain ⟨rfl, h424⟩ := hr37
    replace h424 : u42 = 0 := h424
    refine lv_if_ne (tgt := 9) hx hb dX9_readsCompared_4 (by decide) (fun c425 => ?_) (fun c425 => ?_)
    · skip
      exact absurd c425 (by decide)
    · skip
      refine lv_iconst (v := 0) hx hb dX9_readsCompared_7 (by decide) ?_
      have q426 : (0 : Int32).toInt = 0 := by decide
      exact W.zret (v := 0) hx hb hr rfl (fun t ht hW => ⟨⟨0, 0, rfl, by first | exact Or.inl ⟨rfl, rfl⟩ | exact Or.inr ⟨rfl, rfl⟩, ct38, by rw [ht]; exact hP, hD, hI, (by first | assumption | omega), (fun q => absurd q (by decide)), (fun q => absurd q (by decide))⟩, hS.F ht⟩) hS.2.2 dX9_readsCompared_8
