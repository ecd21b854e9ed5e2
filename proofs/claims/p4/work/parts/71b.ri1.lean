set_option maxHeartbeats 4000000 in
set_option maxRecDepth 100000 in
theorem k_X9_questions (l : Launch) (g : zG) (sz : Nat) (ad : Nat → Nat) (me : Int32) (ct : Nat → va_E) (b : Int32) (i : Int32) (kn : Int32) (wh : Int32) (hI : IR g ad me ct) : Met l yX9_questions (zW yX9_questions cX9_questions 8 (some .int)) ({ frames := 5, cells := 0, slots := 0, locals := 125 }) (va_Pc [.ref (ad 0), .int b, .int i, .int kn, .int wh] (zA g (zw 32 ad ct) sz)) (va_Qi (fun (r : Int32) (_ : Unit) => (True)) (fun _ t => ∃ ct2 : Nat → va_E, zP g (zw 32 ad ct2) t.heap ∧ va_D (va_A (zw 32 ad ct) sz) (zw 32 ad ct2) ∧ IR g ad me ct2) (va_A (zw 32 ad ct) sz)) 0 0 (va_A (zw 32 ad ct) sz) := by
  refine Met.ofW (cc := cX9_questions) (maxL := 8) (ret := (some .int)) (by decide) rfl ?_
  intro p e s m args below meth c s₁ B hml hv
  obtain ⟨rfl, hsz, hP, hK, hD0, hN⟩ := hv
  have hx := B.exec
  have hb := B.bytes
  have hr := B.returns
  have hg := zW.law (atoms_spec (ws := (zW yX9_questions cX9_questions 8 (some .int))) B.pre)
  have hown : s.vm.findClass RX9 = some m.cls := findClass_of_methodNamed B.named
  have hlocks := B.notSynchronized
  have hpe0 := hI.1.1
  subst hsz
  have hD := hD0.self (sz := s.heap.size)
  generalize hAe : va_A (zw 32 ad ct) s.heap.size = A at hD ⊢
  have hA : ∀ q : Nat, s.heap.size ≤ q → A q := fun q h => by rw [← hAe]; exact Or.inr h
  have hS : va_S A s.heap s.heap [] := va_S.rf
  have hl := lv_entry ([.ref (ad 0), .int b, .int i, .int kn, .int wh]) (n := 8) (Nat.le_of_ble_eq_true rfl)
  rw [lg_entry_eq]
  generalize (lg_sl ([.ref (ad 0), .int b, .int i, .int kn, .int wh]) ++ List.replicate (8 - (lg_sl ([.ref (ad 0), .int b, .int i, .int kn, .int wh])).length) Slot.unset).toArray = ls at hl ⊢
  have hl : lv_has ls 8 [(0, .ref (ad 0)), (1, .int b), (2, .int i), (3, .int kn), (4, .int wh)] := hl
  have rg_b := z_rng b
  have rg_i := z_rng i
  have rg_kn := z_rng kn
  have rg_wh := z_rng wh
  have q0 : ((0 : Int32)).toInt = 0 := by decide
  have q1 : ((1 : Int32)).toInt = 1 := by decide
  have qF : ((1000000000 : Int32)).toInt = 1000000000 := by decide
  refine lv_aload_n hx hb dX9_questions_0 rfl (lv_at hl 0 rfl) ?_
  refine lv_iload_n hx hb dX9_questions_1 rfl (lv_at hl 1 rfl) ?_
  refine lv_iload_n hx hb dX9_questions_2 rfl (lv_at hl 2 rfl) ?_
  obtain ⟨bks2, lks3, gos4, shn5, tpd6, pl07, ln08, flt9, opn10, cmy11, wtg12, nm013, mst14, sus15, cut16, h17, h18, h19, h20, h21, h22, h23, h24, h25, h26, h27, h28, h29, h30, h31, h32, h33, h34, h35, h36, hs1⟩ := a9_0 hI.1
  have z41_hs1 : zfi 41 (ct 0) = sus15.toInt := by rw [hs1]; rfl
  refine zc_i (va_runV (As := [.int b, .int i]) (rest := []) ⟨hx, hb, hml, hown, hg⟩ (k_X9_isLine l g ad me ct b i hI) (cwV 2 hg (z_gV mm_1170 mm_1172 mm_57 mm_117 mm_1173) rfl rfl rfl (by decide +kernel) ⟨Nat.le_of_ble_eq_true rfl, Nat.le_of_ble_eq_true rfl⟩) ⟨(zR.pre [.ref (ad 0), .int b, .int i] hP hK hN).1, va_recv hK hP (ci := 9) (q0 := 0) rfl (zw_at (by omega) hs1), (zR.pre [.ref (ad 0), .int b, .int i] hP hK hN).2⟩ rfl rfl hl.1 rfl (lv_room (Nat.le_of_ble_eq_true rfl)) dX9_questions_3 ⟨Nat.le_of_ble_eq_true rfl, Nat.le_of_ble_eq_true rfl⟩) (fun r37 hr37 => ?_)
  rcases hr37 with hr37 | hr37
  · skip
    obtain ⟨rfl, h38, h39⟩ := hr37
    replace h38 : 0 ≤ b.toInt ∧ b.toInt ≤ 3 := h38
    replace h39 : 0 ≤ i.toInt ∧ i.toInt ≤ 7 := h39
    refine lv_if_eq (tgt := 26) hx hb dX9_questions_6 (by decide) (fun c40 => ?_) (fun c40 => ?_)
    · skip
      exact absurd c40 (by decide)
    · skip
      refine lv_iload_n hx hb dX9_questions_9 rfl (lv_at hl 3 rfl) ?_
      refine zc_i (va_runS (As := [.int kn]) (rest := []) ⟨hx, hb, hml, hown, hg⟩ (k_X9_isKnown l g ad me ct kn hI) (va_cwS 1 hg (z_gS mm_1294 mm_1295 mm_117 mm_1296) rfl rfl rfl (by decide +kernel) ⟨Nat.le_of_ble_eq_true rfl, Nat.le_of_ble_eq_true rfl⟩) (zR.pre [.int kn] hP hK hN) rfl rfl hl.1 rfl (lv_room (Nat.le_of_ble_eq_true rfl)) dX9_questions_10 ⟨Nat.le_of_ble_eq_true rfl, Nat.le_of_ble_eq_true rfl⟩) (fun r41 hr41 => ?_)
      rcases hr41 with hr41 | hr41
      · skip
        obtain ⟨rfl, h42, h43⟩ := hr41
        replace h42 : 0 ≤ kn.toInt := h42
        replace h43 : kn.toInt ≤ 255 := h43
        refine lv_if_eq (tgt := 26) hx hb dX9_questions_13 (by decide) (fun c44 => ?_) (fun c44 => ?_)
        · skip
          exact absurd c44 (by decide)
        · skip
          refine lv_iload hx hb dX9_questions_16 (lv_at hl 4 rfl) ?_
          refine lv_iconst (v := 0) hx hb dX9_questions_18 (by decide) ?_
          refine lv_iconst (v := 2) hx hb dX9_questions_19 (by decide) ?_
          refine zc_i (va_runS (As := [.int wh, .int 0, .int 2]) (rest := []) ⟨hx, hb, hml, hown, hg⟩ (k_X9_in l g ad me ct wh (0 : Int32) (2 : Int32) hI) (va_cwS 3 hg (z_gS mm_1109 mm_1110 mm_117 mm_1111) rfl rfl rfl (by decide +kernel) ⟨Nat.le_of_ble_eq_true rfl, Nat.le_of_ble_eq_true rfl⟩) (zR.pre [.int wh, .int 0, .int 2] hP hK hN) rfl rfl hl.1 rfl (lv_room (Nat.le_of_ble_eq_true rfl)) dX9_questions_20 ⟨Nat.le_of_ble_eq_true rfl, Nat.le_of_ble_eq_true rfl⟩) (fun r45 hr45 => ?_)
          rcases hr45 with hr45 | hr45
          · skip
            obtain ⟨rfl, h46, h47⟩ := hr45
            replace h46 : (0 : Int) ≤ wh.toInt := h46
            replace h47 : wh.toInt ≤ (2 : Int) := h47
            refine lv_if_ne (tgt := 28) hx hb dX9_questions_23 (by decide) (fun c48 => ?_) (fun c48 => ?_)
            · skip
              refine lv_aload_n hx hb dX9_questions_28 rfl (lv_at hl 0 rfl) ?_
              refine va_get (D := g.1) (ci := 9) (v := .ref (ad 10)) (C := RX9) (T := TX9) (N := 47) hx hb hg inG9 hown hK hP 0 (zw_at (by omega) hs1) rfl 14 (by decide) (hg _ mm_972) (fun _ h9 => h9) rfl dX9_questions_29 ?_
              refine lv_iload_n hx hb dX9_questions_32 rfl (lv_at hl 1 rfl) ?_
              refine lv_iload_n hx hb dX9_questions_33 rfl (lv_at hl 2 rfl) ?_
              refine zc_i (va_runS (As := [.int b, .int i]) (rest := [.ref (ad 10)]) ⟨hx, hb, hml, hown, hg⟩ (k_X9_at l g ad me ct b i (by first | omega | decide) (by first | omega | decide) hI) (va_cwS 2 hg (z_gS mm_1159 mm_1160 mm_117 mm_1161) rfl rfl rfl (by decide +kernel) ⟨Nat.le_of_ble_eq_true rfl, Nat.le_of_ble_eq_true rfl⟩) (zR.pre [.int b, .int i] hP hK hN) rfl rfl hl.1 rfl (lv_room (Nat.le_of_ble_eq_true rfl)) dX9_questions_34 ⟨Nat.le_of_ble_eq_true rfl, Nat.le_of_ble_eq_true rfl⟩) (fun r49 hr49 => ?_)
              have hr49_0 := hr49
              have hr49_0 : r49.toInt = 8 * b.toInt + i.toInt := hr49_0
              obtain ⟨f51, hp52, hs50⟩ := a9_10 hI.1
              refine va_zald hx hb hK hP 10 3 (zw_at (by omega) hs50) rfl (z_in rfl (by omega) (by omega)) dX9_questions_37 ?_
              refine lv_topi (fun y53 ey53 => ?_)
              have hy53 := hp52 _ (z_clt (x := r49) rfl (by omega) (by omega))
              rw [← ey53] at hy53
              have hy53 : y53 = 0 ∨ y53 = 1 := hy53
              have by53 := z_b01 hy53
              refine lv_if_eq (tgt := 44) hx hb dX9_questions_38 (by decide) (fun c54 => ?_) (fun c54 => ?_)
              · skip
                have c54 : y53.toInt = 0 := (z_eq rfl (by decide : (0 : Int32).toInt = 0)).mp c54
                refine lv_aload_n hx hb dX9_questions_44 rfl (lv_at hl 0 rfl) ?_
                refine lv_iload_n hx hb dX9_questions_45 rfl (lv_at hl 1 rfl) ?_
                refine lv_iload_n hx hb dX9_questions_46 rfl (lv_at hl 2 rfl) ?_
                refine zc_i (va_runS (As := [.int b, .int i]) (rest := [.ref (ad 0)]) ⟨hx, hb, hml, hown, hg⟩ (k_X9_at l g ad me ct b i (by first | omega | decide) (by first | omega | decide) hI) (va_cwS 2 hg (z_gS mm_1159 mm_1160 mm_117 mm_1161) rfl rfl rfl (by decide +kernel) ⟨Nat.le_of_ble_eq_true rfl, Nat.le_of_ble_eq_true rfl⟩) (zR.pre [.int b, .int i] hP hK hN) rfl rfl hl.1 rfl (lv_room (Nat.le_of_ble_eq_true rfl)) dX9_questions_47 ⟨Nat.le_of_ble_eq_true rfl, Nat.le_of_ble_eq_true rfl⟩) (fun r55 hr55 => ?_)
                have hr55_0 := hr55
                have hr55_0 : r55.toInt = 8 * b.toInt + i.toInt := hr55_0
                refine lv_iload_n hx hb dX9_questions_50 rfl (lv_at hl 3 rfl) ?_
                have hFc := zw_free hD hS hA
                refine va_calli (va_runV (As := [.int r55, .int kn]) (rest := []) ⟨hx, hb, hml, hown, hg⟩ (k_X9_fitsOf l g _ ad me ct r55 kn (by first | omega | decide) (by first | omega | decide) hI) (cwV 2 hg (z_gV mm_1297 mm_1299 mm_79 mm_117 mm_1300) rfl rfl rfl (by decide +kernel) ⟨Nat.le_of_ble_eq_true rfl, Nat.le_of_ble_eq_true rfl⟩) ⟨(zA.pre [.ref (ad 0), .int r55, .int kn] hP hK hD hN).1, va_recv hK hP (ci := 9) (q0 := 0) rfl (zw_at (by omega) hs1), (zA.pre [.ref (ad 0), .int r55, .int kn] hP hK hD hN).2⟩ rfl rfl hl.1 rfl (lv_room (Nat.le_of_ble_eq_true rfl)) dX9_questions_51 ⟨Nat.le_of_ble_eq_true rfl, Nat.le_of_ble_eq_true rfl⟩) hS (fun q _ h => hFc q h) hFc (fun r56 _ t H1 locs ht hvm hr56 hB hz1 hk1 hS => ?_)
                obtain ⟨ct57, hP1, hD1, hI, hk58, hk59, hk60⟩ := hB
                rw [ht] at hP1
                have hD := hD1.weaken (fun _ _ _ h => hFc _ h)
                generalize H1 = H at hP1 hS ⊢
                have hP := hP1
                refine W.widen (k := 0) (n := 0) (Nat.le_refl _) (Nat.le_refl _) ?_
                have hs61 : ct57 0 = .inr (9, [.int me, .ref (ad 1), .ref (ad 2), .ref (ad 3), .ref (ad 4), .int bks2, .int lks3, .int gos4, .int shn5, .ref (ad 5), .ref (ad 6), .ref (ad 7), .ref (ad 8), .ref (ad 9), .ref (ad 10), .ref (ad 11), .int tpd6, .int pl07, .int ln08, .int flt9, .int opn10, .int cmy11, .int wtg12, .int nm013, .ref (ad 12), .ref (ad 13), .ref (ad 14), .ref (ad 15), .ref (ad 16), .ref (ad 17), .ref (ad 18), .ref (ad 19), .ref (ad 20), .ref (ad 21), .ref (ad 22), .ref (ad 23), .ref (ad 24), .ref (ad 25), .ref (ad 26), .ref (ad 27), .int mst14, .int sus15, .ref (ad 28), .ref (ad 29), .ref (ad 30), .ref (ad 31), .int cut16]) := hk58.trans hs1
                have hs62 : ct57 10 = .inl (g.2 3, 32, .inl f51) := hk60.trans hs50
                obtain ⟨hr56_0, hr56_1, hr56_2⟩ := hr56
                have hr56_0 : 0 ≤ r56.toInt := hr56_0
                have hr56_1 : r56.toInt ≤ 65535 := hr56_1
                have hr56_2 : r56.toInt < ((2 ^ me.toInt.toNat : Nat) : Int) := hr56_2
                refine lv_istore (lv' := [(5, .int r56), (0, .ref (ad 0)), (1, .int b), (2, .int i), (3, .int kn), (4, .int wh)]) hx hb dX9_questions_54 hl (by decide) rfl (fun ls hl => ?_)
                refine lv_iload hx hb dX9_questions_56 (lv_at hl 0 rfl) ?_
                refine lv_if_ne (tgt := 64) hx hb dX9_questions_58 (by decide) (fun c63 => ?_) (fun c63 => ?_)
                · skip
                  have c63 : ¬ (r56.toInt = 0) := fun q => c63 ((z_eq rfl (by decide : (0 : Int32).toInt = 0)).mpr q)
                  refine lv_aload_n hx hb dX9_questions_64 rfl (lv_at hl 1 rfl) ?_
                  refine lv_iload hx hb dX9_questions_65 (lv_at hl 0 rfl) ?_
                  have hFc := zw_free hD hS hA
                  refine va_callv (va_runV (As := [.int r56]) (rest := []) ⟨hx, hb, hml, hown, hg⟩ (k_X9_laysParts l g _ ad me ct57 r56 (by first | omega | decide) hI (by first | assumption | omega | decide) (by first | assumption | omega | decide)) (cwV 1 hg (z_gV mm_1431 mm_1433 mm_99 mm_117 mm_1434) rfl rfl rfl (by decide +kernel) ⟨Nat.le_of_ble_eq_true rfl, Nat.le_of_ble_eq_true rfl⟩) ⟨(zA.pre [.ref (ad 0), .int r56] hP hK hD hN).1, va_recv hK hP (ci := 9) (q0 := 0) rfl (zw_at (by omega) hs61), (zA.pre [.ref (ad 0), .int r56] hP hK hD hN).2⟩ rfl rfl hl.1 rfl (lv_room (Nat.le_of_ble_eq_true rfl)) dX9_questions_67 ⟨Nat.le_of_ble_eq_true rfl, Nat.le_of_ble_eq_true rfl⟩) hS (fun q _ h => hFc q h) hFc (fun _ t H1 locs ht hvm hr64 hB hz1 hk1 hS => ?_)
                  obtain ⟨ct65, hP1, hD1, hI, hk66⟩ := hB
                  rw [ht] at hP1
                  have hD := hD1.weaken (fun _ _ _ h => hFc _ h)
                  generalize H1 = H at hP1 hS ⊢
                  have hP := hP1
                  refine W.widen (k := 0) (n := 0) (Nat.le_refl _) (Nat.le_refl _) ?_
                  refine lv_aload_n hx hb dX9_questions_70 rfl (lv_at hl 1 rfl) ?_
                  obtain ⟨bks68, lks69, gos70, shn71, tpd72, pl073, ln074, flt75, opn76, cmy77, wtg78, nm079, mst80, sus81, cut82, h83, h84, h85, h86, h87, h88, h89, h90, h91, h92, h93, h94, h95, h96, h97, h98, h99, h100, h101, h102, hs67⟩ := a9_0 hI.1
                  have z41_hs67 : zfi 41 (ct65 0) = sus81.toInt := by rw [hs67]; rfl
                  have hFc := zw_free hD hS hA
                  refine va_callv (va_runV (As := []) (rest := []) ⟨hx, hb, hml, hown, hg⟩ (k_X9_laysEnough l g _ ad me ct65  hI (by omega)) (cwV 0 hg (z_gV mm_1435 mm_1437 mm_100 mm_117 mm_1438) rfl rfl rfl (by decide +kernel) ⟨Nat.le_of_ble_eq_true rfl, Nat.le_of_ble_eq_true rfl⟩) ⟨(zA.pre [.ref (ad 0)] hP hK hD hN).1, va_recv hK hP (ci := 9) (q0 := 0) rfl (zw_at (by omega) hs67), (zA.pre [.ref (ad 0)] hP hK hD hN).2⟩ rfl rfl hl.1 rfl (lv_room (Nat.le_of_ble_eq_true rfl)) dX9_questions_71 ⟨Nat.le_of_ble_eq_true rfl, Nat.le_of_ble_eq_true rfl⟩) hS (fun q _ h => hFc q h) hFc (fun _ t H1 locs ht hvm hr103 hB hz1 hk1 hS => ?_)
                  obtain ⟨ct104, hP1, hD1, hI, hk105, hk106, hk107⟩ := hB
                  rw [ht] at hP1
                  have hD := hD1.weaken (fun _ _ _ h => hFc _ h)
                  generalize H1 = H at hP1 hS ⊢
                  have hP := hP1
                  refine W.widen (k := 0) (n := 0) (Nat.le_refl _) (Nat.le_refl _) ?_
                  have hs108 : ct104 0 = .inr (9, [.int me, .ref (ad 1), .ref (ad 2), .ref (ad 3), .ref (ad 4), .int bks68, .int lks69, .int gos70, .int shn71, .ref (ad 5), .ref (ad 6), .ref (ad 7), .ref (ad 8), .ref (ad 9), .ref (ad 10), .ref (ad 11), .int tpd72, .int pl073, .int ln074, .int flt75, .int opn76, .int cmy77, .int wtg78, .int nm079, .ref (ad 12), .ref (ad 13), .ref (ad 14), .ref (ad 15), .ref (ad 16), .ref (ad 17), .ref (ad 18), .ref (ad 19), .ref (ad 20), .ref (ad 21), .ref (ad 22), .ref (ad 23), .ref (ad 24), .ref (ad 25), .ref (ad 26), .ref (ad 27), .int mst80, .int sus81, .ref (ad 28), .ref (ad 29), .ref (ad 30), .ref (ad 31), .int cut82]) := hk106.trans hs67
                  obtain ⟨f110, hs109⟩ := a9_29 hI.1
                  obtain ⟨f112, hs111⟩ := a9_30 hI.1
                  have hz41 : zfi 41 (ct65 0) = sus81.toInt := by first | assumption | (rw [← hk106]; exact z41_hs108)
                  rw [hz41] at hk105
                  refine lv_iconst (v := 1) hx hb dX9_questions_74 (by decide) ?_
                  refine lv_aload_n hx hb dX9_questions_75 rfl (lv_at hl 1 rfl) ?_
                  refine va_get (D := g.1) (ci := 9) (v := .int sus81) (C := RX9) (T := TX9) (N := 47) hx hb hg inG9 hown hK hP 0 (zw_at (by omega) hs108) rfl 41 (by decide) (hg _ mm_999) (fun _ h9 => h9) rfl dX9_questions_76 ?_
                  refine lv_ishl hx hb dX9_questions_79 ?_
                  refine lv_topi (fun x113 ex113 => ?_)
                  have tx113 := z_shl1e (y := sus81) (by omega) (by omega)
                  rw [← ex113] at tx113
                  refine lv_iconst (v := 1) hx hb dX9_questions_80 (by decide) ?_
                  refine lv_isub hx hb dX9_questions_81 ?_
                  refine lv_topi (fun x114 ex114 => ?_)
                  have tx114 : x114.toInt = x113.toInt - 1 := by rw [ex114]; exact z_sub rfl (by decide : (1 : Int32).toInt = 1) (by omega) (by omega)
                  have hzp := zpop_all sus81.toInt.toNat (by omega)
                  rw [← z_nI (x := sus81) (k := sus81.toInt.toNat) (by omega), ← ex113, ← ex114] at hzp
                  refine lv_istore (lv' := [(6, .int x114), (5, .int r56), (0, .ref (ad 0)), (1, .int b), (2, .int i), (3, .int kn), (4, .int wh)]) hx hb dX9_questions_82 hl (by decide) rfl (fun ls hl => ?_)
                  refine lv_aload_n hx hb dX9_questions_84 rfl (lv_at hl 2 rfl) ?_
                  refine va_get (D := g.1) (ci := 9) (v := .ref (ad 30)) (C := RX9) (T := TX9) (N := 47) hx hb hg inG9 hown hK hP 0 (zw_at (by omega) hs108) rfl 44 (by decide) (hg _ mm_1002) (fun _ h9 => h9) rfl dX9_questions_85 ?_
                  refine lv_iload hx hb dX9_questions_88 (lv_at hl 0 rfl) ?_
                  refine va_iald hx hb hK hP 30 0 (zw_at (by omega) hs111) rfl (z_in rfl (by omega) (by omega)) dX9_questions_90 ?_
                  refine lv_topi (fun y115 ey115 => ?_)
                  refine lv_ldcw hx hb hown (hg _ mm_1439) dX9_questions_91 ?_
                  refine lv_icmp_ne (tgt := 100) hx hb dX9_questions_94 (by decide) (fun c116 => ?_) (fun c116 => ?_)
                  · skip
                    have c116 : ¬ (y115.toInt = 1000000000) := fun q => c116 ((z_eq rfl (by decide : (1000000000 : Int32).toInt = 1000000000)).mpr q)
                    refine lv_iload hx hb dX9_questions_100 (lv_at hl 6 rfl) ?_
                    refine lv_if_ne (tgt := 113) hx hb dX9_questions_102 (by decide) (fun c117 => ?_) (fun c117 => ?_)
                    · skip
                      have c117 : ¬ (wh.toInt = 0) := fun q => c117 ((z_eq rfl (by decide : (0 : Int32).toInt = 0)).mpr q)
                      refine lv_aload_n hx hb dX9_questions_113 rfl (lv_at hl 2 rfl) ?_
                      refine va_get (D := g.1) (ci := 9) (v := .int sus81) (C := RX9) (T := TX9) (N := 47) hx hb hg inG9 hown hK hP 0 (zw_at (by omega) hs108) rfl 41 (by decide) (hg _ mm_999) (fun _ h9 => h9) rfl dX9_questions_114 ?_
                      refine lv_iconst (v := 1) hx hb dX9_questions_117 (by decide) ?_
                      refine lv_icmp_ne (tgt := 124) hx hb dX9_questions_118 (by decide) (fun c118 => ?_) (fun c118 => ?_)
                      · skip
                        have c118 : ¬ (sus81.toInt = 1) := fun q => c118 ((z_eq rfl (by decide : (1 : Int32).toInt = 1)).mpr q)
                        have hp2 : 2 ^ 1 ≤ 2 ^ sus81.toInt.toNat := Nat.pow_le_pow_right (by decide) (by omega)
                        have heqq := EQL_use (w := x114) hk105 (by omega) (by omega) (by omega)
                        rw [zar_of hs111, ← hk107, zar_of hs109] at heqq
                        have hqx : EQX f112 f110 x114 ((0 : Int32)).toInt := EQX_start heqq (fun q => by rw [← ey115] at q; have q2 := congrArg Int32.toInt q; omega)
                        refine lv_iconst (v := 0) hx hb dX9_questions_124 (by decide) ?_
                        refine lv_istore (lv' := [(7, .int 0), (6, .int x114), (5, .int r56), (0, .ref (ad 0)), (1, .int b), (2, .int i), (3, .int kn), (4, .int wh)]) hx hb dX9_questions_125 hl (by decide) rfl (fun ls hl => ?_)
                        have loop127 : ∀ (n127 : Nat) (v7_127 : Int32) (ct119 : Nat → va_E) (H : Heap) (locs : List Loc) (ls : Array Slot), ((128 - v7_127.toInt : Int).toNat < n127) → (0 ≤ v7_127.toInt ∧ v7_127.toInt ≤ 127) → (EQX f112 f110 x114 v7_127.toInt) → (ct119 0 = .inr (9, [.int me, .ref (ad 1), .ref (ad 2), .ref (ad 3), .ref (ad 4), .int bks68, .int lks69, .int gos70, .int shn71, .ref (ad 5), .ref (ad 6), .ref (ad 7), .ref (ad 8), .ref (ad 9), .ref (ad 10), .ref (ad 11), .int tpd72, .int pl073, .int ln074, .int flt75, .int opn76, .int cmy77, .int wtg78, .int nm079, .ref (ad 12), .ref (ad 13), .ref (ad 14), .ref (ad 15), .ref (ad 16), .ref (ad 17), .ref (ad 18), .ref (ad 19), .ref (ad 20), .ref (ad 21), .ref (ad 22), .ref (ad 23), .ref (ad 24), .ref (ad 25), .ref (ad 26), .ref (ad 27), .int mst80, .int sus81, .ref (ad 28), .ref (ad 29), .ref (ad 30), .ref (ad 31), .int cut82])) → (ct119 29 = .inl (g.2 0, 128, .inl f110)) → (ct119 30 = .inl (g.2 0, 65536, .inl f112)) → (IR g ad me ct119) → zP g (zw 32 ad ct119) H → va_D A (zw 32 ad ct119) → va_S A s.heap H locs → lv_has ls 8 [(7, .int v7_127), (6, .int x114), (5, .int r56), (0, .ref (ad 0)), (1, .int b), (2, .int i), (3, .int kn), (4, .int wh)] → W p l e (headSpec (zW yX9_questions cX9_questions 8 (some .int)) ({ frames := 5, cells := 0, slots := 0, locals := 125 })).room s m ([.ref (ad 0), .int b, .int i, .int kn, .int wh] : List Value).toArray below meth c H locs 0 0 (MQ below (va_Qi (fun (r : Int32) (_ : Unit) => (True)) (fun _ t => ∃ ct2 : Nat → va_E, zP g (zw 32 ad ct2) t.heap ∧ va_D A (zw 32 ad ct2) ∧ IR g ad me ct2) A) ([.ref (ad 0), .int b, .int i, .int kn, .int wh] : List Value).toArray s 0 0 A) (F0 m 127 ls []) := by
                          intro n127
                          induction n127 with
                          | zero =>
                            intro v7_127 ct119 H locs ls hn127 b7_127 j0_127 kp0_127 kp29_127 kp30_127 hI hP hD hS hl
                            exact absurd hn127 (Nat.not_lt_zero _)
                          | succ n127 ih127 =>
                            intro v7_127 ct119 H locs ls hn127 b7_127 j0_127 kp0_127 kp29_127 kp30_127 hI hP hD hS hl
                            have z41_kp0_127 : zfi 41 (ct119 0) = (sus81 : Int32).toInt := by rw [kp0_127]; rfl
                            have hqlt := EQX_lt j0_127
                            refine lv_aload_n hx hb dX9_questions_127 rfl (lv_at hl 3 rfl) ?_
                            refine lv_iload hx hb dX9_questions_128 (lv_at hl 1 rfl) ?_
                            refine lv_iload hx hb dX9_questions_130 (lv_at hl 0 rfl) ?_
                            refine zc_i (va_runV (As := [.int x114, .int v7_127]) (rest := []) ⟨hx, hb, hml, hown, hg⟩ (k_X9_enoughBy l g ad me ct119 x114 v7_127 (by first | omega | decide) (by first | omega | decide) hI) (cwV 2 hg (z_gV mm_1440 mm_1442 mm_101 mm_117 mm_1443) rfl rfl rfl (by decide +kernel) ⟨Nat.le_of_ble_eq_true rfl, Nat.le_of_ble_eq_true rfl⟩) ⟨(zR.pre [.ref (ad 0), .int x114, .int v7_127] hP hK hN).1, va_recv hK hP (ci := 9) (q0 := 0) rfl (zw_at (by omega) kp0_127), (zR.pre [.ref (ad 0), .int x114, .int v7_127] hP hK hN).2⟩ rfl rfl hl.1 rfl (lv_room (Nat.le_of_ble_eq_true rfl)) dX9_questions_132 ⟨Nat.le_of_ble_eq_true rfl, Nat.le_of_ble_eq_true rfl⟩) (fun r120 hr120 => ?_)
                            have hr120_0 := hr120
                            have hr120_0 : r120 = zeb (zar (ct119 30)) (zar (ct119 29)) x114 v7_127.toInt := hr120_0
                            refine lv_aload_n hx hb dX9_questions_135 rfl (lv_at hl 3 rfl) ?_
                            refine va_get (D := g.1) (ci := 9) (v := .ref (ad 30)) (C := RX9) (T := TX9) (N := 47) hx hb hg inG9 hown hK hP 0 (zw_at (by omega) kp0_127) rfl 44 (by decide) (hg _ mm_1002) (fun _ h9 => h9) rfl dX9_questions_136 ?_
                            refine lv_iload hx hb dX9_questions_139 (lv_at hl 1 rfl) ?_
                            refine va_iald hx hb hK hP 30 0 (zw_at (by omega) kp30_127) rfl (z_in rfl (by omega) (by omega)) dX9_questions_141 ?_
                            refine lv_topi (fun y121 ey121 => ?_)
                            obtain rfl : y115 = y121 := ey115.trans ey121.symm
                            refine lv_icmp_eq (tgt := 154) hx hb dX9_questions_142 (by decide) (fun c122 => ?_) (fun c122 => ?_)
                            · skip
                              have c122 : r120.toInt = y115.toInt := (z_eq rfl rfl).mp c122
                              refine lv_iload hx hb dX9_questions_154 (lv_at hl 7 rfl) ?_
                              refine lv_iconst (v := 1) hx hb dX9_questions_156 (by decide) ?_
                              refine lv_icmp_ne (tgt := 168) hx hb dX9_questions_157 (by decide) (fun c123 => ?_) (fun c123 => ?_)
                              · skip
                                have c123 : ¬ (wh.toInt = 1) := fun q => c123 ((z_eq rfl (by decide : (1 : Int32).toInt = 1)).mpr q)
                                refine lv_iload hx hb dX9_questions_168 (lv_at hl 0 rfl) ?_
                                refine lv_bipush (v := 32) hx hb dX9_questions_170 (by decide) ?_
                                refine lv_irem hx hb dX9_questions_172 (by decide) ?_
                                refine lv_topi (fun x124 ex124 => ?_)
                                have tx124 := z_rem (x := v7_127) (y := 32) rfl (by decide : (32 : Int32).toInt = 32) (by omega) (by omega)
                                rw [← ex124] at tx124
                                exact W.iret (v := x124) hx hb hr (fun t ht hW => ⟨⟨x124, (), rfl, trivial, ct119, by rw [ht]; exact hP, hD, hI⟩, hS.F ht⟩) hS.2.2 dX9_questions_173
                              · skip
                                have c123 : wh.toInt = 1 := (z_eq rfl (by decide : (1 : Int32).toInt = 1)).mp c123
                                refine lv_iload hx hb dX9_questions_160 (lv_at hl 0 rfl) ?_
                                refine lv_bipush (v := 32) hx hb dX9_questions_162 (by decide) ?_
                                refine lv_idiv hx hb dX9_questions_164 (by decide) ?_
                                refine lv_topi (fun x125 ex125 => ?_)
                                have tx125 := z_div (x := v7_127) (y := 32) rfl (by decide : (32 : Int32).toInt = 32) (by omega) (by omega)
                                rw [← ex125] at tx125
                                refine lv_goto (tgt := 173) hx hb dX9_questions_165 (by decide) ?_
                                exact W.iret (v := x125) hx hb hr (fun t ht hW => ⟨⟨x125, (), rfl, trivial, ct119, by rw [ht]; exact hP, hD, hI⟩, hS.F ht⟩) hS.2.2 dX9_questions_173
                            · skip
                              have c122 : ¬ (r120.toInt = y115.toInt) := fun q => c122 ((z_eq rfl rfl).mpr q)
                              have hqn := EQX_next j0_127 (fun q => by
                                have q3 := hr120_0
                                rw [zar_of kp30_127, zar_of kp29_127, q, ← ey115] at q3
                                have q2 := congrArg Int32.toInt q3
                                omega)
                              have hqlt2 := EQX_lt hqn
                              refine lv_iload hx hb dX9_questions_145 (lv_at hl 0 rfl) ?_
                              refine lv_iconst (v := 1) hx hb dX9_questions_147 (by decide) ?_
                              refine lv_iadd hx hb dX9_questions_148 ?_
                              refine lv_topi (fun x126 ex126 => ?_)
                              have tx126 : x126.toInt = v7_127.toInt + 1 := by rw [ex126]; exact z_add rfl (by decide : (1 : Int32).toInt = 1) (by omega) (by omega)
                              refine lv_istore (lv' := [(7, .int x126), (6, .int x114), (5, .int r56), (0, .ref (ad 0)), (1, .int b), (2, .int i), (3, .int kn), (4, .int wh)]) hx hb dX9_questions_149 hl (by decide) rfl (fun ls hl => ?_)
                              rw [← tx126] at hqn
                              refine lv_goto (tgt := 127) hx hb dX9_questions_151 (by decide) ?_
                              exact ih127 x126 ct119 _ _ ls (by omega) (by first | assumption | omega | decide) (by first | assumption | omega | decide) kp0_127 kp29_127 kp30_127 hI hP hD hS (lv_sub hl [0, 1, 2, 3, 4, 5, 6, 7] rfl)
                        exact loop127 ((128 - (0 : Int32).toInt : Int).toNat + 1) (0 : Int32) ct104 _ _ ls (by omega) (by first | assumption | omega | decide) (by first | assumption | omega | decide) hs108 hs109 hs111 hI hP hD hS (lv_sub hl [0, 1, 2, 3, 4, 5, 6, 7] rfl)
                      · skip
                        have c118 : sus81.toInt = 1 := (z_eq rfl (by decide : (1 : Int32).toInt = 1)).mp c118
                        refine lv_bipush (v := (-3)) hx hb dX9_questions_121 (by decide) ?_
                        have q127 : ((-3) : Int32).toInt = -3 := by decide
                        exact W.iret (v := (-3)) hx hb hr (fun t ht hW => ⟨⟨(-3), (), rfl, trivial, ct104, by rw [ht]; exact hP, hD, hI⟩, hS.F ht⟩) hS.2.2 dX9_questions_123
                    · skip
                      have c117 : wh.toInt = 0 := (z_eq rfl (by decide : (0 : Int32).toInt = 0)).mp c117
                      refine lv_aload_n hx hb dX9_questions_105 rfl (lv_at hl 2 rfl) ?_
                      refine va_get (D := g.1) (ci := 9) (v := .ref (ad 30)) (C := RX9) (T := TX9) (N := 47) hx hb hg inG9 hown hK hP 0 (zw_at (by omega) hs108) rfl 44 (by decide) (hg _ mm_1002) (fun _ h9 => h9) rfl dX9_questions_106 ?_
                      refine lv_iload hx hb dX9_questions_109 (lv_at hl 0 rfl) ?_
                      refine va_iald hx hb hK hP 30 0 (zw_at (by omega) hs111) rfl (z_in rfl (by omega) (by omega)) dX9_questions_111 ?_
                      refine lv_topi (fun y128 ey128 => ?_)
                      obtain rfl : y115 = y128 := ey115.trans ey128.symm
                      exact W.iret (v := y115) hx hb hr (fun t ht hW => ⟨⟨y115, (), rfl, trivial, ct104, by rw [ht]; exact hP, hD, hI⟩, hS.F ht⟩) hS.2.2 dX9_questions_112
                  · skip
                    have c116 : y115.toInt = 1000000000 := (z_eq rfl (by decide : (1000000000 : Int32).toInt = 1000000000)).mp c116
                    refine lv_bipush (v := (-2)) hx hb dX9_questions_97 (by decide) ?_
                    have q129 : ((-2) : Int32).toInt = -2 := by decide
                    exact W.iret (v := (-2)) hx hb hr (fun t ht hW => ⟨⟨(-2), (), rfl, trivial, ct104, by rw [ht]; exact hP, hD, hI⟩, hS.F ht⟩) hS.2.2 dX9_questions_99
                · skip
                  have c63 : r56.toInt = 0 := (z_eq rfl (by decide : (0 : Int32).toInt = 0)).mp c63
                  refine lv_bipush (v := (-2)) hx hb dX9_questions_61 (by decide) ?_
                  have q130 : ((-2) : Int32).toInt = -2 := by decide
                  exact W.iret (v := (-2)) hx hb hr (fun t ht hW => ⟨⟨(-2), (), rfl, trivial, ct57, by rw [ht]; exact hP, hD, hI⟩, hS.F ht⟩) hS.2.2 dX9_questions_63
              · skip
                have c54 : ¬ (y53.toInt = 0) := fun q => c54 ((z_eq rfl (by decide : (0 : Int32).toInt = 0)).mpr q)
                refine lv_bipush (v := (-2)) hx hb dX9_questions_41 (by decide) ?_
                have q131 : ((-2) : Int32).toInt = -2 := by decide
                exact W.iret (v := (-2)) hx hb hr (fun t ht hW => ⟨⟨(-2), (), rfl, trivial, ct, by rw [ht]; exact hP, hD, hI⟩, hS.F ht⟩) hS.2.2 dX9_questions_43
            · skip
              exact absurd c48 (by decide)
          · skip
            obtain ⟨rfl, h132⟩ := hr45
            replace h132 : ¬ ((0 : Int) ≤ wh.toInt ∧ wh.toInt ≤ (2 : Int)) := h132
            refine lv_if_ne (tgt := 28) hx hb dX9_questions_23 (by decide) (fun c133 => ?_) (fun c133 => ?_)
            · skip
              exact absurd c133 (by decide)
            · skip
              refine lv_iconst (v := (-1)) hx hb dX9_questions_26 (by decide) ?_
              have q134 : ((-1) : Int32).toInt = -1 := by decide
              exact W.iret (v := (-1)) hx hb hr (fun t ht hW => ⟨⟨(-1), (), rfl, trivial, ct, by rw [ht]; exact hP, hD, hI⟩, hS.F ht⟩) hS.2.2 dX9_questions_27
      · skip
        obtain ⟨rfl, h135⟩ := hr41
        replace h135 : ¬ (0 ≤ kn.toInt ∧ kn.toInt ≤ 255) := h135
        refine lv_if_eq (tgt := 26) hx hb dX9_questions_13 (by decide) (fun c136 => ?_) (fun c136 => ?_)
        · skip
          refine lv_iconst (v := (-1)) hx hb dX9_questions_26 (by decide) ?_
          have q137 : ((-1) : Int32).toInt = -1 := by decide
          exact W.iret (v := (-1)) hx hb hr (fun t ht hW => ⟨⟨(-1), (), rfl, trivial, ct, by rw [ht]; exact hP, hD, hI⟩, hS.F ht⟩) hS.2.2 dX9_questions_27
        · skip
          exact absurd c136 (by decide)
  · skip
    obtain rfl := hr37
    refine lv_if_eq (tgt := 26) hx hb dX9_questions_6 (by decide) (fun c138 => ?_) (fun c138 => ?_)
    · skip
      refine lv_iconst (v := (-1)) hx hb dX9_questions_26 (by decide) ?_
      have q139 : ((-1) : Int32).toInt = -1 := by decide
      exact W.iret (v := (-1)) hx hb hr (fun t ht hW => ⟨⟨(-1), (), rfl, trivial, ct, by rw [ht]; exact hP, hD, hI⟩, hS.F ht⟩) hS.2.2 dX9_questions_27
    · skip
      exact absurd c138 (by decide)

set_option maxHeartbeats 4000000 in
set_option maxRecDepth 100000 in
theorem k_X9_fitsBlurred (l : Launch) (g : zG) (ad : Nat → Nat) (me : Int32) (ct : Nat → va_E) (hI : IR g ad me ct) : Met l yX9_fitsBlurred (zW yX9_fitsBlurred cX9_fitsBlurred 5 (some .int)) ({ frames := 1, cells := 0, slots := 0, locals := 24 }) (va_Pc [.ref (ad 0)] (zR g (zw 32 ad ct))) (vp_Si (fun r : Int32 => (True))) 0 0 (fun _ => False) := by
  refine Met.ofW (cc := cX9_fitsBlurred) (maxL := 5) (ret := (some .int)) (by decide) rfl ?_
  intro p e s m args below meth c s₁ B hml hv
  obtain ⟨rfl, hP, hK, hN⟩ := hv
  have hx := B.exec
  have hb := B.bytes
  have hr := B.returns
  have hg := zW.law (atoms_spec (ws := (zW yX9_fitsBlurred cX9_fitsBlurred 5 (some .int))) B.pre)
  have hown : s.vm.findClass RX9 = some m.cls := findClass_of_methodNamed B.named
  have hlocks := B.notSynchronized
  have hpe0 := hI.1.1
  have hl := lv_entry ([.ref (ad 0)]) (n := 5) (Nat.le_of_ble_eq_true rfl)
  rw [lg_entry_eq]
  generalize (lg_sl ([.ref (ad 0)]) ++ List.replicate (5 - (lg_sl ([.ref (ad 0)])).length) Slot.unset).toArray = ls at hl ⊢
  have hl : lv_has ls 5 [(0, .ref (ad 0))] := hl
  refine lv_iconst (v := 0) hx hb dX9_fitsBlurred_0 (by decide) ?_
  refine lv_istore_n (lv' := [(1, .int 0), (0, .ref (ad 0))]) hx hb dX9_fitsBlurred_1 rfl hl (by decide) rfl (fun ls hl => ?_)
  refine lv_iconst (v := 0) hx hb dX9_fitsBlurred_2 (by decide) ?_
  refine lv_istore_n (lv' := [(2, .int 0), (1, .int 0), (0, .ref (ad 0))]) hx hb dX9_fitsBlurred_3 rfl hl (by decide) rfl (fun ls hl => ?_)
  have loop4 : ∀ (n4 : Nat) (v2_4 : Int32) (v1_4 : Int32) (ls : Array Slot), ((16 - v2_4.toInt : Int).toNat < n4) → (0 ≤ v2_4.toInt ∧ v2_4.toInt ≤ 16) → (0 ≤ v1_4.toInt ∧ v1_4.toInt ≤ 16) → (v1_4.toInt ≤ v2_4.toInt) → lv_has ls 5 [(2, .int v2_4), (1, .int v1_4), (0, .ref (ad 0))] → W p l e (headSpec (zW yX9_fitsBlurred cX9_fitsBlurred 5 (some .int)) ({ frames := 1, cells := 0, slots := 0, locals := 24 })).room s m ([.ref (ad 0)] : List Value).toArray below meth c s.heap [] 0 0 (MQ below (vp_Si (fun r : Int32 => (True))) ([.ref (ad 0)] : List Value).toArray s 0 0 (fun _ => False)) (F0 m 4 ls []) := by
    intro n4
    induction n4 with
    | zero =>
      intro v2_4 v1_4 ls hn4 b2_4 b1_4 j0_4 hl
      exact absurd hn4 (Nat.not_lt_zero _)
    | succ n4 ih4 =>
      intro v2_4 v1_4 ls hn4 b2_4 b1_4 j0_4 hl
      refine lv_iload_n hx hb dX9_fitsBlurred_4 rfl (lv_at hl 0 rfl) ?_
      refine lv_aload_n hx hb dX9_fitsBlurred_5 rfl (lv_at hl 2 rfl) ?_
      obtain ⟨bks2, lks3, gos4, shn5, tpd6, pl07, ln08, flt9, opn10, cmy11, wtg12, nm013, mst14, sus15, cut16, h17, h18, h19, h20, h21, h22, h23, h24, h25, h26, h27, h28, h29, h30, h31, h32, h33, h34, h35, h36, hs1⟩ := a9_0 hI.1
      refine va_get (D := g.1) (ci := 9) (v := .int me) (C := RX9) (T := TX9) (N := 47) hx hb hg inG9 hown hK hP 0 (zw_at (by omega) hs1) rfl 0 (by decide) (hg _ mm_958) (fun _ h9 => h9) rfl dX9_fitsBlurred_6 ?_
      refine lv_icmp_ge (tgt := 84) hx hb dX9_fitsBlurred_9 (by decide) (fun c37 => ?_) (fun c37 => ?_)
      · skip
        have c37 : me.toInt ≤ v2_4.toInt := (z_le rfl rfl).mp c37
        refine lv_iload_n hx hb dX9_fitsBlurred_84 rfl (lv_at hl 1 rfl) ?_
        exact W.iret (v := v1_4) hx hb hr (fun t ht hW => ⟨v1_4, rfl, trivial, ht⟩) (fun q hq => by cases hq) dX9_fitsBlurred_85
      · skip
        have c37 : ¬ (me.toInt ≤ v2_4.toInt) := fun q => c37 ((z_le rfl rfl).mpr q)
        refine lv_iconst (v := 1) hx hb dX9_fitsBlurred_12 (by decide) ?_
        refine lv_istore_n (lv' := [(3, .int 1), (2, .int v2_4), (1, .int v1_4), (0, .ref (ad 0))]) hx hb dX9_fitsBlurred_13 rfl hl (by decide) rfl (fun ls hl => ?_)
        refine lv_iconst (v := 0) hx hb dX9_fitsBlurred_14 (by decide) ?_
        refine lv_istore (lv' := [(4, .int 0), (3, .int 1), (2, .int v2_4), (1, .int v1_4), (0, .ref (ad 0))]) hx hb dX9_fitsBlurred_15 hl (by decide) rfl (fun ls hl => ?_)
        have loop17 : ∀ (n17 : Nat) (v4_17 : Int32) (v3_17 : Int32) (ls : Array Slot), ((4 - v4_17.toInt : Int).toNat < n17) → (0 ≤ v4_17.toInt ∧ v4_17.toInt ≤ 4) → (0 ≤ v3_17.toInt ∧ v3_17.toInt ≤ 1) → lv_has ls 5 [(4, .int v4_17), (3, .int v3_17), (2, .int v2_4), (1, .int v1_4), (0, .ref (ad 0))] → W p l e (headSpec (zW yX9_fitsBlurred cX9_fitsBlurred 5 (some .int)) ({ frames := 1, cells := 0, slots := 0, locals := 24 })).room s m ([.ref (ad 0)] : List Value).toArray below meth c s.heap [] 0 0 (MQ below (vp_Si (fun r : Int32 => (True))) ([.ref (ad 0)] : List Value).toArray s 0 0 (fun _ => False)) (F0 m 17 ls []) := by
          intro n17
          induction n17 with
          | zero =>
            intro v4_17 v3_17 ls hn17 b4_17 b3_17 hl
            exact absurd hn17 (Nat.not_lt_zero _)
          | succ n17 ih17 =>
            intro v4_17 v3_17 ls hn17 b4_17 b3_17 hl
            refine lv_iload hx hb dX9_fitsBlurred_17 (lv_at hl 0 rfl) ?_
            refine lv_iconst (v := 4) hx hb dX9_fitsBlurred_19 (by decide) ?_
            refine lv_icmp_ge (tgt := 66) hx hb dX9_fitsBlurred_20 (by decide) (fun c38 => ?_) (fun c38 => ?_)
            · skip
              have c38 : 4 ≤ v4_17.toInt := (z_le (by decide : (4 : Int32).toInt = 4) rfl).mp c38
              refine lv_iload_n hx hb dX9_fitsBlurred_66 rfl (lv_at hl 3 rfl) ?_
              refine lv_iload_n hx hb dX9_fitsBlurred_67 rfl (lv_at hl 1 rfl) ?_
              refine lv_if_eq (tgt := 75) hx hb dX9_fitsBlurred_68 (by decide) (fun c39 => ?_) (fun c39 => ?_)
              · skip
                have c39 : v3_17.toInt = 0 := (z_eq rfl (by decide : (0 : Int32).toInt = 0)).mp c39
                refine lv_iconst (v := 0) hx hb dX9_fitsBlurred_75 (by decide) ?_
                refine lv_iadd hx hb dX9_fitsBlurred_76 ?_
                refine lv_topi (fun x40 ex40 => ?_)
                have tx40 : x40.toInt = v1_4.toInt + 0 := by rw [ex40]; exact z_add rfl (by decide : (0 : Int32).toInt = 0) (by omega) (by omega)
                refine lv_istore_n (lv' := [(1, .int x40), (4, .int v4_17), (3, .int v3_17), (2, .int v2_4), (0, .ref (ad 0))]) hx hb dX9_fitsBlurred_77 rfl hl (by decide) rfl (fun ls hl => ?_)
                obtain ⟨x41, ex41⟩ : ∃ y : Int32, y = v2_4 + 1 := ⟨_, rfl⟩
                have tx41 : x41.toInt = v2_4.toInt + 1 := by rw [ex41]; exact z_add rfl (by decide : (1 : Int32).toInt = 1) (by omega) (by omega)
                refine lv_iinc (v := x41) (lv' := [(2, .int x41), (1, .int x40), (4, .int v4_17), (3, .int v3_17), (0, .ref (ad 0))]) hx hb dX9_fitsBlurred_78 hl (k := 3) rfl (by rw [ex41]; rfl) (by decide) rfl (fun ls hl => ?_)
                refine lv_goto (tgt := 4) hx hb dX9_fitsBlurred_81 (by decide) ?_
                exact ih4 x41 x40 ls (by omega) (by first | assumption | omega | decide) (by first | assumption | omega | decide) (by first | assumption | omega | decide) (lv_sub hl [0, 1, 4] rfl)
              · skip
                have c39 : ¬ (v3_17.toInt = 0) := fun q => c39 ((z_eq rfl (by decide : (0 : Int32).toInt = 0)).mpr q)
                refine lv_iconst (v := 1) hx hb dX9_fitsBlurred_71 (by decide) ?_
                refine lv_goto (tgt := 76) hx hb dX9_fitsBlurred_72 (by decide) ?_
                refine lv_iadd hx hb dX9_fitsBlurred_76 ?_
                refine lv_topi (fun x42 ex42 => ?_)
                have tx42 : x42.toInt = v1_4.toInt + 1 := by rw [ex42]; exact z_add rfl (by decide : (1 : Int32).toInt = 1) (by omega) (by omega)
                refine lv_istore_n (lv' := [(1, .int x42), (4, .int v4_17), (3, .int v3_17), (2, .int v2_4), (0, .ref (ad 0))]) hx hb dX9_fitsBlurred_77 rfl hl (by decide) rfl (fun ls hl => ?_)
                obtain ⟨x43, ex43⟩ : ∃ y : Int32, y = v2_4 + 1 := ⟨_, rfl⟩
                have tx43 : x43.toInt = v2_4.toInt + 1 := by rw [ex43]; exact z_add rfl (by decide : (1 : Int32).toInt = 1) (by omega) (by omega)
                refine lv_iinc (v := x43) (lv' := [(2, .int x43), (1, .int x42), (4, .int v4_17), (3, .int v3_17), (0, .ref (ad 0))]) hx hb dX9_fitsBlurred_78 hl (k := 3) rfl (by rw [ex43]; rfl) (by decide) rfl (fun ls hl => ?_)
                refine lv_goto (tgt := 4) hx hb dX9_fitsBlurred_81 (by decide) ?_
                exact ih4 x43 x42 ls (by omega) (by first | assumption | omega | decide) (by first | assumption | omega | decide) (by first | assumption | omega | decide) (lv_sub hl [0, 1, 4] rfl)
            · skip
              have c38 : ¬ (4 ≤ v4_17.toInt) := fun q => c38 ((z_le (by decide : (4 : Int32).toInt = 4) rfl).mpr q)
              refine lv_iload_n hx hb dX9_fitsBlurred_23 rfl (lv_at hl 1 rfl) ?_
              refine lv_if_eq (tgt := 58) hx hb dX9_fitsBlurred_24 (by decide) (fun c44 => ?_) (fun c44 => ?_)
              · skip
                have c44 : v3_17.toInt = 0 := (z_eq rfl (by decide : (0 : Int32).toInt = 0)).mp c44
                refine lv_iconst (v := 0) hx hb dX9_fitsBlurred_58 (by decide) ?_
                refine lv_istore_n (lv' := [(3, .int 0), (4, .int v4_17), (2, .int v2_4), (1, .int v1_4), (0, .ref (ad 0))]) hx hb dX9_fitsBlurred_59 rfl hl (by decide) rfl (fun ls hl => ?_)
                obtain ⟨x45, ex45⟩ : ∃ y : Int32, y = v4_17 + 1 := ⟨_, rfl⟩
                have tx45 : x45.toInt = v4_17.toInt + 1 := by rw [ex45]; exact z_add rfl (by decide : (1 : Int32).toInt = 1) (by omega) (by omega)
                refine lv_iinc (v := x45) (lv' := [(4, .int x45), (3, .int 0), (2, .int v2_4), (1, .int v1_4), (0, .ref (ad 0))]) hx hb dX9_fitsBlurred_60 hl (k := 1) rfl (by rw [ex45]; rfl) (by decide) rfl (fun ls hl => ?_)
                refine lv_goto (tgt := 17) hx hb dX9_fitsBlurred_63 (by decide) ?_
                exact ih17 x45 (0 : Int32) ls (by omega) (by first | assumption | omega | decide) (by first | assumption | omega | decide) (lv_sub hl [0, 1, 2, 3, 4] rfl)
              · skip
                have c44 : ¬ (v3_17.toInt = 0) := fun q => c44 ((z_eq rfl (by decide : (0 : Int32).toInt = 0)).mpr q)
                refine lv_aload_n hx hb dX9_fitsBlurred_27 rfl (lv_at hl 4 rfl) ?_
                refine lv_iload hx hb dX9_fitsBlurred_28 (lv_at hl 0 rfl) ?_
                refine lv_aload_n hx hb dX9_fitsBlurred_30 rfl (lv_at hl 4 rfl) ?_
                refine va_get (D := g.1) (ci := 9) (v := .ref (ad 3)) (C := RX9) (T := TX9) (N := 47) hx hb hg inG9 hown hK hP 0 (zw_at (by omega) hs1) rfl 3 (by decide) (hg _ mm_961) (fun _ h9 => h9) rfl dX9_fitsBlurred_31 ?_
                refine lv_iconst (v := 4) hx hb dX9_fitsBlurred_34 (by decide) ?_
                refine lv_iload_n hx hb dX9_fitsBlurred_35 rfl (lv_at hl 2 rfl) ?_
                refine lv_imul hx hb dX9_fitsBlurred_36 ?_
                refine lv_topi (fun x46 ex46 => ?_)
                have tx46 : x46.toInt = 4 * v2_4.toInt := by rw [ex46]; exact z_mul (by decide : (4 : Int32).toInt = 4) rfl (by omega) (by omega)
                refine lv_iload hx hb dX9_fitsBlurred_37 (lv_at hl 0 rfl) ?_
                refine lv_iadd hx hb dX9_fitsBlurred_39 ?_
                refine lv_topi (fun x47 ex47 => ?_)
                have tx47 : x47.toInt = x46.toInt + v4_17.toInt := by rw [ex47]; exact z_add rfl rfl (by omega) (by omega)
                obtain ⟨f49, hp50, hs48⟩ := a9_3 hI.1
                refine va_iald hx hb hK hP 3 0 (zw_at (by omega) hs48) rfl (z_in rfl (by omega) (by omega)) dX9_fitsBlurred_40 ?_
                refine lv_topi (fun y51 ey51 => ?_)
                have hy51 := hp50 _ (z_clt (x := x47) rfl (by omega) (by omega))
                rw [← ey51] at hy51
                have hy51 : 0 ≤ y51.toInt ∧ y51.toInt ≤ 15 := hy51
                refine lv_aload_n hx hb dX9_fitsBlurred_41 rfl (lv_at hl 4 rfl) ?_
                refine va_get (D := g.1) (ci := 9) (v := .ref (ad 31)) (C := RX9) (T := TX9) (N := 47) hx hb hg inG9 hown hK hP 0 (zw_at (by omega) hs1) rfl 45 (by decide) (hg _ mm_1003) (fun _ h9 => h9) rfl dX9_fitsBlurred_42 ?_
                refine lv_iload hx hb dX9_fitsBlurred_45 (lv_at hl 0 rfl) ?_
                obtain ⟨f53, hp54, hs52⟩ := a9_31 hI.1
                refine va_iald hx hb hK hP 31 0 (zw_at (by omega) hs52) rfl (z_in rfl (by omega) (by omega)) dX9_fitsBlurred_47 ?_
                refine lv_topi (fun y55 ey55 => ?_)
                have hy55 := hp54 _ (z_clt (x := v4_17) rfl (by omega) (by omega))
                rw [← ey55] at hy55
                have hy55 : 0 ≤ y55.toInt ∧ y55.toInt ≤ 32 := hy55
                refine zc_i (va_runV (As := [.int v4_17, .int y51, .int y55]) (rest := []) ⟨hx, hb, hml, hown, hg⟩ (k_X9_isBelow l g ad me ct v4_17 y51 y55 (by first | omega | decide) (by first | omega | decide) hI) (cwV 3 hg (z_gV mm_1144 mm_1146 mm_54 mm_117 mm_1147) rfl rfl rfl (by decide +kernel) ⟨Nat.le_of_ble_eq_true rfl, Nat.le_of_ble_eq_true rfl⟩) ⟨(zR.pre [.ref (ad 0), .int v4_17, .int y51, .int y55] hP hK hN).1, va_recv hK hP (ci := 9) (q0 := 0) rfl (zw_at (by omega) hs1), (zR.pre [.ref (ad 0), .int v4_17, .int y51, .int y55] hP hK hN).2⟩ rfl rfl hl.1 rfl (lv_room (Nat.le_of_ble_eq_true rfl)) dX9_fitsBlurred_48 ⟨Nat.le_of_ble_eq_true rfl, Nat.le_of_ble_eq_true rfl⟩) (fun r56 hr56 => ?_)
                rcases hr56 with hr56 | hr56
                · skip
                  obtain rfl := hr56
                  refine lv_if_eq (tgt := 58) hx hb dX9_fitsBlurred_51 (by decide) (fun c57 => ?_) (fun c57 => ?_)
                  · skip
                    exact absurd c57 (by decide)
                  · skip
                    refine lv_iconst (v := 1) hx hb dX9_fitsBlurred_54 (by decide) ?_
                    refine lv_goto (tgt := 59) hx hb dX9_fitsBlurred_55 (by decide) ?_
                    refine lv_istore_n (lv' := [(3, .int 1), (4, .int v4_17), (2, .int v2_4), (1, .int v1_4), (0, .ref (ad 0))]) hx hb dX9_fitsBlurred_59 rfl hl (by decide) rfl (fun ls hl => ?_)
                    obtain ⟨x58, ex58⟩ : ∃ y : Int32, y = v4_17 + 1 := ⟨_, rfl⟩
                    have tx58 : x58.toInt = v4_17.toInt + 1 := by rw [ex58]; exact z_add rfl (by decide : (1 : Int32).toInt = 1) (by omega) (by omega)
                    refine lv_iinc (v := x58) (lv' := [(4, .int x58), (3, .int 1), (2, .int v2_4), (1, .int v1_4), (0, .ref (ad 0))]) hx hb dX9_fitsBlurred_60 hl (k := 1) rfl (by rw [ex58]; rfl) (by decide) rfl (fun ls hl => ?_)
                    refine lv_goto (tgt := 17) hx hb dX9_fitsBlurred_63 (by decide) ?_
                    exact ih17 x58 (1 : Int32) ls (by omega) (by first | assumption | omega | decide) (by first | assumption | omega | decide) (lv_sub hl [0, 1, 2, 3, 4] rfl)
                · skip
                  obtain rfl := hr56
                  refine lv_if_eq (tgt := 58) hx hb dX9_fitsBlurred_51 (by decide) (fun c59 => ?_) (fun c59 => ?_)
                  · skip
                    refine lv_iconst (v := 0) hx hb dX9_fitsBlurred_58 (by decide) ?_
                    refine lv_istore_n (lv' := [(3, .int 0), (4, .int v4_17), (2, .int v2_4), (1, .int v1_4), (0, .ref (ad 0))]) hx hb dX9_fitsBlurred_59 rfl hl (by decide) rfl (fun ls hl => ?_)
                    obtain ⟨x60, ex60⟩ : ∃ y : Int32, y = v4_17 + 1 := ⟨_, rfl⟩
                    have tx60 : x60.toInt = v4_17.toInt + 1 := by rw [ex60]; exact z_add rfl (by decide : (1 : Int32).toInt = 1) (by omega) (by omega)
                    refine lv_iinc (v := x60) (lv' := [(4, .int x60), (3, .int 0), (2, .int v2_4), (1, .int v1_4), (0, .ref (ad 0))]) hx hb dX9_fitsBlurred_60 hl (k := 1) rfl (by rw [ex60]; rfl) (by decide) rfl (fun ls hl => ?_)
                    refine lv_goto (tgt := 17) hx hb dX9_fitsBlurred_63 (by decide) ?_
                    exact ih17 x60 (0 : Int32) ls (by omega) (by first | assumption | omega | decide) (by first | assumption | omega | decide) (lv_sub hl [0, 1, 2, 3, 4] rfl)
                  · skip
                    exact absurd c59 (by decide)
        exact loop17 ((4 - (0 : Int32).toInt : Int).toNat + 1) (0 : Int32) (1 : Int32) ls (by omega) (by first | assumption | omega | decide) (by first | assumption | omega | decide) (lv_sub hl [0, 1, 2, 3, 4] rfl)
  exact loop4 ((16 - (0 : Int32).toInt : Int).toNat + 1) (0 : Int32) (0 : Int32) ls (by omega) (by first | assumption | omega | decide) (by first | assumption | omega | decide) (by first | assumption | omega | decide) (lv_sub hl [0, 1, 2] rfl)

set_option maxHeartbeats 4000000 in
set_option maxRecDepth 100000 in
theorem k_X9_lossAt (l : Launch) (g : zG) (ad : Nat → Nat) (me : Int32) (ct : Nat → va_E) (c0 : Int32) (nd : Int32) (hl_c0 : 0 ≤ c0.toInt ∧ c0.toInt ≤ 3) (hI : IR g ad me ct) : Met l yX9_lossAt (zW yX9_lossAt cX9_lossAt 4 (some .int)) ({ frames := 2, cells := 0, slots := 0, locals := 48 }) (va_Pc [.ref (ad 0), .int c0, .int nd] (zR g (zw 32 ad ct))) (vp_Si (fun r : Int32 => (True))) 0 0 (fun _ => False) := by
  refine Met.ofW (cc := cX9_lossAt) (maxL := 4) (ret := (some .int)) (by decide) rfl ?_
  intro p e s m args below meth c s₁ B hml hv
  obtain ⟨rfl, hP, hK, hN⟩ := hv
  have hx := B.exec
  have hb := B.bytes
  have hr := B.returns
  have hg := zW.law (atoms_spec (ws := (zW yX9_lossAt cX9_lossAt 4 (some .int))) B.pre)
  have hown : s.vm.findClass RX9 = some m.cls := findClass_of_methodNamed B.named
  have hlocks := B.notSynchronized
  have hpe0 := hI.1.1
  have hl := lv_entry ([.ref (ad 0), .int c0, .int nd]) (n := 4) (Nat.le_of_ble_eq_true rfl)
  rw [lg_entry_eq]
  generalize (lg_sl ([.ref (ad 0), .int c0, .int nd]) ++ List.replicate (4 - (lg_sl ([.ref (ad 0), .int c0, .int nd])).length) Slot.unset).toArray = ls at hl ⊢
  have hl : lv_has ls 4 [(0, .ref (ad 0)), (1, .int c0), (2, .int nd)] := hl
  have rg_nd := z_rng nd
  refine lv_aload_n hx hb dX9_lossAt_0 rfl (lv_at hl 0 rfl) ?_
  refine lv_iload_n hx hb dX9_lossAt_1 rfl (lv_at hl 1 rfl) ?_
  refine lv_iload_n hx hb dX9_lossAt_2 rfl (lv_at hl 2 rfl) ?_
  obtain ⟨bks2, lks3, gos4, shn5, tpd6, pl07, ln08, flt9, opn10, cmy11, wtg12, nm013, mst14, sus15, cut16, h17, h18, h19, h20, h21, h22, h23, h24, h25, h26, h27, h28, h29, h30, h31, h32, h33, h34, h35, h36, hs1⟩ := a9_0 hI.1
  refine zc_i (va_runV (As := [.int c0, .int nd]) (rest := []) ⟨hx, hb, hml, hown, hg⟩ (k_X9_sizeOf l g ad me ct c0 nd (by first | omega | decide) hI) (cwV 2 hg (z_gV mm_1140 mm_1142 mm_53 mm_117 mm_1143) rfl rfl rfl (by decide +kernel) ⟨Nat.le_of_ble_eq_true rfl, Nat.le_of_ble_eq_true rfl⟩) ⟨(zR.pre [.ref (ad 0), .int c0, .int nd] hP hK hN).1, va_recv hK hP (ci := 9) (q0 := 0) rfl (zw_at (by omega) hs1), (zR.pre [.ref (ad 0), .int c0, .int nd] hP hK hN).2⟩ rfl rfl hl.1 rfl (lv_room (Nat.le_of_ble_eq_true rfl)) dX9_lossAt_3 ⟨Nat.le_of_ble_eq_true rfl, Nat.le_of_ble_eq_true rfl⟩) (fun r37 hr37 => ?_)
  obtain ⟨hr37_0, hr37_1⟩ := hr37
  have hr37_0 : 0 ≤ r37.toInt := hr37_0
  have hr37_1 : r37.toInt ≤ 16 := hr37_1
  refine lv_iconst (v := 1) hx hb dX9_lossAt_6 (by decide) ?_
  refine lv_isub hx hb dX9_lossAt_7 ?_
  refine lv_topi (fun x38 ex38 => ?_)
  have tx38 : x38.toInt = r37.toInt - 1 := by rw [ex38]; exact z_sub rfl (by decide : (1 : Int32).toInt = 1) (by omega) (by omega)
  refine lv_istore_n (lv' := [(3, .int x38), (0, .ref (ad 0)), (1, .int c0), (2, .int nd)]) hx hb dX9_lossAt_8 rfl hl (by decide) rfl (fun ls hl => ?_)
  refine lv_iload_n hx hb dX9_lossAt_9 rfl (lv_at hl 0 rfl) ?_
  refine lv_if_le (tgt := 24) hx hb dX9_lossAt_10 (by decide) (fun c39 => ?_) (fun c39 => ?_)
  · skip
    have c39 : x38.toInt ≤ 0 := (z_le rfl (by decide : (0 : Int32).toInt = 0)).mp c39
    refine lv_iconst (v := 0) hx hb dX9_lossAt_24 (by decide) ?_
    have q40 : (0 : Int32).toInt = 0 := by decide
    exact W.iret (v := 0) hx hb hr (fun t ht hW => ⟨0, rfl, trivial, ht⟩) (fun q hq => by cases hq) dX9_lossAt_25
  · skip
    have c39 : ¬ (x38.toInt ≤ 0) := fun q => c39 ((z_le rfl (by decide : (0 : Int32).toInt = 0)).mpr q)
    refine lv_iload_n hx hb dX9_lossAt_13 rfl (lv_at hl 0 rfl) ?_
    refine lv_aload_n hx hb dX9_lossAt_14 rfl (lv_at hl 1 rfl) ?_
    refine va_get (D := g.1) (ci := 9) (v := .ref (ad 2)) (C := RX9) (T := TX9) (N := 47) hx hb hg inG9 hown hK hP 0 (zw_at (by omega) hs1) rfl 2 (by decide) (hg _ mm_960) (fun _ h9 => h9) rfl dX9_lossAt_15 ?_
    refine lv_iload_n hx hb dX9_lossAt_18 rfl (lv_at hl 2 rfl) ?_
    obtain ⟨f42, hs41⟩ := a9_2 hI.1
    refine va_iald hx hb hK hP 2 0 (zw_at (by omega) hs41) rfl (z_in rfl (by omega) (by omega)) dX9_lossAt_19 ?_
    refine lv_topi (fun y43 ey43 => ?_)
    refine lv_imul hx hb dX9_lossAt_20 ?_
    refine lv_topi (fun x44 ex44 => ?_)
    refine lv_goto (tgt := 25) hx hb dX9_lossAt_21 (by decide) ?_
    exact W.iret (v := x44) hx hb hr (fun t ht hW => ⟨x44, rfl, trivial, ht⟩) (fun q hq => by cases hq) dX9_lossAt_25

set_option maxHeartbeats 4000000 in
set_option maxRecDepth 100000 in
theorem k_X9_lossBy (l : Launch) (g : zG) (sz : Nat) (ad : Nat → Nat) (me : Int32) (ct : Nat → va_E) (n : Int32) (k : Int32) (pr : Int32) (cd : Int32) (hl_n : 1 ≤ n.toInt ∧ n.toInt ≤ 8) (hl_cd : 0 ≤ cd.toInt ∧ cd.toInt ≤ 624) (hI : IR g ad me ct) (hT : zTp (ct 11) n.toInt me) : Met l yX9_lossBy (zW yX9_lossBy cX9_lossBy 11 (some .int)) ({ frames := 3, cells := 0, slots := 0, locals := 71 }) (va_Pc [.ref (ad 0), .int n, .int k, .int pr, .int cd] (zA g (zw 32 ad ct) sz)) (va_Qi (fun (r : Int32) (_ : Unit) => (True)) (fun _ t => ∃ ct2 : Nat → va_E, zP g (zw 32 ad ct2) t.heap ∧ va_D (va_A (zw 32 ad ct) sz) (zw 32 ad ct2) ∧ IR g ad me ct2 ∧ (ct2 11 = ct 11)) (va_A (zw 32 ad ct) sz)) 0 0 (va_A (zw 32 ad ct) sz) := by
  refine Met.ofW (cc := cX9_lossBy) (maxL := 11) (ret := (some .int)) (by decide) rfl ?_
  intro p e s m args below meth c s₁ B hml hv
  obtain ⟨rfl, hsz, hP, hK, hD0, hN⟩ := hv
  have hx := B.exec
  have hb := B.bytes
  have hr := B.returns
  have hg := zW.law (atoms_spec (ws := (zW yX9_lossBy cX9_lossBy 11 (some .int))) B.pre)
  have hown : s.vm.findClass RX9 = some m.cls := findClass_of_methodNamed B.named
  have hlocks := B.notSynchronized
  have hpe0 := hI.1.1
  subst hsz
  have hD := hD0.self (sz := s.heap.size)
  generalize hAe : va_A (zw 32 ad ct) s.heap.size = A at hD ⊢
  have hA : ∀ q : Nat, s.heap.size ≤ q → A q := fun q h => by rw [← hAe]; exact Or.inr h
  have hS : va_S A s.heap s.heap [] := va_S.rf
  have hl := lv_entry ([.ref (ad 0), .int n, .int k, .int pr, .int cd]) (n := 11) (Nat.le_of_ble_eq_true rfl)
  rw [lg_entry_eq]
  generalize (lg_sl ([.ref (ad 0), .int n, .int k, .int pr, .int cd]) ++ List.replicate (11 - (lg_sl ([.ref (ad 0), .int n, .int k, .int pr, .int cd])).length) Slot.unset).toArray = ls at hl ⊢
  have hl : lv_has ls 11 [(0, .ref (ad 0)), (1, .int n), (2, .int k), (3, .int pr), (4, .int cd)] := hl
  have hc11 : ct 11 = ct 11 := rfl
  have rg_k := z_rng k
  have rg_pr := z_rng pr
  refine lv_iconst (v := 0) hx hb dX9_lossBy_0 (by decide) ?_
  refine lv_istore (lv' := [(5, .int 0), (0, .ref (ad 0)), (1, .int n), (2, .int k), (3, .int pr), (4, .int cd)]) hx hb dX9_lossBy_1 hl (by decide) rfl (fun ls hl => ?_)
  refine lv_aload_n hx hb dX9_lossBy_3 rfl (lv_at hl 1 rfl) ?_
  refine lv_iconst (v := 0) hx hb dX9_lossBy_4 (by decide) ?_
  obtain ⟨bks2, lks3, gos4, shn5, tpd6, pl07, ln08, flt9, opn10, cmy11, wtg12, nm013, mst14, sus15, cut16, h17, h18, h19, h20, h21, h22, h23, h24, h25, h26, h27, h28, h29, h30, h31, h32, h33, h34, h35, h36, hs1⟩ := a9_0 hI.1
  refine va_put (D := g.1) (ci := 9) (v := .int 0) (ty := .int) (C := RX9) (T := TX9) (N := 47) hx hb hg inG9 tyX9 tyX9_ok nmX9 hown hK hP hD hS 0 (zw_at (by omega) hs1) rfl 46 (by decide) (hg _ mm_1004) (fun _ h9 => h9) rfl (by decide +kernel) rfl rfl (Nat.le_of_ble_eq_true rfl) dX9_lossBy_5 (fun H locs hP hD hS => ?_)
  have hP : zP g ((zw 32 ad ct).set 0 (ad 0, .inr (9, [.int me, .ref (ad 1), .ref (ad 2), .ref (ad 3), .ref (ad 4), .int bks2, .int lks3, .int gos4, .int shn5, .ref (ad 5), .ref (ad 6), .ref (ad 7), .ref (ad 8), .ref (ad 9), .ref (ad 10), .ref (ad 11), .int tpd6, .int pl07, .int ln08, .int flt9, .int opn10, .int cmy11, .int wtg12, .int nm013, .ref (ad 12), .ref (ad 13), .ref (ad 14), .ref (ad 15), .ref (ad 16), .ref (ad 17), .ref (ad 18), .ref (ad 19), .ref (ad 20), .ref (ad 21), .ref (ad 22), .ref (ad 23), .ref (ad 24), .ref (ad 25), .ref (ad 26), .ref (ad 27), .int mst14, .int sus15, .ref (ad 28), .ref (ad 29), .ref (ad 30), .ref (ad 31), .int 0]))) H := hP
  have hD : va_D A ((zw 32 ad ct).set 0 (ad 0, .inr (9, [.int me, .ref (ad 1), .ref (ad 2), .ref (ad 3), .ref (ad 4), .int bks2, .int lks3, .int gos4, .int shn5, .ref (ad 5), .ref (ad 6), .ref (ad 7), .ref (ad 8), .ref (ad 9), .ref (ad 10), .ref (ad 11), .int tpd6, .int pl07, .int ln08, .int flt9, .int opn10, .int cmy11, .int wtg12, .int nm013, .ref (ad 12), .ref (ad 13), .ref (ad 14), .ref (ad 15), .ref (ad 16), .ref (ad 17), .ref (ad 18), .ref (ad 19), .ref (ad 20), .ref (ad 21), .ref (ad 22), .ref (ad 23), .ref (ad 24), .ref (ad 25), .ref (ad 26), .ref (ad 27), .int mst14, .int sus15, .ref (ad 28), .ref (ad 29), .ref (ad 30), .ref (ad 31), .int 0]))) := hD
  rw [zw_set (by omega)] at hP hD
  obtain ⟨ct37, ec38⟩ : ∃ z : Nat → va_E, z = va_up ct 0 (.inr (9, [.int me, .ref (ad 1), .ref (ad 2), .ref (ad 3), .ref (ad 4), .int bks2, .int lks3, .int gos4, .int shn5, .ref (ad 5), .ref (ad 6), .ref (ad 7), .ref (ad 8), .ref (ad 9), .ref (ad 10), .ref (ad 11), .int tpd6, .int pl07, .int ln08, .int flt9, .int opn10, .int cmy11, .int wtg12, .int nm013, .ref (ad 12), .ref (ad 13), .ref (ad 14), .ref (ad 15), .ref (ad 16), .ref (ad 17), .ref (ad 18), .ref (ad 19), .ref (ad 20), .ref (ad 21), .ref (ad 22), .ref (ad 23), .ref (ad 24), .ref (ad 25), .ref (ad 26), .ref (ad 27), .int mst14, .int sus15, .ref (ad 28), .ref (ad 29), .ref (ad 30), .ref (ad 31), .int 0])) := ⟨_, rfl⟩
  rw [← ec38] at hP hD
  have hI : IR g ad me ct37 := by rw [ec38]; exact upR hI (by decide) (i9_0 ⟨(bks2 : Int32), (lks3 : Int32), (gos4 : Int32), (shn5 : Int32), (tpd6 : Int32), (pl07 : Int32), (ln08 : Int32), (flt9 : Int32), (opn10 : Int32), (cmy11 : Int32), (wtg12 : Int32), (nm013 : Int32), (mst14 : Int32), (sus15 : Int32), (0 : Int32), (by first | omega | decide), (by first | omega | decide), (by first | omega | decide), (by first | omega | decide), (by first | omega | decide), (by first | omega | decide), (by first | omega | decide), (by first | omega | decide), (by first | omega | decide), (by first | omega | decide), (by first | omega | decide), (by first | omega | decide), (by first | omega | decide), (by first | omega | decide), (by first | omega | decide), (by first | omega | decide), (by first | omega | decide), (by first | omega | decide), (by first | omega | decide), (by first | omega | decide), rfl⟩)
  have hc11 : ct37 11 = ct 11 := by rw [ec38]; exact (va_up_ne _ _ (by omega)).trans hc11
  have hs39 : ct37 0 = .inr (9, [.int me, .ref (ad 1), .ref (ad 2), .ref (ad 3), .ref (ad 4), .int bks2, .int lks3, .int gos4, .int shn5, .ref (ad 5), .ref (ad 6), .ref (ad 7), .ref (ad 8), .ref (ad 9), .ref (ad 10), .ref (ad 11), .int tpd6, .int pl07, .int ln08, .int flt9, .int opn10, .int cmy11, .int wtg12, .int nm013, .ref (ad 12), .ref (ad 13), .ref (ad 14), .ref (ad 15), .ref (ad 16), .ref (ad 17), .ref (ad 18), .ref (ad 19), .ref (ad 20), .ref (ad 21), .ref (ad 22), .ref (ad 23), .ref (ad 24), .ref (ad 25), .ref (ad 26), .ref (ad 27), .int mst14, .int sus15, .ref (ad 28), .ref (ad 29), .ref (ad 30), .ref (ad 31), .int 0]) := by rw [ec38]; exact va_up_self _ _ _
  refine lv_iconst (v := 0) hx hb dX9_lossBy_8 (by decide) ?_
  refine lv_istore (lv' := [(6, .int 0), (5, .int 0), (0, .ref (ad 0)), (1, .int n), (2, .int k), (3, .int pr), (4, .int cd)]) hx hb dX9_lossBy_9 hl (by decide) rfl (fun ls hl => ?_)
  have loop11 : ∀ (n11 : Nat) (v6_11 : Int32) (v5_11 : Int32) (ct40 : Nat → va_E) (H : Heap) (locs : List Loc) (ls : Array Slot), ((8 - v6_11.toInt : Int).toNat < n11) → (0 ≤ v6_11.toInt ∧ v6_11.toInt ≤ 8) → (ct40 11 = ct 11) → (IR g ad me ct40) → zP g (zw 32 ad ct40) H → va_D A (zw 32 ad ct40) → va_S A s.heap H locs → lv_has ls 11 [(6, .int v6_11), (5, .int v5_11), (0, .ref (ad 0)), (1, .int n), (2, .int k), (3, .int pr), (4, .int cd)] → W p l e (headSpec (zW yX9_lossBy cX9_lossBy 11 (some .int)) ({ frames := 3, cells := 0, slots := 0, locals := 71 })).room s m ([.ref (ad 0), .int n, .int k, .int pr, .int cd] : List Value).toArray below meth c H locs 0 0 (MQ below (va_Qi (fun (r : Int32) (_ : Unit) => (True)) (fun _ t => ∃ ct2 : Nat → va_E, zP g (zw 32 ad ct2) t.heap ∧ va_D A (zw 32 ad ct2) ∧ IR g ad me ct2 ∧ (ct2 11 = ct 11)) A) ([.ref (ad 0), .int n, .int k, .int pr, .int cd] : List Value).toArray s 0 0 A) (F0 m 11 ls []) := by
    intro n11
    induction n11 with
    | zero =>
      intro v6_11 v5_11 ct40 H locs ls hn11 b6_11 hc11 hI hP hD hS hl
      exact absurd hn11 (Nat.not_lt_zero _)
    | succ n11 ih11 =>
      intro v6_11 v5_11 ct40 H locs ls hn11 b6_11 hc11 hI hP hD hS hl
      refine lv_iload hx hb dX9_lossBy_11 (lv_at hl 0 rfl) ?_
      refine lv_iload_n hx hb dX9_lossBy_13 rfl (lv_at hl 3 rfl) ?_
      refine lv_icmp_ge (tgt := 156) hx hb dX9_lossBy_14 (by decide) (fun c41 => ?_) (fun c41 => ?_)
      · skip
        have c41 : n.toInt ≤ v6_11.toInt := (z_le rfl rfl).mp c41
        refine lv_iload hx hb dX9_lossBy_156 (lv_at hl 1 rfl) ?_
        exact W.iret (v := v5_11) hx hb hr (fun t ht hW => ⟨⟨v5_11, (), rfl, trivial, ct40, by rw [ht]; exact hP, hD, hI, (by first | assumption | omega)⟩, hS.F ht⟩) hS.2.2 dX9_lossBy_158
      · skip
        have c41 : ¬ (n.toInt ≤ v6_11.toInt) := fun q => c41 ((z_le rfl rfl).mpr q)
        refine lv_aload_n hx hb dX9_lossBy_17 rfl (lv_at hl 2 rfl) ?_
        obtain ⟨bks43, lks44, gos45, shn46, tpd47, pl048, ln049, flt50, opn51, cmy52, wtg53, nm054, mst55, sus56, cut57, h58, h59, h60, h61, h62, h63, h64, h65, h66, h67, h68, h69, h70, h71, h72, h73, h74, h75, h76, h77, hs42⟩ := a9_0 hI.1
        refine va_get (D := g.1) (ci := 9) (v := .ref (ad 11)) (C := RX9) (T := TX9) (N := 47) hx hb hg inG9 hown hK hP 0 (zw_at (by omega) hs42) rfl 15 (by decide) (hg _ mm_973) (fun _ h9 => h9) rfl dX9_lossBy_18 ?_
        refine lv_iload hx hb dX9_lossBy_21 (lv_at hl 0 rfl) ?_
        obtain ⟨f79, hs78⟩ := a9_11 hI.1
        refine va_bald hx hb hK hP 11 2 (zw_at (by omega) hs78) rfl (z_in rfl (by omega) (by omega)) dX9_lossBy_23 ?_
        refine lv_topi (fun y80 ey80 => ?_)
        have hyy80 := zTp_use (e := ct 11) (hc11.symm.trans hs78) hT (by omega) (by omega) ey80
        refine lv_istore (lv' := [(7, .int y80), (6, .int v6_11), (5, .int v5_11), (0, .ref (ad 0)), (1, .int n), (2, .int k), (3, .int pr), (4, .int cd)]) hx hb dX9_lossBy_24 hl (by decide) rfl (fun ls hl => ?_)
        refine lv_iload hx hb dX9_lossBy_26 (lv_at hl 7 rfl) ?_
        refine lv_istore (lv' := [(8, .int cd), (7, .int y80), (6, .int v6_11), (5, .int v5_11), (0, .ref (ad 0)), (1, .int n), (2, .int k), (3, .int pr), (4, .int cd)]) hx hb dX9_lossBy_28 hl (by decide) rfl (fun ls hl => ?_)
        refine lv_iconst (v := 0) hx hb dX9_lossBy_30 (by decide) ?_
        refine lv_istore (lv' := [(9, .int 0), (8, .int cd), (7, .int y80), (6, .int v6_11), (5, .int v5_11), (0, .ref (ad 0)), (1, .int n), (2, .int k), (3, .int pr), (4, .int cd)]) hx hb dX9_lossBy_31 hl (by decide) rfl (fun ls hl => ?_)
        refine lv_iconst (v := 3) hx hb dX9_lossBy_33 (by decide) ?_
        refine lv_istore (lv' := [(10, .int 3), (9, .int 0), (8, .int cd), (7, .int y80), (6, .int v6_11), (5, .int v5_11), (0, .ref (ad 0)), (1, .int n), (2, .int k), (3, .int pr), (4, .int cd)]) hx hb dX9_lossBy_34 hl (by decide) rfl (fun ls hl => ?_)
        have loop36 : ∀ (n36 : Nat) (v10_36 : Int32) (v9_36 : Int32) (v8_36 : Int32) (ct81 : Nat → va_E) (H : Heap) (locs : List Loc) (ls : Array Slot), ((v10_36.toInt + 1 : Int).toNat < n36) → (-1 ≤ v10_36.toInt ∧ v10_36.toInt ≤ 3) → (0 ≤ v8_36.toInt ∧ v8_36.toInt ≤ 624) → (ct81 11 = ct 11) → (IR g ad me ct81) → zP g (zw 32 ad ct81) H → va_D A (zw 32 ad ct81) → va_S A s.heap H locs → lv_has ls 11 [(10, .int v10_36), (9, .int v9_36), (8, .int v8_36), (7, .int y80), (6, .int v6_11), (5, .int v5_11), (0, .ref (ad 0)), (1, .int n), (2, .int k), (3, .int pr), (4, .int cd)] → W p l e (headSpec (zW yX9_lossBy cX9_lossBy 11 (some .int)) ({ frames := 3, cells := 0, slots := 0, locals := 71 })).room s m ([.ref (ad 0), .int n, .int k, .int pr, .int cd] : List Value).toArray below meth c H locs 0 0 (MQ below (va_Qi (fun (r : Int32) (_ : Unit) => (True)) (fun _ t => ∃ ct2 : Nat → va_E, zP g (zw 32 ad ct2) t.heap ∧ va_D A (zw 32 ad ct2) ∧ IR g ad me ct2 ∧ (ct2 11 = ct 11)) A) ([.ref (ad 0), .int n, .int k, .int pr, .int cd] : List Value).toArray s 0 0 A) (F0 m 36 ls []) := by
          intro n36
          induction n36 with
          | zero =>
            intro v10_36 v9_36 v8_36 ct81 H locs ls hn36 b10_36 b8_36 hc11 hI hP hD hS hl
            exact absurd hn36 (Nat.not_lt_zero _)
          | succ n36 ih36 =>
            intro v10_36 v9_36 v8_36 ct81 H locs ls hn36 b10_36 b8_36 hc11 hI hP hD hS hl
            refine lv_iload hx hb dX9_lossBy_36 (lv_at hl 0 rfl) ?_
            refine lv_if_lt (tgt := 100) hx hb dX9_lossBy_38 (by decide) (fun c82 => ?_) (fun c82 => ?_)
            · skip
              have c82 : v10_36.toInt < 0 := (z_lt rfl (by decide : (0 : Int32).toInt = 0)).mp c82
              refine lv_aload_n hx hb dX9_lossBy_100 rfl (lv_at hl 6 rfl) ?_
              obtain ⟨bks84, lks85, gos86, shn87, tpd88, pl089, ln090, flt91, opn92, cmy93, wtg94, nm095, mst96, sus97, cut98, h99, h100, h101, h102, h103, h104, h105, h106, h107, h108, h109, h110, h111, h112, h113, h114, h115, h116, h117, h118, hs83⟩ := a9_0 hI.1
              refine zc_i (va_runV (As := []) (rest := []) ⟨hx, hb, hml, hown, hg⟩ (k_X9_fitsBlurred l g ad me ct81  hI) (cwV 0 hg (z_gV mm_1456 mm_1458 mm_104 mm_117 mm_1459) rfl rfl rfl (by decide +kernel) ⟨Nat.le_of_ble_eq_true rfl, Nat.le_of_ble_eq_true rfl⟩) ⟨(zR.pre [.ref (ad 0)] hP hK hN).1, va_recv hK hP (ci := 9) (q0 := 0) rfl (zw_at (by omega) hs83), (zR.pre [.ref (ad 0)] hP hK hN).2⟩ rfl rfl hl.1 rfl (lv_room (Nat.le_of_ble_eq_true rfl)) dX9_lossBy_101 ⟨Nat.le_of_ble_eq_true rfl, Nat.le_of_ble_eq_true rfl⟩) (fun r119 hr119 => ?_)
              refine lv_iload_n hx hb dX9_lossBy_104 rfl (lv_at hl 8 rfl) ?_
              refine lv_icmp_lt (tgt := 112) hx hb dX9_lossBy_105 (by decide) (fun c120 => ?_) (fun c120 => ?_)
              · skip
                have c120 : r119.toInt < k.toInt := (z_lt rfl rfl).mp c120
                refine lv_iconst (v := 0) hx hb dX9_lossBy_112 (by decide) ?_
                refine lv_istore (lv' := [(10, .int 0), (9, .int v9_36), (8, .int v8_36), (7, .int y80), (6, .int v6_11), (5, .int v5_11), (0, .ref (ad 0)), (1, .int n), (2, .int k), (3, .int pr), (4, .int cd)]) hx hb dX9_lossBy_113 hl (by decide) rfl (fun ls hl => ?_)
                refine lv_aload_n hx hb dX9_lossBy_115 rfl (lv_at hl 6 rfl) ?_
                refine lv_aload_n hx hb dX9_lossBy_116 rfl (lv_at hl 6 rfl) ?_
                refine va_get (D := g.1) (ci := 9) (v := .int cut98) (C := RX9) (T := TX9) (N := 47) hx hb hg inG9 hown hK hP 0 (zw_at (by omega) hs83) rfl 46 (by decide) (hg _ mm_1004) (fun _ h9 => h9) rfl dX9_lossBy_117 ?_
                refine lv_iload hx hb dX9_lossBy_120 (lv_at hl 0 rfl) ?_
                refine lv_if_eq (tgt := 129) hx hb dX9_lossBy_122 (by decide) (fun c121 => ?_) (fun c121 => ?_)
                · skip
                  refine lv_iconst (v := 1) hx hb dX9_lossBy_129 (by decide) ?_
                  refine lv_iadd hx hb dX9_lossBy_130 ?_
                  refine lv_topi (fun x122 ex122 => ?_)
                  refine va_put (D := g.1) (ci := 9) (v := .int x122) (ty := .int) (C := RX9) (T := TX9) (N := 47) hx hb hg inG9 tyX9 tyX9_ok nmX9 hown hK hP hD hS 0 (zw_at (by omega) hs83) rfl 46 (by decide) (hg _ mm_1004) (fun _ h9 => h9) rfl (by decide +kernel) rfl rfl (Nat.le_of_ble_eq_true rfl) dX9_lossBy_131 (fun H locs hP hD hS => ?_)
                  have hP : zP g ((zw 32 ad ct81).set 0 (ad 0, .inr (9, [.int me, .ref (ad 1), .ref (ad 2), .ref (ad 3), .ref (ad 4), .int bks84, .int lks85, .int gos86, .int shn87, .ref (ad 5), .ref (ad 6), .ref (ad 7), .ref (ad 8), .ref (ad 9), .ref (ad 10), .ref (ad 11), .int tpd88, .int pl089, .int ln090, .int flt91, .int opn92, .int cmy93, .int wtg94, .int nm095, .ref (ad 12), .ref (ad 13), .ref (ad 14), .ref (ad 15), .ref (ad 16), .ref (ad 17), .ref (ad 18), .ref (ad 19), .ref (ad 20), .ref (ad 21), .ref (ad 22), .ref (ad 23), .ref (ad 24), .ref (ad 25), .ref (ad 26), .ref (ad 27), .int mst96, .int sus97, .ref (ad 28), .ref (ad 29), .ref (ad 30), .ref (ad 31), .int x122]))) H := hP
                  have hD : va_D A ((zw 32 ad ct81).set 0 (ad 0, .inr (9, [.int me, .ref (ad 1), .ref (ad 2), .ref (ad 3), .ref (ad 4), .int bks84, .int lks85, .int gos86, .int shn87, .ref (ad 5), .ref (ad 6), .ref (ad 7), .ref (ad 8), .ref (ad 9), .ref (ad 10), .ref (ad 11), .int tpd88, .int pl089, .int ln090, .int flt91, .int opn92, .int cmy93, .int wtg94, .int nm095, .ref (ad 12), .ref (ad 13), .ref (ad 14), .ref (ad 15), .ref (ad 16), .ref (ad 17), .ref (ad 18), .ref (ad 19), .ref (ad 20), .ref (ad 21), .ref (ad 22), .ref (ad 23), .ref (ad 24), .ref (ad 25), .ref (ad 26), .ref (ad 27), .int mst96, .int sus97, .ref (ad 28), .ref (ad 29), .ref (ad 30), .ref (ad 31), .int x122]))) := hD
                  rw [zw_set (by omega)] at hP hD
                  obtain ⟨ct123, ec124⟩ : ∃ z : Nat → va_E, z = va_up ct81 0 (.inr (9, [.int me, .ref (ad 1), .ref (ad 2), .ref (ad 3), .ref (ad 4), .int bks84, .int lks85, .int gos86, .int shn87, .ref (ad 5), .ref (ad 6), .ref (ad 7), .ref (ad 8), .ref (ad 9), .ref (ad 10), .ref (ad 11), .int tpd88, .int pl089, .int ln090, .int flt91, .int opn92, .int cmy93, .int wtg94, .int nm095, .ref (ad 12), .ref (ad 13), .ref (ad 14), .ref (ad 15), .ref (ad 16), .ref (ad 17), .ref (ad 18), .ref (ad 19), .ref (ad 20), .ref (ad 21), .ref (ad 22), .ref (ad 23), .ref (ad 24), .ref (ad 25), .ref (ad 26), .ref (ad 27), .int mst96, .int sus97, .ref (ad 28), .ref (ad 29), .ref (ad 30), .ref (ad 31), .int x122])) := ⟨_, rfl⟩
                  rw [← ec124] at hP hD
                  have hI : IR g ad me ct123 := by rw [ec124]; exact upR hI (by decide) (i9_0 ⟨(bks84 : Int32), (lks85 : Int32), (gos86 : Int32), (shn87 : Int32), (tpd88 : Int32), (pl089 : Int32), (ln090 : Int32), (flt91 : Int32), (opn92 : Int32), (cmy93 : Int32), (wtg94 : Int32), (nm095 : Int32), (mst96 : Int32), (sus97 : Int32), (x122 : Int32), (by first | omega | decide), (by first | omega | decide), (by first | omega | decide), (by first | omega | decide), (by first | omega | decide), (by first | omega | decide), (by first | omega | decide), (by first | omega | decide), (by first | omega | decide), (by first | omega | decide), (by first | omega | decide), (by first | omega | decide), (by first | omega | decide), (by first | omega | decide), (by first | omega | decide), (by first | omega | decide), (by first | omega | decide), (by first | omega | decide), (by first | omega | decide), (by first | omega | decide), rfl⟩)
                  have hc11 : ct123 11 = ct 11 := by rw [ec124]; exact (va_up_ne _ _ (by omega)).trans hc11
                  have hs125 : ct123 0 = .inr (9, [.int me, .ref (ad 1), .ref (ad 2), .ref (ad 3), .ref (ad 4), .int bks84, .int lks85, .int gos86, .int shn87, .ref (ad 5), .ref (ad 6), .ref (ad 7), .ref (ad 8), .ref (ad 9), .ref (ad 10), .ref (ad 11), .int tpd88, .int pl089, .int ln090, .int flt91, .int opn92, .int cmy93, .int wtg94, .int nm095, .ref (ad 12), .ref (ad 13), .ref (ad 14), .ref (ad 15), .ref (ad 16), .ref (ad 17), .ref (ad 18), .ref (ad 19), .ref (ad 20), .ref (ad 21), .ref (ad 22), .ref (ad 23), .ref (ad 24), .ref (ad 25), .ref (ad 26), .ref (ad 27), .int mst96, .int sus97, .ref (ad 28), .ref (ad 29), .ref (ad 30), .ref (ad 31), .int x122]) := by rw [ec124]; exact va_up_self _ _ _
                  refine lv_iload hx hb dX9_lossBy_134 (lv_at hl 5 rfl) ?_
                  refine lv_iload hx hb dX9_lossBy_136 (lv_at hl 0 rfl) ?_
                  refine lv_if_eq (tgt := 146) hx hb dX9_lossBy_138 (by decide) (fun c126 => ?_) (fun c126 => ?_)
                  · skip
                    refine lv_iload_n hx hb dX9_lossBy_146 rfl (lv_at hl 9 rfl) ?_
                    refine lv_iadd hx hb dX9_lossBy_147 ?_
                    refine lv_topi (fun x127 ex127 => ?_)
                    refine lv_istore (lv' := [(5, .int x127), (10, .int 0), (9, .int v9_36), (8, .int v8_36), (7, .int y80), (6, .int v6_11), (0, .ref (ad 0)), (1, .int n), (2, .int k), (3, .int pr), (4, .int cd)]) hx hb dX9_lossBy_148 hl (by decide) rfl (fun ls hl => ?_)
                    obtain ⟨x128, ex128⟩ : ∃ y : Int32, y = v6_11 + 1 := ⟨_, rfl⟩
                    have tx128 : x128.toInt = v6_11.toInt + 1 := by rw [ex128]; exact z_add rfl (by decide : (1 : Int32).toInt = 1) (by omega) (by omega)
                    refine lv_iinc (v := x128) (lv' := [(6, .int x128), (5, .int x127), (10, .int 0), (9, .int v9_36), (8, .int v8_36), (7, .int y80), (0, .ref (ad 0)), (1, .int n), (2, .int k), (3, .int pr), (4, .int cd)]) hx hb dX9_lossBy_150 hl (k := 5) rfl (by rw [ex128]; rfl) (by decide) rfl (fun ls hl => ?_)
                    refine lv_goto (tgt := 11) hx hb dX9_lossBy_153 (by decide) ?_
                    exact ih11 x128 x127 ct123 _ _ ls (by omega) (by first | assumption | omega | decide) (by first | assumption | omega | decide) hI hP hD hS (lv_sub hl [0, 1, 6, 7, 8, 9, 10] rfl)
                  · skip
                    exact absurd c126 (by decide)
                · skip
                  exact absurd c121 (by decide)
              · skip
                have c120 : ¬ (r119.toInt < k.toInt) := fun q => c120 ((z_lt rfl rfl).mpr q)
                refine lv_iconst (v := 1) hx hb dX9_lossBy_108 (by decide) ?_
                refine lv_goto (tgt := 113) hx hb dX9_lossBy_109 (by decide) ?_
                refine lv_istore (lv' := [(10, .int 1), (9, .int v9_36), (8, .int v8_36), (7, .int y80), (6, .int v6_11), (5, .int v5_11), (0, .ref (ad 0)), (1, .int n), (2, .int k), (3, .int pr), (4, .int cd)]) hx hb dX9_lossBy_113 hl (by decide) rfl (fun ls hl => ?_)
                refine lv_aload_n hx hb dX9_lossBy_115 rfl (lv_at hl 6 rfl) ?_
                refine lv_aload_n hx hb dX9_lossBy_116 rfl (lv_at hl 6 rfl) ?_
                refine va_get (D := g.1) (ci := 9) (v := .int cut98) (C := RX9) (T := TX9) (N := 47) hx hb hg inG9 hown hK hP 0 (zw_at (by omega) hs83) rfl 46 (by decide) (hg _ mm_1004) (fun _ h9 => h9) rfl dX9_lossBy_117 ?_
                refine lv_iload hx hb dX9_lossBy_120 (lv_at hl 0 rfl) ?_
                refine lv_if_eq (tgt := 129) hx hb dX9_lossBy_122 (by decide) (fun c129 => ?_) (fun c129 => ?_)
                · skip
                  exact absurd c129 (by decide)
                · skip
                  refine lv_iconst (v := 0) hx hb dX9_lossBy_125 (by decide) ?_
                  refine lv_goto (tgt := 130) hx hb dX9_lossBy_126 (by decide) ?_
                  refine lv_iadd hx hb dX9_lossBy_130 ?_
                  refine lv_topi (fun x130 ex130 => ?_)
                  refine va_put (D := g.1) (ci := 9) (v := .int x130) (ty := .int) (C := RX9) (T := TX9) (N := 47) hx hb hg inG9 tyX9 tyX9_ok nmX9 hown hK hP hD hS 0 (zw_at (by omega) hs83) rfl 46 (by decide) (hg _ mm_1004) (fun _ h9 => h9) rfl (by decide +kernel) rfl rfl (Nat.le_of_ble_eq_true rfl) dX9_lossBy_131 (fun H locs hP hD hS => ?_)
                  have hP : zP g ((zw 32 ad ct81).set 0 (ad 0, .inr (9, [.int me, .ref (ad 1), .ref (ad 2), .ref (ad 3), .ref (ad 4), .int bks84, .int lks85, .int gos86, .int shn87, .ref (ad 5), .ref (ad 6), .ref (ad 7), .ref (ad 8), .ref (ad 9), .ref (ad 10), .ref (ad 11), .int tpd88, .int pl089, .int ln090, .int flt91, .int opn92, .int cmy93, .int wtg94, .int nm095, .ref (ad 12), .ref (ad 13), .ref (ad 14), .ref (ad 15), .ref (ad 16), .ref (ad 17), .ref (ad 18), .ref (ad 19), .ref (ad 20), .ref (ad 21), .ref (ad 22), .ref (ad 23), .ref (ad 24), .ref (ad 25), .ref (ad 26), .ref (ad 27), .int mst96, .int sus97, .ref (ad 28), .ref (ad 29), .ref (ad 30), .ref (ad 31), .int x130]))) H := hP
                  have hD : va_D A ((zw 32 ad ct81).set 0 (ad 0, .inr (9, [.int me, .ref (ad 1), .ref (ad 2), .ref (ad 3), .ref (ad 4), .int bks84, .int lks85, .int gos86, .int shn87, .ref (ad 5), .ref (ad 6), .ref (ad 7), .ref (ad 8), .ref (ad 9), .ref (ad 10), .ref (ad 11), .int tpd88, .int pl089, .int ln090, .int flt91, .int opn92, .int cmy93, .int wtg94, .int nm095, .ref (ad 12), .ref (ad 13), .ref (ad 14), .ref (ad 15), .ref (ad 16), .ref (ad 17), .ref (ad 18), .ref (ad 19), .ref (ad 20), .ref (ad 21), .ref (ad 22), .ref (ad 23), .ref (ad 24), .ref (ad 25), .ref (ad 26), .ref (ad 27), .int mst96, .int sus97, .ref (ad 28), .ref (ad 29), .ref (ad 30), .ref (ad 31), .int x130]))) := hD
                  rw [zw_set (by omega)] at hP hD
                  obtain ⟨ct131, ec132⟩ : ∃ z : Nat → va_E, z = va_up ct81 0 (.inr (9, [.int me, .ref (ad 1), .ref (ad 2), .ref (ad 3), .ref (ad 4), .int bks84, .int lks85, .int gos86, .int shn87, .ref (ad 5), .ref (ad 6), .ref (ad 7), .ref (ad 8), .ref (ad 9), .ref (ad 10), .ref (ad 11), .int tpd88, .int pl089, .int ln090, .int flt91, .int opn92, .int cmy93, .int wtg94, .int nm095, .ref (ad 12), .ref (ad 13), .ref (ad 14), .ref (ad 15), .ref (ad 16), .ref (ad 17), .ref (ad 18), .ref (ad 19), .ref (ad 20), .ref (ad 21), .ref (ad 22), .ref (ad 23), .ref (ad 24), .ref (ad 25), .ref (ad 26), .ref (ad 27), .int mst96, .int sus97, .ref (ad 28), .ref (ad 29), .ref (ad 30), .ref (ad 31), .int x130])) := ⟨_, rfl⟩
                  rw [← ec132] at hP hD
                  have hI : IR g ad me ct131 := by rw [ec132]; exact upR hI (by decide) (i9_0 ⟨(bks84 : Int32), (lks85 : Int32), (gos86 : Int32), (shn87 : Int32), (tpd88 : Int32), (pl089 : Int32), (ln090 : Int32), (flt91 : Int32), (opn92 : Int32), (cmy93 : Int32), (wtg94 : Int32), (nm095 : Int32), (mst96 : Int32), (sus97 : Int32), (x130 : Int32), (by first | omega | decide), (by first | omega | decide), (by first | omega | decide), (by first | omega | decide), (by first | omega | decide), (by first | omega | decide), (by first | omega | decide), (by first | omega | decide), (by first | omega | decide), (by first | omega | decide), (by first | omega | decide), (by first | omega | decide), (by first | omega | decide), (by first | omega | decide), (by first | omega | decide), (by first | omega | decide), (by first | omega | decide), (by first | omega | decide), (by first | omega | decide), (by first | omega | decide), rfl⟩)
                  have hc11 : ct131 11 = ct 11 := by rw [ec132]; exact (va_up_ne _ _ (by omega)).trans hc11
                  have hs133 : ct131 0 = .inr (9, [.int me, .ref (ad 1), .ref (ad 2), .ref (ad 3), .ref (ad 4), .int bks84, .int lks85, .int gos86, .int shn87, .ref (ad 5), .ref (ad 6), .ref (ad 7), .ref (ad 8), .ref (ad 9), .ref (ad 10), .ref (ad 11), .int tpd88, .int pl089, .int ln090, .int flt91, .int opn92, .int cmy93, .int wtg94, .int nm095, .ref (ad 12), .ref (ad 13), .ref (ad 14), .ref (ad 15), .ref (ad 16), .ref (ad 17), .ref (ad 18), .ref (ad 19), .ref (ad 20), .ref (ad 21), .ref (ad 22), .ref (ad 23), .ref (ad 24), .ref (ad 25), .ref (ad 26), .ref (ad 27), .int mst96, .int sus97, .ref (ad 28), .ref (ad 29), .ref (ad 30), .ref (ad 31), .int x130]) := by rw [ec132]; exact va_up_self _ _ _
                  refine lv_iload hx hb dX9_lossBy_134 (lv_at hl 5 rfl) ?_
                  refine lv_iload hx hb dX9_lossBy_136 (lv_at hl 0 rfl) ?_
                  refine lv_if_eq (tgt := 146) hx hb dX9_lossBy_138 (by decide) (fun c134 => ?_) (fun c134 => ?_)
                  · skip
                    exact absurd c134 (by decide)
                  · skip
                    refine lv_iload hx hb dX9_lossBy_141 (lv_at hl 1 rfl) ?_
                    refine lv_goto (tgt := 147) hx hb dX9_lossBy_143 (by decide) ?_
                    refine lv_iadd hx hb dX9_lossBy_147 ?_
                    refine lv_topi (fun x135 ex135 => ?_)
                    refine lv_istore (lv' := [(5, .int x135), (10, .int 1), (9, .int v9_36), (8, .int v8_36), (7, .int y80), (6, .int v6_11), (0, .ref (ad 0)), (1, .int n), (2, .int k), (3, .int pr), (4, .int cd)]) hx hb dX9_lossBy_148 hl (by decide) rfl (fun ls hl => ?_)
                    obtain ⟨x136, ex136⟩ : ∃ y : Int32, y = v6_11 + 1 := ⟨_, rfl⟩
                    have tx136 : x136.toInt = v6_11.toInt + 1 := by rw [ex136]; exact z_add rfl (by decide : (1 : Int32).toInt = 1) (by omega) (by omega)
                    refine lv_iinc (v := x136) (lv' := [(6, .int x136), (5, .int x135), (10, .int 1), (9, .int v9_36), (8, .int v8_36), (7, .int y80), (0, .ref (ad 0)), (1, .int n), (2, .int k), (3, .int pr), (4, .int cd)]) hx hb dX9_lossBy_150 hl (k := 5) rfl (by rw [ex136]; rfl) (by decide) rfl (fun ls hl => ?_)
                    refine lv_goto (tgt := 11) hx hb dX9_lossBy_153 (by decide) ?_
                    exact ih11 x136 x135 ct131 _ _ ls (by omega) (by first | assumption | omega | decide) (by first | assumption | omega | decide) hI hP hD hS (lv_sub hl [0, 1, 6, 7, 8, 9, 10] rfl)
            · skip
              have c82 : ¬ (v10_36.toInt < 0) := fun q => c82 ((z_lt rfl (by decide : (0 : Int32).toInt = 0)).mpr q)
              refine lv_aload_n hx hb dX9_lossBy_41 rfl (lv_at hl 6 rfl) ?_
              obtain ⟨bks138, lks139, gos140, shn141, tpd142, pl0143, ln0144, flt145, opn146, cmy147, wtg148, nm0149, mst150, sus151, cut152, h153, h154, h155, h156, h157, h158, h159, h160, h161, h162, h163, h164, h165, h166, h167, h168, h169, h170, h171, h172, hs137⟩ := a9_0 hI.1
              refine va_get (D := g.1) (ci := 9) (v := .ref (ad 31)) (C := RX9) (T := TX9) (N := 47) hx hb hg inG9 hown hK hP 0 (zw_at (by omega) hs137) rfl 45 (by decide) (hg _ mm_1003) (fun _ h9 => h9) rfl dX9_lossBy_42 ?_
              refine lv_iload hx hb dX9_lossBy_45 (lv_at hl 0 rfl) ?_
              refine lv_aload_n hx hb dX9_lossBy_47 rfl (lv_at hl 6 rfl) ?_
              refine lv_iload hx hb dX9_lossBy_48 (lv_at hl 0 rfl) ?_
              refine lv_aload_n hx hb dX9_lossBy_50 rfl (lv_at hl 6 rfl) ?_
              refine va_get (D := g.1) (ci := 9) (v := .ref (ad 3)) (C := RX9) (T := TX9) (N := 47) hx hb hg inG9 hown hK hP 0 (zw_at (by omega) hs137) rfl 3 (by decide) (hg _ mm_961) (fun _ h9 => h9) rfl dX9_lossBy_51 ?_
              refine lv_iconst (v := 4) hx hb dX9_lossBy_54 (by decide) ?_
              refine lv_iload hx hb dX9_lossBy_55 (lv_at hl 3 rfl) ?_
              refine lv_imul hx hb dX9_lossBy_57 ?_
              refine lv_topi (fun x173 ex173 => ?_)
              have tx173 : x173.toInt = 4 * y80.toInt := by rw [ex173]; exact z_mul (by decide : (4 : Int32).toInt = 4) rfl (by omega) (by omega)
              refine lv_iload hx hb dX9_lossBy_58 (lv_at hl 0 rfl) ?_
              refine lv_iadd hx hb dX9_lossBy_60 ?_
              refine lv_topi (fun x174 ex174 => ?_)
              have tx174 : x174.toInt = x173.toInt + v10_36.toInt := by rw [ex174]; exact z_add rfl rfl (by omega) (by omega)
              obtain ⟨f176, hp177, hs175⟩ := a9_3 hI.1
              refine va_iald hx hb hK hP 3 0 (zw_at (by omega) hs175) rfl (z_in rfl (by omega) (by omega)) dX9_lossBy_61 ?_
              refine lv_topi (fun y178 ey178 => ?_)
              have hy178 := hp177 _ (z_clt (x := x174) rfl (by omega) (by omega))
              rw [← ey178] at hy178
              have hy178 : 0 ≤ y178.toInt ∧ y178.toInt ≤ 15 := hy178
              refine lv_iload hx hb dX9_lossBy_62 (lv_at hl 2 rfl) ?_
              refine lv_iconst (v := 5) hx hb dX9_lossBy_64 (by decide) ?_
              refine lv_irem hx hb dX9_lossBy_65 (by decide) ?_
              refine lv_topi (fun x179 ex179 => ?_)
              have tx179 := z_rem (x := v8_36) (y := 5) rfl (by decide : (5 : Int32).toInt = 5) (by omega) (by omega)
              rw [← ex179] at tx179
              refine zc_i (va_runV (As := [.int v10_36, .int y178, .int x179]) (rest := [.int v10_36, .ref (ad 31)]) ⟨hx, hb, hml, hown, hg⟩ (k_X9_blurs l g ad me ct81 v10_36 y178 x179 (by first | omega | decide) (by first | omega | decide) hI) (cwV 3 hg (z_gV mm_1132 mm_1134 mm_52 mm_117 mm_1135) rfl rfl rfl (by decide +kernel) ⟨Nat.le_of_ble_eq_true rfl, Nat.le_of_ble_eq_true rfl⟩) ⟨(zR.pre [.ref (ad 0), .int v10_36, .int y178, .int x179] hP hK hN).1, va_recv hK hP (ci := 9) (q0 := 0) rfl (zw_at (by omega) hs137), (zR.pre [.ref (ad 0), .int v10_36, .int y178, .int x179] hP hK hN).2⟩ rfl rfl hl.1 rfl (lv_room (Nat.le_of_ble_eq_true rfl)) dX9_lossBy_66 ⟨Nat.le_of_ble_eq_true rfl, Nat.le_of_ble_eq_true rfl⟩) (fun r180 hr180 => ?_)
              obtain ⟨hr180_0, hr180_1⟩ := hr180
              have hr180_0 : 0 ≤ r180.toInt := hr180_0
              have hr180_1 : r180.toInt ≤ 32 := hr180_1
              obtain ⟨f182, hp183, hs181⟩ := a9_31 hI.1
              refine va_iast hx hb hK hP hD hS 31 0 (zw_at (by omega) hs181) rfl (z_in rfl (by omega) (by omega)) dX9_lossBy_69 (fun H locs hP hD hS => ?_)
              have hp185 : ∀ j : Nat, j < 4 → (fun x : Int32 => 0 ≤ x.toInt ∧ x.toInt ≤ 32) ((upd f182 (Int32.toNatClampNeg v10_36) r180) j) := fun j hj => by
                unfold upd
                by_cases q : j = Int32.toNatClampNeg v10_36
                · rw [if_pos q]; exact (show 0 ≤ (r180 : Int32).toInt ∧ (r180 : Int32).toInt ≤ 32 from (by first | omega | decide))
                · rw [if_neg q]; exact hp183 j hj
              have hP : zP g ((zw 32 ad ct81).set 31 (ad 31, .inl (g.2 0, 4, .inl (upd f182 (Int32.toNatClampNeg v10_36) r180)))) H := hP
              have hD : va_D A ((zw 32 ad ct81).set 31 (ad 31, .inl (g.2 0, 4, .inl (upd f182 (Int32.toNatClampNeg v10_36) r180)))) := hD
              rw [zw_set (by omega)] at hP hD
              obtain ⟨ct186, ec187⟩ : ∃ z : Nat → va_E, z = va_up ct81 31 (.inl (g.2 0, 4, .inl (upd f182 (Int32.toNatClampNeg v10_36) r180))) := ⟨_, rfl⟩
              rw [← ec187] at hP hD
              have hI : IR g ad me ct186 := by rw [ec187]; exact upR hI (by decide) (i9_31 ⟨_, hp185, rfl⟩)
              have hc11 : ct186 11 = ct 11 := by rw [ec187]; exact (va_up_ne _ _ (by omega)).trans hc11
              have hs188 : ct186 0 = .inr (9, [.int me, .ref (ad 1), .ref (ad 2), .ref (ad 3), .ref (ad 4), .int bks138, .int lks139, .int gos140, .int shn141, .ref (ad 5), .ref (ad 6), .ref (ad 7), .ref (ad 8), .ref (ad 9), .ref (ad 10), .ref (ad 11), .int tpd142, .int pl0143, .int ln0144, .int flt145, .int opn146, .int cmy147, .int wtg148, .int nm0149, .ref (ad 12), .ref (ad 13), .ref (ad 14), .ref (ad 15), .ref (ad 16), .ref (ad 17), .ref (ad 18), .ref (ad 19), .ref (ad 20), .ref (ad 21), .ref (ad 22), .ref (ad 23), .ref (ad 24), .ref (ad 25), .ref (ad 26), .ref (ad 27), .int mst150, .int sus151, .ref (ad 28), .ref (ad 29), .ref (ad 30), .ref (ad 31), .int cut152]) := by rw [ec187, va_up_ne _ _ (by omega)]; exact hs137
              have hs189 : ct186 3 = .inl (g.2 0, 64, .inl f176) := by rw [ec187, va_up_ne _ _ (by omega)]; exact hs175
              have hs190 : ct186 31 = .inl (g.2 0, 4, .inl (upd f182 (Int32.toNatClampNeg v10_36) r180)) := by rw [ec187]; exact va_up_self _ _ _
              refine lv_iload hx hb dX9_lossBy_70 (lv_at hl 2 rfl) ?_
              refine lv_iconst (v := 5) hx hb dX9_lossBy_72 (by decide) ?_
              refine lv_idiv hx hb dX9_lossBy_73 (by decide) ?_
              refine lv_topi (fun x191 ex191 => ?_)
              have tx191 := z_div (x := v8_36) (y := 5) rfl (by decide : (5 : Int32).toInt = 5) (by omega) (by omega)
              rw [← ex191] at tx191
              refine lv_istore (lv' := [(8, .int x191), (10, .int v10_36), (9, .int v9_36), (7, .int y80), (6, .int v6_11), (5, .int v5_11), (0, .ref (ad 0)), (1, .int n), (2, .int k), (3, .int pr), (4, .int cd)]) hx hb dX9_lossBy_74 hl (by decide) rfl (fun ls hl => ?_)
              refine lv_iload hx hb dX9_lossBy_76 (lv_at hl 2 rfl) ?_
              refine lv_aload_n hx hb dX9_lossBy_78 rfl (lv_at hl 6 rfl) ?_
              refine lv_iload hx hb dX9_lossBy_79 (lv_at hl 1 rfl) ?_
              refine lv_aload_n hx hb dX9_lossBy_81 rfl (lv_at hl 6 rfl) ?_
              refine va_get (D := g.1) (ci := 9) (v := .ref (ad 31)) (C := RX9) (T := TX9) (N := 47) hx hb hg inG9 hown hK hP 0 (zw_at (by omega) hs188) rfl 45 (by decide) (hg _ mm_1003) (fun _ h9 => h9) rfl dX9_lossBy_82 ?_
              refine lv_iload hx hb dX9_lossBy_85 (lv_at hl 1 rfl) ?_
              refine va_iald hx hb hK hP 31 0 (zw_at (by omega) hs190) rfl (z_in rfl (by omega) (by omega)) dX9_lossBy_87 ?_
              refine lv_topi (fun y192 ey192 => ?_)
              have hy192 := hp185 _ (z_clt (x := v10_36) rfl (by omega) (by omega))
              rw [← ey192] at hy192
              have hy192 : 0 ≤ y192.toInt ∧ y192.toInt ≤ 32 := hy192
              refine zc_i (va_runV (As := [.int v10_36, .int y192]) (rest := [.int v9_36]) ⟨hx, hb, hml, hown, hg⟩ (k_X9_lossAt l g ad me ct186 v10_36 y192 (by first | omega | decide) hI) (cwV 2 hg (z_gV mm_1452 mm_1454 mm_103 mm_117 mm_1455) rfl rfl rfl (by decide +kernel) ⟨Nat.le_of_ble_eq_true rfl, Nat.le_of_ble_eq_true rfl⟩) ⟨(zR.pre [.ref (ad 0), .int v10_36, .int y192] hP hK hN).1, va_recv hK hP (ci := 9) (q0 := 0) rfl (zw_at (by omega) hs188), (zR.pre [.ref (ad 0), .int v10_36, .int y192] hP hK hN).2⟩ rfl rfl hl.1 rfl (lv_room (Nat.le_of_ble_eq_true rfl)) dX9_lossBy_88 ⟨Nat.le_of_ble_eq_true rfl, Nat.le_of_ble_eq_true rfl⟩) (fun r193 hr193 => ?_)
              refine lv_iadd hx hb dX9_lossBy_91 ?_
              refine lv_topi (fun x194 ex194 => ?_)
              refine lv_istore (lv' := [(9, .int x194), (8, .int x191), (10, .int v10_36), (7, .int y80), (6, .int v6_11), (5, .int v5_11), (0, .ref (ad 0)), (1, .int n), (2, .int k), (3, .int pr), (4, .int cd)]) hx hb dX9_lossBy_92 hl (by decide) rfl (fun ls hl => ?_)
              obtain ⟨x195, ex195⟩ : ∃ y : Int32, y = v10_36 + (-1) := ⟨_, rfl⟩
              have tx195 : x195.toInt = v10_36.toInt + (-1) := by rw [ex195]; exact z_add rfl (by decide : ((-1) : Int32).toInt = (-1)) (by omega) (by omega)
              refine lv_iinc (v := x195) (lv' := [(10, .int x195), (9, .int x194), (8, .int x191), (7, .int y80), (6, .int v6_11), (5, .int v5_11), (0, .ref (ad 0)), (1, .int n), (2, .int k), (3, .int pr), (4, .int cd)]) hx hb dX9_lossBy_94 hl (k := 2) rfl (by rw [ex195]; rfl) (by decide) rfl (fun ls hl => ?_)
              refine lv_goto (tgt := 36) hx hb dX9_lossBy_97 (by decide) ?_
              exact ih36 x195 x194 x191 ct186 _ _ ls (by omega) (by first | assumption | omega | decide) (by first | assumption | omega | decide) (by first | assumption | omega | decide) hI hP hD hS (lv_sub hl [0, 1, 2, 3, 4, 5, 6, 7, 8, 9, 10] rfl)
        exact loop36 (((3 : Int32).toInt + 1 : Int).toNat + 1) (3 : Int32) (0 : Int32) cd ct40 _ _ ls (by omega) (by first | assumption | omega | decide) (by first | assumption | omega | decide) (by first | assumption | omega | decide) hI hP hD hS (lv_sub hl [0, 1, 2, 3, 4, 5, 6, 7, 8, 9, 10] rfl)
  exact loop11 ((8 - (0 : Int32).toInt : Int).toNat + 1) (0 : Int32) (0 : Int32) ct37 _ _ ls (by omega) (by first | assumption | omega | decide) (by first | assumption | omega | decide) hI hP hD hS (lv_sub hl [0, 1, 2, 3, 4, 5, 6] rfl)
