set_option maxHeartbeats 4000000 in
set_option maxRecDepth 100000 in
theorem k_X8_count (l : Launch) (g : zG) (ad : Nat → Nat) (pe : Int32) (ct : Nat → va_E) (wh : Int32) (hI : Inv8 g ad pe ct) : Met l yX8_count (zW yX8_count cX8_count 2 (some .int)) ({ frames := 1, cells := 0, slots := 0, locals := 22 }) (va_Pc [.ref (ad 0), .int wh] (zR g (zw 126 ad ct))) (vp_Si (fun r : Int32 => (True))) 0 0 (fun _ => False) := by
  refine Met.ofW (cc := cX8_count) (maxL := 2) (ret := (some .int)) (by decide) rfl ?_
  intro p e s m args below meth c s₁ B hml hv
  obtain ⟨rfl, hP, hK, hN⟩ := hv
  have hx := B.exec
  have hb := B.bytes
  have hr := B.returns
  have hg := zW.law (atoms_spec (ws := (zW yX8_count cX8_count 2 (some .int))) B.pre)
  have hown : s.vm.findClass RX8 = some m.cls := findClass_of_methodNamed B.named
  have hlocks := B.notSynchronized
  have hpe0 := hI.1
  have hl := lv_entry ([.ref (ad 0), .int wh]) (n := 2) (Nat.le_of_ble_eq_true rfl)
  rw [lg_entry_eq]
  generalize (lg_sl ([.ref (ad 0), .int wh]) ++ List.replicate (2 - (lg_sl ([.ref (ad 0), .int wh])).length) Slot.unset).toArray = ls at hl ⊢
  have hl : lv_has ls 2 [(0, .ref (ad 0)), (1, .int wh)] := hl
  have rg_wh := z_rng wh
  refine lv_iload_n hx hb dX8_count_0 rfl (lv_at hl 1 rfl) ?_
  rcases (show wh.toInt = 0 ∨ wh.toInt = 1 ∨ wh.toInt = 2 ∨ wh.toInt = 3 ∨ wh.toInt = 4 ∨ wh.toInt = 5 ∨ wh.toInt < 0 ∨ 5 < wh.toInt by omega) with hw1 | hw1 | hw1 | hw1 | hw1 | hw1 | hw1
  · skip
    refine lv_tableIn (tgt := 40) (off := 39) hx hb dX8_count_1 (by omega) (by omega) (by rw [hw1]; rfl) (by decide) ?_
    refine lv_aload_n hx hb dX8_count_40 rfl (lv_at hl 0 rfl) ?_
    obtain ⟨bk4, dr3, h5, h6, h7, hs2⟩ := a8_0 hI
    refine va_get (D := g.1) (ci := 8) (v := .int pe) (C := RX8) (T := TX8) (N := 13) hx hb hg inG8 hown hK hP 0 (zw_at (by omega) hs2) rfl 11 (by decide) (hg _ mm_371) (fun _ h9 => h9) rfl dX8_count_41 ?_
    exact W.iret (v := pe) hx hb hr (fun t ht hW => ⟨pe, rfl, trivial, ht⟩) (fun q hq => by cases hq) dX8_count_44
  · skip
    refine lv_tableIn (tgt := 45) (off := 44) hx hb dX8_count_1 (by omega) (by omega) (by rw [hw1]; rfl) (by decide) ?_
    refine lv_aload_n hx hb dX8_count_45 rfl (lv_at hl 0 rfl) ?_
    obtain ⟨bk10, dr9, h11, h12, h13, hs8⟩ := a8_0 hI
    refine va_get (D := g.1) (ci := 8) (v := .int bk10) (C := RX8) (T := TX8) (N := 13) hx hb hg inG8 hown hK hP 0 (zw_at (by omega) hs8) rfl 12 (by decide) (hg _ mm_372) (fun _ h9 => h9) rfl dX8_count_46 ?_
    exact W.iret (v := bk10) hx hb hr (fun t ht hW => ⟨bk10, rfl, trivial, ht⟩) (fun q hq => by cases hq) dX8_count_49
  · skip
    refine lv_tableIn (tgt := 50) (off := 49) hx hb dX8_count_1 (by omega) (by omega) (by rw [hw1]; rfl) (by decide) ?_
    refine lv_aload_n hx hb dX8_count_50 rfl (lv_at hl 0 rfl) ?_
    obtain ⟨bk16, dr15, h17, h18, h19, hs14⟩ := a8_0 hI
    refine va_get (D := g.1) (ci := 8) (v := .ref (ad 6)) (C := RX8) (T := TX8) (N := 13) hx hb hg inG8 hown hK hP 0 (zw_at (by omega) hs14) rfl 4 (by decide) (hg _ mm_364) (fun _ h9 => h9) rfl dX8_count_51 ?_
    obtain ⟨num21, h22, h23, hs20⟩ := a8_6 hI
    refine va_get (D := g.1) (ci := 5) (v := .int num21) (C := RX5) (T := TX5) (N := 3) hx hb hg inG5 hown hK hP 6 (zw_at (by omega) hs20) rfl 0 (by decide) (hg _ mm_154) (fun _ h9 => h9) rfl dX8_count_54 ?_
    exact W.iret (v := num21) hx hb hr (fun t ht hW => ⟨num21, rfl, trivial, ht⟩) (fun q hq => by cases hq) dX8_count_57
  · skip
    refine lv_tableIn (tgt := 58) (off := 57) hx hb dX8_count_1 (by omega) (by omega) (by rw [hw1]; rfl) (by decide) ?_
    refine lv_aload_n hx hb dX8_count_58 rfl (lv_at hl 0 rfl) ?_
    obtain ⟨bk26, dr25, h27, h28, h29, hs24⟩ := a8_0 hI
    refine zc_i (va_runV (As := []) (rest := []) ⟨hx, hb, hml, hown, hg⟩ (k_X8_toldGossips l g ad pe ct  hI) (cwV 0 hg (z_gV mm_947 mm_949 mm_50 mm_108 mm_950) rfl rfl rfl (by decide +kernel) ⟨Nat.le_of_ble_eq_true rfl, Nat.le_of_ble_eq_true rfl⟩) ⟨(zR.pre [.ref (ad 0)] hP hK hN).1, va_recv hK hP (ci := 8) (q0 := 0) rfl (zw_at (by omega) hs24), (zR.pre [.ref (ad 0)] hP hK hN).2⟩ rfl rfl hl.1 rfl (lv_room (Nat.le_of_ble_eq_true rfl)) dX8_count_59 ⟨Nat.le_of_ble_eq_true rfl, Nat.le_of_ble_eq_true rfl⟩) (fun r30 hr30 => ?_)
    exact W.iret (v := r30) hx hb hr (fun t ht hW => ⟨r30, rfl, trivial, ht⟩) (fun q hq => by cases hq) dX8_count_62
  · skip
    refine lv_tableIn (tgt := 63) (off := 62) hx hb dX8_count_1 (by omega) (by omega) (by rw [hw1]; rfl) (by decide) ?_
    refine lv_aload_n hx hb dX8_count_63 rfl (lv_at hl 0 rfl) ?_
    obtain ⟨bk33, dr32, h34, h35, h36, hs31⟩ := a8_0 hI
    refine va_get (D := g.1) (ci := 8) (v := .ref (ad 3)) (C := RX8) (T := TX8) (N := 13) hx hb hg inG8 hown hK hP 0 (zw_at (by omega) hs31) rfl 2 (by decide) (hg _ mm_362) (fun _ h9 => h9) rfl dX8_count_64 ?_
    obtain ⟨len38, h39, h40, hs37⟩ := a8_3 hI
    refine va_get (D := g.1) (ci := 7) (v := .int len38) (C := RX7) (T := TX7) (N := 2) hx hb hg inG7 hown hK hP 3 (zw_at (by omega) hs37) rfl 0 (by decide) (hg _ mm_137) (fun _ h9 => h9) rfl dX8_count_67 ?_
    exact W.iret (v := len38) hx hb hr (fun t ht hW => ⟨len38, rfl, trivial, ht⟩) (fun q hq => by cases hq) dX8_count_70
  · skip
    refine lv_tableIn (tgt := 71) (off := 70) hx hb dX8_count_1 (by omega) (by omega) (by rw [hw1]; rfl) (by decide) ?_
    refine lv_aload_n hx hb dX8_count_71 rfl (lv_at hl 0 rfl) ?_
    obtain ⟨bk43, dr42, h44, h45, h46, hs41⟩ := a8_0 hI
    refine zc_i (va_runV (As := []) (rest := []) ⟨hx, hb, hml, hown, hg⟩ (k_X8_shownBooks l g ad pe ct  hI) (cwV 0 hg (z_gV mm_663 mm_665 mm_23 mm_108 mm_666) rfl rfl rfl (by decide +kernel) ⟨Nat.le_of_ble_eq_true rfl, Nat.le_of_ble_eq_true rfl⟩) ⟨(zR.pre [.ref (ad 0)] hP hK hN).1, va_recv hK hP (ci := 8) (q0 := 0) rfl (zw_at (by omega) hs41), (zR.pre [.ref (ad 0)] hP hK hN).2⟩ rfl rfl hl.1 rfl (lv_room (Nat.le_of_ble_eq_true rfl)) dX8_count_72 ⟨Nat.le_of_ble_eq_true rfl, Nat.le_of_ble_eq_true rfl⟩) (fun r47 hr47 => ?_)
    exact W.iret (v := r47) hx hb hr (fun t ht hW => ⟨r47, rfl, trivial, ht⟩) (fun q hq => by cases hq) dX8_count_75
  · skip
    refine lv_tableOut (tgt := 76) hx hb dX8_count_1 (by omega) (by decide) ?_
    refine lv_aload_n hx hb dX8_count_76 rfl (lv_at hl 0 rfl) ?_
    refine lv_iload_n hx hb dX8_count_77 rfl (lv_at hl 1 rfl) ?_
    refine lv_bipush (v := 10) hx hb dX8_count_78 (by decide) ?_
    refine lv_isub hx hb dX8_count_80 ?_
    refine lv_topi (fun x48 ex48 => ?_)
    obtain ⟨bk51, dr50, h52, h53, h54, hs49⟩ := a8_0 hI
    refine zc_i (va_runV (As := [.int x48]) (rest := []) ⟨hx, hb, hml, hown, hg⟩ (k_X8_isBook l g ad pe ct x48 hI) (cwV 1 hg (z_gV mm_591 mm_593 mm_20 mm_108 mm_594) rfl rfl rfl (by decide +kernel) ⟨Nat.le_of_ble_eq_true rfl, Nat.le_of_ble_eq_true rfl⟩) ⟨(zR.pre [.ref (ad 0), .int x48] hP hK hN).1, va_recv hK hP (ci := 8) (q0 := 0) rfl (zw_at (by omega) hs49), (zR.pre [.ref (ad 0), .int x48] hP hK hN).2⟩ rfl rfl hl.1 rfl (lv_room (Nat.le_of_ble_eq_true rfl)) dX8_count_81 ⟨Nat.le_of_ble_eq_true rfl, Nat.le_of_ble_eq_true rfl⟩) (fun r55 hr55 => ?_)
    rcases hr55 with hr55 | hr55
    · skip
      obtain ⟨rfl, h56, h57⟩ := hr55
      have h56 : 0 ≤ x48.toInt := h56
      have h57 : x48.toInt ≤ 3 := h57
      refine lv_if_eq (tgt := 100) hx hb dX8_count_84 (by decide) (fun c58 => ?_) (fun c58 => ?_)
      · skip
        exact absurd c58 (by decide)
      · skip
        refine lv_aload_n hx hb dX8_count_87 rfl (lv_at hl 0 rfl) ?_
        refine va_get (D := g.1) (ci := 8) (v := .ref (ad 5)) (C := RX8) (T := TX8) (N := 13) hx hb hg inG8 hown hK hP 0 (zw_at (by omega) hs49) rfl 3 (by decide) (hg _ mm_363) (fun _ h9 => h9) rfl dX8_count_88 ?_
        refine lv_iload_n hx hb dX8_count_91 rfl (lv_at hl 1 rfl) ?_
        refine lv_bipush (v := 10) hx hb dX8_count_92 (by decide) ?_
        refine lv_isub hx hb dX8_count_94 ?_
        refine lv_topi (fun x59 ex59 => ?_)
        obtain rfl : x48 = x59 := ex48.trans ex59.symm
        have hs60 := a8_5 hI
        refine va_aldq hx hb hK hP 5 5 (zw_at (by omega) hs60) rfl (z_in rfl (by omega) (by omega)) dX8_count_95 ?_
        rw [zF5_at (x := x48) (by omega) (by omega)]
        obtain ⟨lns62, liv63, shw64, h65, h66, h67, h68, hz69, hs61⟩ := a8_40 (kc := (0 + 55 + 11 * x48.toInt.toNat)) (by omega) hI
        have bhz69 := z_b01 hz69
        refine va_get (D := g.1) (ci := 2) (v := .int lns62) (C := RX2) (T := TX2) (N := 5) hx hb hg inG2 hown hK hP (0 + 55 + 11 * x48.toInt.toNat) (zw_at (by omega) hs61) rfl 0 (by decide) (hg _ mm_342) (fun _ h9 => h9) rfl dX8_count_96 ?_
        exact W.iret (v := lns62) hx hb hr (fun t ht hW => ⟨lns62, rfl, trivial, ht⟩) (fun q hq => by cases hq) dX8_count_99
    · skip
      obtain rfl := hr55
      refine lv_if_eq (tgt := 100) hx hb dX8_count_84 (by decide) (fun c70 => ?_) (fun c70 => ?_)
      · skip
        refine lv_iload_n hx hb dX8_count_100 rfl (lv_at hl 1 rfl) ?_
        refine lv_bipush (v := 20) hx hb dX8_count_101 (by decide) ?_
        refine lv_isub hx hb dX8_count_103 ?_
        refine lv_topi (fun x71 ex71 => ?_)
        refine zc_i (va_runS (As := [.int x71]) (rest := []) ⟨hx, hb, hml, hown, hg⟩ (k_X8_isColumn l g ad pe ct x71 hI) (va_cwS 1 hg (z_gS mm_404 mm_405 mm_108 mm_406) rfl rfl rfl (by decide +kernel) ⟨Nat.le_of_ble_eq_true rfl, Nat.le_of_ble_eq_true rfl⟩) (zR.pre [.int x71] hP hK hN) rfl rfl hl.1 rfl (lv_room (Nat.le_of_ble_eq_true rfl)) dX8_count_104 ⟨Nat.le_of_ble_eq_true rfl, Nat.le_of_ble_eq_true rfl⟩) (fun r72 hr72 => ?_)
        rcases hr72 with hr72 | hr72
        · skip
          obtain ⟨rfl, h73, h74⟩ := hr72
          have h73 : 0 ≤ x71.toInt := h73
          have h74 : x71.toInt ≤ 3 := h74
          refine lv_if_eq (tgt := 123) hx hb dX8_count_107 (by decide) (fun c75 => ?_) (fun c75 => ?_)
          · skip
            exact absurd c75 (by decide)
          · skip
            refine lv_aload_n hx hb dX8_count_110 rfl (lv_at hl 0 rfl) ?_
            refine va_get (D := g.1) (ci := 8) (v := .ref (ad 1)) (C := RX8) (T := TX8) (N := 13) hx hb hg inG8 hown hK hP 0 (zw_at (by omega) hs49) rfl 0 (by decide) (hg _ mm_360) (fun _ h9 => h9) rfl dX8_count_111 ?_
            refine lv_iload_n hx hb dX8_count_114 rfl (lv_at hl 1 rfl) ?_
            refine lv_bipush (v := 20) hx hb dX8_count_115 (by decide) ?_
            refine lv_isub hx hb dX8_count_117 ?_
            refine lv_topi (fun x76 ex76 => ?_)
            obtain rfl : x71 = x76 := ex71.trans ex76.symm
            have hs77 := a8_1 hI
            refine va_aldq hx hb hK hP 1 4 (zw_at (by omega) hs77) rfl (z_in rfl (by omega) (by omega)) dX8_count_118 ?_
            rw [zF1_at (x := x71) (by omega) (by omega)]
            obtain ⟨we79, se80, h81, h82, hs78⟩ := a8_35 (kc := (0 + 35 + 5 * x71.toInt.toNat)) (by omega) hI
            refine va_get (D := g.1) (ci := 3) (v := .int we79) (C := RX3) (T := TX3) (N := 6) hx hb hg inG3 hown hK hP (0 + 35 + 5 * x71.toInt.toNat) (zw_at (by omega) hs78) rfl 0 (by decide) (hg _ mm_316) (fun _ h9 => h9) rfl dX8_count_119 ?_
            exact W.iret (v := we79) hx hb hr (fun t ht hW => ⟨we79, rfl, trivial, ht⟩) (fun q hq => by cases hq) dX8_count_122
        · skip
          obtain ⟨rfl, h83⟩ := hr72
          have h83 : ¬ (0 ≤ x71.toInt ∧ x71.toInt ≤ 3) := h83
          refine lv_if_eq (tgt := 123) hx hb dX8_count_107 (by decide) (fun c84 => ?_) (fun c84 => ?_)
          · skip
            refine lv_aload_n hx hb dX8_count_123 rfl (lv_at hl 0 rfl) ?_
            refine lv_iload_n hx hb dX8_count_124 rfl (lv_at hl 1 rfl) ?_
            refine lv_bipush (v := 30) hx hb dX8_count_125 (by decide) ?_
            refine lv_isub hx hb dX8_count_127 ?_
            refine lv_topi (fun x85 ex85 => ?_)
            refine zc_i (va_runV (As := [.int x85]) (rest := []) ⟨hx, hb, hml, hown, hg⟩ (k_X8_isPerson l g ad pe ct x85 hI) (cwV 1 hg (z_gV mm_451 mm_453 mm_3 mm_108 mm_454) rfl rfl rfl (by decide +kernel) ⟨Nat.le_of_ble_eq_true rfl, Nat.le_of_ble_eq_true rfl⟩) ⟨(zR.pre [.ref (ad 0), .int x85] hP hK hN).1, va_recv hK hP (ci := 8) (q0 := 0) rfl (zw_at (by omega) hs49), (zR.pre [.ref (ad 0), .int x85] hP hK hN).2⟩ rfl rfl hl.1 rfl (lv_room (Nat.le_of_ble_eq_true rfl)) dX8_count_128 ⟨Nat.le_of_ble_eq_true rfl, Nat.le_of_ble_eq_true rfl⟩) (fun r86 hr86 => ?_)
            rcases hr86 with hr86 | hr86
            · skip
              obtain ⟨rfl, h87, h88⟩ := hr86
              have h87 : 0 ≤ x85.toInt := h87
              have h88 : x85.toInt < pe.toInt := h88
              refine lv_if_eq (tgt := 146) hx hb dX8_count_131 (by decide) (fun c89 => ?_) (fun c89 => ?_)
              · skip
                exact absurd c89 (by decide)
              · skip
                refine lv_aload_n hx hb dX8_count_134 rfl (lv_at hl 0 rfl) ?_
                refine va_get (D := g.1) (ci := 8) (v := .ref (ad 2)) (C := RX8) (T := TX8) (N := 13) hx hb hg inG8 hown hK hP 0 (zw_at (by omega) hs49) rfl 1 (by decide) (hg _ mm_361) (fun _ h9 => h9) rfl dX8_count_135 ?_
                refine lv_iload_n hx hb dX8_count_138 rfl (lv_at hl 1 rfl) ?_
                refine lv_bipush (v := 30) hx hb dX8_count_139 (by decide) ?_
                refine lv_isub hx hb dX8_count_141 ?_
                refine lv_topi (fun x90 ex90 => ?_)
                obtain rfl : x85 = x90 := ex85.trans ex90.symm
                obtain ⟨f92, hs91⟩ := a8_2 hI
                refine va_iald hx hb hK hP 2 0 (zw_at (by omega) hs91) rfl (z_in rfl (by omega) (by omega)) dX8_count_142 ?_
                refine lv_topi (fun y93 ey93 => ?_)
                refine lv_goto (tgt := 147) hx hb dX8_count_143 (by decide) ?_
                exact W.iret (v := y93) hx hb hr (fun t ht hW => ⟨y93, rfl, trivial, ht⟩) (fun q hq => by cases hq) dX8_count_147
            · skip
              obtain ⟨rfl, h94⟩ := hr86
              have h94 : ¬ (0 ≤ x85.toInt ∧ x85.toInt < pe.toInt) := h94
              refine lv_if_eq (tgt := 146) hx hb dX8_count_131 (by decide) (fun c95 => ?_) (fun c95 => ?_)
              · skip
                refine lv_iconst (v := (-1)) hx hb dX8_count_146 (by decide) ?_
                have q96 : ((-1) : Int32).toInt = -1 := by decide
                exact W.iret (v := (-1)) hx hb hr (fun t ht hW => ⟨(-1), rfl, trivial, ht⟩) (fun q hq => by cases hq) dX8_count_147
              · skip
                exact absurd c95 (by decide)
          · skip
            exact absurd c84 (by decide)
      · skip
        exact absurd c70 (by decide)

set_option maxHeartbeats 4000000 in
set_option maxRecDepth 100000 in
theorem k_X8_person (l : Launch) (g : zG) (sz : Nat) (ad : Nat → Nat) (pe : Int32) (ct : Nat → va_E) (a0 : Int32) (b0 : Int32) (c0 : Int32) (d0 : Int32) (hI : Inv8 g ad pe ct) : Met l yX8_person (zW yX8_person cX8_person 6 (some .int)) ({ frames := 28, cells := 0, slots := 0, locals := 694 }) (va_Pc [.ref (ad 0), .int a0, .int b0, .int c0, .int d0] (zA g (zw 126 ad ct) sz)) (va_Qi (fun (r : Int32) (u : Int32) => (r = (-1) ∧ (u = pe) ∧ (¬ ((0 ≤ a0.toInt ∧ a0.toInt ≤ 15) ∧ (0 ≤ b0.toInt ∧ b0.toInt ≤ 15) ∧ (0 ≤ c0.toInt ∧ c0.toInt ≤ 15) ∧ (0 ≤ d0.toInt ∧ d0.toInt ≤ 15) ∧ pe.toInt < 16))) ∨ (r = pe ∧ (u.toInt = pe.toInt + 1) ∧ ((0 ≤ a0.toInt ∧ a0.toInt ≤ 15) ∧ (0 ≤ b0.toInt ∧ b0.toInt ≤ 15) ∧ (0 ≤ c0.toInt ∧ c0.toInt ≤ 15) ∧ (0 ≤ d0.toInt ∧ d0.toInt ≤ 15) ∧ pe.toInt < 16))) (fun u t => ∃ ct2 : Nat → va_E, zP g (zw 126 ad ct2) t.heap ∧ va_D (va_A (zw 126 ad ct) sz) (zw 126 ad ct2) ∧ Inv8 g ad u ct2) (va_A (zw 126 ad ct) sz)) 0 0 (va_A (zw 126 ad ct) sz) := by
  refine Met.ofW (cc := cX8_person) (maxL := 6) (ret := (some .int)) (by decide) rfl ?_
  intro p e s m args below meth c s₁ B hml hv
  obtain ⟨rfl, hsz, hP, hK, hD0, hN⟩ := hv
  have hx := B.exec
  have hb := B.bytes
  have hr := B.returns
  have hg := zW.law (atoms_spec (ws := (zW yX8_person cX8_person 6 (some .int))) B.pre)
  have hown : s.vm.findClass RX8 = some m.cls := findClass_of_methodNamed B.named
  have hlocks := B.notSynchronized
  have hpe0 := hI.1
  subst hsz
  have hD := hD0.self (sz := s.heap.size)
  generalize hAe : va_A (zw 126 ad ct) s.heap.size = A at hD ⊢
  have hA : ∀ q : Nat, s.heap.size ≤ q → A q := fun q h => by rw [← hAe]; exact Or.inr h
  have hS : va_S A s.heap s.heap [] := va_S.rf
  have hl := lv_entry ([.ref (ad 0), .int a0, .int b0, .int c0, .int d0]) (n := 6) (Nat.le_of_ble_eq_true rfl)
  rw [lg_entry_eq]
  generalize (lg_sl ([.ref (ad 0), .int a0, .int b0, .int c0, .int d0]) ++ List.replicate (6 - (lg_sl ([.ref (ad 0), .int a0, .int b0, .int c0, .int d0])).length) Slot.unset).toArray = ls at hl ⊢
  have hl : lv_has ls 6 [(0, .ref (ad 0)), (1, .int a0), (2, .int b0), (3, .int c0), (4, .int d0)] := hl
  have rg_a0 := z_rng a0
  have rg_b0 := z_rng b0
  have rg_c0 := z_rng c0
  have rg_d0 := z_rng d0
  refine lv_iload_n hx hb dX8_person_0 rfl (lv_at hl 1 rfl) ?_
  refine zc_i (va_runS (As := [.int a0]) (rest := []) ⟨hx, hb, hml, hown, hg⟩ (k_X8_isValue l g ad pe ct a0 hI) (va_cwS 1 hg (z_gS mm_431 mm_432 mm_108 mm_433) rfl rfl rfl (by decide +kernel) ⟨Nat.le_of_ble_eq_true rfl, Nat.le_of_ble_eq_true rfl⟩) (zR.pre [.int a0] hP hK hN) rfl rfl hl.1 rfl (lv_room (Nat.le_of_ble_eq_true rfl)) dX8_person_1 ⟨Nat.le_of_ble_eq_true rfl, Nat.le_of_ble_eq_true rfl⟩) (fun r1 hr1 => ?_)
  rcases hr1 with hr1 | hr1
  · skip
    obtain ⟨rfl, h2, h3⟩ := hr1
    have h2 : 0 ≤ a0.toInt := h2
    have h3 : a0.toInt ≤ 15 := h3
    refine lv_if_eq (tgt := 38) hx hb dX8_person_4 (by decide) (fun c4 => ?_) (fun c4 => ?_)
    · skip
      exact absurd c4 (by decide)
    · skip
      refine lv_iload_n hx hb dX8_person_7 rfl (lv_at hl 2 rfl) ?_
      refine zc_i (va_runS (As := [.int b0]) (rest := []) ⟨hx, hb, hml, hown, hg⟩ (k_X8_isValue l g ad pe ct b0 hI) (va_cwS 1 hg (z_gS mm_431 mm_432 mm_108 mm_433) rfl rfl rfl (by decide +kernel) ⟨Nat.le_of_ble_eq_true rfl, Nat.le_of_ble_eq_true rfl⟩) (zR.pre [.int b0] hP hK hN) rfl rfl hl.1 rfl (lv_room (Nat.le_of_ble_eq_true rfl)) dX8_person_8 ⟨Nat.le_of_ble_eq_true rfl, Nat.le_of_ble_eq_true rfl⟩) (fun r5 hr5 => ?_)
      rcases hr5 with hr5 | hr5
      · skip
        obtain ⟨rfl, h6, h7⟩ := hr5
        have h6 : 0 ≤ b0.toInt := h6
        have h7 : b0.toInt ≤ 15 := h7
        refine lv_if_eq (tgt := 38) hx hb dX8_person_11 (by decide) (fun c8 => ?_) (fun c8 => ?_)
        · skip
          exact absurd c8 (by decide)
        · skip
          refine lv_iload_n hx hb dX8_person_14 rfl (lv_at hl 3 rfl) ?_
          refine zc_i (va_runS (As := [.int c0]) (rest := []) ⟨hx, hb, hml, hown, hg⟩ (k_X8_isValue l g ad pe ct c0 hI) (va_cwS 1 hg (z_gS mm_431 mm_432 mm_108 mm_433) rfl rfl rfl (by decide +kernel) ⟨Nat.le_of_ble_eq_true rfl, Nat.le_of_ble_eq_true rfl⟩) (zR.pre [.int c0] hP hK hN) rfl rfl hl.1 rfl (lv_room (Nat.le_of_ble_eq_true rfl)) dX8_person_15 ⟨Nat.le_of_ble_eq_true rfl, Nat.le_of_ble_eq_true rfl⟩) (fun r9 hr9 => ?_)
          rcases hr9 with hr9 | hr9
          · skip
            obtain ⟨rfl, h10, h11⟩ := hr9
            have h10 : 0 ≤ c0.toInt := h10
            have h11 : c0.toInt ≤ 15 := h11
            refine lv_if_eq (tgt := 38) hx hb dX8_person_18 (by decide) (fun c12 => ?_) (fun c12 => ?_)
            · skip
              exact absurd c12 (by decide)
            · skip
              refine lv_iload hx hb dX8_person_21 (lv_at hl 4 rfl) ?_
              refine zc_i (va_runS (As := [.int d0]) (rest := []) ⟨hx, hb, hml, hown, hg⟩ (k_X8_isValue l g ad pe ct d0 hI) (va_cwS 1 hg (z_gS mm_431 mm_432 mm_108 mm_433) rfl rfl rfl (by decide +kernel) ⟨Nat.le_of_ble_eq_true rfl, Nat.le_of_ble_eq_true rfl⟩) (zR.pre [.int d0] hP hK hN) rfl rfl hl.1 rfl (lv_room (Nat.le_of_ble_eq_true rfl)) dX8_person_23 ⟨Nat.le_of_ble_eq_true rfl, Nat.le_of_ble_eq_true rfl⟩) (fun r13 hr13 => ?_)
              rcases hr13 with hr13 | hr13
              · skip
                obtain ⟨rfl, h14, h15⟩ := hr13
                have h14 : 0 ≤ d0.toInt := h14
                have h15 : d0.toInt ≤ 15 := h15
                refine lv_if_eq (tgt := 38) hx hb dX8_person_26 (by decide) (fun c16 => ?_) (fun c16 => ?_)
                · skip
                  exact absurd c16 (by decide)
                · skip
                  refine lv_aload_n hx hb dX8_person_29 rfl (lv_at hl 0 rfl) ?_
                  obtain ⟨bk19, dr18, h20, h21, h22, hs17⟩ := a8_0 hI
                  refine va_get (D := g.1) (ci := 8) (v := .int pe) (C := RX8) (T := TX8) (N := 13) hx hb hg inG8 hown hK hP 0 (zw_at (by omega) hs17) rfl 11 (by decide) (hg _ mm_371) (fun _ h9 => h9) rfl dX8_person_30 ?_
                  refine lv_bipush (v := 16) hx hb dX8_person_33 (by decide) ?_
                  refine lv_icmp_lt (tgt := 40) hx hb dX8_person_35 (by decide) (fun c23 => ?_) (fun c23 => ?_)
                  · skip
                    have c23 : pe.toInt < 16 := (z_lt rfl (by decide : (16 : Int32).toInt = 16)).mp c23
                    refine lv_aload_n hx hb dX8_person_40 rfl (lv_at hl 0 rfl) ?_
                    refine va_get (D := g.1) (ci := 8) (v := .int pe) (C := RX8) (T := TX8) (N := 13) hx hb hg inG8 hown hK hP 0 (zw_at (by omega) hs17) rfl 11 (by decide) (hg _ mm_371) (fun _ h9 => h9) rfl dX8_person_41 ?_
                    refine lv_istore (lv' := [(5, .int pe), (0, .ref (ad 0)), (1, .int a0), (2, .int b0), (3, .int c0), (4, .int d0)]) hx hb dX8_person_44 hl (by decide) rfl (fun ls hl => ?_)
                    refine lv_aload_n hx hb dX8_person_46 rfl (lv_at hl 1 rfl) ?_
                    refine lv_dup hx hb dX8_person_47 rfl ?_
                    refine va_get (D := g.1) (ci := 8) (v := .int pe) (C := RX8) (T := TX8) (N := 13) hx hb hg inG8 hown hK hP 0 (zw_at (by omega) hs17) rfl 11 (by decide) (hg _ mm_371) (fun _ h9 => h9) rfl dX8_person_48 ?_
                    refine lv_iconst (v := 1) hx hb dX8_person_51 (by decide) ?_
                    refine lv_iadd hx hb dX8_person_52 ?_
                    refine lv_topi (fun x24 ex24 => ?_)
                    have tx24 : x24.toInt = pe.toInt + 1 := by rw [ex24]; exact z_add rfl (by decide : (1 : Int32).toInt = 1) (by omega) (by omega)
                    refine va_put (D := g.1) (ci := 8) (v := .int x24) (ty := .int) (C := RX8) (T := TX8) (N := 13) hx hb hg inG8 tyX8 tyX8_ok nmX8 hown hK hP hD hS 0 (zw_at (by omega) hs17) rfl 11 (by decide) (hg _ mm_371) (fun _ h9 => h9) rfl (by decide +kernel) rfl rfl (Nat.le_of_ble_eq_true rfl) dX8_person_53 (fun H locs hP hD hS => ?_)
                    have hP : zP g ((zw 126 ad ct).set 0 (ad 0, .inr (8, [.ref (ad 1), .ref (ad 2), .ref (ad 3), .ref (ad 5), .ref (ad 6), .ref (ad 9), .ref (ad 10), .ref (ad 17), .ref (ad 21), .ref (ad 34), .ref (ad (99 + 3 * dr18)), .int x24, .int bk19]))) H := hP
                    have hD : va_D A ((zw 126 ad ct).set 0 (ad 0, .inr (8, [.ref (ad 1), .ref (ad 2), .ref (ad 3), .ref (ad 5), .ref (ad 6), .ref (ad 9), .ref (ad 10), .ref (ad 17), .ref (ad 21), .ref (ad 34), .ref (ad (99 + 3 * dr18)), .int x24, .int bk19]))) := hD
                    rw [zw_set (by omega)] at hP hD
                    obtain ⟨ct25, ec26⟩ : ∃ z : Nat → va_E, z = va_up ct 0 (.inr (8, [.ref (ad 1), .ref (ad 2), .ref (ad 3), .ref (ad 5), .ref (ad 6), .ref (ad 9), .ref (ad 10), .ref (ad 17), .ref (ad 21), .ref (ad 34), .ref (ad (99 + 3 * dr18)), .int x24, .int bk19])) := ⟨_, rfl⟩
                    rw [← ec26] at hP hD
                    have hI : Inv8 g ad x24 ct25 := by rw [ec26]; exact up8_pe hI (by omega) (i8_0 ⟨(bk19 : Int32), dr18, (by omega), (by first | omega | decide), (by first | omega | decide), rfl⟩)
                    have hs27 : ct25 0 = .inr (8, [.ref (ad 1), .ref (ad 2), .ref (ad 3), .ref (ad 5), .ref (ad 6), .ref (ad 9), .ref (ad 10), .ref (ad 17), .ref (ad 21), .ref (ad 34), .ref (ad (99 + 3 * dr18)), .int x24, .int bk19]) := by rw [ec26]; exact va_up_self _ _ _
                    refine lv_aload_n hx hb dX8_person_56 rfl (lv_at hl 1 rfl) ?_
                    refine va_get (D := g.1) (ci := 8) (v := .ref (ad 1)) (C := RX8) (T := TX8) (N := 13) hx hb hg inG8 hown hK hP 0 (zw_at (by omega) hs27) rfl 0 (by decide) (hg _ mm_360) (fun _ h9 => h9) rfl dX8_person_57 ?_
                    refine lv_iconst (v := 0) hx hb dX8_person_60 (by decide) ?_
                    have hs28 := a8_1 hI
                    refine va_aldq hx hb hK hP 1 4 (zw_at (by omega) hs28) rfl (z_in (by decide : (0 : Int32).toInt = 0) (by omega) (by omega)) dX8_person_61 ?_
                    refine W.eq (g2 := F0 m 62 ls [.ref (ad 35)]) rfl ?_
                    refine lv_iload hx hb dX8_person_62 (lv_at hl 0 rfl) ?_
                    refine lv_iload_n hx hb dX8_person_64 rfl (lv_at hl 2 rfl) ?_
                    obtain ⟨we30, se31, h32, h33, hs29⟩ := a8_35 (kc := 35) (by omega) hI
                    have hFc := zw_free hD hS hA
                    refine va_callv (va_runV (As := [.int pe, .int a0]) (rest := []) ⟨hx, hb, hml, hown, hg⟩ (k_X3_settle l g _ ad x24 ct25 35 pe a0 (by omega) hI) (cwV 2 hg (z_gV mm_434 mm_435 mm_436 mm_115 mm_437) rfl rfl rfl (by decide +kernel) ⟨Nat.le_of_ble_eq_true rfl, Nat.le_of_ble_eq_true rfl⟩) ⟨(zA.pre [.ref (ad 35), .int pe, .int a0] hP hK hD hN).1, va_recv hK hP (ci := 3) (q0 := 35) rfl (zw_at (by omega) hs29), (zA.pre [.ref (ad 35), .int pe, .int a0] hP hK hD hN).2⟩ rfl rfl hl.1 rfl (lv_room (Nat.le_of_ble_eq_true rfl)) dX8_person_65 ⟨Nat.le_of_ble_eq_true rfl, Nat.le_of_ble_eq_true rfl⟩) hS (fun q _ h => hFc q h) hFc (fun _ t H1 locs ht hvm hr34 hB hz1 hk1 hS => ?_)
                    obtain ⟨ct35, hP1, hD1, hI⟩ := hB
                    rw [ht] at hP1
                    have hD := hD1.weaken (fun _ _ _ h => hFc _ h)
                    generalize H1 = H at hP1 hS ⊢
                    have hP := hP1
                    refine W.widen (k := 0) (n := 0) (Nat.le_refl _) (Nat.le_refl _) ?_
                    refine lv_aload_n hx hb dX8_person_68 rfl (lv_at hl 1 rfl) ?_
                    obtain ⟨bk38, dr37, h39, h40, h41, hs36⟩ := a8_0 hI
                    refine va_get (D := g.1) (ci := 8) (v := .ref (ad 1)) (C := RX8) (T := TX8) (N := 13) hx hb hg inG8 hown hK hP 0 (zw_at (by omega) hs36) rfl 0 (by decide) (hg _ mm_360) (fun _ h9 => h9) rfl dX8_person_69 ?_
                    refine lv_iconst (v := 1) hx hb dX8_person_72 (by decide) ?_
                    have hs42 := a8_1 hI
                    refine va_aldq hx hb hK hP 1 4 (zw_at (by omega) hs42) rfl (z_in (by decide : (1 : Int32).toInt = 1) (by omega) (by omega)) dX8_person_73 ?_
                    refine W.eq (g2 := F0 m 74 ls [.ref (ad 40)]) rfl ?_
                    refine lv_iload hx hb dX8_person_74 (lv_at hl 0 rfl) ?_
                    refine lv_iload_n hx hb dX8_person_76 rfl (lv_at hl 3 rfl) ?_
                    obtain ⟨we44, se45, h46, h47, hs43⟩ := a8_35 (kc := 40) (by omega) hI
                    have hFc := zw_free hD hS hA
                    refine va_callv (va_runV (As := [.int pe, .int b0]) (rest := []) ⟨hx, hb, hml, hown, hg⟩ (k_X3_settle l g _ ad x24 ct35 40 pe b0 (by omega) hI) (cwV 2 hg (z_gV mm_434 mm_435 mm_436 mm_115 mm_437) rfl rfl rfl (by decide +kernel) ⟨Nat.le_of_ble_eq_true rfl, Nat.le_of_ble_eq_true rfl⟩) ⟨(zA.pre [.ref (ad 40), .int pe, .int b0] hP hK hD hN).1, va_recv hK hP (ci := 3) (q0 := 40) rfl (zw_at (by omega) hs43), (zA.pre [.ref (ad 40), .int pe, .int b0] hP hK hD hN).2⟩ rfl rfl hl.1 rfl (lv_room (Nat.le_of_ble_eq_true rfl)) dX8_person_77 ⟨Nat.le_of_ble_eq_true rfl, Nat.le_of_ble_eq_true rfl⟩) hS (fun q _ h => hFc q h) hFc (fun _ t H1 locs ht hvm hr48 hB hz1 hk1 hS => ?_)
                    obtain ⟨ct49, hP1, hD1, hI⟩ := hB
                    rw [ht] at hP1
                    have hD := hD1.weaken (fun _ _ _ h => hFc _ h)
                    generalize H1 = H at hP1 hS ⊢
                    have hP := hP1
                    refine W.widen (k := 0) (n := 0) (Nat.le_refl _) (Nat.le_refl _) ?_
                    refine lv_aload_n hx hb dX8_person_80 rfl (lv_at hl 1 rfl) ?_
                    obtain ⟨bk52, dr51, h53, h54, h55, hs50⟩ := a8_0 hI
                    refine va_get (D := g.1) (ci := 8) (v := .ref (ad 1)) (C := RX8) (T := TX8) (N := 13) hx hb hg inG8 hown hK hP 0 (zw_at (by omega) hs50) rfl 0 (by decide) (hg _ mm_360) (fun _ h9 => h9) rfl dX8_person_81 ?_
                    refine lv_iconst (v := 2) hx hb dX8_person_84 (by decide) ?_
                    have hs56 := a8_1 hI
                    refine va_aldq hx hb hK hP 1 4 (zw_at (by omega) hs56) rfl (z_in (by decide : (2 : Int32).toInt = 2) (by omega) (by omega)) dX8_person_85 ?_
                    refine W.eq (g2 := F0 m 86 ls [.ref (ad 45)]) rfl ?_
                    refine lv_iload hx hb dX8_person_86 (lv_at hl 0 rfl) ?_
                    refine lv_iload_n hx hb dX8_person_88 rfl (lv_at hl 4 rfl) ?_
                    obtain ⟨we58, se59, h60, h61, hs57⟩ := a8_35 (kc := 45) (by omega) hI
                    have hFc := zw_free hD hS hA
                    refine va_callv (va_runV (As := [.int pe, .int c0]) (rest := []) ⟨hx, hb, hml, hown, hg⟩ (k_X3_settle l g _ ad x24 ct49 45 pe c0 (by omega) hI) (cwV 2 hg (z_gV mm_434 mm_435 mm_436 mm_115 mm_437) rfl rfl rfl (by decide +kernel) ⟨Nat.le_of_ble_eq_true rfl, Nat.le_of_ble_eq_true rfl⟩) ⟨(zA.pre [.ref (ad 45), .int pe, .int c0] hP hK hD hN).1, va_recv hK hP (ci := 3) (q0 := 45) rfl (zw_at (by omega) hs57), (zA.pre [.ref (ad 45), .int pe, .int c0] hP hK hD hN).2⟩ rfl rfl hl.1 rfl (lv_room (Nat.le_of_ble_eq_true rfl)) dX8_person_89 ⟨Nat.le_of_ble_eq_true rfl, Nat.le_of_ble_eq_true rfl⟩) hS (fun q _ h => hFc q h) hFc (fun _ t H1 locs ht hvm hr62 hB hz1 hk1 hS => ?_)
                    obtain ⟨ct63, hP1, hD1, hI⟩ := hB
                    rw [ht] at hP1
                    have hD := hD1.weaken (fun _ _ _ h => hFc _ h)
                    generalize H1 = H at hP1 hS ⊢
                    have hP := hP1
                    refine W.widen (k := 0) (n := 0) (Nat.le_refl _) (Nat.le_refl _) ?_
                    refine lv_aload_n hx hb dX8_person_92 rfl (lv_at hl 1 rfl) ?_
                    obtain ⟨bk66, dr65, h67, h68, h69, hs64⟩ := a8_0 hI
                    refine va_get (D := g.1) (ci := 8) (v := .ref (ad 1)) (C := RX8) (T := TX8) (N := 13) hx hb hg inG8 hown hK hP 0 (zw_at (by omega) hs64) rfl 0 (by decide) (hg _ mm_360) (fun _ h9 => h9) rfl dX8_person_93 ?_
                    refine lv_iconst (v := 3) hx hb dX8_person_96 (by decide) ?_
                    have hs70 := a8_1 hI
                    refine va_aldq hx hb hK hP 1 4 (zw_at (by omega) hs70) rfl (z_in (by decide : (3 : Int32).toInt = 3) (by omega) (by omega)) dX8_person_97 ?_
                    refine W.eq (g2 := F0 m 98 ls [.ref (ad 50)]) rfl ?_
                    refine lv_iload hx hb dX8_person_98 (lv_at hl 0 rfl) ?_
                    refine lv_iload hx hb dX8_person_100 (lv_at hl 5 rfl) ?_
                    obtain ⟨we72, se73, h74, h75, hs71⟩ := a8_35 (kc := 50) (by omega) hI
                    have hFc := zw_free hD hS hA
                    refine va_callv (va_runV (As := [.int pe, .int d0]) (rest := []) ⟨hx, hb, hml, hown, hg⟩ (k_X3_settle l g _ ad x24 ct63 50 pe d0 (by omega) hI) (cwV 2 hg (z_gV mm_434 mm_435 mm_436 mm_115 mm_437) rfl rfl rfl (by decide +kernel) ⟨Nat.le_of_ble_eq_true rfl, Nat.le_of_ble_eq_true rfl⟩) ⟨(zA.pre [.ref (ad 50), .int pe, .int d0] hP hK hD hN).1, va_recv hK hP (ci := 3) (q0 := 50) rfl (zw_at (by omega) hs71), (zA.pre [.ref (ad 50), .int pe, .int d0] hP hK hD hN).2⟩ rfl rfl hl.1 rfl (lv_room (Nat.le_of_ble_eq_true rfl)) dX8_person_102 ⟨Nat.le_of_ble_eq_true rfl, Nat.le_of_ble_eq_true rfl⟩) hS (fun q _ h => hFc q h) hFc (fun _ t H1 locs ht hvm hr76 hB hz1 hk1 hS => ?_)
                    obtain ⟨ct77, hP1, hD1, hI⟩ := hB
                    rw [ht] at hP1
                    have hD := hD1.weaken (fun _ _ _ h => hFc _ h)
                    generalize H1 = H at hP1 hS ⊢
                    have hP := hP1
                    refine W.widen (k := 0) (n := 0) (Nat.le_refl _) (Nat.le_refl _) ?_
                    refine lv_aload_n hx hb dX8_person_105 rfl (lv_at hl 1 rfl) ?_
                    refine lv_iload hx hb dX8_person_106 (lv_at hl 0 rfl) ?_
                    obtain ⟨bk80, dr79, h81, h82, h83, hs78⟩ := a8_0 hI
                    have hFc := zw_free hD hS hA
                    refine va_callv (va_runV (As := [.int pe]) (rest := []) ⟨hx, hb, hml, hown, hg⟩ (k_X8_judgeAll l g _ ad x24 ct77 pe hI) (cwV 1 hg (z_gV mm_439 mm_441 mm_1 mm_108 mm_442) rfl rfl rfl (by decide +kernel) ⟨Nat.le_of_ble_eq_true rfl, Nat.le_of_ble_eq_true rfl⟩) ⟨(zA.pre [.ref (ad 0), .int pe] hP hK hD hN).1, va_recv hK hP (ci := 8) (q0 := 0) rfl (zw_at (by omega) hs78), (zA.pre [.ref (ad 0), .int pe] hP hK hD hN).2⟩ rfl rfl hl.1 rfl (lv_room (Nat.le_of_ble_eq_true rfl)) dX8_person_108 ⟨Nat.le_of_ble_eq_true rfl, Nat.le_of_ble_eq_true rfl⟩) hS (fun q _ h => hFc q h) hFc (fun _ t H1 locs ht hvm hr84 hB hz1 hk1 hS => ?_)
                    obtain ⟨ct85, hP1, hD1, hI⟩ := hB
                    rw [ht] at hP1
                    have hD := hD1.weaken (fun _ _ _ h => hFc _ h)
                    generalize H1 = H at hP1 hS ⊢
                    have hP := hP1
                    refine W.widen (k := 0) (n := 0) (Nat.le_refl _) (Nat.le_refl _) ?_
                    refine lv_iload hx hb dX8_person_111 (lv_at hl 0 rfl) ?_
                    exact W.iret (v := pe) hx hb hr (fun t ht hW => ⟨⟨pe, x24, rfl, by first | exact Or.inl ⟨rfl, rfl, by omega⟩ | exact Or.inr ⟨rfl, by omega, by omega⟩, ct85, by rw [ht]; exact hP, hD, hI⟩, hS.F ht⟩) hS.2.2 dX8_person_113
                  · skip
                    have c23 : ¬ (pe.toInt < 16) := fun q => c23 ((z_lt rfl (by decide : (16 : Int32).toInt = 16)).mpr q)
                    refine lv_iconst (v := (-1)) hx hb dX8_person_38 (by decide) ?_
                    have q86 : ((-1) : Int32).toInt = -1 := by decide
                    exact W.iret (v := (-1)) hx hb hr (fun t ht hW => ⟨⟨(-1), pe, rfl, by first | exact Or.inl ⟨rfl, rfl, by omega⟩ | exact Or.inr ⟨rfl, by omega, by omega⟩, ct, by rw [ht]; exact hP, hD, hI⟩, hS.F ht⟩) hS.2.2 dX8_person_39
              · skip
                obtain ⟨rfl, h87⟩ := hr13
                have h87 : ¬ (0 ≤ d0.toInt ∧ d0.toInt ≤ 15) := h87
                refine lv_if_eq (tgt := 38) hx hb dX8_person_26 (by decide) (fun c88 => ?_) (fun c88 => ?_)
                · skip
                  refine lv_iconst (v := (-1)) hx hb dX8_person_38 (by decide) ?_
                  have q89 : ((-1) : Int32).toInt = -1 := by decide
                  exact W.iret (v := (-1)) hx hb hr (fun t ht hW => ⟨⟨(-1), pe, rfl, by first | exact Or.inl ⟨rfl, rfl, by omega⟩ | exact Or.inr ⟨rfl, by omega, by omega⟩, ct, by rw [ht]; exact hP, hD, hI⟩, hS.F ht⟩) hS.2.2 dX8_person_39
                · skip
                  exact absurd c88 (by decide)
          · skip
            obtain ⟨rfl, h90⟩ := hr9
            have h90 : ¬ (0 ≤ c0.toInt ∧ c0.toInt ≤ 15) := h90
            refine lv_if_eq (tgt := 38) hx hb dX8_person_18 (by decide) (fun c91 => ?_) (fun c91 => ?_)
            · skip
              refine lv_iconst (v := (-1)) hx hb dX8_person_38 (by decide) ?_
              have q92 : ((-1) : Int32).toInt = -1 := by decide
              exact W.iret (v := (-1)) hx hb hr (fun t ht hW => ⟨⟨(-1), pe, rfl, by first | exact Or.inl ⟨rfl, rfl, by omega⟩ | exact Or.inr ⟨rfl, by omega, by omega⟩, ct, by rw [ht]; exact hP, hD, hI⟩, hS.F ht⟩) hS.2.2 dX8_person_39
            · skip
              exact absurd c91 (by decide)
      · skip
        obtain ⟨rfl, h93⟩ := hr5
        have h93 : ¬ (0 ≤ b0.toInt ∧ b0.toInt ≤ 15) := h93
        refine lv_if_eq (tgt := 38) hx hb dX8_person_11 (by decide) (fun c94 => ?_) (fun c94 => ?_)
        · skip
          refine lv_iconst (v := (-1)) hx hb dX8_person_38 (by decide) ?_
          have q95 : ((-1) : Int32).toInt = -1 := by decide
          exact W.iret (v := (-1)) hx hb hr (fun t ht hW => ⟨⟨(-1), pe, rfl, by first | exact Or.inl ⟨rfl, rfl, by omega⟩ | exact Or.inr ⟨rfl, by omega, by omega⟩, ct, by rw [ht]; exact hP, hD, hI⟩, hS.F ht⟩) hS.2.2 dX8_person_39
        · skip
          exact absurd c94 (by decide)
  · skip
    obtain ⟨rfl, h96⟩ := hr1
    have h96 : ¬ (0 ≤ a0.toInt ∧ a0.toInt ≤ 15) := h96
    refine lv_if_eq (tgt := 38) hx hb dX8_person_4 (by decide) (fun c97 => ?_) (fun c97 => ?_)
    · skip
      refine lv_iconst (v := (-1)) hx hb dX8_person_38 (by decide) ?_
      have q98 : ((-1) : Int32).toInt = -1 := by decide
      exact W.iret (v := (-1)) hx hb hr (fun t ht hW => ⟨⟨(-1), pe, rfl, by first | exact Or.inl ⟨rfl, rfl, by omega⟩ | exact Or.inr ⟨rfl, by omega, by omega⟩, ct, by rw [ht]; exact hP, hD, hI⟩, hS.F ht⟩) hS.2.2 dX8_person_39
    · skip
      exact absurd c97 (by decide)
