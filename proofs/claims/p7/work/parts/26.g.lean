set_option maxHeartbeats 4000000 in
set_option maxRecDepth 100000 in
theorem k_X8_fitAlone (l : Launch) (g : zG) (ad : Nat → Nat) (pe : Int32) (ct : Nat → va_E) (b : Int32) (i : Int32) (kn : Int32) (hl_b : 0 ≤ b.toInt ∧ b.toInt ≤ 3) (hI : Inv8 g ad pe ct) : Met l yX8_fitAlone (zW yX8_fitAlone cX8_fitAlone 6 (some .int)) ({ frames := 1, cells := 0, slots := 0, locals := 22 }) (va_Pc [.ref (ad 0), .int b, .int i, .int kn] (zR g (zw 126 ad ct))) (vp_Si (fun r : Int32 => (True))) 0 0 (fun _ => False) := by
  refine Met.ofW (cc := cX8_fitAlone) (maxL := 6) (ret := (some .int)) (by decide) rfl ?_
  intro p e s m args below meth c s₁ B hml hv
  obtain ⟨rfl, hP, hK, hN⟩ := hv
  have hx := B.exec
  have hb := B.bytes
  have hr := B.returns
  have hg := zW.law (atoms_spec (ws := (zW yX8_fitAlone cX8_fitAlone 6 (some .int))) B.pre)
  have hown : s.vm.findClass RX8 = some m.cls := findClass_of_methodNamed B.named
  have hlocks := B.notSynchronized
  have hpe0 := hI.1
  have hl := lv_entry ([.ref (ad 0), .int b, .int i, .int kn]) (n := 6) (Nat.le_of_ble_eq_true rfl)
  rw [lg_entry_eq]
  generalize (lg_sl ([.ref (ad 0), .int b, .int i, .int kn]) ++ List.replicate (6 - (lg_sl ([.ref (ad 0), .int b, .int i, .int kn])).length) Slot.unset).toArray = ls at hl ⊢
  have hl : lv_has ls 6 [(0, .ref (ad 0)), (1, .int b), (2, .int i), (3, .int kn)] := hl
  have rg_i := z_rng i
  have rg_kn := z_rng kn
  refine lv_aload_n hx hb dX8_fitAlone_0 rfl (lv_at hl 0 rfl) ?_
  obtain ⟨bk3, dr2, h4, h5, h6, hs1⟩ := a8_0 hI
  refine va_get (D := g.1) (ci := 8) (v := .ref (ad 1)) (C := RX8) (T := TX8) (N := 13) hx hb hg inG8 hown hK hP 0 (zw_at (by omega) hs1) rfl 0 (by decide) (hg _ mm_360) (fun _ h9 => h9) rfl dX8_fitAlone_1 ?_
  refine lv_iconst (v := 0) hx hb dX8_fitAlone_4 (by decide) ?_
  have hs7 := a8_1 hI
  refine va_aldq hx hb hK hP 1 4 (zw_at (by omega) hs7) rfl (z_in (by decide : (0 : Int32).toInt = 0) (by omega) (by omega)) dX8_fitAlone_5 ?_
  refine W.eq (g2 := F0 m 6 ls [.ref (ad 35)]) rfl ?_
  refine lv_aload_n hx hb dX8_fitAlone_6 rfl (lv_at hl 0 rfl) ?_
  refine va_get (D := g.1) (ci := 8) (v := .ref (ad 5)) (C := RX8) (T := TX8) (N := 13) hx hb hg inG8 hown hK hP 0 (zw_at (by omega) hs1) rfl 3 (by decide) (hg _ mm_363) (fun _ h9 => h9) rfl dX8_fitAlone_7 ?_
  refine lv_iload_n hx hb dX8_fitAlone_10 rfl (lv_at hl 1 rfl) ?_
  have hs8 := a8_5 hI
  refine va_aldq hx hb hK hP 5 5 (zw_at (by omega) hs8) rfl (z_in rfl (by omega) (by omega)) dX8_fitAlone_11 ?_
  rw [zF5_at (x := b) (by omega) (by omega)]
  refine lv_iload_n hx hb dX8_fitAlone_12 rfl (lv_at hl 2 rfl) ?_
  refine lv_iconst (v := 0) hx hb dX8_fitAlone_13 (by decide) ?_
  obtain ⟨lns10, liv11, shw12, h13, h14, h15, h16, hz17, hs9⟩ := a8_40 (kc := (0 + 55 + 11 * b.toInt.toNat)) (by omega) hI
  have bhz17 := z_b01 hz17
  refine zc_i (va_runV (As := [.int i, .int 0]) (rest := [.ref (ad 35)]) ⟨hx, hb, hml, hown, hg⟩ (k_X2_nodeAt l g ad pe ct (0 + 55 + 11 * b.toInt.toNat) i (0 : Int32) (by omega) hI) (cwV 2 hg (z_gV mm_599 mm_600 mm_601 mm_116 mm_602) rfl rfl rfl (by decide +kernel) ⟨Nat.le_of_ble_eq_true rfl, Nat.le_of_ble_eq_true rfl⟩) ⟨(zR.pre [.ref (ad (0 + 55 + 11 * b.toInt.toNat)), .int i, .int 0] hP hK hN).1, va_recv hK hP (ci := 2) (q0 := (0 + 55 + 11 * b.toInt.toNat)) rfl (zw_at (by omega) hs9), (zR.pre [.ref (ad (0 + 55 + 11 * b.toInt.toNat)), .int i, .int 0] hP hK hN).2⟩ rfl rfl hl.1 rfl (lv_room (Nat.le_of_ble_eq_true rfl)) dX8_fitAlone_14 ⟨Nat.le_of_ble_eq_true rfl, Nat.le_of_ble_eq_true rfl⟩) (fun r18 hr18 => ?_)
  obtain ⟨we20, se21, h22, h23, hs19⟩ := a8_35 (kc := 35) (by omega) hI
  refine zc_i (va_runV (As := [.int r18]) (rest := []) ⟨hx, hb, hml, hown, hg⟩ (k_X3_whoBelow l g ad pe ct 35 r18 (by omega) hI) (cwV 1 hg (z_gV mm_687 mm_688 mm_689 mm_115 mm_690) rfl rfl rfl (by decide +kernel) ⟨Nat.le_of_ble_eq_true rfl, Nat.le_of_ble_eq_true rfl⟩) ⟨(zR.pre [.ref (ad 35), .int r18] hP hK hN).1, va_recv hK hP (ci := 3) (q0 := 35) rfl (zw_at (by omega) hs19), (zR.pre [.ref (ad 35), .int r18] hP hK hN).2⟩ rfl rfl hl.1 rfl (lv_room (Nat.le_of_ble_eq_true rfl)) dX8_fitAlone_17 ⟨Nat.le_of_ble_eq_true rfl, Nat.le_of_ble_eq_true rfl⟩) (fun r24 hr24 => ?_)
  refine lv_istore (lv' := [(4, .int r24), (0, .ref (ad 0)), (1, .int b), (2, .int i), (3, .int kn)]) hx hb dX8_fitAlone_20 hl (by decide) rfl (fun ls hl => ?_)
  refine lv_iconst (v := 1) hx hb dX8_fitAlone_22 (by decide) ?_
  refine lv_istore (lv' := [(5, .int 1), (4, .int r24), (0, .ref (ad 0)), (1, .int b), (2, .int i), (3, .int kn)]) hx hb dX8_fitAlone_23 hl (by decide) rfl (fun ls hl => ?_)
  have loop25 : ∀ (n25 : Nat) (v5_25 : Int32) (v4_25 : Int32) (ls : Array Slot), ((4 - v5_25.toInt : Int).toNat < n25) → (1 ≤ v5_25.toInt ∧ v5_25.toInt ≤ 4) → lv_has ls 6 [(5, .int v5_25), (4, .int v4_25), (0, .ref (ad 0)), (1, .int b), (2, .int i), (3, .int kn)] → W p l e (headSpec (zW yX8_fitAlone cX8_fitAlone 6 (some .int)) ({ frames := 1, cells := 0, slots := 0, locals := 22 })).room s m ([.ref (ad 0), .int b, .int i, .int kn] : List Value).toArray below meth c s.heap [] 0 0 (MQ below (vp_Si (fun r : Int32 => (True))) ([.ref (ad 0), .int b, .int i, .int kn] : List Value).toArray s 0 0 (fun _ => False)) (F0 m 25 ls []) := by
    intro n25
    induction n25 with
    | zero =>
      intro v5_25 v4_25 ls hn25 b5_25 hl
      exact absurd hn25 (Nat.not_lt_zero _)
    | succ n25 ih25 =>
      intro v5_25 v4_25 ls hn25 b5_25 hl
      refine lv_iload hx hb dX8_fitAlone_25 (lv_at hl 0 rfl) ?_
      refine lv_iconst (v := 4) hx hb dX8_fitAlone_27 (by decide) ?_
      refine lv_icmp_ge (tgt := 64) hx hb dX8_fitAlone_28 (by decide) (fun c25 => ?_) (fun c25 => ?_)
      · skip
        have c25 : 4 ≤ v5_25.toInt := (z_le (by decide : (4 : Int32).toInt = 4) rfl).mp c25
        refine lv_iconst (v := 0) hx hb dX8_fitAlone_64 (by decide) ?_
        refine lv_istore (lv' := [(5, .int 0), (4, .int v4_25), (0, .ref (ad 0)), (1, .int b), (2, .int i), (3, .int kn)]) hx hb dX8_fitAlone_65 hl (by decide) rfl (fun ls hl => ?_)
        have loop67 : ∀ (n67 : Nat) (v5_67 : Int32) (v4_67 : Int32) (ls : Array Slot), ((8 - v5_67.toInt : Int).toNat < n67) → (0 ≤ v5_67.toInt ∧ v5_67.toInt ≤ 8) → lv_has ls 6 [(5, .int v5_67), (4, .int v4_67), (0, .ref (ad 0)), (1, .int b), (2, .int i), (3, .int kn)] → W p l e (headSpec (zW yX8_fitAlone cX8_fitAlone 6 (some .int)) ({ frames := 1, cells := 0, slots := 0, locals := 22 })).room s m ([.ref (ad 0), .int b, .int i, .int kn] : List Value).toArray below meth c s.heap [] 0 0 (MQ below (vp_Si (fun r : Int32 => (True))) ([.ref (ad 0), .int b, .int i, .int kn] : List Value).toArray s 0 0 (fun _ => False)) (F0 m 67 ls []) := by
          intro n67
          induction n67 with
          | zero =>
            intro v5_67 v4_67 ls hn67 b5_67 hl
            exact absurd hn67 (Nat.not_lt_zero _)
          | succ n67 ih67 =>
            intro v5_67 v4_67 ls hn67 b5_67 hl
            refine lv_iload hx hb dX8_fitAlone_67 (lv_at hl 0 rfl) ?_
            refine lv_bipush (v := 8) hx hb dX8_fitAlone_69 (by decide) ?_
            refine lv_icmp_ge (tgt := 120) hx hb dX8_fitAlone_71 (by decide) (fun c26 => ?_) (fun c26 => ?_)
            · skip
              have c26 : 8 ≤ v5_67.toInt := (z_le (by decide : (8 : Int32).toInt = 8) rfl).mp c26
              refine lv_iload hx hb dX8_fitAlone_120 (lv_at hl 1 rfl) ?_
              exact W.iret (v := v4_67) hx hb hr (fun t ht hW => ⟨v4_67, rfl, trivial, ht⟩) (fun q hq => by cases hq) dX8_fitAlone_122
            · skip
              have c26 : ¬ (8 ≤ v5_67.toInt) := fun q => c26 ((z_le (by decide : (8 : Int32).toInt = 8) rfl).mpr q)
              refine lv_iload_n hx hb dX8_fitAlone_74 rfl (lv_at hl 5 rfl) ?_
              refine lv_iload hx hb dX8_fitAlone_75 (lv_at hl 0 rfl) ?_
              refine lv_ishr hx hb dX8_fitAlone_77 ?_
              refine lv_topi (fun x27 ex27 => ?_)
              refine lv_iconst (v := 1) hx hb dX8_fitAlone_78 (by decide) ?_
              refine lv_iand hx hb dX8_fitAlone_79 ?_
              refine lv_topi (fun x28 ex28 => ?_)
              have tx28 := z_andr (x := x27) (y := 1) (by decide : (1 : Int32).toInt = 1) (by omega)
              rw [← ex28] at tx28
              refine lv_iconst (v := 1) hx hb dX8_fitAlone_80 (by decide) ?_
              refine lv_icmp_ne (tgt := 114) hx hb dX8_fitAlone_81 (by decide) (fun c29 => ?_) (fun c29 => ?_)
              · skip
                have c29 : ¬ (x28.toInt = 1) := fun q => c29 ((z_eq rfl (by decide : (1 : Int32).toInt = 1)).mpr q)
                obtain ⟨x30, ex30⟩ : ∃ y : Int32, y = v5_67 + 1 := ⟨_, rfl⟩
                have tx30 : x30.toInt = v5_67.toInt + 1 := by rw [ex30]; exact z_add rfl (by decide : (1 : Int32).toInt = 1) (by omega) (by omega)
                refine lv_iinc (v := x30) (lv' := [(5, .int x30), (4, .int v4_67), (0, .ref (ad 0)), (1, .int b), (2, .int i), (3, .int kn)]) hx hb dX8_fitAlone_114 hl (k := 0) rfl (by rw [ex30]; rfl) (by decide) rfl (fun ls hl => ?_)
                refine lv_goto (tgt := 67) hx hb dX8_fitAlone_117 (by decide) ?_
                exact ih67 x30 v4_67 ls (by omega) (by first | omega | decide) (lv_sub hl [0, 1, 2, 3, 4, 5] rfl)
              · skip
                have c29 : x28.toInt = 1 := (z_eq rfl (by decide : (1 : Int32).toInt = 1)).mp c29
                refine lv_aload_n hx hb dX8_fitAlone_84 rfl (lv_at hl 2 rfl) ?_
                refine va_get (D := g.1) (ci := 8) (v := .ref (ad 9)) (C := RX8) (T := TX8) (N := 13) hx hb hg inG8 hown hK hP 0 (zw_at (by omega) hs1) rfl 5 (by decide) (hg _ mm_365) (fun _ h9 => h9) rfl dX8_fitAlone_85 ?_
                refine lv_iload hx hb dX8_fitAlone_88 (lv_at hl 0 rfl) ?_
                obtain ⟨f32, hgf33, hs31⟩ := a8_9 hI
                refine va_aldq hx hb hK hP 9 6 (zw_at (by omega) hs31) rfl (z_in rfl (by omega) (by omega)) dX8_fitAlone_90 ?_
                obtain ⟨j34, hj34, ej34⟩ := hgf33 _ (z_clt (x := v5_67) rfl (by omega) (by omega))
                rw [ej34]
                refine W.eq (g2 := F0 m 91 ls [.ref (ad (99 + 3 * j34))]) rfl ?_
                refine lv_iload_n hx hb dX8_fitAlone_91 rfl (lv_at hl 3 rfl) ?_
                refine lv_iload_n hx hb dX8_fitAlone_92 rfl (lv_at hl 4 rfl) ?_
                obtain ⟨tld36, ofb37, hol38, flt39, fla40, ofl41, len42, atx43, ref44, hz45, h46, h47, h48, h49, hz50, hs35⟩ := a8_44 (kc := (99 + 3 * j34)) (by omega) hI
                have bhz45 := z_b01 hz45
                have bhz50 := z_b01 hz50
                refine zc_i (va_runV (As := [.int b, .int i]) (rest := []) ⟨hx, hb, hml, hown, hg⟩ (k_X4_isOf l g ad pe ct (99 + 3 * j34) b i (by omega) hI) (cwV 2 hg (z_gV mm_691 mm_692 mm_693 mm_114 mm_694) rfl rfl rfl (by decide +kernel) ⟨Nat.le_of_ble_eq_true rfl, Nat.le_of_ble_eq_true rfl⟩) ⟨(zR.pre [.ref (ad (99 + 3 * j34)), .int b, .int i] hP hK hN).1, va_recv hK hP (ci := 4) (q0 := (99 + 3 * j34)) rfl (zw_at (by omega) hs35), (zR.pre [.ref (ad (99 + 3 * j34)), .int b, .int i] hP hK hN).2⟩ rfl rfl hl.1 rfl (lv_room (Nat.le_of_ble_eq_true rfl)) dX8_fitAlone_93 ⟨Nat.le_of_ble_eq_true rfl, Nat.le_of_ble_eq_true rfl⟩) (fun r51 hr51 => ?_)
                refine lv_if_eq (tgt := 114) hx hb dX8_fitAlone_96 (by decide) (fun c52 => ?_) (fun c52 => ?_)
                · skip
                  have c52 : r51.toInt = 0 := (z_eq rfl (by decide : (0 : Int32).toInt = 0)).mp c52
                  obtain ⟨x53, ex53⟩ : ∃ y : Int32, y = v5_67 + 1 := ⟨_, rfl⟩
                  have tx53 : x53.toInt = v5_67.toInt + 1 := by rw [ex53]; exact z_add rfl (by decide : (1 : Int32).toInt = 1) (by omega) (by omega)
                  refine lv_iinc (v := x53) (lv' := [(5, .int x53), (4, .int v4_67), (0, .ref (ad 0)), (1, .int b), (2, .int i), (3, .int kn)]) hx hb dX8_fitAlone_114 hl (k := 0) rfl (by rw [ex53]; rfl) (by decide) rfl (fun ls hl => ?_)
                  refine lv_goto (tgt := 67) hx hb dX8_fitAlone_117 (by decide) ?_
                  exact ih67 x53 v4_67 ls (by omega) (by first | omega | decide) (lv_sub hl [0, 1, 2, 3, 4, 5] rfl)
                · skip
                  have c52 : ¬ (r51.toInt = 0) := fun q => c52 ((z_eq rfl (by decide : (0 : Int32).toInt = 0)).mpr q)
                  refine lv_iload hx hb dX8_fitAlone_99 (lv_at hl 1 rfl) ?_
                  refine lv_aload_n hx hb dX8_fitAlone_101 rfl (lv_at hl 2 rfl) ?_
                  refine va_get (D := g.1) (ci := 8) (v := .ref (ad 9)) (C := RX8) (T := TX8) (N := 13) hx hb hg inG8 hown hK hP 0 (zw_at (by omega) hs1) rfl 5 (by decide) (hg _ mm_365) (fun _ h9 => h9) rfl dX8_fitAlone_102 ?_
                  refine lv_iload hx hb dX8_fitAlone_105 (lv_at hl 0 rfl) ?_
                  refine va_aldq hx hb hK hP 9 6 (zw_at (by omega) hs31) rfl (z_in rfl (by omega) (by omega)) dX8_fitAlone_107 ?_
                  obtain ⟨j54, hj54, ej54⟩ := hgf33 _ (z_clt (x := v5_67) rfl (by omega) (by omega))
                  rw [ej54]
                  refine W.eq (g2 := F0 m 108 ls [.ref (ad (99 + 3 * j54)), .int v4_67]) rfl ?_
                  obtain ⟨tld56, ofb57, hol58, flt59, fla60, ofl61, len62, atx63, ref64, hz65, h66, h67, h68, h69, hz70, hs55⟩ := a8_44 (kc := (99 + 3 * j54)) (by omega) hI
                  have bhz65 := z_b01 hz65
                  have bhz70 := z_b01 hz70
                  refine va_get (D := g.1) (ci := 4) (v := .int hol58) (C := RX4) (T := TX4) (N := 11) hx hb hg inG4 hown hK hP (99 + 3 * j54) (zw_at (by omega) hs55) rfl 2 (by decide) (hg _ mm_276) (fun _ h9 => h9) rfl dX8_fitAlone_108 ?_
                  refine lv_iand hx hb dX8_fitAlone_111 ?_
                  refine lv_topi (fun x71 ex71 => ?_)
                  refine lv_istore (lv' := [(4, .int x71), (5, .int v5_67), (0, .ref (ad 0)), (1, .int b), (2, .int i), (3, .int kn)]) hx hb dX8_fitAlone_112 hl (by decide) rfl (fun ls hl => ?_)
                  obtain ⟨x72, ex72⟩ : ∃ y : Int32, y = v5_67 + 1 := ⟨_, rfl⟩
                  have tx72 : x72.toInt = v5_67.toInt + 1 := by rw [ex72]; exact z_add rfl (by decide : (1 : Int32).toInt = 1) (by omega) (by omega)
                  refine lv_iinc (v := x72) (lv' := [(5, .int x72), (4, .int x71), (0, .ref (ad 0)), (1, .int b), (2, .int i), (3, .int kn)]) hx hb dX8_fitAlone_114 hl (k := 1) rfl (by rw [ex72]; rfl) (by decide) rfl (fun ls hl => ?_)
                  refine lv_goto (tgt := 67) hx hb dX8_fitAlone_117 (by decide) ?_
                  exact ih67 x72 x71 ls (by omega) (by first | omega | decide) (lv_sub hl [0, 1, 2, 3, 4, 5] rfl)
        exact loop67 ((8 - (0 : Int32).toInt : Int).toNat + 1) (0 : Int32) v4_25 ls (by omega) (by first | omega | decide) (lv_sub hl [0, 1, 2, 3, 4, 5] rfl)
      · skip
        have c25 : ¬ (4 ≤ v5_25.toInt) := fun q => c25 ((z_le (by decide : (4 : Int32).toInt = 4) rfl).mpr q)
        refine lv_iload hx hb dX8_fitAlone_31 (lv_at hl 1 rfl) ?_
        refine lv_aload_n hx hb dX8_fitAlone_33 rfl (lv_at hl 2 rfl) ?_
        refine va_get (D := g.1) (ci := 8) (v := .ref (ad 1)) (C := RX8) (T := TX8) (N := 13) hx hb hg inG8 hown hK hP 0 (zw_at (by omega) hs1) rfl 0 (by decide) (hg _ mm_360) (fun _ h9 => h9) rfl dX8_fitAlone_34 ?_
        refine lv_iload hx hb dX8_fitAlone_37 (lv_at hl 0 rfl) ?_
        refine va_aldq hx hb hK hP 1 4 (zw_at (by omega) hs7) rfl (z_in rfl (by omega) (by omega)) dX8_fitAlone_39 ?_
        rw [zF1_at (x := v5_25) (by omega) (by omega)]
        refine lv_aload_n hx hb dX8_fitAlone_40 rfl (lv_at hl 2 rfl) ?_
        refine va_get (D := g.1) (ci := 8) (v := .ref (ad 5)) (C := RX8) (T := TX8) (N := 13) hx hb hg inG8 hown hK hP 0 (zw_at (by omega) hs1) rfl 3 (by decide) (hg _ mm_363) (fun _ h9 => h9) rfl dX8_fitAlone_41 ?_
        refine lv_iload_n hx hb dX8_fitAlone_44 rfl (lv_at hl 3 rfl) ?_
        refine va_aldq hx hb hK hP 5 5 (zw_at (by omega) hs8) rfl (z_in rfl (by omega) (by omega)) dX8_fitAlone_45 ?_
        rw [zF5_at (x := b) (by omega) (by omega)]
        refine lv_iload_n hx hb dX8_fitAlone_46 rfl (lv_at hl 4 rfl) ?_
        refine lv_iload hx hb dX8_fitAlone_47 (lv_at hl 0 rfl) ?_
        refine zc_i (va_runV (As := [.int i, .int v5_25]) (rest := [.ref (ad (0 + 35 + 5 * v5_25.toInt.toNat)), .int v4_25]) ⟨hx, hb, hml, hown, hg⟩ (k_X2_nodeAt l g ad pe ct (0 + 55 + 11 * b.toInt.toNat) i v5_25 (by omega) hI) (cwV 2 hg (z_gV mm_599 mm_600 mm_601 mm_116 mm_602) rfl rfl rfl (by decide +kernel) ⟨Nat.le_of_ble_eq_true rfl, Nat.le_of_ble_eq_true rfl⟩) ⟨(zR.pre [.ref (ad (0 + 55 + 11 * b.toInt.toNat)), .int i, .int v5_25] hP hK hN).1, va_recv hK hP (ci := 2) (q0 := (0 + 55 + 11 * b.toInt.toNat)) rfl (zw_at (by omega) hs9), (zR.pre [.ref (ad (0 + 55 + 11 * b.toInt.toNat)), .int i, .int v5_25] hP hK hN).2⟩ rfl rfl hl.1 rfl (lv_room (Nat.le_of_ble_eq_true rfl)) dX8_fitAlone_49 ⟨Nat.le_of_ble_eq_true rfl, Nat.le_of_ble_eq_true rfl⟩) (fun r73 hr73 => ?_)
        obtain ⟨we75, se76, h77, h78, hs74⟩ := a8_35 (kc := (0 + 35 + 5 * v5_25.toInt.toNat)) (by omega) hI
        refine zc_i (va_runV (As := [.int r73]) (rest := [.int v4_25]) ⟨hx, hb, hml, hown, hg⟩ (k_X3_whoBelow l g ad pe ct (0 + 35 + 5 * v5_25.toInt.toNat) r73 (by omega) hI) (cwV 1 hg (z_gV mm_687 mm_688 mm_689 mm_115 mm_690) rfl rfl rfl (by decide +kernel) ⟨Nat.le_of_ble_eq_true rfl, Nat.le_of_ble_eq_true rfl⟩) ⟨(zR.pre [.ref (ad (0 + 35 + 5 * v5_25.toInt.toNat)), .int r73] hP hK hN).1, va_recv hK hP (ci := 3) (q0 := (0 + 35 + 5 * v5_25.toInt.toNat)) rfl (zw_at (by omega) hs74), (zR.pre [.ref (ad (0 + 35 + 5 * v5_25.toInt.toNat)), .int r73] hP hK hN).2⟩ rfl rfl hl.1 rfl (lv_room (Nat.le_of_ble_eq_true rfl)) dX8_fitAlone_52 ⟨Nat.le_of_ble_eq_true rfl, Nat.le_of_ble_eq_true rfl⟩) (fun r79 hr79 => ?_)
        refine lv_iand hx hb dX8_fitAlone_55 ?_
        refine lv_topi (fun x80 ex80 => ?_)
        refine lv_istore (lv' := [(4, .int x80), (5, .int v5_25), (0, .ref (ad 0)), (1, .int b), (2, .int i), (3, .int kn)]) hx hb dX8_fitAlone_56 hl (by decide) rfl (fun ls hl => ?_)
        obtain ⟨x81, ex81⟩ : ∃ y : Int32, y = v5_25 + 1 := ⟨_, rfl⟩
        have tx81 : x81.toInt = v5_25.toInt + 1 := by rw [ex81]; exact z_add rfl (by decide : (1 : Int32).toInt = 1) (by omega) (by omega)
        refine lv_iinc (v := x81) (lv' := [(5, .int x81), (4, .int x80), (0, .ref (ad 0)), (1, .int b), (2, .int i), (3, .int kn)]) hx hb dX8_fitAlone_58 hl (k := 1) rfl (by rw [ex81]; rfl) (by decide) rfl (fun ls hl => ?_)
        refine lv_goto (tgt := 25) hx hb dX8_fitAlone_61 (by decide) ?_
        exact ih25 x81 x80 ls (by omega) (by first | omega | decide) (lv_sub hl [0, 1, 2, 3, 4, 5] rfl)
  exact loop25 ((4 - (1 : Int32).toInt : Int).toNat + 1) (1 : Int32) r24 ls (by omega) (by first | omega | decide) (lv_sub hl [0, 1, 2, 3, 4, 5] rfl)

set_option maxHeartbeats 4000000 in
set_option maxRecDepth 100000 in
theorem k_X8_fitAll (l : Launch) (g : zG) (ad : Nat → Nat) (pe : Int32) (ct : Nat → va_E) (la : Int32) (kn : Int32) (hI : Inv8 g ad pe ct) : Met l yX8_fitAll (zW yX8_fitAll cX8_fitAll 6 (some .int)) ({ frames := 2, cells := 0, slots := 0, locals := 47 }) (va_Pc [.ref (ad 0), .int la, .int kn] (zR g (zw 126 ad ct))) (vp_Si (fun r : Int32 => ((0 ≤ r.toInt) ∧ (r.toInt ≤ 65535)))) 0 0 (fun _ => False) := by
  refine Met.ofW (cc := cX8_fitAll) (maxL := 6) (ret := (some .int)) (by decide) rfl ?_
  intro p e s m args below meth c s₁ B hml hv
  obtain ⟨rfl, hP, hK, hN⟩ := hv
  have hx := B.exec
  have hb := B.bytes
  have hr := B.returns
  have hg := zW.law (atoms_spec (ws := (zW yX8_fitAll cX8_fitAll 6 (some .int))) B.pre)
  have hown : s.vm.findClass RX8 = some m.cls := findClass_of_methodNamed B.named
  have hlocks := B.notSynchronized
  have hpe0 := hI.1
  have hl := lv_entry ([.ref (ad 0), .int la, .int kn]) (n := 6) (Nat.le_of_ble_eq_true rfl)
  rw [lg_entry_eq]
  generalize (lg_sl ([.ref (ad 0), .int la, .int kn]) ++ List.replicate (6 - (lg_sl ([.ref (ad 0), .int la, .int kn])).length) Slot.unset).toArray = ls at hl ⊢
  have hl : lv_has ls 6 [(0, .ref (ad 0)), (1, .int la), (2, .int kn)] := hl
  have rg_la := z_rng la
  have rg_kn := z_rng kn
  refine lv_iconst (v := 1) hx hb dX8_fitAll_0 (by decide) ?_
  refine lv_aload_n hx hb dX8_fitAll_1 rfl (lv_at hl 0 rfl) ?_
  obtain ⟨bk3, dr2, h4, h5, h6, hs1⟩ := a8_0 hI
  refine va_get (D := g.1) (ci := 8) (v := .int pe) (C := RX8) (T := TX8) (N := 13) hx hb hg inG8 hown hK hP 0 (zw_at (by omega) hs1) rfl 11 (by decide) (hg _ mm_371) (fun _ h9 => h9) rfl dX8_fitAll_2 ?_
  refine lv_ishl hx hb dX8_fitAll_5 ?_
  refine lv_topi (fun x7 ex7 => ?_)
  have tx7 := z_shl1 (y := pe) rfl (by omega) (k := 16) (by decide) (by omega)
  rw [← ex7] at tx7
  refine lv_iconst (v := 1) hx hb dX8_fitAll_6 (by decide) ?_
  refine lv_isub hx hb dX8_fitAll_7 ?_
  refine lv_topi (fun x8 ex8 => ?_)
  have tx8 : x8.toInt = x7.toInt - 1 := by rw [ex8]; exact z_sub rfl (by decide : (1 : Int32).toInt = 1) (by omega) (by omega)
  refine lv_istore_n (lv' := [(3, .int x8), (0, .ref (ad 0)), (1, .int la), (2, .int kn)]) hx hb dX8_fitAll_8 rfl hl (by decide) rfl (fun ls hl => ?_)
  refine lv_iconst (v := 0) hx hb dX8_fitAll_9 (by decide) ?_
  refine lv_istore (lv' := [(4, .int 0), (3, .int x8), (0, .ref (ad 0)), (1, .int la), (2, .int kn)]) hx hb dX8_fitAll_10 hl (by decide) rfl (fun ls hl => ?_)
  have loop12 : ∀ (n12 : Nat) (v4_12 : Int32) (v3_12 : Int32) (ls : Array Slot), ((4 - v4_12.toInt : Int).toNat < n12) → (0 ≤ v4_12.toInt ∧ v4_12.toInt ≤ 4) → (0 ≤ v3_12.toInt ∧ v3_12.toInt ≤ 65535) → lv_has ls 6 [(4, .int v4_12), (3, .int v3_12), (0, .ref (ad 0)), (1, .int la), (2, .int kn)] → W p l e (headSpec (zW yX8_fitAll cX8_fitAll 6 (some .int)) ({ frames := 2, cells := 0, slots := 0, locals := 47 })).room s m ([.ref (ad 0), .int la, .int kn] : List Value).toArray below meth c s.heap [] 0 0 (MQ below (vp_Si (fun r : Int32 => ((0 ≤ r.toInt) ∧ (r.toInt ≤ 65535)))) ([.ref (ad 0), .int la, .int kn] : List Value).toArray s 0 0 (fun _ => False)) (F0 m 12 ls []) := by
    intro n12
    induction n12 with
    | zero =>
      intro v4_12 v3_12 ls hn12 b4_12 b3_12 hl
      exact absurd hn12 (Nat.not_lt_zero _)
    | succ n12 ih12 =>
      intro v4_12 v3_12 ls hn12 b4_12 b3_12 hl
      refine lv_iload hx hb dX8_fitAll_12 (lv_at hl 0 rfl) ?_
      refine lv_aload_n hx hb dX8_fitAll_14 rfl (lv_at hl 2 rfl) ?_
      refine va_get (D := g.1) (ci := 8) (v := .int bk3) (C := RX8) (T := TX8) (N := 13) hx hb hg inG8 hown hK hP 0 (zw_at (by omega) hs1) rfl 12 (by decide) (hg _ mm_372) (fun _ h9 => h9) rfl dX8_fitAll_15 ?_
      refine lv_icmp_ge (tgt := 78) hx hb dX8_fitAll_18 (by decide) (fun c9 => ?_) (fun c9 => ?_)
      · skip
        have c9 : bk3.toInt ≤ v4_12.toInt := (z_le rfl rfl).mp c9
        refine lv_iload_n hx hb dX8_fitAll_78 rfl (lv_at hl 1 rfl) ?_
        exact W.iret (v := v3_12) hx hb hr (fun t ht hW => ⟨v3_12, rfl, ⟨by first | omega | decide, by first | omega | decide⟩, ht⟩) (fun q hq => by cases hq) dX8_fitAll_79
      · skip
        have c9 : ¬ (bk3.toInt ≤ v4_12.toInt) := fun q => c9 ((z_le rfl rfl).mpr q)
        refine lv_iconst (v := 0) hx hb dX8_fitAll_21 (by decide) ?_
        refine lv_istore (lv' := [(5, .int 0), (4, .int v4_12), (3, .int v3_12), (0, .ref (ad 0)), (1, .int la), (2, .int kn)]) hx hb dX8_fitAll_22 hl (by decide) rfl (fun ls hl => ?_)
        have loop24 : ∀ (n24 : Nat) (v5_24 : Int32) (v3_24 : Int32) (ls : Array Slot), ((8 - v5_24.toInt : Int).toNat < n24) → (0 ≤ v5_24.toInt ∧ v5_24.toInt ≤ 8) → (0 ≤ v3_24.toInt ∧ v3_24.toInt ≤ 65535) → lv_has ls 6 [(5, .int v5_24), (4, .int v4_12), (3, .int v3_24), (0, .ref (ad 0)), (1, .int la), (2, .int kn)] → W p l e (headSpec (zW yX8_fitAll cX8_fitAll 6 (some .int)) ({ frames := 2, cells := 0, slots := 0, locals := 47 })).room s m ([.ref (ad 0), .int la, .int kn] : List Value).toArray below meth c s.heap [] 0 0 (MQ below (vp_Si (fun r : Int32 => ((0 ≤ r.toInt) ∧ (r.toInt ≤ 65535)))) ([.ref (ad 0), .int la, .int kn] : List Value).toArray s 0 0 (fun _ => False)) (F0 m 24 ls []) := by
          intro n24
          induction n24 with
          | zero =>
            intro v5_24 v3_24 ls hn24 b5_24 b3_24 hl
            exact absurd hn24 (Nat.not_lt_zero _)
          | succ n24 ih24 =>
            intro v5_24 v3_24 ls hn24 b5_24 b3_24 hl
            refine lv_iload hx hb dX8_fitAll_24 (lv_at hl 0 rfl) ?_
            refine lv_aload_n hx hb dX8_fitAll_26 rfl (lv_at hl 3 rfl) ?_
            refine va_get (D := g.1) (ci := 8) (v := .ref (ad 5)) (C := RX8) (T := TX8) (N := 13) hx hb hg inG8 hown hK hP 0 (zw_at (by omega) hs1) rfl 3 (by decide) (hg _ mm_363) (fun _ h9 => h9) rfl dX8_fitAll_27 ?_
            refine lv_iload hx hb dX8_fitAll_30 (lv_at hl 1 rfl) ?_
            have hs10 := a8_5 hI
            refine va_aldq hx hb hK hP 5 5 (zw_at (by omega) hs10) rfl (z_in rfl (by omega) (by omega)) dX8_fitAll_32 ?_
            rw [zF5_at (x := v4_12) (by omega) (by omega)]
            obtain ⟨lns12, liv13, shw14, h15, h16, h17, h18, hz19, hs11⟩ := a8_40 (kc := (0 + 55 + 11 * v4_12.toInt.toNat)) (by omega) hI
            have bhz19 := z_b01 hz19
            refine va_get (D := g.1) (ci := 2) (v := .int lns12) (C := RX2) (T := TX2) (N := 5) hx hb hg inG2 hown hK hP (0 + 55 + 11 * v4_12.toInt.toNat) (zw_at (by omega) hs11) rfl 0 (by decide) (hg _ mm_342) (fun _ h9 => h9) rfl dX8_fitAll_33 ?_
            refine lv_icmp_ge (tgt := 72) hx hb dX8_fitAll_36 (by decide) (fun c20 => ?_) (fun c20 => ?_)
            · skip
              have c20 : lns12.toInt ≤ v5_24.toInt := (z_le rfl rfl).mp c20
              obtain ⟨x21, ex21⟩ : ∃ y : Int32, y = v4_12 + 1 := ⟨_, rfl⟩
              have tx21 : x21.toInt = v4_12.toInt + 1 := by rw [ex21]; exact z_add rfl (by decide : (1 : Int32).toInt = 1) (by omega) (by omega)
              refine lv_iinc (v := x21) (lv' := [(4, .int x21), (5, .int v5_24), (3, .int v3_24), (0, .ref (ad 0)), (1, .int la), (2, .int kn)]) hx hb dX8_fitAll_72 hl (k := 1) rfl (by rw [ex21]; rfl) (by decide) rfl (fun ls hl => ?_)
              refine lv_goto (tgt := 12) hx hb dX8_fitAll_75 (by decide) ?_
              exact ih12 x21 v3_24 ls (by omega) (by first | omega | decide) (by first | omega | decide) (lv_sub hl [0, 2, 3, 4, 5] rfl)
            · skip
              have c20 : ¬ (lns12.toInt ≤ v5_24.toInt) := fun q => c20 ((z_le rfl rfl).mpr q)
              refine lv_iload_n hx hb dX8_fitAll_39 rfl (lv_at hl 4 rfl) ?_
              refine lv_iload hx hb dX8_fitAll_40 (lv_at hl 1 rfl) ?_
              refine lv_iload hx hb dX8_fitAll_42 (lv_at hl 0 rfl) ?_
              refine zc_i (va_runS (As := [.int v4_12, .int v5_24]) (rest := [.int la]) ⟨hx, hb, hml, hown, hg⟩ (k_X8_place l g ad pe ct v4_12 v5_24 hI) (va_cwS 2 hg (z_gS mm_617 mm_618 mm_108 mm_619) rfl rfl rfl (by decide +kernel) ⟨Nat.le_of_ble_eq_true rfl, Nat.le_of_ble_eq_true rfl⟩) (zR.pre [.int v4_12, .int v5_24] hP hK hN) rfl rfl hl.1 rfl (lv_room (Nat.le_of_ble_eq_true rfl)) dX8_fitAll_44 ⟨Nat.le_of_ble_eq_true rfl, Nat.le_of_ble_eq_true rfl⟩) (fun r22 hr22 => ?_)
              refine lv_iushr hx hb dX8_fitAll_47 rfl ?_
              refine lv_topi (fun x23 ex23 => ?_)
              refine lv_iconst (v := 1) hx hb dX8_fitAll_48 (by decide) ?_
              refine lv_iand hx hb dX8_fitAll_49 ?_
              refine lv_topi (fun x24 ex24 => ?_)
              have tx24 := z_andr (x := x23) (y := 1) (by decide : (1 : Int32).toInt = 1) (by omega)
              rw [← ex24] at tx24
              refine lv_iconst (v := 1) hx hb dX8_fitAll_50 (by decide) ?_
              refine lv_icmp_ne (tgt := 66) hx hb dX8_fitAll_51 (by decide) (fun c25 => ?_) (fun c25 => ?_)
              · skip
                have c25 : ¬ (x24.toInt = 1) := fun q => c25 ((z_eq rfl (by decide : (1 : Int32).toInt = 1)).mpr q)
                obtain ⟨x26, ex26⟩ : ∃ y : Int32, y = v5_24 + 1 := ⟨_, rfl⟩
                have tx26 : x26.toInt = v5_24.toInt + 1 := by rw [ex26]; exact z_add rfl (by decide : (1 : Int32).toInt = 1) (by omega) (by omega)
                refine lv_iinc (v := x26) (lv' := [(5, .int x26), (4, .int v4_12), (3, .int v3_24), (0, .ref (ad 0)), (1, .int la), (2, .int kn)]) hx hb dX8_fitAll_66 hl (k := 0) rfl (by rw [ex26]; rfl) (by decide) rfl (fun ls hl => ?_)
                refine lv_goto (tgt := 24) hx hb dX8_fitAll_69 (by decide) ?_
                exact ih24 x26 v3_24 ls (by omega) (by first | omega | decide) (by first | omega | decide) (lv_sub hl [0, 1, 2, 3, 4, 5] rfl)
              · skip
                have c25 : x24.toInt = 1 := (z_eq rfl (by decide : (1 : Int32).toInt = 1)).mp c25
                refine lv_iload_n hx hb dX8_fitAll_54 rfl (lv_at hl 2 rfl) ?_
                refine lv_aload_n hx hb dX8_fitAll_55 rfl (lv_at hl 3 rfl) ?_
                refine lv_iload hx hb dX8_fitAll_56 (lv_at hl 1 rfl) ?_
                refine lv_iload hx hb dX8_fitAll_58 (lv_at hl 0 rfl) ?_
                refine lv_iload_n hx hb dX8_fitAll_60 rfl (lv_at hl 5 rfl) ?_
                refine zc_i (va_runV (As := [.int v4_12, .int v5_24, .int kn]) (rest := [.int v3_24]) ⟨hx, hb, hml, hown, hg⟩ (k_X8_fitAlone l g ad pe ct v4_12 v5_24 kn (by first | omega | decide) hI) (cwV 3 hg (z_gV mm_683 mm_685 mm_27 mm_108 mm_686) rfl rfl rfl (by decide +kernel) ⟨Nat.le_of_ble_eq_true rfl, Nat.le_of_ble_eq_true rfl⟩) ⟨(zR.pre [.ref (ad 0), .int v4_12, .int v5_24, .int kn] hP hK hN).1, va_recv hK hP (ci := 8) (q0 := 0) rfl (zw_at (by omega) hs1), (zR.pre [.ref (ad 0), .int v4_12, .int v5_24, .int kn] hP hK hN).2⟩ rfl rfl hl.1 rfl (lv_room (Nat.le_of_ble_eq_true rfl)) dX8_fitAll_61 ⟨Nat.le_of_ble_eq_true rfl, Nat.le_of_ble_eq_true rfl⟩) (fun r27 hr27 => ?_)
                refine lv_iand hx hb dX8_fitAll_64 ?_
                refine lv_topi (fun x28 ex28 => ?_)
                have tx28 := z_andl (x := v3_24) (y := r27) rfl (by omega)
                rw [← ex28] at tx28
                refine lv_istore_n (lv' := [(3, .int x28), (5, .int v5_24), (4, .int v4_12), (0, .ref (ad 0)), (1, .int la), (2, .int kn)]) hx hb dX8_fitAll_65 rfl hl (by decide) rfl (fun ls hl => ?_)
                obtain ⟨x29, ex29⟩ : ∃ y : Int32, y = v5_24 + 1 := ⟨_, rfl⟩
                have tx29 : x29.toInt = v5_24.toInt + 1 := by rw [ex29]; exact z_add rfl (by decide : (1 : Int32).toInt = 1) (by omega) (by omega)
                refine lv_iinc (v := x29) (lv' := [(5, .int x29), (3, .int x28), (4, .int v4_12), (0, .ref (ad 0)), (1, .int la), (2, .int kn)]) hx hb dX8_fitAll_66 hl (k := 1) rfl (by rw [ex29]; rfl) (by decide) rfl (fun ls hl => ?_)
                refine lv_goto (tgt := 24) hx hb dX8_fitAll_69 (by decide) ?_
                exact ih24 x29 x28 ls (by omega) (by first | omega | decide) (by first | omega | decide) (lv_sub hl [0, 2, 1, 3, 4, 5] rfl)
        exact loop24 ((8 - (0 : Int32).toInt : Int).toNat + 1) (0 : Int32) v3_12 ls (by omega) (by first | omega | decide) (by first | omega | decide) (lv_sub hl [0, 1, 2, 3, 4, 5] rfl)
  exact loop12 ((4 - (0 : Int32).toInt : Int).toNat + 1) (0 : Int32) x8 ls (by omega) (by first | omega | decide) (by first | omega | decide) (lv_sub hl [0, 1, 2, 3, 4] rfl)

set_option maxHeartbeats 4000000 in
set_option maxRecDepth 100000 in
theorem k_X8_layOut (l : Launch) (g : zG) (sz : Nat) (ad : Nat → Nat) (pe : Int32) (ct : Nat → va_E) (b : Int32) (op : Int32) (hI : Inv8 g ad pe ct) : Met l yX8_layOut (zW yX8_layOut cX8_layOut 5 none) ({ frames := 3, cells := 0, slots := 0, locals := 66 }) (va_Pc [.ref (ad 0), .int b, .int op] (zA g (zw 126 ad ct) sz)) (va_Qv (fun (_ : Unit) => True) (fun _ t => ∃ ct2 : Nat → va_E, zP g (zw 126 ad ct2) t.heap ∧ va_D (va_A (zw 126 ad ct) sz) (zw 126 ad ct2) ∧ Inv8 g ad pe ct2) (va_A (zw 126 ad ct) sz)) 0 0 (va_A (zw 126 ad ct) sz) := by
  refine Met.ofW (cc := cX8_layOut) (maxL := 5) (ret := none) (by decide) rfl ?_
  intro p e s m args below meth c s₁ B hml hv
  obtain ⟨rfl, hsz, hP, hK, hD0, hN⟩ := hv
  have hx := B.exec
  have hb := B.bytes
  have hr := B.returns
  have hg := zW.law (atoms_spec (ws := (zW yX8_layOut cX8_layOut 5 none)) B.pre)
  have hown : s.vm.findClass RX8 = some m.cls := findClass_of_methodNamed B.named
  have hlocks := B.notSynchronized
  have hpe0 := hI.1
  subst hsz
  have hD := hD0.self (sz := s.heap.size)
  generalize hAe : va_A (zw 126 ad ct) s.heap.size = A at hD ⊢
  have hA : ∀ q : Nat, s.heap.size ≤ q → A q := fun q h => by rw [← hAe]; exact Or.inr h
  have hS : va_S A s.heap s.heap [] := va_S.rf
  have hl := lv_entry ([.ref (ad 0), .int b, .int op]) (n := 5) (Nat.le_of_ble_eq_true rfl)
  rw [lg_entry_eq]
  generalize (lg_sl ([.ref (ad 0), .int b, .int op]) ++ List.replicate (5 - (lg_sl ([.ref (ad 0), .int b, .int op])).length) Slot.unset).toArray = ls at hl ⊢
  have hl : lv_has ls 5 [(0, .ref (ad 0)), (1, .int b), (2, .int op)] := hl
  have rg_b := z_rng b
  have rg_op := z_rng op
  refine lv_iconst (v := 0) hx hb dX8_layOut_0 (by decide) ?_
  refine lv_istore_n (lv' := [(3, .int 0), (0, .ref (ad 0)), (1, .int b), (2, .int op)]) hx hb dX8_layOut_1 rfl hl (by decide) rfl (fun ls hl => ?_)
  refine lv_iconst (v := 0) hx hb dX8_layOut_2 (by decide) ?_
  refine lv_istore (lv' := [(4, .int 0), (3, .int 0), (0, .ref (ad 0)), (1, .int b), (2, .int op)]) hx hb dX8_layOut_3 hl (by decide) rfl (fun ls hl => ?_)
  have loop5 : ∀ (n5 : Nat) (v4_5 : Int32) (v3_5 : Int32) (ct1 : Nat → va_E) (H : Heap) (locs : List Loc) (ls : Array Slot), ((4 - v4_5.toInt : Int).toNat < n5) → (0 ≤ v4_5.toInt ∧ v4_5.toInt ≤ 4) → (Inv8 g ad pe ct1) → zP g (zw 126 ad ct1) H → va_D A (zw 126 ad ct1) → va_S A s.heap H locs → lv_has ls 5 [(4, .int v4_5), (3, .int v3_5), (0, .ref (ad 0)), (1, .int b), (2, .int op)] → W p l e (headSpec (zW yX8_layOut cX8_layOut 5 none) ({ frames := 3, cells := 0, slots := 0, locals := 66 })).room s m ([.ref (ad 0), .int b, .int op] : List Value).toArray below meth c H locs 0 0 (MQ below (va_Qv (fun (_ : Unit) => True) (fun _ t => ∃ ct2 : Nat → va_E, zP g (zw 126 ad ct2) t.heap ∧ va_D A (zw 126 ad ct2) ∧ Inv8 g ad pe ct2) A) ([.ref (ad 0), .int b, .int op] : List Value).toArray s 0 0 A) (F0 m 5 ls []) := by
    intro n5
    induction n5 with
    | zero =>
      intro v4_5 v3_5 ct1 H locs ls hn5 b4_5 hI hP hD hS hl
      exact absurd hn5 (Nat.not_lt_zero _)
    | succ n5 ih5 =>
      intro v4_5 v3_5 ct1 H locs ls hn5 b4_5 hI hP hD hS hl
      refine lv_iload hx hb dX8_layOut_5 (lv_at hl 0 rfl) ?_
      refine lv_aload_n hx hb dX8_layOut_7 rfl (lv_at hl 2 rfl) ?_
      obtain ⟨bk4, dr3, h5, h6, h7, hs2⟩ := a8_0 hI
      refine va_get (D := g.1) (ci := 8) (v := .int bk4) (C := RX8) (T := TX8) (N := 13) hx hb hg inG8 hown hK hP 0 (zw_at (by omega) hs2) rfl 12 (by decide) (hg _ mm_372) (fun _ h9 => h9) rfl dX8_layOut_8 ?_
      refine lv_icmp_ge (tgt := 50) hx hb dX8_layOut_11 (by decide) (fun c8 => ?_) (fun c8 => ?_)
      · skip
        have c8 : bk4.toInt ≤ v4_5.toInt := (z_le rfl rfl).mp c8
        refine lv_iconst (v := 0) hx hb dX8_layOut_50 (by decide) ?_
        refine lv_istore (lv' := [(4, .int 0), (3, .int v3_5), (0, .ref (ad 0)), (1, .int b), (2, .int op)]) hx hb dX8_layOut_51 hl (by decide) rfl (fun ls hl => ?_)
        have loop53 : ∀ (n53 : Nat) (v4_53 : Int32) (ct9 : Nat → va_E) (H : Heap) (locs : List Loc) (ls : Array Slot), ((8 - v4_53.toInt : Int).toNat < n53) → (0 ≤ v4_53.toInt ∧ v4_53.toInt ≤ 8) → (Inv8 g ad pe ct9) → zP g (zw 126 ad ct9) H → va_D A (zw 126 ad ct9) → va_S A s.heap H locs → lv_has ls 5 [(4, .int v4_53), (3, .int v3_5), (0, .ref (ad 0)), (1, .int b), (2, .int op)] → W p l e (headSpec (zW yX8_layOut cX8_layOut 5 none) ({ frames := 3, cells := 0, slots := 0, locals := 66 })).room s m ([.ref (ad 0), .int b, .int op] : List Value).toArray below meth c H locs 0 0 (MQ below (va_Qv (fun (_ : Unit) => True) (fun _ t => ∃ ct2 : Nat → va_E, zP g (zw 126 ad ct2) t.heap ∧ va_D A (zw 126 ad ct2) ∧ Inv8 g ad pe ct2) A) ([.ref (ad 0), .int b, .int op] : List Value).toArray s 0 0 A) (F0 m 53 ls []) := by
          intro n53
          induction n53 with
          | zero =>
            intro v4_53 ct9 H locs ls hn53 b4_53 hI hP hD hS hl
            exact absurd hn53 (Nat.not_lt_zero _)
          | succ n53 ih53 =>
            intro v4_53 ct9 H locs ls hn53 b4_53 hI hP hD hS hl
            refine lv_iload hx hb dX8_layOut_53 (lv_at hl 0 rfl) ?_
            refine lv_bipush (v := 8) hx hb dX8_layOut_55 (by decide) ?_
            refine lv_icmp_ge (tgt := 104) hx hb dX8_layOut_57 (by decide) (fun c10 => ?_) (fun c10 => ?_)
            · skip
              have c10 : 8 ≤ v4_53.toInt := (z_le (by decide : (8 : Int32).toInt = 8) rfl).mp c10
              exact W.vret hx hb hr (fun t ht hW => ⟨⟨(), rfl, trivial, ct9, by rw [ht]; exact hP, hD, hI⟩, hS.F ht⟩) hS.2.2 dX8_layOut_104
            · skip
              have c10 : ¬ (8 ≤ v4_53.toInt) := fun q => c10 ((z_le (by decide : (8 : Int32).toInt = 8) rfl).mpr q)
              refine lv_aload_n hx hb dX8_layOut_60 rfl (lv_at hl 2 rfl) ?_
              obtain ⟨bk13, dr12, h14, h15, h16, hs11⟩ := a8_0 hI
              refine va_get (D := g.1) (ci := 8) (v := .ref (ad 10)) (C := RX8) (T := TX8) (N := 13) hx hb hg inG8 hown hK hP 0 (zw_at (by omega) hs11) rfl 6 (by decide) (hg _ mm_366) (fun _ h9 => h9) rfl dX8_layOut_61 ?_
              obtain ⟨lns18, liv19, lak20, fnd21, h22, h23, h24, h25, hs17⟩ := a8_10 hI
              refine va_get (D := g.1) (ci := 6) (v := .ref (ad 11)) (C := RX6) (T := TX6) (N := 10) hx hb hg inG6 hown hK hP 10 (zw_at (by omega) hs17) rfl 4 (by decide) (hg _ mm_181) (fun _ h9 => h9) rfl dX8_layOut_64 ?_
              refine lv_iload hx hb dX8_layOut_67 (lv_at hl 0 rfl) ?_
              refine lv_aload_n hx hb dX8_layOut_69 rfl (lv_at hl 2 rfl) ?_
              refine lv_iload_n hx hb dX8_layOut_70 rfl (lv_at hl 3 rfl) ?_
              refine lv_iload hx hb dX8_layOut_71 (lv_at hl 0 rfl) ?_
              refine zc_i (va_runV (As := [.int b, .int v4_53]) (rest := [.int v4_53, .ref (ad 11)]) ⟨hx, hb, hml, hown, hg⟩ (k_X8_isLive l g ad pe ct9 b v4_53 hI) (cwV 2 hg (z_gV mm_583 mm_585 mm_18 mm_108 mm_586) rfl rfl rfl (by decide +kernel) ⟨Nat.le_of_ble_eq_true rfl, Nat.le_of_ble_eq_true rfl⟩) ⟨(zR.pre [.ref (ad 0), .int b, .int v4_53] hP hK hN).1, va_recv hK hP (ci := 8) (q0 := 0) rfl (zw_at (by omega) hs11), (zR.pre [.ref (ad 0), .int b, .int v4_53] hP hK hN).2⟩ rfl rfl hl.1 rfl (lv_room (Nat.le_of_ble_eq_true rfl)) dX8_layOut_73 ⟨Nat.le_of_ble_eq_true rfl, Nat.le_of_ble_eq_true rfl⟩) (fun r26 hr26 => ?_)
              rcases hr26 with hr26 | hr26
              · skip
                obtain ⟨rfl, h27, h28⟩ := hr26
                have h27 : 0 ≤ b.toInt ∧ b.toInt ≤ 3 := h27
                have h28 : 0 ≤ v4_53.toInt ∧ v4_53.toInt ≤ 7 := h28
                refine lv_if_eq (tgt := 96) hx hb dX8_layOut_76 (by decide) (fun c29 => ?_) (fun c29 => ?_)
                · skip
                  exact absurd c29 (by decide)
                · skip
                  refine lv_aload_n hx hb dX8_layOut_79 rfl (lv_at hl 2 rfl) ?_
                  refine va_get (D := g.1) (ci := 8) (v := .ref (ad 6)) (C := RX8) (T := TX8) (N := 13) hx hb hg inG8 hown hK hP 0 (zw_at (by omega) hs11) rfl 4 (by decide) (hg _ mm_364) (fun _ h9 => h9) rfl dX8_layOut_80 ?_
                  refine lv_iload_n hx hb dX8_layOut_83 rfl (lv_at hl 3 rfl) ?_
                  refine lv_iload hx hb dX8_layOut_84 (lv_at hl 0 rfl) ?_
                  refine zc_i (va_runS (As := [.int b, .int v4_53]) (rest := [.ref (ad 6), .int v4_53, .ref (ad 11)]) ⟨hx, hb, hml, hown, hg⟩ (k_X8_place l g ad pe ct9 b v4_53 hI) (va_cwS 2 hg (z_gS mm_617 mm_618 mm_108 mm_619) rfl rfl rfl (by decide +kernel) ⟨Nat.le_of_ble_eq_true rfl, Nat.le_of_ble_eq_true rfl⟩) (zR.pre [.int b, .int v4_53] hP hK hN) rfl rfl hl.1 rfl (lv_room (Nat.le_of_ble_eq_true rfl)) dX8_layOut_86 ⟨Nat.le_of_ble_eq_true rfl, Nat.le_of_ble_eq_true rfl⟩) (fun r30 hr30 => ?_)
                  refine lv_iload_n hx hb dX8_layOut_89 rfl (lv_at hl 1 rfl) ?_
                  obtain ⟨num32, h33, h34, hs31⟩ := a8_6 hI
                  refine zc_i (va_runV (As := [.int r30, .int v3_5]) (rest := [.int v4_53, .ref (ad 11)]) ⟨hx, hb, hml, hown, hg⟩ (k_X5_reached l g ad pe ct9 r30 v3_5 hI) (cwV 2 hg (z_gV mm_671 mm_672 mm_673 mm_110 mm_674) rfl rfl rfl (by decide +kernel) ⟨Nat.le_of_ble_eq_true rfl, Nat.le_of_ble_eq_true rfl⟩) ⟨(zR.pre [.ref (ad 6), .int r30, .int v3_5] hP hK hN).1, va_recv hK hP (ci := 5) (q0 := 6) rfl (zw_at (by omega) hs31), (zR.pre [.ref (ad 6), .int r30, .int v3_5] hP hK hN).2⟩ rfl rfl hl.1 rfl (lv_room (Nat.le_of_ble_eq_true rfl)) dX8_layOut_90 ⟨Nat.le_of_ble_eq_true rfl, Nat.le_of_ble_eq_true rfl⟩) (fun r35 hr35 => ?_)
                  refine lv_goto (tgt := 97) hx hb dX8_layOut_93 (by decide) ?_
                  obtain ⟨f37, hs36⟩ := a8_11 hI
                  refine va_iast hx hb hK hP hD hS 11 0 (zw_at (by omega) hs36) rfl (z_in rfl (by omega) (by omega)) dX8_layOut_97 (fun H locs hP hD hS => ?_)
                  have hP : zP g ((zw 126 ad ct9).set 11 (ad 11, .inl (g.2 0, 8, .inl (upd f37 (Int32.toNatClampNeg v4_53) r35)))) H := hP
                  have hD : va_D A ((zw 126 ad ct9).set 11 (ad 11, .inl (g.2 0, 8, .inl (upd f37 (Int32.toNatClampNeg v4_53) r35)))) := hD
                  rw [zw_set (by omega)] at hP hD
                  obtain ⟨ct39, ec40⟩ : ∃ z : Nat → va_E, z = va_up ct9 11 (.inl (g.2 0, 8, .inl (upd f37 (Int32.toNatClampNeg v4_53) r35))) := ⟨_, rfl⟩
                  rw [← ec40] at hP hD
                  have hI : Inv8 g ad pe ct39 := by rw [ec40]; exact up8 hI (i8_11 ⟨_, rfl⟩)
                  have hs41 : ct39 0 = .inr (8, [.ref (ad 1), .ref (ad 2), .ref (ad 3), .ref (ad 5), .ref (ad 6), .ref (ad 9), .ref (ad 10), .ref (ad 17), .ref (ad 21), .ref (ad 34), .ref (ad (99 + 3 * dr12)), .int pe, .int bk13]) := by rw [ec40, va_up_ne _ _ (by omega)]; exact hs11
                  have hs42 : ct39 10 = .inr (6, [.int lns18, .int liv19, .int lak20, .int fnd21, .ref (ad 11), .ref (ad 12), .ref (ad 13), .ref (ad 14), .ref (ad 15), .ref (ad 16)]) := by rw [ec40, va_up_ne _ _ (by omega)]; exact hs17
                  have hs43 : ct39 6 = .inr (5, [.int num32, .ref (ad 7), .ref (ad 8)]) := by rw [ec40, va_up_ne _ _ (by omega)]; exact hs31
                  have hs44 : ct39 11 = .inl (g.2 0, 8, .inl (upd f37 (Int32.toNatClampNeg v4_53) r35)) := by rw [ec40]; exact va_up_self _ _ _
                  obtain ⟨x45, ex45⟩ : ∃ y : Int32, y = v4_53 + 1 := ⟨_, rfl⟩
                  have tx45 : x45.toInt = v4_53.toInt + 1 := by rw [ex45]; exact z_add rfl (by decide : (1 : Int32).toInt = 1) (by omega) (by omega)
                  refine lv_iinc (v := x45) (lv' := [(4, .int x45), (3, .int v3_5), (0, .ref (ad 0)), (1, .int b), (2, .int op)]) hx hb dX8_layOut_98 hl (k := 0) rfl (by rw [ex45]; rfl) (by decide) rfl (fun ls hl => ?_)
                  refine lv_goto (tgt := 53) hx hb dX8_layOut_101 (by decide) ?_
                  exact ih53 x45 ct39 _ _ ls (by omega) (by first | omega | decide) hI hP hD hS (lv_sub hl [0, 1, 2, 3, 4] rfl)
              · skip
                obtain rfl := hr26
                refine lv_if_eq (tgt := 96) hx hb dX8_layOut_76 (by decide) (fun c46 => ?_) (fun c46 => ?_)
                · skip
                  refine lv_iconst (v := 0) hx hb dX8_layOut_96 (by decide) ?_
                  obtain ⟨f48, hs47⟩ := a8_11 hI
                  refine va_iast hx hb hK hP hD hS 11 0 (zw_at (by omega) hs47) rfl (z_in rfl (by omega) (by omega)) dX8_layOut_97 (fun H locs hP hD hS => ?_)
                  have hP : zP g ((zw 126 ad ct9).set 11 (ad 11, .inl (g.2 0, 8, .inl (upd f48 (Int32.toNatClampNeg v4_53) 0)))) H := hP
                  have hD : va_D A ((zw 126 ad ct9).set 11 (ad 11, .inl (g.2 0, 8, .inl (upd f48 (Int32.toNatClampNeg v4_53) 0)))) := hD
                  rw [zw_set (by omega)] at hP hD
                  obtain ⟨ct50, ec51⟩ : ∃ z : Nat → va_E, z = va_up ct9 11 (.inl (g.2 0, 8, .inl (upd f48 (Int32.toNatClampNeg v4_53) 0))) := ⟨_, rfl⟩
                  rw [← ec51] at hP hD
                  have hI : Inv8 g ad pe ct50 := by rw [ec51]; exact up8 hI (i8_11 ⟨_, rfl⟩)
                  have hs52 : ct50 0 = .inr (8, [.ref (ad 1), .ref (ad 2), .ref (ad 3), .ref (ad 5), .ref (ad 6), .ref (ad 9), .ref (ad 10), .ref (ad 17), .ref (ad 21), .ref (ad 34), .ref (ad (99 + 3 * dr12)), .int pe, .int bk13]) := by rw [ec51, va_up_ne _ _ (by omega)]; exact hs11
                  have hs53 : ct50 10 = .inr (6, [.int lns18, .int liv19, .int lak20, .int fnd21, .ref (ad 11), .ref (ad 12), .ref (ad 13), .ref (ad 14), .ref (ad 15), .ref (ad 16)]) := by rw [ec51, va_up_ne _ _ (by omega)]; exact hs17
                  have hs54 : ct50 11 = .inl (g.2 0, 8, .inl (upd f48 (Int32.toNatClampNeg v4_53) 0)) := by rw [ec51]; exact va_up_self _ _ _
                  obtain ⟨x55, ex55⟩ : ∃ y : Int32, y = v4_53 + 1 := ⟨_, rfl⟩
                  have tx55 : x55.toInt = v4_53.toInt + 1 := by rw [ex55]; exact z_add rfl (by decide : (1 : Int32).toInt = 1) (by omega) (by omega)
                  refine lv_iinc (v := x55) (lv' := [(4, .int x55), (3, .int v3_5), (0, .ref (ad 0)), (1, .int b), (2, .int op)]) hx hb dX8_layOut_98 hl (k := 0) rfl (by rw [ex55]; rfl) (by decide) rfl (fun ls hl => ?_)
                  refine lv_goto (tgt := 53) hx hb dX8_layOut_101 (by decide) ?_
                  exact ih53 x55 ct50 _ _ ls (by omega) (by first | omega | decide) hI hP hD hS (lv_sub hl [0, 1, 2, 3, 4] rfl)
                · skip
                  exact absurd c46 (by decide)
        exact loop53 ((8 - (0 : Int32).toInt : Int).toNat + 1) (0 : Int32) ct1 _ _ ls (by omega) (by first | omega | decide) hI hP hD hS (lv_sub hl [0, 1, 2, 3, 4] rfl)
      · skip
        have c8 : ¬ (bk4.toInt ≤ v4_5.toInt) := fun q => c8 ((z_le rfl rfl).mpr q)
        refine lv_iload_n hx hb dX8_layOut_14 rfl (lv_at hl 4 rfl) ?_
        refine lv_iload hx hb dX8_layOut_15 (lv_at hl 0 rfl) ?_
        refine lv_ishr hx hb dX8_layOut_17 ?_
        refine lv_topi (fun x56 ex56 => ?_)
        refine lv_iconst (v := 1) hx hb dX8_layOut_18 (by decide) ?_
        refine lv_iand hx hb dX8_layOut_19 ?_
        refine lv_topi (fun x57 ex57 => ?_)
        have tx57 := z_andr (x := x56) (y := 1) (by decide : (1 : Int32).toInt = 1) (by omega)
        rw [← ex57] at tx57
        refine lv_iconst (v := 1) hx hb dX8_layOut_20 (by decide) ?_
        refine lv_icmp_ne (tgt := 44) hx hb dX8_layOut_21 (by decide) (fun c58 => ?_) (fun c58 => ?_)
        · skip
          have c58 : ¬ (x57.toInt = 1) := fun q => c58 ((z_eq rfl (by decide : (1 : Int32).toInt = 1)).mpr q)
          obtain ⟨x59, ex59⟩ : ∃ y : Int32, y = v4_5 + 1 := ⟨_, rfl⟩
          have tx59 : x59.toInt = v4_5.toInt + 1 := by rw [ex59]; exact z_add rfl (by decide : (1 : Int32).toInt = 1) (by omega) (by omega)
          refine lv_iinc (v := x59) (lv' := [(4, .int x59), (3, .int v3_5), (0, .ref (ad 0)), (1, .int b), (2, .int op)]) hx hb dX8_layOut_44 hl (k := 0) rfl (by rw [ex59]; rfl) (by decide) rfl (fun ls hl => ?_)
          refine lv_goto (tgt := 5) hx hb dX8_layOut_47 (by decide) ?_
          exact ih5 x59 v3_5 ct1 _ _ ls (by omega) (by first | omega | decide) hI hP hD hS (lv_sub hl [0, 1, 2, 3, 4] rfl)
        · skip
          have c58 : x57.toInt = 1 := (z_eq rfl (by decide : (1 : Int32).toInt = 1)).mp c58
          refine lv_iload_n hx hb dX8_layOut_24 rfl (lv_at hl 1 rfl) ?_
          refine lv_aload_n hx hb dX8_layOut_25 rfl (lv_at hl 2 rfl) ?_
          refine va_get (D := g.1) (ci := 8) (v := .ref (ad 5)) (C := RX8) (T := TX8) (N := 13) hx hb hg inG8 hown hK hP 0 (zw_at (by omega) hs2) rfl 3 (by decide) (hg _ mm_363) (fun _ h9 => h9) rfl dX8_layOut_26 ?_
          refine lv_iload hx hb dX8_layOut_29 (lv_at hl 0 rfl) ?_
          have hs60 := a8_5 hI
          refine va_aldq hx hb hK hP 5 5 (zw_at (by omega) hs60) rfl (z_in rfl (by omega) (by omega)) dX8_layOut_31 ?_
          rw [zF5_at (x := v4_5) (by omega) (by omega)]
          obtain ⟨lns62, liv63, shw64, h65, h66, h67, h68, hz69, hs61⟩ := a8_40 (kc := (0 + 55 + 11 * v4_5.toInt.toNat)) (by omega) hI
          have bhz69 := z_b01 hz69
          refine va_get (D := g.1) (ci := 2) (v := .int liv63) (C := RX2) (T := TX2) (N := 5) hx hb hg inG2 hown hK hP (0 + 55 + 11 * v4_5.toInt.toNat) (zw_at (by omega) hs61) rfl 1 (by decide) (hg _ mm_344) (fun _ h9 => h9) rfl dX8_layOut_32 ?_
          refine lv_iload hx hb dX8_layOut_35 (lv_at hl 0 rfl) ?_
          refine lv_iconst (v := 0) hx hb dX8_layOut_37 (by decide) ?_
          refine zc_i (va_runS (As := [.int v4_5, .int 0]) (rest := [.int liv63, .int v3_5]) ⟨hx, hb, hml, hown, hg⟩ (k_X8_place l g ad pe ct1 v4_5 (0 : Int32) hI) (va_cwS 2 hg (z_gS mm_617 mm_618 mm_108 mm_619) rfl rfl rfl (by decide +kernel) ⟨Nat.le_of_ble_eq_true rfl, Nat.le_of_ble_eq_true rfl⟩) (zR.pre [.int v4_5, .int 0] hP hK hN) rfl rfl hl.1 rfl (lv_room (Nat.le_of_ble_eq_true rfl)) dX8_layOut_38 ⟨Nat.le_of_ble_eq_true rfl, Nat.le_of_ble_eq_true rfl⟩) (fun r70 hr70 => ?_)
          refine lv_ishl hx hb dX8_layOut_41 ?_
          refine lv_topi (fun x71 ex71 => ?_)
          refine lv_ior hx hb dX8_layOut_42 ?_
          refine lv_topi (fun x72 ex72 => ?_)
          refine lv_istore_n (lv' := [(3, .int x72), (4, .int v4_5), (0, .ref (ad 0)), (1, .int b), (2, .int op)]) hx hb dX8_layOut_43 rfl hl (by decide) rfl (fun ls hl => ?_)
          obtain ⟨x73, ex73⟩ : ∃ y : Int32, y = v4_5 + 1 := ⟨_, rfl⟩
          have tx73 : x73.toInt = v4_5.toInt + 1 := by rw [ex73]; exact z_add rfl (by decide : (1 : Int32).toInt = 1) (by omega) (by omega)
          refine lv_iinc (v := x73) (lv' := [(4, .int x73), (3, .int x72), (0, .ref (ad 0)), (1, .int b), (2, .int op)]) hx hb dX8_layOut_44 hl (k := 1) rfl (by rw [ex73]; rfl) (by decide) rfl (fun ls hl => ?_)
          refine lv_goto (tgt := 5) hx hb dX8_layOut_47 (by decide) ?_
          exact ih5 x73 x72 ct1 _ _ ls (by omega) (by first | omega | decide) hI hP hD hS (lv_sub hl [0, 1, 2, 3, 4] rfl)
  exact loop5 ((4 - (0 : Int32).toInt : Int).toNat + 1) (0 : Int32) (0 : Int32) ct _ _ ls (by omega) (by first | omega | decide) hI hP hD hS (lv_sub hl [0, 1, 2, 3, 4] rfl)

set_option maxHeartbeats 4000000 in
set_option maxRecDepth 100000 in
theorem k_X8_fitLaid (l : Launch) (g : zG) (sz : Nat) (ad : Nat → Nat) (pe : Int32) (ct : Nat → va_E) (b : Int32) (kn : Int32) (hl_b : 0 ≤ b.toInt ∧ b.toInt ≤ 3) (hI : Inv8 g ad pe ct) : Met l yX8_fitLaid (zW yX8_fitLaid cX8_fitLaid 4 none) ({ frames := 3, cells := 0, slots := 0, locals := 72 }) (va_Pc [.ref (ad 0), .int b, .int kn] (zA g (zw 126 ad ct) sz)) (va_Qv (fun (_ : Unit) => True) (fun _ t => ∃ ct2 : Nat → va_E, zP g (zw 126 ad ct2) t.heap ∧ va_D (va_A (zw 126 ad ct) sz) (zw 126 ad ct2) ∧ Inv8 g ad pe ct2) (va_A (zw 126 ad ct) sz)) 0 0 (va_A (zw 126 ad ct) sz) := by
  refine Met.ofW (cc := cX8_fitLaid) (maxL := 4) (ret := none) (by decide) rfl ?_
  intro p e s m args below meth c s₁ B hml hv
  obtain ⟨rfl, hsz, hP, hK, hD0, hN⟩ := hv
  have hx := B.exec
  have hb := B.bytes
  have hr := B.returns
  have hg := zW.law (atoms_spec (ws := (zW yX8_fitLaid cX8_fitLaid 4 none)) B.pre)
  have hown : s.vm.findClass RX8 = some m.cls := findClass_of_methodNamed B.named
  have hlocks := B.notSynchronized
  have hpe0 := hI.1
  subst hsz
  have hD := hD0.self (sz := s.heap.size)
  generalize hAe : va_A (zw 126 ad ct) s.heap.size = A at hD ⊢
  have hA : ∀ q : Nat, s.heap.size ≤ q → A q := fun q h => by rw [← hAe]; exact Or.inr h
  have hS : va_S A s.heap s.heap [] := va_S.rf
  have hl := lv_entry ([.ref (ad 0), .int b, .int kn]) (n := 4) (Nat.le_of_ble_eq_true rfl)
  rw [lg_entry_eq]
  generalize (lg_sl ([.ref (ad 0), .int b, .int kn]) ++ List.replicate (4 - (lg_sl ([.ref (ad 0), .int b, .int kn])).length) Slot.unset).toArray = ls at hl ⊢
  have hl : lv_has ls 4 [(0, .ref (ad 0)), (1, .int b), (2, .int kn)] := hl
  have rg_kn := z_rng kn
  refine lv_aload_n hx hb dX8_fitLaid_0 rfl (lv_at hl 0 rfl) ?_
  obtain ⟨bk3, dr2, h4, h5, h6, hs1⟩ := a8_0 hI
  refine va_get (D := g.1) (ci := 8) (v := .ref (ad 10)) (C := RX8) (T := TX8) (N := 13) hx hb hg inG8 hown hK hP 0 (zw_at (by omega) hs1) rfl 6 (by decide) (hg _ mm_366) (fun _ h9 => h9) rfl dX8_fitLaid_1 ?_
  refine lv_aload_n hx hb dX8_fitLaid_4 rfl (lv_at hl 0 rfl) ?_
  refine va_get (D := g.1) (ci := 8) (v := .ref (ad 5)) (C := RX8) (T := TX8) (N := 13) hx hb hg inG8 hown hK hP 0 (zw_at (by omega) hs1) rfl 3 (by decide) (hg _ mm_363) (fun _ h9 => h9) rfl dX8_fitLaid_5 ?_
  refine lv_iload_n hx hb dX8_fitLaid_8 rfl (lv_at hl 1 rfl) ?_
  have hs7 := a8_5 hI
  refine va_aldq hx hb hK hP 5 5 (zw_at (by omega) hs7) rfl (z_in rfl (by omega) (by omega)) dX8_fitLaid_9 ?_
  rw [zF5_at (x := b) (by omega) (by omega)]
  obtain ⟨lns9, liv10, shw11, h12, h13, h14, h15, hz16, hs8⟩ := a8_40 (kc := (0 + 55 + 11 * b.toInt.toNat)) (by omega) hI
  have bhz16 := z_b01 hz16
  refine va_get (D := g.1) (ci := 2) (v := .int lns9) (C := RX2) (T := TX2) (N := 5) hx hb hg inG2 hown hK hP (0 + 55 + 11 * b.toInt.toNat) (zw_at (by omega) hs8) rfl 0 (by decide) (hg _ mm_342) (fun _ h9 => h9) rfl dX8_fitLaid_10 ?_
  obtain ⟨lns18, liv19, lak20, fnd21, h22, h23, h24, h25, hs17⟩ := a8_10 hI
  refine va_put (D := g.1) (ci := 6) (v := .int lns9) (ty := .int) (C := RX6) (T := TX6) (N := 10) hx hb hg inG6 tyX6 tyX6_ok nmX6 hown hK hP hD hS 10 (zw_at (by omega) hs17) rfl 0 (by decide) (hg _ mm_173) (fun _ h9 => h9) rfl (by decide +kernel) rfl rfl (Nat.le_of_ble_eq_true rfl) dX8_fitLaid_13 (fun H locs hP hD hS => ?_)
  have hP : zP g ((zw 126 ad ct).set 10 (ad 10, .inr (6, [.int lns9, .int liv19, .int lak20, .int fnd21, .ref (ad 11), .ref (ad 12), .ref (ad 13), .ref (ad 14), .ref (ad 15), .ref (ad 16)]))) H := hP
  have hD : va_D A ((zw 126 ad ct).set 10 (ad 10, .inr (6, [.int lns9, .int liv19, .int lak20, .int fnd21, .ref (ad 11), .ref (ad 12), .ref (ad 13), .ref (ad 14), .ref (ad 15), .ref (ad 16)]))) := hD
  rw [zw_set (by omega)] at hP hD
  obtain ⟨ct26, ec27⟩ : ∃ z : Nat → va_E, z = va_up ct 10 (.inr (6, [.int lns9, .int liv19, .int lak20, .int fnd21, .ref (ad 11), .ref (ad 12), .ref (ad 13), .ref (ad 14), .ref (ad 15), .ref (ad 16)])) := ⟨_, rfl⟩
  rw [← ec27] at hP hD
  have hI : Inv8 g ad pe ct26 := by rw [ec27]; exact up8 hI (i8_10 ⟨(lns9 : Int32), (liv19 : Int32), (lak20 : Int32), (fnd21 : Int32), (by first | omega | decide), (by first | omega | decide), (by first | omega | decide), (by first | omega | decide), rfl⟩)
  have hs28 : ct26 0 = .inr (8, [.ref (ad 1), .ref (ad 2), .ref (ad 3), .ref (ad 5), .ref (ad 6), .ref (ad 9), .ref (ad 10), .ref (ad 17), .ref (ad 21), .ref (ad 34), .ref (ad (99 + 3 * dr2)), .int pe, .int bk3]) := by rw [ec27, va_up_ne _ _ (by omega)]; exact hs1
  have hs29 : ct26 5 = .inl (g.2 5, 4, .inr (.inr (.inr (.inr (zF5 ad 0))))) := by rw [ec27, va_up_ne _ _ (by omega)]; exact hs7
  have hs30 : ct26 (0 + 55 + 11 * b.toInt.toNat) = .inr (2, [.int lns9, .int liv10, .int shw11, .ref (ad ((0 + 55 + 11 * b.toInt.toNat) + 1)), .ref (ad ((0 + 55 + 11 * b.toInt.toNat) + 2))]) := by rw [ec27, va_up_ne _ _ (by omega)]; exact hs8
  have hs31 : ct26 10 = .inr (6, [.int lns9, .int liv19, .int lak20, .int fnd21, .ref (ad 11), .ref (ad 12), .ref (ad 13), .ref (ad 14), .ref (ad 15), .ref (ad 16)]) := by rw [ec27]; exact va_up_self _ _ _
  refine lv_aload_n hx hb dX8_fitLaid_16 rfl (lv_at hl 0 rfl) ?_
  refine va_get (D := g.1) (ci := 8) (v := .ref (ad 10)) (C := RX8) (T := TX8) (N := 13) hx hb hg inG8 hown hK hP 0 (zw_at (by omega) hs28) rfl 6 (by decide) (hg _ mm_366) (fun _ h9 => h9) rfl dX8_fitLaid_17 ?_
  refine lv_aload_n hx hb dX8_fitLaid_20 rfl (lv_at hl 0 rfl) ?_
  refine va_get (D := g.1) (ci := 8) (v := .ref (ad 5)) (C := RX8) (T := TX8) (N := 13) hx hb hg inG8 hown hK hP 0 (zw_at (by omega) hs28) rfl 3 (by decide) (hg _ mm_363) (fun _ h9 => h9) rfl dX8_fitLaid_21 ?_
  refine lv_iload_n hx hb dX8_fitLaid_24 rfl (lv_at hl 1 rfl) ?_
  refine va_aldq hx hb hK hP 5 5 (zw_at (by omega) hs29) rfl (z_in rfl (by omega) (by omega)) dX8_fitLaid_25 ?_
  rw [zF5_at (x := b) (by omega) (by omega)]
  refine va_get (D := g.1) (ci := 2) (v := .int liv10) (C := RX2) (T := TX2) (N := 5) hx hb hg inG2 hown hK hP (0 + 55 + 11 * b.toInt.toNat) (zw_at (by omega) hs30) rfl 1 (by decide) (hg _ mm_344) (fun _ h9 => h9) rfl dX8_fitLaid_26 ?_
  refine va_put (D := g.1) (ci := 6) (v := .int liv10) (ty := .int) (C := RX6) (T := TX6) (N := 10) hx hb hg inG6 tyX6 tyX6_ok nmX6 hown hK hP hD hS 10 (zw_at (by omega) hs31) rfl 1 (by decide) (hg _ mm_175) (fun _ h9 => h9) rfl (by decide +kernel) rfl rfl (Nat.le_of_ble_eq_true rfl) dX8_fitLaid_29 (fun H locs hP hD hS => ?_)
  have hP : zP g ((zw 126 ad ct26).set 10 (ad 10, .inr (6, [.int lns9, .int liv10, .int lak20, .int fnd21, .ref (ad 11), .ref (ad 12), .ref (ad 13), .ref (ad 14), .ref (ad 15), .ref (ad 16)]))) H := hP
  have hD : va_D A ((zw 126 ad ct26).set 10 (ad 10, .inr (6, [.int lns9, .int liv10, .int lak20, .int fnd21, .ref (ad 11), .ref (ad 12), .ref (ad 13), .ref (ad 14), .ref (ad 15), .ref (ad 16)]))) := hD
  rw [zw_set (by omega)] at hP hD
  obtain ⟨ct32, ec33⟩ : ∃ z : Nat → va_E, z = va_up ct26 10 (.inr (6, [.int lns9, .int liv10, .int lak20, .int fnd21, .ref (ad 11), .ref (ad 12), .ref (ad 13), .ref (ad 14), .ref (ad 15), .ref (ad 16)])) := ⟨_, rfl⟩
  rw [← ec33] at hP hD
  have hI : Inv8 g ad pe ct32 := by rw [ec33]; exact up8 hI (i8_10 ⟨(lns9 : Int32), (liv10 : Int32), (lak20 : Int32), (fnd21 : Int32), (by first | omega | decide), (by first | omega | decide), (by first | omega | decide), (by first | omega | decide), rfl⟩)
  have hs34 : ct32 0 = .inr (8, [.ref (ad 1), .ref (ad 2), .ref (ad 3), .ref (ad 5), .ref (ad 6), .ref (ad 9), .ref (ad 10), .ref (ad 17), .ref (ad 21), .ref (ad 34), .ref (ad (99 + 3 * dr2)), .int pe, .int bk3]) := by rw [ec33, va_up_ne _ _ (by omega)]; exact hs28
  have hs35 : ct32 5 = .inl (g.2 5, 4, .inr (.inr (.inr (.inr (zF5 ad 0))))) := by rw [ec33, va_up_ne _ _ (by omega)]; exact hs29
  have hs36 : ct32 (0 + 55 + 11 * b.toInt.toNat) = .inr (2, [.int lns9, .int liv10, .int shw11, .ref (ad ((0 + 55 + 11 * b.toInt.toNat) + 1)), .ref (ad ((0 + 55 + 11 * b.toInt.toNat) + 2))]) := by rw [ec33, va_up_ne _ _ (by omega)]; exact hs30
  have hs37 : ct32 10 = .inr (6, [.int lns9, .int liv10, .int lak20, .int fnd21, .ref (ad 11), .ref (ad 12), .ref (ad 13), .ref (ad 14), .ref (ad 15), .ref (ad 16)]) := by rw [ec33]; exact va_up_self _ _ _
  refine lv_iconst (v := 0) hx hb dX8_fitLaid_32 (by decide) ?_
  refine lv_istore_n (lv' := [(3, .int 0), (0, .ref (ad 0)), (1, .int b), (2, .int kn)]) hx hb dX8_fitLaid_33 rfl hl (by decide) rfl (fun ls hl => ?_)
  have loop34 : ∀ (n34 : Nat) (v3_34 : Int32) (ct38 : Nat → va_E) (H : Heap) (locs : List Loc) (ls : Array Slot), ((8 - v3_34.toInt : Int).toNat < n34) → (0 ≤ v3_34.toInt ∧ v3_34.toInt ≤ 8) → (Inv8 g ad pe ct38) → zP g (zw 126 ad ct38) H → va_D A (zw 126 ad ct38) → va_S A s.heap H locs → lv_has ls 4 [(3, .int v3_34), (0, .ref (ad 0)), (1, .int b), (2, .int kn)] → W p l e (headSpec (zW yX8_fitLaid cX8_fitLaid 4 none) ({ frames := 3, cells := 0, slots := 0, locals := 72 })).room s m ([.ref (ad 0), .int b, .int kn] : List Value).toArray below meth c H locs 0 0 (MQ below (va_Qv (fun (_ : Unit) => True) (fun _ t => ∃ ct2 : Nat → va_E, zP g (zw 126 ad ct2) t.heap ∧ va_D A (zw 126 ad ct2) ∧ Inv8 g ad pe ct2) A) ([.ref (ad 0), .int b, .int kn] : List Value).toArray s 0 0 A) (F0 m 34 ls []) := by
    intro n34
    induction n34 with
    | zero =>
      intro v3_34 ct38 H locs ls hn34 b3_34 hI hP hD hS hl
      exact absurd hn34 (Nat.not_lt_zero _)
    | succ n34 ih34 =>
      intro v3_34 ct38 H locs ls hn34 b3_34 hI hP hD hS hl
      refine lv_iload_n hx hb dX8_fitLaid_34 rfl (lv_at hl 0 rfl) ?_
      refine lv_bipush (v := 8) hx hb dX8_fitLaid_35 (by decide) ?_
      refine lv_icmp_ge (tgt := 82) hx hb dX8_fitLaid_37 (by decide) (fun c39 => ?_) (fun c39 => ?_)
      · skip
        have c39 : 8 ≤ v3_34.toInt := (z_le (by decide : (8 : Int32).toInt = 8) rfl).mp c39
        exact W.vret hx hb hr (fun t ht hW => ⟨⟨(), rfl, trivial, ct38, by rw [ht]; exact hP, hD, hI⟩, hS.F ht⟩) hS.2.2 dX8_fitLaid_82
      · skip
        have c39 : ¬ (8 ≤ v3_34.toInt) := fun q => c39 ((z_le (by decide : (8 : Int32).toInt = 8) rfl).mpr q)
        refine lv_aload_n hx hb dX8_fitLaid_40 rfl (lv_at hl 1 rfl) ?_
        obtain ⟨bk42, dr41, h43, h44, h45, hs40⟩ := a8_0 hI
        refine va_get (D := g.1) (ci := 8) (v := .ref (ad 10)) (C := RX8) (T := TX8) (N := 13) hx hb hg inG8 hown hK hP 0 (zw_at (by omega) hs40) rfl 6 (by decide) (hg _ mm_366) (fun _ h9 => h9) rfl dX8_fitLaid_41 ?_
        obtain ⟨lns47, liv48, lak49, fnd50, h51, h52, h53, h54, hs46⟩ := a8_10 hI
        refine va_get (D := g.1) (ci := 6) (v := .ref (ad 12)) (C := RX6) (T := TX6) (N := 10) hx hb hg inG6 hown hK hP 10 (zw_at (by omega) hs46) rfl 5 (by decide) (hg _ mm_183) (fun _ h9 => h9) rfl dX8_fitLaid_44 ?_
        refine lv_iload_n hx hb dX8_fitLaid_47 rfl (lv_at hl 0 rfl) ?_
        refine lv_aload_n hx hb dX8_fitLaid_48 rfl (lv_at hl 1 rfl) ?_
        refine lv_iload_n hx hb dX8_fitLaid_49 rfl (lv_at hl 2 rfl) ?_
        refine lv_iload_n hx hb dX8_fitLaid_50 rfl (lv_at hl 0 rfl) ?_
        refine zc_i (va_runV (As := [.int b, .int v3_34]) (rest := [.int v3_34, .ref (ad 12)]) ⟨hx, hb, hml, hown, hg⟩ (k_X8_isLive l g ad pe ct38 b v3_34 hI) (cwV 2 hg (z_gV mm_583 mm_585 mm_18 mm_108 mm_586) rfl rfl rfl (by decide +kernel) ⟨Nat.le_of_ble_eq_true rfl, Nat.le_of_ble_eq_true rfl⟩) ⟨(zR.pre [.ref (ad 0), .int b, .int v3_34] hP hK hN).1, va_recv hK hP (ci := 8) (q0 := 0) rfl (zw_at (by omega) hs40), (zR.pre [.ref (ad 0), .int b, .int v3_34] hP hK hN).2⟩ rfl rfl hl.1 rfl (lv_room (Nat.le_of_ble_eq_true rfl)) dX8_fitLaid_51 ⟨Nat.le_of_ble_eq_true rfl, Nat.le_of_ble_eq_true rfl⟩) (fun r55 hr55 => ?_)
        rcases hr55 with hr55 | hr55
        · skip
          obtain ⟨rfl, h56, h57⟩ := hr55
          have h56 : 0 ≤ b.toInt ∧ b.toInt ≤ 3 := h56
          have h57 : 0 ≤ v3_34.toInt ∧ v3_34.toInt ≤ 7 := h57
          refine lv_if_eq (tgt := 74) hx hb dX8_fitLaid_54 (by decide) (fun c58 => ?_) (fun c58 => ?_)
          · skip
            exact absurd c58 (by decide)
          · skip
            refine lv_aload_n hx hb dX8_fitLaid_57 rfl (lv_at hl 1 rfl) ?_
            refine lv_aload_n hx hb dX8_fitLaid_58 rfl (lv_at hl 1 rfl) ?_
            refine va_get (D := g.1) (ci := 8) (v := .ref (ad 10)) (C := RX8) (T := TX8) (N := 13) hx hb hg inG8 hown hK hP 0 (zw_at (by omega) hs40) rfl 6 (by decide) (hg _ mm_366) (fun _ h9 => h9) rfl dX8_fitLaid_59 ?_
            refine va_get (D := g.1) (ci := 6) (v := .ref (ad 11)) (C := RX6) (T := TX6) (N := 10) hx hb hg inG6 hown hK hP 10 (zw_at (by omega) hs46) rfl 4 (by decide) (hg _ mm_181) (fun _ h9 => h9) rfl dX8_fitLaid_62 ?_
            refine lv_iload_n hx hb dX8_fitLaid_65 rfl (lv_at hl 0 rfl) ?_
            obtain ⟨f60, hs59⟩ := a8_11 hI
            refine va_iald hx hb hK hP 11 0 (zw_at (by omega) hs59) rfl (z_in rfl (by omega) (by omega)) dX8_fitLaid_66 ?_
            refine lv_topi (fun y61 ey61 => ?_)
            refine lv_iload_n hx hb dX8_fitLaid_67 rfl (lv_at hl 3 rfl) ?_
            refine zc_i (va_runV (As := [.int y61, .int kn]) (rest := [.int v3_34, .ref (ad 12)]) ⟨hx, hb, hml, hown, hg⟩ (k_X8_fitAll l g ad pe ct38 y61 kn hI) (cwV 2 hg (z_gV mm_679 mm_681 mm_26 mm_108 mm_682) rfl rfl rfl (by decide +kernel) ⟨Nat.le_of_ble_eq_true rfl, Nat.le_of_ble_eq_true rfl⟩) ⟨(zR.pre [.ref (ad 0), .int y61, .int kn] hP hK hN).1, va_recv hK hP (ci := 8) (q0 := 0) rfl (zw_at (by omega) hs40), (zR.pre [.ref (ad 0), .int y61, .int kn] hP hK hN).2⟩ rfl rfl hl.1 rfl (lv_room (Nat.le_of_ble_eq_true rfl)) dX8_fitLaid_68 ⟨Nat.le_of_ble_eq_true rfl, Nat.le_of_ble_eq_true rfl⟩) (fun r62 hr62 => ?_)
            obtain ⟨hr62_0, hr62_1⟩ := hr62
            have hr62_0 : 0 ≤ r62.toInt := hr62_0
            have hr62_1 : r62.toInt ≤ 65535 := hr62_1
            refine lv_goto (tgt := 75) hx hb dX8_fitLaid_71 (by decide) ?_
            obtain ⟨f64, hp65, hs63⟩ := a8_12 hI
            refine va_iast hx hb hK hP hD hS 12 0 (zw_at (by omega) hs63) rfl (z_in rfl (by omega) (by omega)) dX8_fitLaid_75 (fun H locs hP hD hS => ?_)
            have hp67 : ∀ j : Nat, j < 8 → (fun x : Int32 => 0 ≤ x.toInt ∧ x.toInt ≤ 65535) ((upd f64 (Int32.toNatClampNeg v3_34) r62) j) := fun j hj => by
              unfold upd
              by_cases q : j = Int32.toNatClampNeg v3_34
              · rw [if_pos q]; exact (show 0 ≤ (r62 : Int32).toInt ∧ (r62 : Int32).toInt ≤ 65535 from (by first | omega | decide))
              · rw [if_neg q]; exact hp65 j hj
            have hP : zP g ((zw 126 ad ct38).set 12 (ad 12, .inl (g.2 0, 8, .inl (upd f64 (Int32.toNatClampNeg v3_34) r62)))) H := hP
            have hD : va_D A ((zw 126 ad ct38).set 12 (ad 12, .inl (g.2 0, 8, .inl (upd f64 (Int32.toNatClampNeg v3_34) r62)))) := hD
            rw [zw_set (by omega)] at hP hD
            obtain ⟨ct68, ec69⟩ : ∃ z : Nat → va_E, z = va_up ct38 12 (.inl (g.2 0, 8, .inl (upd f64 (Int32.toNatClampNeg v3_34) r62))) := ⟨_, rfl⟩
            rw [← ec69] at hP hD
            have hI : Inv8 g ad pe ct68 := by rw [ec69]; exact up8 hI (i8_12 ⟨_, hp67, rfl⟩)
            have hs70 : ct68 0 = .inr (8, [.ref (ad 1), .ref (ad 2), .ref (ad 3), .ref (ad 5), .ref (ad 6), .ref (ad 9), .ref (ad 10), .ref (ad 17), .ref (ad 21), .ref (ad 34), .ref (ad (99 + 3 * dr41)), .int pe, .int bk42]) := by rw [ec69, va_up_ne _ _ (by omega)]; exact hs40
            have hs71 : ct68 10 = .inr (6, [.int lns47, .int liv48, .int lak49, .int fnd50, .ref (ad 11), .ref (ad 12), .ref (ad 13), .ref (ad 14), .ref (ad 15), .ref (ad 16)]) := by rw [ec69, va_up_ne _ _ (by omega)]; exact hs46
            have hs72 : ct68 11 = .inl (g.2 0, 8, .inl f60) := by rw [ec69, va_up_ne _ _ (by omega)]; exact hs59
            have hs73 : ct68 12 = .inl (g.2 0, 8, .inl (upd f64 (Int32.toNatClampNeg v3_34) r62)) := by rw [ec69]; exact va_up_self _ _ _
            obtain ⟨x74, ex74⟩ : ∃ y : Int32, y = v3_34 + 1 := ⟨_, rfl⟩
            have tx74 : x74.toInt = v3_34.toInt + 1 := by rw [ex74]; exact z_add rfl (by decide : (1 : Int32).toInt = 1) (by omega) (by omega)
            refine lv_iinc (v := x74) (lv' := [(3, .int x74), (0, .ref (ad 0)), (1, .int b), (2, .int kn)]) hx hb dX8_fitLaid_76 hl (k := 0) rfl (by rw [ex74]; rfl) (by decide) rfl (fun ls hl => ?_)
            refine lv_goto (tgt := 34) hx hb dX8_fitLaid_79 (by decide) ?_
            exact ih34 x74 ct68 _ _ ls (by omega) (by first | omega | decide) hI hP hD hS (lv_sub hl [0, 1, 2, 3] rfl)
        · skip
          obtain rfl := hr55
          refine lv_if_eq (tgt := 74) hx hb dX8_fitLaid_54 (by decide) (fun c75 => ?_) (fun c75 => ?_)
          · skip
            refine lv_iconst (v := 0) hx hb dX8_fitLaid_74 (by decide) ?_
            obtain ⟨f77, hp78, hs76⟩ := a8_12 hI
            refine va_iast hx hb hK hP hD hS 12 0 (zw_at (by omega) hs76) rfl (z_in rfl (by omega) (by omega)) dX8_fitLaid_75 (fun H locs hP hD hS => ?_)
            have hp80 : ∀ j : Nat, j < 8 → (fun x : Int32 => 0 ≤ x.toInt ∧ x.toInt ≤ 65535) ((upd f77 (Int32.toNatClampNeg v3_34) 0) j) := fun j hj => by
              unfold upd
              by_cases q : j = Int32.toNatClampNeg v3_34
              · rw [if_pos q]; exact (show 0 ≤ (0 : Int32).toInt ∧ (0 : Int32).toInt ≤ 65535 from (by first | omega | decide))
              · rw [if_neg q]; exact hp78 j hj
            have hP : zP g ((zw 126 ad ct38).set 12 (ad 12, .inl (g.2 0, 8, .inl (upd f77 (Int32.toNatClampNeg v3_34) 0)))) H := hP
            have hD : va_D A ((zw 126 ad ct38).set 12 (ad 12, .inl (g.2 0, 8, .inl (upd f77 (Int32.toNatClampNeg v3_34) 0)))) := hD
            rw [zw_set (by omega)] at hP hD
            obtain ⟨ct81, ec82⟩ : ∃ z : Nat → va_E, z = va_up ct38 12 (.inl (g.2 0, 8, .inl (upd f77 (Int32.toNatClampNeg v3_34) 0))) := ⟨_, rfl⟩
            rw [← ec82] at hP hD
            have hI : Inv8 g ad pe ct81 := by rw [ec82]; exact up8 hI (i8_12 ⟨_, hp80, rfl⟩)
            have hs83 : ct81 0 = .inr (8, [.ref (ad 1), .ref (ad 2), .ref (ad 3), .ref (ad 5), .ref (ad 6), .ref (ad 9), .ref (ad 10), .ref (ad 17), .ref (ad 21), .ref (ad 34), .ref (ad (99 + 3 * dr41)), .int pe, .int bk42]) := by rw [ec82, va_up_ne _ _ (by omega)]; exact hs40
            have hs84 : ct81 10 = .inr (6, [.int lns47, .int liv48, .int lak49, .int fnd50, .ref (ad 11), .ref (ad 12), .ref (ad 13), .ref (ad 14), .ref (ad 15), .ref (ad 16)]) := by rw [ec82, va_up_ne _ _ (by omega)]; exact hs46
            have hs85 : ct81 12 = .inl (g.2 0, 8, .inl (upd f77 (Int32.toNatClampNeg v3_34) 0)) := by rw [ec82]; exact va_up_self _ _ _
            obtain ⟨x86, ex86⟩ : ∃ y : Int32, y = v3_34 + 1 := ⟨_, rfl⟩
            have tx86 : x86.toInt = v3_34.toInt + 1 := by rw [ex86]; exact z_add rfl (by decide : (1 : Int32).toInt = 1) (by omega) (by omega)
            refine lv_iinc (v := x86) (lv' := [(3, .int x86), (0, .ref (ad 0)), (1, .int b), (2, .int kn)]) hx hb dX8_fitLaid_76 hl (k := 0) rfl (by rw [ex86]; rfl) (by decide) rfl (fun ls hl => ?_)
            refine lv_goto (tgt := 34) hx hb dX8_fitLaid_79 (by decide) ?_
            exact ih34 x86 ct81 _ _ ls (by omega) (by first | omega | decide) hI hP hD hS (lv_sub hl [0, 1, 2, 3] rfl)
          · skip
            exact absurd c75 (by decide)
  exact loop34 ((8 - (0 : Int32).toInt : Int).toNat + 1) (0 : Int32) ct32 _ _ ls (by omega) (by first | omega | decide) hI hP hD hS (lv_sub hl [0, 1, 2, 3] rfl)

set_option maxHeartbeats 4000000 in
set_option maxRecDepth 100000 in
theorem k_X8_fit (l : Launch) (g : zG) (sz : Nat) (ad : Nat → Nat) (pe : Int32) (ct : Nat → va_E) (b : Int32) (kn : Int32) (hl_b : 0 ≤ b.toInt ∧ b.toInt ≤ 3) (hI : Inv8 g ad pe ct) : Met l yX8_fit (zW yX8_fit cX8_fit 3 none) ({ frames := 4, cells := 0, slots := 0, locals := 95 }) (va_Pc [.ref (ad 0), .int b, .int kn] (zA g (zw 126 ad ct) sz)) (va_Qv (fun (_ : Unit) => True) (fun _ t => ∃ ct2 : Nat → va_E, zP g (zw 126 ad ct2) t.heap ∧ va_D (va_A (zw 126 ad ct) sz) (zw 126 ad ct2) ∧ Inv8 g ad pe ct2) (va_A (zw 126 ad ct) sz)) 0 0 (va_A (zw 126 ad ct) sz) := by
  refine Met.ofW (cc := cX8_fit) (maxL := 3) (ret := none) (by decide) rfl ?_
  intro p e s m args below meth c s₁ B hml hv
  obtain ⟨rfl, hsz, hP, hK, hD0, hN⟩ := hv
  have hx := B.exec
  have hb := B.bytes
  have hr := B.returns
  have hg := zW.law (atoms_spec (ws := (zW yX8_fit cX8_fit 3 none)) B.pre)
  have hown : s.vm.findClass RX8 = some m.cls := findClass_of_methodNamed B.named
  have hlocks := B.notSynchronized
  have hpe0 := hI.1
  subst hsz
  have hD := hD0.self (sz := s.heap.size)
  generalize hAe : va_A (zw 126 ad ct) s.heap.size = A at hD ⊢
  have hA : ∀ q : Nat, s.heap.size ≤ q → A q := fun q h => by rw [← hAe]; exact Or.inr h
  have hS : va_S A s.heap s.heap [] := va_S.rf
  have hl := lv_entry ([.ref (ad 0), .int b, .int kn]) (n := 3) (Nat.le_of_ble_eq_true rfl)
  rw [lg_entry_eq]
  generalize (lg_sl ([.ref (ad 0), .int b, .int kn]) ++ List.replicate (3 - (lg_sl ([.ref (ad 0), .int b, .int kn])).length) Slot.unset).toArray = ls at hl ⊢
  have hl : lv_has ls 3 [(0, .ref (ad 0)), (1, .int b), (2, .int kn)] := hl
  have rg_kn := z_rng kn
  refine lv_aload_n hx hb dX8_fit_0 rfl (lv_at hl 0 rfl) ?_
  refine lv_iload_n hx hb dX8_fit_1 rfl (lv_at hl 1 rfl) ?_
  refine lv_aload_n hx hb dX8_fit_2 rfl (lv_at hl 0 rfl) ?_
  refine lv_iload_n hx hb dX8_fit_3 rfl (lv_at hl 1 rfl) ?_
  obtain ⟨bk3, dr2, h4, h5, h6, hs1⟩ := a8_0 hI
  refine zc_i (va_runV (As := [.int b]) (rest := [.int b, .ref (ad 0)]) ⟨hx, hb, hml, hown, hg⟩ (k_X8_openFor l g ad pe ct b hI) (cwV 1 hg (z_gV mm_659 mm_661 mm_22 mm_108 mm_662) rfl rfl rfl (by decide +kernel) ⟨Nat.le_of_ble_eq_true rfl, Nat.le_of_ble_eq_true rfl⟩) ⟨(zR.pre [.ref (ad 0), .int b] hP hK hN).1, va_recv hK hP (ci := 8) (q0 := 0) rfl (zw_at (by omega) hs1), (zR.pre [.ref (ad 0), .int b] hP hK hN).2⟩ rfl rfl hl.1 rfl (lv_room (Nat.le_of_ble_eq_true rfl)) dX8_fit_4 ⟨Nat.le_of_ble_eq_true rfl, Nat.le_of_ble_eq_true rfl⟩) (fun r7 hr7 => ?_)
  have hFc := zw_free hD hS hA
  refine va_callv (va_runV (As := [.int b, .int r7]) (rest := []) ⟨hx, hb, hml, hown, hg⟩ (k_X8_layOut l g _ ad pe ct b r7 hI) (cwV 2 hg (z_gV mm_667 mm_669 mm_24 mm_108 mm_670) rfl rfl rfl (by decide +kernel) ⟨Nat.le_of_ble_eq_true rfl, Nat.le_of_ble_eq_true rfl⟩) ⟨(zA.pre [.ref (ad 0), .int b, .int r7] hP hK hD hN).1, va_recv hK hP (ci := 8) (q0 := 0) rfl (zw_at (by omega) hs1), (zA.pre [.ref (ad 0), .int b, .int r7] hP hK hD hN).2⟩ rfl rfl hl.1 rfl (lv_room (Nat.le_of_ble_eq_true rfl)) dX8_fit_7 ⟨Nat.le_of_ble_eq_true rfl, Nat.le_of_ble_eq_true rfl⟩) hS (fun q _ h => hFc q h) hFc (fun _ t H1 locs ht hvm hr8 hB hz1 hk1 hS => ?_)
  obtain ⟨ct9, hP1, hD1, hI⟩ := hB
  rw [ht] at hP1
  have hD := hD1.weaken (fun _ _ _ h => hFc _ h)
  generalize H1 = H at hP1 hS ⊢
  have hP := hP1
  refine W.widen (k := 0) (n := 0) (Nat.le_refl _) (Nat.le_refl _) ?_
  refine lv_aload_n hx hb dX8_fit_10 rfl (lv_at hl 0 rfl) ?_
  refine lv_iload_n hx hb dX8_fit_11 rfl (lv_at hl 1 rfl) ?_
  refine lv_iload_n hx hb dX8_fit_12 rfl (lv_at hl 2 rfl) ?_
  obtain ⟨bk12, dr11, h13, h14, h15, hs10⟩ := a8_0 hI
  have hFc := zw_free hD hS hA
  refine va_callv (va_runV (As := [.int b, .int kn]) (rest := []) ⟨hx, hb, hml, hown, hg⟩ (k_X8_fitLaid l g _ ad pe ct9 b kn (by first | omega | decide) hI) (cwV 2 hg (z_gV mm_675 mm_677 mm_25 mm_108 mm_678) rfl rfl rfl (by decide +kernel) ⟨Nat.le_of_ble_eq_true rfl, Nat.le_of_ble_eq_true rfl⟩) ⟨(zA.pre [.ref (ad 0), .int b, .int kn] hP hK hD hN).1, va_recv hK hP (ci := 8) (q0 := 0) rfl (zw_at (by omega) hs10), (zA.pre [.ref (ad 0), .int b, .int kn] hP hK hD hN).2⟩ rfl rfl hl.1 rfl (lv_room (Nat.le_of_ble_eq_true rfl)) dX8_fit_13 ⟨Nat.le_of_ble_eq_true rfl, Nat.le_of_ble_eq_true rfl⟩) hS (fun q _ h => hFc q h) hFc (fun _ t H1 locs ht hvm hr16 hB hz1 hk1 hS => ?_)
  obtain ⟨ct17, hP1, hD1, hI⟩ := hB
  rw [ht] at hP1
  have hD := hD1.weaken (fun _ _ _ h => hFc _ h)
  generalize H1 = H at hP1 hS ⊢
  have hP := hP1
  refine W.widen (k := 0) (n := 0) (Nat.le_refl _) (Nat.le_refl _) ?_
  exact W.vret hx hb hr (fun t ht hW => ⟨⟨(), rfl, trivial, ct17, by rw [ht]; exact hP, hD, hI⟩, hS.F ht⟩) hS.2.2 dX8_fit_16

set_option maxHeartbeats 4000000 in
set_option maxRecDepth 100000 in
theorem k_X8_safeLines (l : Launch) (g : zG) (sz : Nat) (ad : Nat → Nat) (pe : Int32) (ct : Nat → va_E) (b : Int32) (k : Int32) (hl_b : 0 ≤ b.toInt ∧ b.toInt ≤ 3) (hI : Inv8 g ad pe ct) : Met l yX8_safeLines (zW yX8_safeLines cX8_safeLines 7 (some .int)) ({ frames := 3, cells := 0, slots := 0, locals := 66 }) (va_Pc [.ref (ad 0), .int b, .int k] (zA g (zw 126 ad ct) sz)) (va_Qi (fun (r : Int32) (_ : Unit) => (True)) (fun _ t => ∃ ct2 : Nat → va_E, zP g (zw 126 ad ct2) t.heap ∧ va_D (va_A (zw 126 ad ct) sz) (zw 126 ad ct2) ∧ Inv8 g ad pe ct2) (va_A (zw 126 ad ct) sz)) 0 0 (va_A (zw 126 ad ct) sz) := by
  refine Met.ofW (cc := cX8_safeLines) (maxL := 7) (ret := (some .int)) (by decide) rfl ?_
  intro p e s m args below meth c s₁ B hml hv
  obtain ⟨rfl, hsz, hP, hK, hD0, hN⟩ := hv
  have hx := B.exec
  have hb := B.bytes
  have hr := B.returns
  have hg := zW.law (atoms_spec (ws := (zW yX8_safeLines cX8_safeLines 7 (some .int))) B.pre)
  have hown : s.vm.findClass RX8 = some m.cls := findClass_of_methodNamed B.named
  have hlocks := B.notSynchronized
  have hpe0 := hI.1
  subst hsz
  have hD := hD0.self (sz := s.heap.size)
  generalize hAe : va_A (zw 126 ad ct) s.heap.size = A at hD ⊢
  have hA : ∀ q : Nat, s.heap.size ≤ q → A q := fun q h => by rw [← hAe]; exact Or.inr h
  have hS : va_S A s.heap s.heap [] := va_S.rf
  have hl := lv_entry ([.ref (ad 0), .int b, .int k]) (n := 7) (Nat.le_of_ble_eq_true rfl)
  rw [lg_entry_eq]
  generalize (lg_sl ([.ref (ad 0), .int b, .int k]) ++ List.replicate (7 - (lg_sl ([.ref (ad 0), .int b, .int k])).length) Slot.unset).toArray = ls at hl ⊢
  have hl : lv_has ls 7 [(0, .ref (ad 0)), (1, .int b), (2, .int k)] := hl
  have rg_k := z_rng k
  refine lv_aload_n hx hb dX8_safeLines_0 rfl (lv_at hl 0 rfl) ?_
  obtain ⟨bk3, dr2, h4, h5, h6, hs1⟩ := a8_0 hI
  refine va_get (D := g.1) (ci := 8) (v := .ref (ad 10)) (C := RX8) (T := TX8) (N := 13) hx hb hg inG8 hown hK hP 0 (zw_at (by omega) hs1) rfl 6 (by decide) (hg _ mm_366) (fun _ h9 => h9) rfl dX8_safeLines_1 ?_
  obtain ⟨lns8, liv9, lak10, fnd11, h12, h13, h14, h15, hs7⟩ := a8_10 hI
  have hFc := zw_free hD hS hA
  refine va_callv (va_runV (As := []) (rest := []) ⟨hx, hb, hml, hown, hg⟩ (k_X6_weigh l g _ ad pe ct  hI) (cwV 0 hg (z_gV mm_720 mm_721 mm_722 mm_111 mm_723) rfl rfl rfl (by decide +kernel) ⟨Nat.le_of_ble_eq_true rfl, Nat.le_of_ble_eq_true rfl⟩) ⟨(zA.pre [.ref (ad 10)] hP hK hD hN).1, va_recv hK hP (ci := 6) (q0 := 10) rfl (zw_at (by omega) hs7), (zA.pre [.ref (ad 10)] hP hK hD hN).2⟩ rfl rfl hl.1 rfl (lv_room (Nat.le_of_ble_eq_true rfl)) dX8_safeLines_4 ⟨Nat.le_of_ble_eq_true rfl, Nat.le_of_ble_eq_true rfl⟩) hS (fun q _ h => hFc q h) hFc (fun _ t H1 locs ht hvm hr16 hB hz1 hk1 hS => ?_)
  obtain ⟨ct17, hP1, hD1, hI⟩ := hB
  rw [ht] at hP1
  have hD := hD1.weaken (fun _ _ _ h => hFc _ h)
  generalize H1 = H at hP1 hS ⊢
  have hP := hP1
  refine W.widen (k := 0) (n := 0) (Nat.le_refl _) (Nat.le_refl _) ?_
  refine lv_iconst (v := 0) hx hb dX8_safeLines_7 (by decide) ?_
  refine lv_istore_n (lv' := [(3, .int 0), (0, .ref (ad 0)), (1, .int b), (2, .int k)]) hx hb dX8_safeLines_8 rfl hl (by decide) rfl (fun ls hl => ?_)
  refine lv_iconst (v := 0) hx hb dX8_safeLines_9 (by decide) ?_
  refine lv_istore (lv' := [(4, .int 0), (3, .int 0), (0, .ref (ad 0)), (1, .int b), (2, .int k)]) hx hb dX8_safeLines_10 hl (by decide) rfl (fun ls hl => ?_)
  have loop12 : ∀ (n12 : Nat) (v4_12 : Int32) (v3_12 : Int32) (ct18 : Nat → va_E) (H : Heap) (locs : List Loc) (ls : Array Slot), ((8 - v4_12.toInt : Int).toNat < n12) → (0 ≤ v4_12.toInt ∧ v4_12.toInt ≤ 8) → (Inv8 g ad pe ct18) → zP g (zw 126 ad ct18) H → va_D A (zw 126 ad ct18) → va_S A s.heap H locs → lv_has ls 7 [(4, .int v4_12), (3, .int v3_12), (0, .ref (ad 0)), (1, .int b), (2, .int k)] → W p l e (headSpec (zW yX8_safeLines cX8_safeLines 7 (some .int)) ({ frames := 3, cells := 0, slots := 0, locals := 66 })).room s m ([.ref (ad 0), .int b, .int k] : List Value).toArray below meth c H locs 0 0 (MQ below (va_Qi (fun (r : Int32) (_ : Unit) => (True)) (fun _ t => ∃ ct2 : Nat → va_E, zP g (zw 126 ad ct2) t.heap ∧ va_D A (zw 126 ad ct2) ∧ Inv8 g ad pe ct2) A) ([.ref (ad 0), .int b, .int k] : List Value).toArray s 0 0 A) (F0 m 12 ls []) := by
    intro n12
    induction n12 with
    | zero =>
      intro v4_12 v3_12 ct18 H locs ls hn12 b4_12 hI hP hD hS hl
      exact absurd hn12 (Nat.not_lt_zero _)
    | succ n12 ih12 =>
      intro v4_12 v3_12 ct18 H locs ls hn12 b4_12 hI hP hD hS hl
      refine lv_iload hx hb dX8_safeLines_12 (lv_at hl 0 rfl) ?_
      refine lv_bipush (v := 8) hx hb dX8_safeLines_14 (by decide) ?_
      refine lv_icmp_ge (tgt := 99) hx hb dX8_safeLines_16 (by decide) (fun c19 => ?_) (fun c19 => ?_)
      · skip
        have c19 : 8 ≤ v4_12.toInt := (z_le (by decide : (8 : Int32).toInt = 8) rfl).mp c19
        refine lv_iload_n hx hb dX8_safeLines_99 rfl (lv_at hl 1 rfl) ?_
        exact W.iret (v := v3_12) hx hb hr (fun t ht hW => ⟨⟨v3_12, (), rfl, trivial, ct18, by rw [ht]; exact hP, hD, hI⟩, hS.F ht⟩) hS.2.2 dX8_safeLines_100
      · skip
        have c19 : ¬ (8 ≤ v4_12.toInt) := fun q => c19 ((z_le (by decide : (8 : Int32).toInt = 8) rfl).mpr q)
        refine lv_aload_n hx hb dX8_safeLines_19 rfl (lv_at hl 2 rfl) ?_
        refine lv_iload_n hx hb dX8_safeLines_20 rfl (lv_at hl 3 rfl) ?_
        refine lv_iload hx hb dX8_safeLines_21 (lv_at hl 0 rfl) ?_
        obtain ⟨bk22, dr21, h23, h24, h25, hs20⟩ := a8_0 hI
        refine zc_i (va_runV (As := [.int b, .int v4_12]) (rest := []) ⟨hx, hb, hml, hown, hg⟩ (k_X8_isLive l g ad pe ct18 b v4_12 hI) (cwV 2 hg (z_gV mm_583 mm_585 mm_18 mm_108 mm_586) rfl rfl rfl (by decide +kernel) ⟨Nat.le_of_ble_eq_true rfl, Nat.le_of_ble_eq_true rfl⟩) ⟨(zR.pre [.ref (ad 0), .int b, .int v4_12] hP hK hN).1, va_recv hK hP (ci := 8) (q0 := 0) rfl (zw_at (by omega) hs20), (zR.pre [.ref (ad 0), .int b, .int v4_12] hP hK hN).2⟩ rfl rfl hl.1 rfl (lv_room (Nat.le_of_ble_eq_true rfl)) dX8_safeLines_23 ⟨Nat.le_of_ble_eq_true rfl, Nat.le_of_ble_eq_true rfl⟩) (fun r26 hr26 => ?_)
        rcases hr26 with hr26 | hr26
        · skip
          obtain ⟨rfl, h27, h28⟩ := hr26
          have h27 : 0 ≤ b.toInt ∧ b.toInt ≤ 3 := h27
          have h28 : 0 ≤ v4_12.toInt ∧ v4_12.toInt ≤ 7 := h28
          refine lv_if_eq (tgt := 93) hx hb dX8_safeLines_26 (by decide) (fun c29 => ?_) (fun c29 => ?_)
          · skip
            exact absurd c29 (by decide)
          · skip
            refine lv_aload_n hx hb dX8_safeLines_29 rfl (lv_at hl 2 rfl) ?_
            refine va_get (D := g.1) (ci := 8) (v := .ref (ad 5)) (C := RX8) (T := TX8) (N := 13) hx hb hg inG8 hown hK hP 0 (zw_at (by omega) hs20) rfl 3 (by decide) (hg _ mm_363) (fun _ h9 => h9) rfl dX8_safeLines_30 ?_
            refine lv_iload_n hx hb dX8_safeLines_33 rfl (lv_at hl 3 rfl) ?_
            have hs30 := a8_5 hI
            refine va_aldq hx hb hK hP 5 5 (zw_at (by omega) hs30) rfl (z_in rfl (by omega) (by omega)) dX8_safeLines_34 ?_
            rw [zF5_at (x := b) (by omega) (by omega)]
            refine lv_iload hx hb dX8_safeLines_35 (lv_at hl 0 rfl) ?_
            obtain ⟨lns32, liv33, shw34, h35, h36, h37, h38, hz39, hs31⟩ := a8_40 (kc := (0 + 55 + 11 * b.toInt.toNat)) (by omega) hI
            have bhz39 := z_b01 hz39
            refine zc_i (va_runV (As := [.int v4_12]) (rest := []) ⟨hx, hb, hml, hown, hg⟩ (k_X2_owner l g ad pe ct18 (0 + 55 + 11 * b.toInt.toNat) v4_12 (by omega) hI) (cwV 1 hg (z_gV mm_565 mm_566 mm_567 mm_116 mm_568) rfl rfl rfl (by decide +kernel) ⟨Nat.le_of_ble_eq_true rfl, Nat.le_of_ble_eq_true rfl⟩) ⟨(zR.pre [.ref (ad (0 + 55 + 11 * b.toInt.toNat)), .int v4_12] hP hK hN).1, va_recv hK hP (ci := 2) (q0 := (0 + 55 + 11 * b.toInt.toNat)) rfl (zw_at (by omega) hs31), (zR.pre [.ref (ad (0 + 55 + 11 * b.toInt.toNat)), .int v4_12] hP hK hN).2⟩ rfl rfl hl.1 rfl (lv_room (Nat.le_of_ble_eq_true rfl)) dX8_safeLines_37 ⟨Nat.le_of_ble_eq_true rfl, Nat.le_of_ble_eq_true rfl⟩) (fun r40 hr40 => ?_)
            refine lv_istore (lv' := [(5, .int r40), (4, .int v4_12), (3, .int v3_12), (0, .ref (ad 0)), (1, .int b), (2, .int k)]) hx hb dX8_safeLines_40 hl (by decide) rfl (fun ls hl => ?_)
            refine lv_aload_n hx hb dX8_safeLines_42 rfl (lv_at hl 3 rfl) ?_
            refine lv_iload hx hb dX8_safeLines_43 (lv_at hl 0 rfl) ?_
            refine zc_i (va_runV (As := [.int r40]) (rest := []) ⟨hx, hb, hml, hown, hg⟩ (k_X8_isPerson l g ad pe ct18 r40 hI) (cwV 1 hg (z_gV mm_451 mm_453 mm_3 mm_108 mm_454) rfl rfl rfl (by decide +kernel) ⟨Nat.le_of_ble_eq_true rfl, Nat.le_of_ble_eq_true rfl⟩) ⟨(zR.pre [.ref (ad 0), .int r40] hP hK hN).1, va_recv hK hP (ci := 8) (q0 := 0) rfl (zw_at (by omega) hs20), (zR.pre [.ref (ad 0), .int r40] hP hK hN).2⟩ rfl rfl hl.1 rfl (lv_room (Nat.le_of_ble_eq_true rfl)) dX8_safeLines_45 ⟨Nat.le_of_ble_eq_true rfl, Nat.le_of_ble_eq_true rfl⟩) (fun r41 hr41 => ?_)
            rcases hr41 with hr41 | hr41
            · skip
              obtain ⟨rfl, h42, h43⟩ := hr41
              have h42 : 0 ≤ r40.toInt := h42
              have h43 : r40.toInt < pe.toInt := h43
              refine lv_if_eq (tgt := 61) hx hb dX8_safeLines_48 (by decide) (fun c44 => ?_) (fun c44 => ?_)
              · skip
                exact absurd c44 (by decide)
              · skip
                refine lv_aload_n hx hb dX8_safeLines_51 rfl (lv_at hl 3 rfl) ?_
                refine va_get (D := g.1) (ci := 8) (v := .ref (ad 2)) (C := RX8) (T := TX8) (N := 13) hx hb hg inG8 hown hK hP 0 (zw_at (by omega) hs20) rfl 1 (by decide) (hg _ mm_361) (fun _ h9 => h9) rfl dX8_safeLines_52 ?_
                refine lv_iload hx hb dX8_safeLines_55 (lv_at hl 0 rfl) ?_
                obtain ⟨f46, hs45⟩ := a8_2 hI
                refine va_iald hx hb hK hP 2 0 (zw_at (by omega) hs45) rfl (z_in rfl (by omega) (by omega)) dX8_safeLines_57 ?_
                refine lv_topi (fun y47 ey47 => ?_)
                refine lv_goto (tgt := 62) hx hb dX8_safeLines_58 (by decide) ?_
                refine lv_istore (lv' := [(6, .int y47), (5, .int r40), (4, .int v4_12), (3, .int v3_12), (0, .ref (ad 0)), (1, .int b), (2, .int k)]) hx hb dX8_safeLines_62 hl (by decide) rfl (fun ls hl => ?_)
                refine lv_aload_n hx hb dX8_safeLines_64 rfl (lv_at hl 4 rfl) ?_
                refine va_get (D := g.1) (ci := 8) (v := .ref (ad 10)) (C := RX8) (T := TX8) (N := 13) hx hb hg inG8 hown hK hP 0 (zw_at (by omega) hs20) rfl 6 (by decide) (hg _ mm_366) (fun _ h9 => h9) rfl dX8_safeLines_65 ?_
                obtain ⟨lns49, liv50, lak51, fnd52, h53, h54, h55, h56, hs48⟩ := a8_10 hI
                refine va_get (D := g.1) (ci := 6) (v := .ref (ad 13)) (C := RX6) (T := TX6) (N := 10) hx hb hg inG6 hown hK hP 10 (zw_at (by omega) hs48) rfl 6 (by decide) (hg _ mm_185) (fun _ h9 => h9) rfl dX8_safeLines_68 ?_
                refine lv_iload hx hb dX8_safeLines_71 (lv_at hl 2 rfl) ?_
                obtain ⟨f58, hp59, hs57⟩ := a8_13 hI
                refine va_iald hx hb hK hP 13 0 (zw_at (by omega) hs57) rfl (z_in rfl (by omega) (by omega)) dX8_safeLines_73 ?_
                refine lv_topi (fun y60 ey60 => ?_)
                have hy60 := hp59 _ (z_clt (x := v4_12) rfl (by omega) (by omega))
                rw [← ey60] at hy60
                have hy60 : 0 ≤ y60.toInt ∧ y60.toInt ≤ 65535 := hy60
                refine zc_i (va_runS (As := [.int y60]) (rest := []) ⟨hx, hb, hml, hown, hg⟩ (k_J6_bitCount_0f7a4 l g ad pe ct18 y60 hI) (va_cwS 1 hg (z_gS mm_734 mm_729 mm_119 mm_730) rfl rfl rfl (by decide +kernel) ⟨Nat.le_of_ble_eq_true rfl, Nat.le_of_ble_eq_true rfl⟩) (zR.pre [.int y60] hP hK hN) rfl rfl hl.1 rfl (lv_room (Nat.le_of_ble_eq_true rfl)) dX8_safeLines_74 ⟨Nat.le_of_ble_eq_true rfl, Nat.le_of_ble_eq_true rfl⟩) (fun r61 hr61 => ?_)
                obtain ⟨hr61_0, hr61_1⟩ := hr61
                have hr61_0 : 0 ≤ r61.toInt := hr61_0
                have hr61_1 : r61.toInt ≤ 63 := hr61_1
                refine lv_iload_n hx hb dX8_safeLines_77 rfl (lv_at hl 6 rfl) ?_
                refine lv_iload hx hb dX8_safeLines_78 (lv_at hl 0 rfl) ?_
                refine va_mmax hx hb (hml.trans hl.1.symm) hown (hg _ mm_779) (hg _ mm_780) (hg _ mm_118) (hg _ mm_781) (Nat.le_of_ble_eq_true rfl) (Nat.le_of_ble_eq_true rfl) (Nat.le_of_ble_eq_true rfl) (Nat.le_of_ble_eq_true rfl) dX8_safeLines_80 ?_
                refine lv_topi (fun x62 ex62 => ?_)
                have tx62 := z_max (x := k) (y := y47) rfl rfl
                rw [← ex62] at tx62
                refine lv_icmp_lt (tgt := 93) hx hb dX8_safeLines_83 (by decide) (fun c63 => ?_) (fun c63 => ?_)
                · skip
                  have c63 : r61.toInt < x62.toInt := (z_lt rfl rfl).mp c63
                  obtain ⟨x64, ex64⟩ : ∃ y : Int32, y = v4_12 + 1 := ⟨_, rfl⟩
                  have tx64 : x64.toInt = v4_12.toInt + 1 := by rw [ex64]; exact z_add rfl (by decide : (1 : Int32).toInt = 1) (by omega) (by omega)
                  refine lv_iinc (v := x64) (lv' := [(4, .int x64), (6, .int y47), (5, .int r40), (3, .int v3_12), (0, .ref (ad 0)), (1, .int b), (2, .int k)]) hx hb dX8_safeLines_93 hl (k := 2) rfl (by rw [ex64]; rfl) (by decide) rfl (fun ls hl => ?_)
                  refine lv_goto (tgt := 12) hx hb dX8_safeLines_96 (by decide) ?_
                  exact ih12 x64 v3_12 ct18 _ _ ls (by omega) (by first | omega | decide) hI hP hD hS (lv_sub hl [0, 3, 4, 5, 6] rfl)
                · skip
                  have c63 : ¬ (r61.toInt < x62.toInt) := fun q => c63 ((z_lt rfl rfl).mpr q)
                  refine lv_iload_n hx hb dX8_safeLines_86 rfl (lv_at hl 3 rfl) ?_
                  refine lv_iconst (v := 1) hx hb dX8_safeLines_87 (by decide) ?_
                  refine lv_iload hx hb dX8_safeLines_88 (lv_at hl 2 rfl) ?_
                  refine lv_ishl hx hb dX8_safeLines_90 ?_
                  refine lv_topi (fun x65 ex65 => ?_)
                  have tx65 := z_shl1 (y := v4_12) rfl (by omega) (k := 7) (by decide) (by omega)
                  rw [← ex65] at tx65
                  refine lv_ior hx hb dX8_safeLines_91 ?_
                  refine lv_topi (fun x66 ex66 => ?_)
                  refine lv_istore_n (lv' := [(3, .int x66), (6, .int y47), (5, .int r40), (4, .int v4_12), (0, .ref (ad 0)), (1, .int b), (2, .int k)]) hx hb dX8_safeLines_92 rfl hl (by decide) rfl (fun ls hl => ?_)
                  obtain ⟨x67, ex67⟩ : ∃ y : Int32, y = v4_12 + 1 := ⟨_, rfl⟩
                  have tx67 : x67.toInt = v4_12.toInt + 1 := by rw [ex67]; exact z_add rfl (by decide : (1 : Int32).toInt = 1) (by omega) (by omega)
                  refine lv_iinc (v := x67) (lv' := [(4, .int x67), (3, .int x66), (6, .int y47), (5, .int r40), (0, .ref (ad 0)), (1, .int b), (2, .int k)]) hx hb dX8_safeLines_93 hl (k := 3) rfl (by rw [ex67]; rfl) (by decide) rfl (fun ls hl => ?_)
                  refine lv_goto (tgt := 12) hx hb dX8_safeLines_96 (by decide) ?_
                  exact ih12 x67 x66 ct18 _ _ ls (by omega) (by first | omega | decide) hI hP hD hS (lv_sub hl [0, 1, 4, 5, 6] rfl)
            · skip
              obtain ⟨rfl, h68⟩ := hr41
              have h68 : ¬ (0 ≤ r40.toInt ∧ r40.toInt < pe.toInt) := h68
              refine lv_if_eq (tgt := 61) hx hb dX8_safeLines_48 (by decide) (fun c69 => ?_) (fun c69 => ?_)
              · skip
                refine lv_iconst (v := 0) hx hb dX8_safeLines_61 (by decide) ?_
                refine lv_istore (lv' := [(6, .int 0), (5, .int r40), (4, .int v4_12), (3, .int v3_12), (0, .ref (ad 0)), (1, .int b), (2, .int k)]) hx hb dX8_safeLines_62 hl (by decide) rfl (fun ls hl => ?_)
                refine lv_aload_n hx hb dX8_safeLines_64 rfl (lv_at hl 4 rfl) ?_
                refine va_get (D := g.1) (ci := 8) (v := .ref (ad 10)) (C := RX8) (T := TX8) (N := 13) hx hb hg inG8 hown hK hP 0 (zw_at (by omega) hs20) rfl 6 (by decide) (hg _ mm_366) (fun _ h9 => h9) rfl dX8_safeLines_65 ?_
                obtain ⟨lns71, liv72, lak73, fnd74, h75, h76, h77, h78, hs70⟩ := a8_10 hI
                refine va_get (D := g.1) (ci := 6) (v := .ref (ad 13)) (C := RX6) (T := TX6) (N := 10) hx hb hg inG6 hown hK hP 10 (zw_at (by omega) hs70) rfl 6 (by decide) (hg _ mm_185) (fun _ h9 => h9) rfl dX8_safeLines_68 ?_
                refine lv_iload hx hb dX8_safeLines_71 (lv_at hl 2 rfl) ?_
                obtain ⟨f80, hp81, hs79⟩ := a8_13 hI
                refine va_iald hx hb hK hP 13 0 (zw_at (by omega) hs79) rfl (z_in rfl (by omega) (by omega)) dX8_safeLines_73 ?_
                refine lv_topi (fun y82 ey82 => ?_)
                have hy82 := hp81 _ (z_clt (x := v4_12) rfl (by omega) (by omega))
                rw [← ey82] at hy82
                have hy82 : 0 ≤ y82.toInt ∧ y82.toInt ≤ 65535 := hy82
                refine zc_i (va_runS (As := [.int y82]) (rest := []) ⟨hx, hb, hml, hown, hg⟩ (k_J6_bitCount_0f7a4 l g ad pe ct18 y82 hI) (va_cwS 1 hg (z_gS mm_734 mm_729 mm_119 mm_730) rfl rfl rfl (by decide +kernel) ⟨Nat.le_of_ble_eq_true rfl, Nat.le_of_ble_eq_true rfl⟩) (zR.pre [.int y82] hP hK hN) rfl rfl hl.1 rfl (lv_room (Nat.le_of_ble_eq_true rfl)) dX8_safeLines_74 ⟨Nat.le_of_ble_eq_true rfl, Nat.le_of_ble_eq_true rfl⟩) (fun r83 hr83 => ?_)
                obtain ⟨hr83_0, hr83_1⟩ := hr83
                have hr83_0 : 0 ≤ r83.toInt := hr83_0
                have hr83_1 : r83.toInt ≤ 63 := hr83_1
                refine lv_iload_n hx hb dX8_safeLines_77 rfl (lv_at hl 6 rfl) ?_
                refine lv_iload hx hb dX8_safeLines_78 (lv_at hl 0 rfl) ?_
                refine va_mmax hx hb (hml.trans hl.1.symm) hown (hg _ mm_779) (hg _ mm_780) (hg _ mm_118) (hg _ mm_781) (Nat.le_of_ble_eq_true rfl) (Nat.le_of_ble_eq_true rfl) (Nat.le_of_ble_eq_true rfl) (Nat.le_of_ble_eq_true rfl) dX8_safeLines_80 ?_
                refine lv_topi (fun x84 ex84 => ?_)
                have tx84 := z_max (x := k) (y := 0) rfl (by decide : (0 : Int32).toInt = 0)
                rw [← ex84] at tx84
                refine lv_icmp_lt (tgt := 93) hx hb dX8_safeLines_83 (by decide) (fun c85 => ?_) (fun c85 => ?_)
                · skip
                  have c85 : r83.toInt < x84.toInt := (z_lt rfl rfl).mp c85
                  obtain ⟨x86, ex86⟩ : ∃ y : Int32, y = v4_12 + 1 := ⟨_, rfl⟩
                  have tx86 : x86.toInt = v4_12.toInt + 1 := by rw [ex86]; exact z_add rfl (by decide : (1 : Int32).toInt = 1) (by omega) (by omega)
                  refine lv_iinc (v := x86) (lv' := [(4, .int x86), (6, .int 0), (5, .int r40), (3, .int v3_12), (0, .ref (ad 0)), (1, .int b), (2, .int k)]) hx hb dX8_safeLines_93 hl (k := 2) rfl (by rw [ex86]; rfl) (by decide) rfl (fun ls hl => ?_)
                  refine lv_goto (tgt := 12) hx hb dX8_safeLines_96 (by decide) ?_
                  exact ih12 x86 v3_12 ct18 _ _ ls (by omega) (by first | omega | decide) hI hP hD hS (lv_sub hl [0, 3, 4, 5, 6] rfl)
                · skip
                  have c85 : ¬ (r83.toInt < x84.toInt) := fun q => c85 ((z_lt rfl rfl).mpr q)
                  refine lv_iload_n hx hb dX8_safeLines_86 rfl (lv_at hl 3 rfl) ?_
                  refine lv_iconst (v := 1) hx hb dX8_safeLines_87 (by decide) ?_
                  refine lv_iload hx hb dX8_safeLines_88 (lv_at hl 2 rfl) ?_
                  refine lv_ishl hx hb dX8_safeLines_90 ?_
                  refine lv_topi (fun x87 ex87 => ?_)
                  have tx87 := z_shl1 (y := v4_12) rfl (by omega) (k := 7) (by decide) (by omega)
                  rw [← ex87] at tx87
                  refine lv_ior hx hb dX8_safeLines_91 ?_
                  refine lv_topi (fun x88 ex88 => ?_)
                  refine lv_istore_n (lv' := [(3, .int x88), (6, .int 0), (5, .int r40), (4, .int v4_12), (0, .ref (ad 0)), (1, .int b), (2, .int k)]) hx hb dX8_safeLines_92 rfl hl (by decide) rfl (fun ls hl => ?_)
                  obtain ⟨x89, ex89⟩ : ∃ y : Int32, y = v4_12 + 1 := ⟨_, rfl⟩
                  have tx89 : x89.toInt = v4_12.toInt + 1 := by rw [ex89]; exact z_add rfl (by decide : (1 : Int32).toInt = 1) (by omega) (by omega)
                  refine lv_iinc (v := x89) (lv' := [(4, .int x89), (3, .int x88), (6, .int 0), (5, .int r40), (0, .ref (ad 0)), (1, .int b), (2, .int k)]) hx hb dX8_safeLines_93 hl (k := 3) rfl (by rw [ex89]; rfl) (by decide) rfl (fun ls hl => ?_)
                  refine lv_goto (tgt := 12) hx hb dX8_safeLines_96 (by decide) ?_
                  exact ih12 x89 x88 ct18 _ _ ls (by omega) (by first | omega | decide) hI hP hD hS (lv_sub hl [0, 1, 4, 5, 6] rfl)
              · skip
                exact absurd c69 (by decide)
        · skip
          obtain rfl := hr26
          refine lv_if_eq (tgt := 93) hx hb dX8_safeLines_26 (by decide) (fun c90 => ?_) (fun c90 => ?_)
          · skip
            obtain ⟨x91, ex91⟩ : ∃ y : Int32, y = v4_12 + 1 := ⟨_, rfl⟩
            have tx91 : x91.toInt = v4_12.toInt + 1 := by rw [ex91]; exact z_add rfl (by decide : (1 : Int32).toInt = 1) (by omega) (by omega)
            refine lv_iinc (v := x91) (lv' := [(4, .int x91), (3, .int v3_12), (0, .ref (ad 0)), (1, .int b), (2, .int k)]) hx hb dX8_safeLines_93 hl (k := 0) rfl (by rw [ex91]; rfl) (by decide) rfl (fun ls hl => ?_)
            refine lv_goto (tgt := 12) hx hb dX8_safeLines_96 (by decide) ?_
            exact ih12 x91 v3_12 ct18 _ _ ls (by omega) (by first | omega | decide) hI hP hD hS (lv_sub hl [0, 1, 2, 3, 4] rfl)
          · skip
            exact absurd c90 (by decide)
  exact loop12 ((8 - (0 : Int32).toInt : Int).toNat + 1) (0 : Int32) (0 : Int32) ct17 _ _ ls (by omega) (by first | omega | decide) hI hP hD hS (lv_sub hl [0, 1, 2, 3, 4] rfl)

set_option maxHeartbeats 4000000 in
set_option maxRecDepth 100000 in
theorem k_X8_lossOfLine (l : Launch) (g : zG) (ad : Nat → Nat) (pe : Int32) (ct : Nat → va_E) (kb : Nat) (i : Int32) (hf_kb : 55 ≤ kb ∧ kb < 99 ∧ (kb - 55) % 11 = 0) (hI : Inv8 g ad pe ct) : Met l yX8_lossOfLine (zW yX8_lossOfLine cX8_lossOfLine 5 (some .int)) ({ frames := 2, cells := 0, slots := 0, locals := 42 }) (va_Pc [.ref (ad 0), .ref (ad kb), .int i] (zR g (zw 126 ad ct))) (vp_Si (fun r : Int32 => (True))) 0 0 (fun _ => False) := by
  refine Met.ofW (cc := cX8_lossOfLine) (maxL := 5) (ret := (some .int)) (by decide) rfl ?_
  intro p e s m args below meth c s₁ B hml hv
  obtain ⟨rfl, hP, hK, hN⟩ := hv
  have hx := B.exec
  have hb := B.bytes
  have hr := B.returns
  have hg := zW.law (atoms_spec (ws := (zW yX8_lossOfLine cX8_lossOfLine 5 (some .int))) B.pre)
  have hown : s.vm.findClass RX8 = some m.cls := findClass_of_methodNamed B.named
  have hlocks := B.notSynchronized
  have hpe0 := hI.1
  have hl := lv_entry ([.ref (ad 0), .ref (ad kb), .int i]) (n := 5) (Nat.le_of_ble_eq_true rfl)
  rw [lg_entry_eq]
  generalize (lg_sl ([.ref (ad 0), .ref (ad kb), .int i]) ++ List.replicate (5 - (lg_sl ([.ref (ad 0), .ref (ad kb), .int i])).length) Slot.unset).toArray = ls at hl ⊢
  have hl : lv_has ls 5 [(0, .ref (ad 0)), (1, .ref (ad kb)), (2, .int i)] := hl
  have rg_i := z_rng i
  refine lv_iconst (v := 0) hx hb dX8_lossOfLine_0 (by decide) ?_
  refine lv_istore_n (lv' := [(3, .int 0), (0, .ref (ad 0)), (1, .ref (ad kb)), (2, .int i)]) hx hb dX8_lossOfLine_1 rfl hl (by decide) rfl (fun ls hl => ?_)
  refine lv_iconst (v := 0) hx hb dX8_lossOfLine_2 (by decide) ?_
  refine lv_istore (lv' := [(4, .int 0), (3, .int 0), (0, .ref (ad 0)), (1, .ref (ad kb)), (2, .int i)]) hx hb dX8_lossOfLine_3 hl (by decide) rfl (fun ls hl => ?_)
  have loop5 : ∀ (n5 : Nat) (v4_5 : Int32) (v3_5 : Int32) (ls : Array Slot), ((4 - v4_5.toInt : Int).toNat < n5) → (0 ≤ v4_5.toInt ∧ v4_5.toInt ≤ 4) → lv_has ls 5 [(4, .int v4_5), (3, .int v3_5), (0, .ref (ad 0)), (1, .ref (ad kb)), (2, .int i)] → W p l e (headSpec (zW yX8_lossOfLine cX8_lossOfLine 5 (some .int)) ({ frames := 2, cells := 0, slots := 0, locals := 42 })).room s m ([.ref (ad 0), .ref (ad kb), .int i] : List Value).toArray below meth c s.heap [] 0 0 (MQ below (vp_Si (fun r : Int32 => (True))) ([.ref (ad 0), .ref (ad kb), .int i] : List Value).toArray s 0 0 (fun _ => False)) (F0 m 5 ls []) := by
    intro n5
    induction n5 with
    | zero =>
      intro v4_5 v3_5 ls hn5 b4_5 hl
      exact absurd hn5 (Nat.not_lt_zero _)
    | succ n5 ih5 =>
      intro v4_5 v3_5 ls hn5 b4_5 hl
      refine lv_iload hx hb dX8_lossOfLine_5 (lv_at hl 0 rfl) ?_
      refine lv_iconst (v := 4) hx hb dX8_lossOfLine_7 (by decide) ?_
      refine lv_icmp_ge (tgt := 37) hx hb dX8_lossOfLine_8 (by decide) (fun c1 => ?_) (fun c1 => ?_)
      · skip
        have c1 : 4 ≤ v4_5.toInt := (z_le (by decide : (4 : Int32).toInt = 4) rfl).mp c1
        refine lv_iload_n hx hb dX8_lossOfLine_37 rfl (lv_at hl 1 rfl) ?_
        exact W.iret (v := v3_5) hx hb hr (fun t ht hW => ⟨v3_5, rfl, trivial, ht⟩) (fun q hq => by cases hq) dX8_lossOfLine_38
      · skip
        have c1 : ¬ (4 ≤ v4_5.toInt) := fun q => c1 ((z_le (by decide : (4 : Int32).toInt = 4) rfl).mpr q)
        refine lv_iload_n hx hb dX8_lossOfLine_11 rfl (lv_at hl 1 rfl) ?_
        refine lv_aload_n hx hb dX8_lossOfLine_12 rfl (lv_at hl 2 rfl) ?_
        obtain ⟨bk4, dr3, h5, h6, h7, hs2⟩ := a8_0 hI
        refine va_get (D := g.1) (ci := 8) (v := .ref (ad 1)) (C := RX8) (T := TX8) (N := 13) hx hb hg inG8 hown hK hP 0 (zw_at (by omega) hs2) rfl 0 (by decide) (hg _ mm_360) (fun _ h9 => h9) rfl dX8_lossOfLine_13 ?_
        refine lv_iload hx hb dX8_lossOfLine_16 (lv_at hl 0 rfl) ?_
        have hs8 := a8_1 hI
        refine va_aldq hx hb hK hP 1 4 (zw_at (by omega) hs8) rfl (z_in rfl (by omega) (by omega)) dX8_lossOfLine_18 ?_
        rw [zF1_at (x := v4_5) (by omega) (by omega)]
        refine lv_aload_n hx hb dX8_lossOfLine_19 rfl (lv_at hl 3 rfl) ?_
        refine lv_iload_n hx hb dX8_lossOfLine_20 rfl (lv_at hl 4 rfl) ?_
        refine lv_iload hx hb dX8_lossOfLine_21 (lv_at hl 0 rfl) ?_
        obtain ⟨lns10, liv11, shw12, h13, h14, h15, h16, hz17, hs9⟩ := a8_40 (kc := kb) (by omega) hI
        have bhz17 := z_b01 hz17
        refine zc_i (va_runV (As := [.int i, .int v4_5]) (rest := [.ref (ad (0 + 35 + 5 * v4_5.toInt.toNat)), .int v3_5]) ⟨hx, hb, hml, hown, hg⟩ (k_X2_nodeAt l g ad pe ct kb i v4_5 (by omega) hI) (cwV 2 hg (z_gV mm_599 mm_600 mm_601 mm_116 mm_602) rfl rfl rfl (by decide +kernel) ⟨Nat.le_of_ble_eq_true rfl, Nat.le_of_ble_eq_true rfl⟩) ⟨(zR.pre [.ref (ad kb), .int i, .int v4_5] hP hK hN).1, va_recv hK hP (ci := 2) (q0 := kb) rfl (zw_at (by omega) hs9), (zR.pre [.ref (ad kb), .int i, .int v4_5] hP hK hN).2⟩ rfl rfl hl.1 rfl (lv_room (Nat.le_of_ble_eq_true rfl)) dX8_lossOfLine_23 ⟨Nat.le_of_ble_eq_true rfl, Nat.le_of_ble_eq_true rfl⟩) (fun r18 hr18 => ?_)
        obtain ⟨we20, se21, h22, h23, hs19⟩ := a8_35 (kc := (0 + 35 + 5 * v4_5.toInt.toNat)) (by omega) hI
        refine zc_i (va_runV (As := [.int r18]) (rest := [.int v3_5]) ⟨hx, hb, hml, hown, hg⟩ (k_X3_lossOf l g ad pe ct (0 + 35 + 5 * v4_5.toInt.toNat) r18 (by omega) hI) (cwV 1 hg (z_gV mm_865 mm_866 mm_867 mm_115 mm_868) rfl rfl rfl (by decide +kernel) ⟨Nat.le_of_ble_eq_true rfl, Nat.le_of_ble_eq_true rfl⟩) ⟨(zR.pre [.ref (ad (0 + 35 + 5 * v4_5.toInt.toNat)), .int r18] hP hK hN).1, va_recv hK hP (ci := 3) (q0 := (0 + 35 + 5 * v4_5.toInt.toNat)) rfl (zw_at (by omega) hs19), (zR.pre [.ref (ad (0 + 35 + 5 * v4_5.toInt.toNat)), .int r18] hP hK hN).2⟩ rfl rfl hl.1 rfl (lv_room (Nat.le_of_ble_eq_true rfl)) dX8_lossOfLine_26 ⟨Nat.le_of_ble_eq_true rfl, Nat.le_of_ble_eq_true rfl⟩) (fun r24 hr24 => ?_)
        refine lv_iadd hx hb dX8_lossOfLine_29 ?_
        refine lv_topi (fun x25 ex25 => ?_)
        refine lv_istore_n (lv' := [(3, .int x25), (4, .int v4_5), (0, .ref (ad 0)), (1, .ref (ad kb)), (2, .int i)]) hx hb dX8_lossOfLine_30 rfl hl (by decide) rfl (fun ls hl => ?_)
        obtain ⟨x26, ex26⟩ : ∃ y : Int32, y = v4_5 + 1 := ⟨_, rfl⟩
        have tx26 : x26.toInt = v4_5.toInt + 1 := by rw [ex26]; exact z_add rfl (by decide : (1 : Int32).toInt = 1) (by omega) (by omega)
        refine lv_iinc (v := x26) (lv' := [(4, .int x26), (3, .int x25), (0, .ref (ad 0)), (1, .ref (ad kb)), (2, .int i)]) hx hb dX8_lossOfLine_31 hl (k := 1) rfl (by rw [ex26]; rfl) (by decide) rfl (fun ls hl => ?_)
        refine lv_goto (tgt := 5) hx hb dX8_lossOfLine_34 (by decide) ?_
        exact ih5 x26 x25 ls (by omega) (by first | omega | decide) (lv_sub hl [0, 1, 2, 3, 4] rfl)
  exact loop5 ((4 - (0 : Int32).toInt : Int).toNat + 1) (0 : Int32) (0 : Int32) ls (by omega) (by first | omega | decide) (lv_sub hl [0, 1, 2, 3, 4] rfl)

set_option maxHeartbeats 4000000 in
set_option maxRecDepth 100000 in
theorem k_X8_someAlike (l : Launch) (g : zG) (ad : Nat → Nat) (pe : Int32) (ct : Nat → va_E) (wh : Int32) (hI : Inv8 g ad pe ct) : Met l yX8_someAlike (zW yX8_someAlike cX8_someAlike 5 (some .boolean)) ({ frames := 1, cells := 0, slots := 0, locals := 21 }) (va_Pc [.ref (ad 0), .int wh] (zR g (zw 126 ad ct))) (vp_Si (fun r : Int32 => (r = 1) ∨ (r = 0))) 0 0 (fun _ => False) := by
  refine Met.ofW (cc := cX8_someAlike) (maxL := 5) (ret := (some .boolean)) (by decide) rfl ?_
  intro p e s m args below meth c s₁ B hml hv
  obtain ⟨rfl, hP, hK, hN⟩ := hv
  have hx := B.exec
  have hb := B.bytes
  have hr := B.returns
  have hg := zW.law (atoms_spec (ws := (zW yX8_someAlike cX8_someAlike 5 (some .boolean))) B.pre)
  have hown : s.vm.findClass RX8 = some m.cls := findClass_of_methodNamed B.named
  have hlocks := B.notSynchronized
  have hpe0 := hI.1
  have hl := lv_entry ([.ref (ad 0), .int wh]) (n := 5) (Nat.le_of_ble_eq_true rfl)
  rw [lg_entry_eq]
  generalize (lg_sl ([.ref (ad 0), .int wh]) ++ List.replicate (5 - (lg_sl ([.ref (ad 0), .int wh])).length) Slot.unset).toArray = ls at hl ⊢
  have hl : lv_has ls 5 [(0, .ref (ad 0)), (1, .int wh)] := hl
  have rg_wh := z_rng wh
  refine lv_iconst (v := 0) hx hb dX8_someAlike_0 (by decide) ?_
  refine lv_istore_n (lv' := [(2, .int 0), (0, .ref (ad 0)), (1, .int wh)]) hx hb dX8_someAlike_1 rfl hl (by decide) rfl (fun ls hl => ?_)
  have loop2 : ∀ (n2 : Nat) (v2_2 : Int32) (ls : Array Slot), ((16 - v2_2.toInt : Int).toNat < n2) → (0 ≤ v2_2.toInt ∧ v2_2.toInt ≤ 16) → lv_has ls 5 [(2, .int v2_2), (0, .ref (ad 0)), (1, .int wh)] → W p l e (headSpec (zW yX8_someAlike cX8_someAlike 5 (some .boolean)) ({ frames := 1, cells := 0, slots := 0, locals := 21 })).room s m ([.ref (ad 0), .int wh] : List Value).toArray below meth c s.heap [] 0 0 (MQ below (vp_Si (fun r : Int32 => (r = 1) ∨ (r = 0))) ([.ref (ad 0), .int wh] : List Value).toArray s 0 0 (fun _ => False)) (F0 m 2 ls []) := by
    intro n2
    induction n2 with
    | zero =>
      intro v2_2 ls hn2 b2_2 hl
      exact absurd hn2 (Nat.not_lt_zero _)
    | succ n2 ih2 =>
      intro v2_2 ls hn2 b2_2 hl
      refine lv_iload_n hx hb dX8_someAlike_2 rfl (lv_at hl 0 rfl) ?_
      refine lv_aload_n hx hb dX8_someAlike_3 rfl (lv_at hl 1 rfl) ?_
      obtain ⟨bk3, dr2, h4, h5, h6, hs1⟩ := a8_0 hI
      refine va_get (D := g.1) (ci := 8) (v := .int pe) (C := RX8) (T := TX8) (N := 13) hx hb hg inG8 hown hK hP 0 (zw_at (by omega) hs1) rfl 11 (by decide) (hg _ mm_371) (fun _ h9 => h9) rfl dX8_someAlike_4 ?_
      refine lv_icmp_ge (tgt := 67) hx hb dX8_someAlike_7 (by decide) (fun c7 => ?_) (fun c7 => ?_)
      · skip
        have c7 : pe.toInt ≤ v2_2.toInt := (z_le rfl rfl).mp c7
        refine lv_iconst (v := 0) hx hb dX8_someAlike_67 (by decide) ?_
        have q8 : (0 : Int32).toInt = 0 := by decide
        exact W.zret (v := 0) hx hb hr rfl (fun t ht hW => ⟨0, rfl, by first | exact Or.inl ⟨rfl, by omega⟩ | exact Or.inr ⟨rfl, by omega⟩ | exact Or.inl rfl | exact Or.inr rfl | exact Or.inl ⟨rfl, by omega, by omega⟩ | exact (z_01 (by omega) (by omega)).symm, ht⟩) (fun q hq => by cases hq) dX8_someAlike_68
      · skip
        have c7 : ¬ (pe.toInt ≤ v2_2.toInt) := fun q => c7 ((z_le rfl rfl).mpr q)
        refine lv_iload_n hx hb dX8_someAlike_10 rfl (lv_at hl 2 rfl) ?_
        refine lv_istore_n (lv' := [(3, .int wh), (2, .int v2_2), (0, .ref (ad 0)), (1, .int wh)]) hx hb dX8_someAlike_11 rfl hl (by decide) rfl (fun ls hl => ?_)
        refine lv_iconst (v := 0) hx hb dX8_someAlike_12 (by decide) ?_
        refine lv_istore (lv' := [(4, .int 0), (3, .int wh), (2, .int v2_2), (0, .ref (ad 0)), (1, .int wh)]) hx hb dX8_someAlike_13 hl (by decide) rfl (fun ls hl => ?_)
        have loop15 : ∀ (n15 : Nat) (v4_15 : Int32) (v3_15 : Int32) (ls : Array Slot), ((4 - v4_15.toInt : Int).toNat < n15) → (0 ≤ v4_15.toInt ∧ v4_15.toInt ≤ 4) → lv_has ls 5 [(4, .int v4_15), (3, .int v3_15), (2, .int v2_2), (0, .ref (ad 0)), (1, .int wh)] → W p l e (headSpec (zW yX8_someAlike cX8_someAlike 5 (some .boolean)) ({ frames := 1, cells := 0, slots := 0, locals := 21 })).room s m ([.ref (ad 0), .int wh] : List Value).toArray below meth c s.heap [] 0 0 (MQ below (vp_Si (fun r : Int32 => (r = 1) ∨ (r = 0))) ([.ref (ad 0), .int wh] : List Value).toArray s 0 0 (fun _ => False)) (F0 m 15 ls []) := by
          intro n15
          induction n15 with
          | zero =>
            intro v4_15 v3_15 ls hn15 b4_15 hl
            exact absurd hn15 (Nat.not_lt_zero _)
          | succ n15 ih15 =>
            intro v4_15 v3_15 ls hn15 b4_15 hl
            refine lv_iload hx hb dX8_someAlike_15 (lv_at hl 0 rfl) ?_
            refine lv_iconst (v := 4) hx hb dX8_someAlike_17 (by decide) ?_
            refine lv_icmp_ge (tgt := 51) hx hb dX8_someAlike_18 (by decide) (fun c9 => ?_) (fun c9 => ?_)
            · skip
              have c9 : 4 ≤ v4_15.toInt := (z_le (by decide : (4 : Int32).toInt = 4) rfl).mp c9
              refine lv_iload_n hx hb dX8_someAlike_51 rfl (lv_at hl 1 rfl) ?_
              refine zc_i (va_runS (As := [.int v3_15]) (rest := []) ⟨hx, hb, hml, hown, hg⟩ (k_J6_bitCount_0f7a4 l g ad pe ct v3_15 hI) (va_cwS 1 hg (z_gS mm_734 mm_729 mm_119 mm_730) rfl rfl rfl (by decide +kernel) ⟨Nat.le_of_ble_eq_true rfl, Nat.le_of_ble_eq_true rfl⟩) (zR.pre [.int v3_15] hP hK hN) rfl rfl hl.1 rfl (lv_room (Nat.le_of_ble_eq_true rfl)) dX8_someAlike_52 ⟨Nat.le_of_ble_eq_true rfl, Nat.le_of_ble_eq_true rfl⟩) (fun r10 hr10 => ?_)
              obtain ⟨hr10_0, hr10_1⟩ := hr10
              have hr10_0 : 0 ≤ r10.toInt := hr10_0
              have hr10_1 : r10.toInt ≤ 63 := hr10_1
              refine lv_iconst (v := 1) hx hb dX8_someAlike_55 (by decide) ?_
              refine lv_icmp_le (tgt := 61) hx hb dX8_someAlike_56 (by decide) (fun c11 => ?_) (fun c11 => ?_)
              · skip
                have c11 : r10.toInt ≤ 1 := (z_le rfl (by decide : (1 : Int32).toInt = 1)).mp c11
                obtain ⟨x12, ex12⟩ : ∃ y : Int32, y = v2_2 + 1 := ⟨_, rfl⟩
                have tx12 : x12.toInt = v2_2.toInt + 1 := by rw [ex12]; exact z_add rfl (by decide : (1 : Int32).toInt = 1) (by omega) (by omega)
                refine lv_iinc (v := x12) (lv' := [(2, .int x12), (4, .int v4_15), (3, .int v3_15), (0, .ref (ad 0)), (1, .int wh)]) hx hb dX8_someAlike_61 hl (k := 2) rfl (by rw [ex12]; rfl) (by decide) rfl (fun ls hl => ?_)
                refine lv_goto (tgt := 2) hx hb dX8_someAlike_64 (by decide) ?_
                exact ih2 x12 ls (by omega) (by first | omega | decide) (lv_sub hl [0, 3, 4] rfl)
              · skip
                have c11 : ¬ (r10.toInt ≤ 1) := fun q => c11 ((z_le rfl (by decide : (1 : Int32).toInt = 1)).mpr q)
                refine lv_iconst (v := 1) hx hb dX8_someAlike_59 (by decide) ?_
                have q13 : (1 : Int32).toInt = 1 := by decide
                exact W.zret (v := 1) hx hb hr rfl (fun t ht hW => ⟨1, rfl, by first | exact Or.inl ⟨rfl, by omega⟩ | exact Or.inr ⟨rfl, by omega⟩ | exact Or.inl rfl | exact Or.inr rfl | exact Or.inl ⟨rfl, by omega, by omega⟩ | exact (z_01 (by omega) (by omega)).symm, ht⟩) (fun q hq => by cases hq) dX8_someAlike_60
            · skip
              have c9 : ¬ (4 ≤ v4_15.toInt) := fun q => c9 ((z_le (by decide : (4 : Int32).toInt = 4) rfl).mpr q)
              refine lv_iload_n hx hb dX8_someAlike_21 rfl (lv_at hl 1 rfl) ?_
              refine lv_aload_n hx hb dX8_someAlike_22 rfl (lv_at hl 3 rfl) ?_
              refine va_get (D := g.1) (ci := 8) (v := .ref (ad 1)) (C := RX8) (T := TX8) (N := 13) hx hb hg inG8 hown hK hP 0 (zw_at (by omega) hs1) rfl 0 (by decide) (hg _ mm_360) (fun _ h9 => h9) rfl dX8_someAlike_23 ?_
              refine lv_iload hx hb dX8_someAlike_26 (lv_at hl 0 rfl) ?_
              have hs14 := a8_1 hI
              refine va_aldq hx hb hK hP 1 4 (zw_at (by omega) hs14) rfl (z_in rfl (by omega) (by omega)) dX8_someAlike_28 ?_
              rw [zF1_at (x := v4_15) (by omega) (by omega)]
              refine lv_aload_n hx hb dX8_someAlike_29 rfl (lv_at hl 3 rfl) ?_
              refine va_get (D := g.1) (ci := 8) (v := .ref (ad 1)) (C := RX8) (T := TX8) (N := 13) hx hb hg inG8 hown hK hP 0 (zw_at (by omega) hs1) rfl 0 (by decide) (hg _ mm_360) (fun _ h9 => h9) rfl dX8_someAlike_30 ?_
              refine lv_iload hx hb dX8_someAlike_33 (lv_at hl 0 rfl) ?_
              refine va_aldq hx hb hK hP 1 4 (zw_at (by omega) hs14) rfl (z_in rfl (by omega) (by omega)) dX8_someAlike_35 ?_
              rw [zF1_at (x := v4_15) (by omega) (by omega)]
              refine lv_iload_n hx hb dX8_someAlike_36 rfl (lv_at hl 2 rfl) ?_
              obtain ⟨we16, se17, h18, h19, hs15⟩ := a8_35 (kc := (0 + 35 + 5 * v4_15.toInt.toNat)) (by omega) hI
              refine zc_i (va_runV (As := [.int v2_2]) (rest := [.ref (ad (0 + 35 + 5 * v4_15.toInt.toNat)), .int v3_15]) ⟨hx, hb, hml, hown, hg⟩ (k_X3_valueOf l g ad pe ct (0 + 35 + 5 * v4_15.toInt.toNat) v2_2 (by omega) hI) (cwV 1 hg (z_gV mm_447 mm_448 mm_449 mm_115 mm_450) rfl rfl rfl (by decide +kernel) ⟨Nat.le_of_ble_eq_true rfl, Nat.le_of_ble_eq_true rfl⟩) ⟨(zR.pre [.ref (ad (0 + 35 + 5 * v4_15.toInt.toNat)), .int v2_2] hP hK hN).1, va_recv hK hP (ci := 3) (q0 := (0 + 35 + 5 * v4_15.toInt.toNat)) rfl (zw_at (by omega) hs15), (zR.pre [.ref (ad (0 + 35 + 5 * v4_15.toInt.toNat)), .int v2_2] hP hK hN).2⟩ rfl rfl hl.1 rfl (lv_room (Nat.le_of_ble_eq_true rfl)) dX8_someAlike_37 ⟨Nat.le_of_ble_eq_true rfl, Nat.le_of_ble_eq_true rfl⟩) (fun r20 hr20 => ?_)
              refine zc_i (va_runV (As := [.int r20]) (rest := [.int v3_15]) ⟨hx, hb, hml, hown, hg⟩ (k_X3_whoBelow l g ad pe ct (0 + 35 + 5 * v4_15.toInt.toNat) r20 (by omega) hI) (cwV 1 hg (z_gV mm_687 mm_688 mm_689 mm_115 mm_690) rfl rfl rfl (by decide +kernel) ⟨Nat.le_of_ble_eq_true rfl, Nat.le_of_ble_eq_true rfl⟩) ⟨(zR.pre [.ref (ad (0 + 35 + 5 * v4_15.toInt.toNat)), .int r20] hP hK hN).1, va_recv hK hP (ci := 3) (q0 := (0 + 35 + 5 * v4_15.toInt.toNat)) rfl (zw_at (by omega) hs15), (zR.pre [.ref (ad (0 + 35 + 5 * v4_15.toInt.toNat)), .int r20] hP hK hN).2⟩ rfl rfl hl.1 rfl (lv_room (Nat.le_of_ble_eq_true rfl)) dX8_someAlike_40 ⟨Nat.le_of_ble_eq_true rfl, Nat.le_of_ble_eq_true rfl⟩) (fun r21 hr21 => ?_)
              refine lv_iand hx hb dX8_someAlike_43 ?_
              refine lv_topi (fun x22 ex22 => ?_)
              refine lv_istore_n (lv' := [(3, .int x22), (4, .int v4_15), (2, .int v2_2), (0, .ref (ad 0)), (1, .int wh)]) hx hb dX8_someAlike_44 rfl hl (by decide) rfl (fun ls hl => ?_)
              obtain ⟨x23, ex23⟩ : ∃ y : Int32, y = v4_15 + 1 := ⟨_, rfl⟩
              have tx23 : x23.toInt = v4_15.toInt + 1 := by rw [ex23]; exact z_add rfl (by decide : (1 : Int32).toInt = 1) (by omega) (by omega)
              refine lv_iinc (v := x23) (lv' := [(4, .int x23), (3, .int x22), (2, .int v2_2), (0, .ref (ad 0)), (1, .int wh)]) hx hb dX8_someAlike_45 hl (k := 1) rfl (by rw [ex23]; rfl) (by decide) rfl (fun ls hl => ?_)
              refine lv_goto (tgt := 15) hx hb dX8_someAlike_48 (by decide) ?_
              exact ih15 x23 x22 ls (by omega) (by first | omega | decide) (lv_sub hl [0, 1, 2, 3, 4] rfl)
        exact loop15 ((4 - (0 : Int32).toInt : Int).toNat + 1) (0 : Int32) wh ls (by omega) (by first | omega | decide) (lv_sub hl [0, 1, 2, 3, 4] rfl)
  exact loop2 ((16 - (0 : Int32).toInt : Int).toNat + 1) (0 : Int32) ls (by omega) (by first | omega | decide) (lv_sub hl [0, 1, 2] rfl)

set_option maxHeartbeats 4000000 in
set_option maxRecDepth 100000 in
theorem k_X8_mayLaid (l : Launch) (g : zG) (sz : Nat) (ad : Nat → Nat) (pe : Int32) (ct : Nat → va_E) (b : Int32) (i : Int32) (kn : Int32) (hl_b : 0 ≤ b.toInt ∧ b.toInt ≤ 3) (hl_i : 0 ≤ i.toInt ∧ i.toInt ≤ 7) (hI : Inv8 g ad pe ct) : Met l yX8_mayLaid (zW yX8_mayLaid cX8_mayLaid 4 (some .int)) ({ frames := 4, cells := 0, slots := 0, locals := 95 }) (va_Pc [.ref (ad 0), .int b, .int i, .int kn] (zA g (zw 126 ad ct) sz)) (va_Qi (fun (r : Int32) (_ : Unit) => ((0 ≤ r.toInt) ∧ (r.toInt ≤ 65535))) (fun _ t => ∃ ct2 : Nat → va_E, zP g (zw 126 ad ct2) t.heap ∧ va_D (va_A (zw 126 ad ct) sz) (zw 126 ad ct2) ∧ Inv8 g ad pe ct2) (va_A (zw 126 ad ct) sz)) 0 0 (va_A (zw 126 ad ct) sz) := by
  refine Met.ofW (cc := cX8_mayLaid) (maxL := 4) (ret := (some .int)) (by decide) rfl ?_
  intro p e s m args below meth c s₁ B hml hv
  obtain ⟨rfl, hsz, hP, hK, hD0, hN⟩ := hv
  have hx := B.exec
  have hb := B.bytes
  have hr := B.returns
  have hg := zW.law (atoms_spec (ws := (zW yX8_mayLaid cX8_mayLaid 4 (some .int))) B.pre)
  have hown : s.vm.findClass RX8 = some m.cls := findClass_of_methodNamed B.named
  have hlocks := B.notSynchronized
  have hpe0 := hI.1
  subst hsz
  have hD := hD0.self (sz := s.heap.size)
  generalize hAe : va_A (zw 126 ad ct) s.heap.size = A at hD ⊢
  have hA : ∀ q : Nat, s.heap.size ≤ q → A q := fun q h => by rw [← hAe]; exact Or.inr h
  have hS : va_S A s.heap s.heap [] := va_S.rf
  have hl := lv_entry ([.ref (ad 0), .int b, .int i, .int kn]) (n := 4) (Nat.le_of_ble_eq_true rfl)
  rw [lg_entry_eq]
  generalize (lg_sl ([.ref (ad 0), .int b, .int i, .int kn]) ++ List.replicate (4 - (lg_sl ([.ref (ad 0), .int b, .int i, .int kn])).length) Slot.unset).toArray = ls at hl ⊢
  have hl : lv_has ls 4 [(0, .ref (ad 0)), (1, .int b), (2, .int i), (3, .int kn)] := hl
  have rg_kn := z_rng kn
  refine lv_aload_n hx hb dX8_mayLaid_0 rfl (lv_at hl 0 rfl) ?_
  refine lv_iload_n hx hb dX8_mayLaid_1 rfl (lv_at hl 1 rfl) ?_
  refine lv_iload_n hx hb dX8_mayLaid_2 rfl (lv_at hl 3 rfl) ?_
  obtain ⟨bk3, dr2, h4, h5, h6, hs1⟩ := a8_0 hI
  have hFc := zw_free hD hS hA
  refine va_callv (va_runV (As := [.int b, .int kn]) (rest := []) ⟨hx, hb, hml, hown, hg⟩ (k_X8_fitLaid l g _ ad pe ct b kn (by first | omega | decide) hI) (cwV 2 hg (z_gV mm_675 mm_677 mm_25 mm_108 mm_678) rfl rfl rfl (by decide +kernel) ⟨Nat.le_of_ble_eq_true rfl, Nat.le_of_ble_eq_true rfl⟩) ⟨(zA.pre [.ref (ad 0), .int b, .int kn] hP hK hD hN).1, va_recv hK hP (ci := 8) (q0 := 0) rfl (zw_at (by omega) hs1), (zA.pre [.ref (ad 0), .int b, .int kn] hP hK hD hN).2⟩ rfl rfl hl.1 rfl (lv_room (Nat.le_of_ble_eq_true rfl)) dX8_mayLaid_3 ⟨Nat.le_of_ble_eq_true rfl, Nat.le_of_ble_eq_true rfl⟩) hS (fun q _ h => hFc q h) hFc (fun _ t H1 locs ht hvm hr7 hB hz1 hk1 hS => ?_)
  obtain ⟨ct8, hP1, hD1, hI⟩ := hB
  rw [ht] at hP1
  have hD := hD1.weaken (fun _ _ _ h => hFc _ h)
  generalize H1 = H at hP1 hS ⊢
  have hP := hP1
  refine W.widen (k := 0) (n := 0) (Nat.le_refl _) (Nat.le_refl _) ?_
  refine lv_aload_n hx hb dX8_mayLaid_6 rfl (lv_at hl 0 rfl) ?_
  obtain ⟨bk11, dr10, h12, h13, h14, hs9⟩ := a8_0 hI
  refine va_get (D := g.1) (ci := 8) (v := .ref (ad 10)) (C := RX8) (T := TX8) (N := 13) hx hb hg inG8 hown hK hP 0 (zw_at (by omega) hs9) rfl 6 (by decide) (hg _ mm_366) (fun _ h9 => h9) rfl dX8_mayLaid_7 ?_
  obtain ⟨lns16, liv17, lak18, fnd19, h20, h21, h22, h23, hs15⟩ := a8_10 hI
  have hFc := zw_free hD hS hA
  refine va_callv (va_runV (As := []) (rest := []) ⟨hx, hb, hml, hown, hg⟩ (k_X6_weigh l g _ ad pe ct8  hI) (cwV 0 hg (z_gV mm_720 mm_721 mm_722 mm_111 mm_723) rfl rfl rfl (by decide +kernel) ⟨Nat.le_of_ble_eq_true rfl, Nat.le_of_ble_eq_true rfl⟩) ⟨(zA.pre [.ref (ad 10)] hP hK hD hN).1, va_recv hK hP (ci := 6) (q0 := 10) rfl (zw_at (by omega) hs15), (zA.pre [.ref (ad 10)] hP hK hD hN).2⟩ rfl rfl hl.1 rfl (lv_room (Nat.le_of_ble_eq_true rfl)) dX8_mayLaid_10 ⟨Nat.le_of_ble_eq_true rfl, Nat.le_of_ble_eq_true rfl⟩) hS (fun q _ h => hFc q h) hFc (fun _ t H1 locs ht hvm hr24 hB hz1 hk1 hS => ?_)
  obtain ⟨ct25, hP1, hD1, hI⟩ := hB
  rw [ht] at hP1
  have hD := hD1.weaken (fun _ _ _ h => hFc _ h)
  generalize H1 = H at hP1 hS ⊢
  have hP := hP1
  refine W.widen (k := 0) (n := 0) (Nat.le_refl _) (Nat.le_refl _) ?_
  refine lv_aload_n hx hb dX8_mayLaid_13 rfl (lv_at hl 0 rfl) ?_
  obtain ⟨bk28, dr27, h29, h30, h31, hs26⟩ := a8_0 hI
  refine va_get (D := g.1) (ci := 8) (v := .ref (ad 10)) (C := RX8) (T := TX8) (N := 13) hx hb hg inG8 hown hK hP 0 (zw_at (by omega) hs26) rfl 6 (by decide) (hg _ mm_366) (fun _ h9 => h9) rfl dX8_mayLaid_14 ?_
  obtain ⟨lns33, liv34, lak35, fnd36, h37, h38, h39, h40, hs32⟩ := a8_10 hI
  refine va_get (D := g.1) (ci := 6) (v := .ref (ad 13)) (C := RX6) (T := TX6) (N := 10) hx hb hg inG6 hown hK hP 10 (zw_at (by omega) hs32) rfl 6 (by decide) (hg _ mm_185) (fun _ h9 => h9) rfl dX8_mayLaid_17 ?_
  refine lv_iload_n hx hb dX8_mayLaid_20 rfl (lv_at hl 2 rfl) ?_
  obtain ⟨f42, hp43, hs41⟩ := a8_13 hI
  refine va_iald hx hb hK hP 13 0 (zw_at (by omega) hs41) rfl (z_in rfl (by omega) (by omega)) dX8_mayLaid_21 ?_
  refine lv_topi (fun y44 ey44 => ?_)
  have hy44 := hp43 _ (z_clt (x := i) rfl (by omega) (by omega))
  rw [← ey44] at hy44
  have hy44 : 0 ≤ y44.toInt ∧ y44.toInt ≤ 65535 := hy44
  exact W.iret (v := y44) hx hb hr (fun t ht hW => ⟨⟨y44, (), rfl, ⟨by first | omega | decide, by first | omega | decide⟩, ct25, by rw [ht]; exact hP, hD, hI⟩, hS.F ht⟩) hS.2.2 dX8_mayLaid_22

set_option maxHeartbeats 4000000 in
set_option maxRecDepth 100000 in
theorem k_X8_fewestGossips (l : Launch) (g : zG) (sz : Nat) (ad : Nat → Nat) (pe : Int32) (ct : Nat → va_E) (b : Int32) (i : Int32) (hl_b : 0 ≤ b.toInt ∧ b.toInt ≤ 3) (hl_i : 0 ≤ i.toInt ∧ i.toInt ≤ 7) (hI : Inv8 g ad pe ct) : Met l yX8_fewestGossips (zW yX8_fewestGossips cX8_fewestGossips 7 (some .int)) ({ frames := 5, cells := 0, slots := 0, locals := 118 }) (va_Pc [.ref (ad 0), .int b, .int i] (zA g (zw 126 ad ct) sz)) (va_Qi (fun (r : Int32) (_ : Unit) => (True)) (fun _ t => ∃ ct2 : Nat → va_E, zP g (zw 126 ad ct2) t.heap ∧ va_D (va_A (zw 126 ad ct) sz) (zw 126 ad ct2) ∧ Inv8 g ad pe ct2) (va_A (zw 126 ad ct) sz)) 0 0 (va_A (zw 126 ad ct) sz) := by
  refine Met.ofW (cc := cX8_fewestGossips) (maxL := 7) (ret := (some .int)) (by decide) rfl ?_
  intro p e s m args below meth c s₁ B hml hv
  obtain ⟨rfl, hsz, hP, hK, hD0, hN⟩ := hv
  have hx := B.exec
  have hb := B.bytes
  have hr := B.returns
  have hg := zW.law (atoms_spec (ws := (zW yX8_fewestGossips cX8_fewestGossips 7 (some .int))) B.pre)
  have hown : s.vm.findClass RX8 = some m.cls := findClass_of_methodNamed B.named
  have hlocks := B.notSynchronized
  have hpe0 := hI.1
  subst hsz
  have hD := hD0.self (sz := s.heap.size)
  generalize hAe : va_A (zw 126 ad ct) s.heap.size = A at hD ⊢
  have hA : ∀ q : Nat, s.heap.size ≤ q → A q := fun q h => by rw [← hAe]; exact Or.inr h
  have hS : va_S A s.heap s.heap [] := va_S.rf
  have hl := lv_entry ([.ref (ad 0), .int b, .int i]) (n := 7) (Nat.le_of_ble_eq_true rfl)
  rw [lg_entry_eq]
  generalize (lg_sl ([.ref (ad 0), .int b, .int i]) ++ List.replicate (7 - (lg_sl ([.ref (ad 0), .int b, .int i])).length) Slot.unset).toArray = ls at hl ⊢
  have hl : lv_has ls 7 [(0, .ref (ad 0)), (1, .int b), (2, .int i)] := hl
  refine lv_iconst (v := 0) hx hb dX8_fewestGossips_0 (by decide) ?_
  refine lv_istore_n (lv' := [(3, .int 0), (0, .ref (ad 0)), (1, .int b), (2, .int i)]) hx hb dX8_fewestGossips_1 rfl hl (by decide) rfl (fun ls hl => ?_)
  refine lv_iconst (v := 0) hx hb dX8_fewestGossips_2 (by decide) ?_
  refine lv_istore (lv' := [(4, .int 0), (3, .int 0), (0, .ref (ad 0)), (1, .int b), (2, .int i)]) hx hb dX8_fewestGossips_3 hl (by decide) rfl (fun ls hl => ?_)
  have loop5 : ∀ (n5 : Nat) (v4_5 : Int32) (v3_5 : Int32) (ct1 : Nat → va_E) (H : Heap) (locs : List Loc) (ls : Array Slot), ((8 - v4_5.toInt : Int).toNat < n5) → (0 ≤ v4_5.toInt ∧ v4_5.toInt ≤ 8) → (Inv8 g ad pe ct1) → zP g (zw 126 ad ct1) H → va_D A (zw 126 ad ct1) → va_S A s.heap H locs → lv_has ls 7 [(4, .int v4_5), (3, .int v3_5), (0, .ref (ad 0)), (1, .int b), (2, .int i)] → W p l e (headSpec (zW yX8_fewestGossips cX8_fewestGossips 7 (some .int)) ({ frames := 5, cells := 0, slots := 0, locals := 118 })).room s m ([.ref (ad 0), .int b, .int i] : List Value).toArray below meth c H locs 0 0 (MQ below (va_Qi (fun (r : Int32) (_ : Unit) => (True)) (fun _ t => ∃ ct2 : Nat → va_E, zP g (zw 126 ad ct2) t.heap ∧ va_D A (zw 126 ad ct2) ∧ Inv8 g ad pe ct2) A) ([.ref (ad 0), .int b, .int i] : List Value).toArray s 0 0 A) (F0 m 5 ls []) := by
    intro n5
    induction n5 with
    | zero =>
      intro v4_5 v3_5 ct1 H locs ls hn5 b4_5 hI hP hD hS hl
      exact absurd hn5 (Nat.not_lt_zero _)
    | succ n5 ih5 =>
      intro v4_5 v3_5 ct1 H locs ls hn5 b4_5 hI hP hD hS hl
      refine lv_iload hx hb dX8_fewestGossips_5 (lv_at hl 0 rfl) ?_
      refine lv_bipush (v := 8) hx hb dX8_fewestGossips_7 (by decide) ?_
      refine lv_icmp_ge (tgt := 52) hx hb dX8_fewestGossips_9 (by decide) (fun c2 => ?_) (fun c2 => ?_)
      · skip
        have c2 : 8 ≤ v4_5.toInt := (z_le (by decide : (8 : Int32).toInt = 8) rfl).mp c2
        refine lv_aload_n hx hb dX8_fewestGossips_52 rfl (lv_at hl 2 rfl) ?_
        refine lv_iload_n hx hb dX8_fewestGossips_53 rfl (lv_at hl 3 rfl) ?_
        refine lv_aload_n hx hb dX8_fewestGossips_54 rfl (lv_at hl 2 rfl) ?_
        refine lv_iload_n hx hb dX8_fewestGossips_55 rfl (lv_at hl 3 rfl) ?_
        obtain ⟨bk5, dr4, h6, h7, h8, hs3⟩ := a8_0 hI
        refine zc_i (va_runV (As := [.int b]) (rest := [.int b, .ref (ad 0)]) ⟨hx, hb, hml, hown, hg⟩ (k_X8_openFor l g ad pe ct1 b hI) (cwV 1 hg (z_gV mm_659 mm_661 mm_22 mm_108 mm_662) rfl rfl rfl (by decide +kernel) ⟨Nat.le_of_ble_eq_true rfl, Nat.le_of_ble_eq_true rfl⟩) ⟨(zR.pre [.ref (ad 0), .int b] hP hK hN).1, va_recv hK hP (ci := 8) (q0 := 0) rfl (zw_at (by omega) hs3), (zR.pre [.ref (ad 0), .int b] hP hK hN).2⟩ rfl rfl hl.1 rfl (lv_room (Nat.le_of_ble_eq_true rfl)) dX8_fewestGossips_56 ⟨Nat.le_of_ble_eq_true rfl, Nat.le_of_ble_eq_true rfl⟩) (fun r9 hr9 => ?_)
        have hFc := zw_free hD hS hA
        refine va_callv (va_runV (As := [.int b, .int r9]) (rest := []) ⟨hx, hb, hml, hown, hg⟩ (k_X8_layOut l g _ ad pe ct1 b r9 hI) (cwV 2 hg (z_gV mm_667 mm_669 mm_24 mm_108 mm_670) rfl rfl rfl (by decide +kernel) ⟨Nat.le_of_ble_eq_true rfl, Nat.le_of_ble_eq_true rfl⟩) ⟨(zA.pre [.ref (ad 0), .int b, .int r9] hP hK hD hN).1, va_recv hK hP (ci := 8) (q0 := 0) rfl (zw_at (by omega) hs3), (zA.pre [.ref (ad 0), .int b, .int r9] hP hK hD hN).2⟩ rfl rfl hl.1 rfl (lv_room (Nat.le_of_ble_eq_true rfl)) dX8_fewestGossips_59 ⟨Nat.le_of_ble_eq_true rfl, Nat.le_of_ble_eq_true rfl⟩) hS (fun q _ h => hFc q h) hFc (fun _ t H1 locs ht hvm hr10 hB hz1 hk1 hS => ?_)
        obtain ⟨ct11, hP1, hD1, hI⟩ := hB
        rw [ht] at hP1
        have hD := hD1.weaken (fun _ _ _ h => hFc _ h)
        generalize H1 = H at hP1 hS ⊢
        have hP := hP1
        refine W.widen (k := 0) (n := 0) (Nat.le_refl _) (Nat.le_refl _) ?_
        refine lv_iconst (v := (-1)) hx hb dX8_fewestGossips_62 (by decide) ?_
        refine lv_istore (lv' := [(4, .int (-1)), (3, .int v3_5), (0, .ref (ad 0)), (1, .int b), (2, .int i)]) hx hb dX8_fewestGossips_63 hl (by decide) rfl (fun ls hl => ?_)
        refine lv_iconst (v := 0) hx hb dX8_fewestGossips_65 (by decide) ?_
        refine lv_istore (lv' := [(5, .int 0), (4, .int (-1)), (3, .int v3_5), (0, .ref (ad 0)), (1, .int b), (2, .int i)]) hx hb dX8_fewestGossips_66 hl (by decide) rfl (fun ls hl => ?_)
        have loop68 : ∀ (n68 : Nat) (v5_68 : Int32) (v4_68 : Int32) (ct12 : Nat → va_E) (H : Heap) (locs : List Loc) (ls : Array Slot), ((256 - v5_68.toInt : Int).toNat < n68) → (0 ≤ v5_68.toInt ∧ v5_68.toInt ≤ 256) → (Inv8 g ad pe ct12) → zP g (zw 126 ad ct12) H → va_D A (zw 126 ad ct12) → va_S A s.heap H locs → lv_has ls 7 [(5, .int v5_68), (4, .int v4_68), (3, .int v3_5), (0, .ref (ad 0)), (1, .int b), (2, .int i)] → W p l e (headSpec (zW yX8_fewestGossips cX8_fewestGossips 7 (some .int)) ({ frames := 5, cells := 0, slots := 0, locals := 118 })).room s m ([.ref (ad 0), .int b, .int i] : List Value).toArray below meth c H locs 0 0 (MQ below (va_Qi (fun (r : Int32) (_ : Unit) => (True)) (fun _ t => ∃ ct2 : Nat → va_E, zP g (zw 126 ad ct2) t.heap ∧ va_D A (zw 126 ad ct2) ∧ Inv8 g ad pe ct2) A) ([.ref (ad 0), .int b, .int i] : List Value).toArray s 0 0 A) (F0 m 68 ls []) := by
          intro n68
          induction n68 with
          | zero =>
            intro v5_68 v4_68 ct12 H locs ls hn68 b5_68 hI hP hD hS hl
            exact absurd hn68 (Nat.not_lt_zero _)
          | succ n68 ih68 =>
            intro v5_68 v4_68 ct12 H locs ls hn68 b5_68 hI hP hD hS hl
            refine lv_iload hx hb dX8_fewestGossips_68 (lv_at hl 0 rfl) ?_
            refine lv_sipush (v := 256) hx hb dX8_fewestGossips_70 (by decide) ?_
            refine lv_icmp_ge (tgt := 141) hx hb dX8_fewestGossips_73 (by decide) (fun c13 => ?_) (fun c13 => ?_)
            · skip
              have c13 : 256 ≤ v5_68.toInt := (z_le (by decide : (256 : Int32).toInt = 256) rfl).mp c13
              refine lv_iload hx hb dX8_fewestGossips_141 (lv_at hl 1 rfl) ?_
              exact W.iret (v := v4_68) hx hb hr (fun t ht hW => ⟨⟨v4_68, (), rfl, trivial, ct12, by rw [ht]; exact hP, hD, hI⟩, hS.F ht⟩) hS.2.2 dX8_fewestGossips_143
            · skip
              have c13 : ¬ (256 ≤ v5_68.toInt) := fun q => c13 ((z_le (by decide : (256 : Int32).toInt = 256) rfl).mpr q)
              refine lv_iload hx hb dX8_fewestGossips_76 (lv_at hl 1 rfl) ?_
              refine lv_iconst (v := (-1)) hx hb dX8_fewestGossips_78 (by decide) ?_
              refine lv_icmp_eq (tgt := 95) hx hb dX8_fewestGossips_79 (by decide) (fun c14 => ?_) (fun c14 => ?_)
              · skip
                have c14 : v4_68.toInt = (-1) := (z_eq rfl (by decide : ((-1) : Int32).toInt = (-1))).mp c14
                refine lv_iconst (v := 1) hx hb dX8_fewestGossips_95 (by decide) ?_
                refine lv_goto (tgt := 100) hx hb dX8_fewestGossips_96 (by decide) ?_
                refine lv_istore (lv' := [(6, .int 1), (5, .int v5_68), (4, .int v4_68), (3, .int v3_5), (0, .ref (ad 0)), (1, .int b), (2, .int i)]) hx hb dX8_fewestGossips_100 hl (by decide) rfl (fun ls hl => ?_)
                refine lv_iload hx hb dX8_fewestGossips_102 (lv_at hl 0 rfl) ?_
                refine lv_if_eq (tgt := 135) hx hb dX8_fewestGossips_104 (by decide) (fun c15 => ?_) (fun c15 => ?_)
                · skip
                  exact absurd c15 (by decide)
                · skip
                  refine lv_iload hx hb dX8_fewestGossips_107 (lv_at hl 1 rfl) ?_
                  refine lv_iload_n hx hb dX8_fewestGossips_109 rfl (lv_at hl 3 rfl) ?_
                  refine lv_iconst (v := (-1)) hx hb dX8_fewestGossips_110 (by decide) ?_
                  refine lv_ixor hx hb dX8_fewestGossips_111 ?_
                  refine lv_topi (fun x16 ex16 => ?_)
                  refine lv_iand hx hb dX8_fewestGossips_112 ?_
                  refine lv_topi (fun x17 ex17 => ?_)
                  have tx17 := z_andl (x := v5_68) (y := x16) rfl (by omega)
                  rw [← ex17] at tx17
                  refine lv_if_ne (tgt := 135) hx hb dX8_fewestGossips_113 (by decide) (fun c18 => ?_) (fun c18 => ?_)
                  · skip
                    have c18 : ¬ (x17.toInt = 0) := fun q => c18 ((z_eq rfl (by decide : (0 : Int32).toInt = 0)).mpr q)
                    obtain ⟨x19, ex19⟩ : ∃ y : Int32, y = v5_68 + 1 := ⟨_, rfl⟩
                    have tx19 : x19.toInt = v5_68.toInt + 1 := by rw [ex19]; exact z_add rfl (by decide : (1 : Int32).toInt = 1) (by omega) (by omega)
                    refine lv_iinc (v := x19) (lv' := [(5, .int x19), (6, .int 1), (4, .int v4_68), (3, .int v3_5), (0, .ref (ad 0)), (1, .int b), (2, .int i)]) hx hb dX8_fewestGossips_135 hl (k := 1) rfl (by rw [ex19]; rfl) (by decide) rfl (fun ls hl => ?_)
                    refine lv_goto (tgt := 68) hx hb dX8_fewestGossips_138 (by decide) ?_
                    exact ih68 x19 v4_68 ct12 _ _ ls (by omega) (by first | omega | decide) hI hP hD hS (lv_sub hl [0, 2, 3, 4, 5, 6] rfl)
                  · skip
                    have c18 : x17.toInt = 0 := (z_eq rfl (by decide : (0 : Int32).toInt = 0)).mp c18
                    refine lv_aload_n hx hb dX8_fewestGossips_116 rfl (lv_at hl 4 rfl) ?_
                    refine lv_iload_n hx hb dX8_fewestGossips_117 rfl (lv_at hl 5 rfl) ?_
                    refine lv_iload_n hx hb dX8_fewestGossips_118 rfl (lv_at hl 6 rfl) ?_
                    refine lv_iload hx hb dX8_fewestGossips_119 (lv_at hl 1 rfl) ?_
                    obtain ⟨bk22, dr21, h23, h24, h25, hs20⟩ := a8_0 hI
                    have hFc := zw_free hD hS hA
                    refine va_calli (va_runV (As := [.int b, .int i, .int v5_68]) (rest := []) ⟨hx, hb, hml, hown, hg⟩ (k_X8_mayLaid l g _ ad pe ct12 b i v5_68 (by first | omega | decide) (by first | omega | decide) hI) (cwV 3 hg (z_gV mm_790 mm_792 mm_33 mm_108 mm_793) rfl rfl rfl (by decide +kernel) ⟨Nat.le_of_ble_eq_true rfl, Nat.le_of_ble_eq_true rfl⟩) ⟨(zA.pre [.ref (ad 0), .int b, .int i, .int v5_68] hP hK hD hN).1, va_recv hK hP (ci := 8) (q0 := 0) rfl (zw_at (by omega) hs20), (zA.pre [.ref (ad 0), .int b, .int i, .int v5_68] hP hK hD hN).2⟩ rfl rfl hl.1 rfl (lv_room (Nat.le_of_ble_eq_true rfl)) dX8_fewestGossips_121 ⟨Nat.le_of_ble_eq_true rfl, Nat.le_of_ble_eq_true rfl⟩) hS (fun q _ h => hFc q h) hFc (fun r26 _ t H1 locs ht hvm hr26 hB hz1 hk1 hS => ?_)
                    obtain ⟨ct27, hP1, hD1, hI⟩ := hB
                    rw [ht] at hP1
                    have hD := hD1.weaken (fun _ _ _ h => hFc _ h)
                    generalize H1 = H at hP1 hS ⊢
                    have hP := hP1
                    refine W.widen (k := 0) (n := 0) (Nat.le_refl _) (Nat.le_refl _) ?_
                    obtain ⟨hr26_0, hr26_1⟩ := hr26
                    have hr26_0 : 0 ≤ r26.toInt := hr26_0
                    have hr26_1 : r26.toInt ≤ 65535 := hr26_1
                    refine zc_i (va_runS (As := [.int r26]) (rest := []) ⟨hx, hb, hml, hown, hg⟩ (k_J6_bitCount_0f7a4 l g ad pe ct27 r26 hI) (va_cwS 1 hg (z_gS mm_734 mm_729 mm_119 mm_730) rfl rfl rfl (by decide +kernel) ⟨Nat.le_of_ble_eq_true rfl, Nat.le_of_ble_eq_true rfl⟩) (zR.pre [.int r26] hP hK hN) rfl rfl hl.1 rfl (lv_room (Nat.le_of_ble_eq_true rfl)) dX8_fewestGossips_124 ⟨Nat.le_of_ble_eq_true rfl, Nat.le_of_ble_eq_true rfl⟩) (fun r28 hr28 => ?_)
                    obtain ⟨hr28_0, hr28_1⟩ := hr28
                    have hr28_0 : 0 ≤ r28.toInt := hr28_0
                    have hr28_1 : r28.toInt ≤ 63 := hr28_1
                    refine lv_iconst (v := 1) hx hb dX8_fewestGossips_127 (by decide) ?_
                    refine lv_icmp_ne (tgt := 135) hx hb dX8_fewestGossips_128 (by decide) (fun c29 => ?_) (fun c29 => ?_)
                    · skip
                      have c29 : ¬ (r28.toInt = 1) := fun q => c29 ((z_eq rfl (by decide : (1 : Int32).toInt = 1)).mpr q)
                      obtain ⟨x30, ex30⟩ : ∃ y : Int32, y = v5_68 + 1 := ⟨_, rfl⟩
                      have tx30 : x30.toInt = v5_68.toInt + 1 := by rw [ex30]; exact z_add rfl (by decide : (1 : Int32).toInt = 1) (by omega) (by omega)
                      refine lv_iinc (v := x30) (lv' := [(5, .int x30), (6, .int 1), (4, .int v4_68), (3, .int v3_5), (0, .ref (ad 0)), (1, .int b), (2, .int i)]) hx hb dX8_fewestGossips_135 hl (k := 1) rfl (by rw [ex30]; rfl) (by decide) rfl (fun ls hl => ?_)
                      refine lv_goto (tgt := 68) hx hb dX8_fewestGossips_138 (by decide) ?_
                      exact ih68 x30 v4_68 ct27 _ _ ls (by omega) (by first | omega | decide) hI hP hD hS (lv_sub hl [0, 2, 3, 4, 5, 6] rfl)
                    · skip
                      have c29 : r28.toInt = 1 := (z_eq rfl (by decide : (1 : Int32).toInt = 1)).mp c29
                      refine lv_iload hx hb dX8_fewestGossips_131 (lv_at hl 1 rfl) ?_
                      refine lv_istore (lv' := [(4, .int v5_68), (6, .int 1), (5, .int v5_68), (3, .int v3_5), (0, .ref (ad 0)), (1, .int b), (2, .int i)]) hx hb dX8_fewestGossips_133 hl (by decide) rfl (fun ls hl => ?_)
                      obtain ⟨x31, ex31⟩ : ∃ y : Int32, y = v5_68 + 1 := ⟨_, rfl⟩
                      have tx31 : x31.toInt = v5_68.toInt + 1 := by rw [ex31]; exact z_add rfl (by decide : (1 : Int32).toInt = 1) (by omega) (by omega)
                      refine lv_iinc (v := x31) (lv' := [(5, .int x31), (4, .int v5_68), (6, .int 1), (3, .int v3_5), (0, .ref (ad 0)), (1, .int b), (2, .int i)]) hx hb dX8_fewestGossips_135 hl (k := 2) rfl (by rw [ex31]; rfl) (by decide) rfl (fun ls hl => ?_)
                      refine lv_goto (tgt := 68) hx hb dX8_fewestGossips_138 (by decide) ?_
                      exact ih68 x31 v5_68 ct27 _ _ ls (by omega) (by first | omega | decide) hI hP hD hS (lv_sub hl [0, 1, 3, 4, 5, 6] rfl)
              · skip
                have c14 : ¬ (v4_68.toInt = (-1)) := fun q => c14 ((z_eq rfl (by decide : ((-1) : Int32).toInt = (-1))).mpr q)
                refine lv_iload hx hb dX8_fewestGossips_82 (lv_at hl 0 rfl) ?_
                refine zc_i (va_runS (As := [.int v5_68]) (rest := []) ⟨hx, hb, hml, hown, hg⟩ (k_J6_bitCount_0f7a4 l g ad pe ct12 v5_68 hI) (va_cwS 1 hg (z_gS mm_734 mm_729 mm_119 mm_730) rfl rfl rfl (by decide +kernel) ⟨Nat.le_of_ble_eq_true rfl, Nat.le_of_ble_eq_true rfl⟩) (zR.pre [.int v5_68] hP hK hN) rfl rfl hl.1 rfl (lv_room (Nat.le_of_ble_eq_true rfl)) dX8_fewestGossips_84 ⟨Nat.le_of_ble_eq_true rfl, Nat.le_of_ble_eq_true rfl⟩) (fun r32 hr32 => ?_)
                obtain ⟨hr32_0, hr32_1⟩ := hr32
                have hr32_0 : 0 ≤ r32.toInt := hr32_0
                have hr32_1 : r32.toInt ≤ 63 := hr32_1
                refine lv_iload hx hb dX8_fewestGossips_87 (lv_at hl 1 rfl) ?_
                refine zc_i (va_runS (As := [.int v4_68]) (rest := [.int r32]) ⟨hx, hb, hml, hown, hg⟩ (k_J6_bitCount_0f7a4 l g ad pe ct12 v4_68 hI) (va_cwS 1 hg (z_gS mm_734 mm_729 mm_119 mm_730) rfl rfl rfl (by decide +kernel) ⟨Nat.le_of_ble_eq_true rfl, Nat.le_of_ble_eq_true rfl⟩) (zR.pre [.int v4_68] hP hK hN) rfl rfl hl.1 rfl (lv_room (Nat.le_of_ble_eq_true rfl)) dX8_fewestGossips_89 ⟨Nat.le_of_ble_eq_true rfl, Nat.le_of_ble_eq_true rfl⟩) (fun r33 hr33 => ?_)
                obtain ⟨hr33_0, hr33_1⟩ := hr33
                have hr33_0 : 0 ≤ r33.toInt := hr33_0
                have hr33_1 : r33.toInt ≤ 63 := hr33_1
                refine lv_icmp_ge (tgt := 99) hx hb dX8_fewestGossips_92 (by decide) (fun c34 => ?_) (fun c34 => ?_)
                · skip
                  have c34 : r33.toInt ≤ r32.toInt := (z_le rfl rfl).mp c34
                  refine lv_iconst (v := 0) hx hb dX8_fewestGossips_99 (by decide) ?_
                  refine lv_istore (lv' := [(6, .int 0), (5, .int v5_68), (4, .int v4_68), (3, .int v3_5), (0, .ref (ad 0)), (1, .int b), (2, .int i)]) hx hb dX8_fewestGossips_100 hl (by decide) rfl (fun ls hl => ?_)
                  refine lv_iload hx hb dX8_fewestGossips_102 (lv_at hl 0 rfl) ?_
                  refine lv_if_eq (tgt := 135) hx hb dX8_fewestGossips_104 (by decide) (fun c35 => ?_) (fun c35 => ?_)
                  · skip
                    obtain ⟨x36, ex36⟩ : ∃ y : Int32, y = v5_68 + 1 := ⟨_, rfl⟩
                    have tx36 : x36.toInt = v5_68.toInt + 1 := by rw [ex36]; exact z_add rfl (by decide : (1 : Int32).toInt = 1) (by omega) (by omega)
                    refine lv_iinc (v := x36) (lv' := [(5, .int x36), (6, .int 0), (4, .int v4_68), (3, .int v3_5), (0, .ref (ad 0)), (1, .int b), (2, .int i)]) hx hb dX8_fewestGossips_135 hl (k := 1) rfl (by rw [ex36]; rfl) (by decide) rfl (fun ls hl => ?_)
                    refine lv_goto (tgt := 68) hx hb dX8_fewestGossips_138 (by decide) ?_
                    exact ih68 x36 v4_68 ct12 _ _ ls (by omega) (by first | omega | decide) hI hP hD hS (lv_sub hl [0, 2, 3, 4, 5, 6] rfl)
                  · skip
                    exact absurd c35 (by decide)
                · skip
                  have c34 : ¬ (r33.toInt ≤ r32.toInt) := fun q => c34 ((z_le rfl rfl).mpr q)
                  refine lv_iconst (v := 1) hx hb dX8_fewestGossips_95 (by decide) ?_
                  refine lv_goto (tgt := 100) hx hb dX8_fewestGossips_96 (by decide) ?_
                  refine lv_istore (lv' := [(6, .int 1), (5, .int v5_68), (4, .int v4_68), (3, .int v3_5), (0, .ref (ad 0)), (1, .int b), (2, .int i)]) hx hb dX8_fewestGossips_100 hl (by decide) rfl (fun ls hl => ?_)
                  refine lv_iload hx hb dX8_fewestGossips_102 (lv_at hl 0 rfl) ?_
                  refine lv_if_eq (tgt := 135) hx hb dX8_fewestGossips_104 (by decide) (fun c37 => ?_) (fun c37 => ?_)
                  · skip
                    exact absurd c37 (by decide)
                  · skip
                    refine lv_iload hx hb dX8_fewestGossips_107 (lv_at hl 1 rfl) ?_
                    refine lv_iload_n hx hb dX8_fewestGossips_109 rfl (lv_at hl 3 rfl) ?_
                    refine lv_iconst (v := (-1)) hx hb dX8_fewestGossips_110 (by decide) ?_
                    refine lv_ixor hx hb dX8_fewestGossips_111 ?_
                    refine lv_topi (fun x38 ex38 => ?_)
                    refine lv_iand hx hb dX8_fewestGossips_112 ?_
                    refine lv_topi (fun x39 ex39 => ?_)
                    have tx39 := z_andl (x := v5_68) (y := x38) rfl (by omega)
                    rw [← ex39] at tx39
                    refine lv_if_ne (tgt := 135) hx hb dX8_fewestGossips_113 (by decide) (fun c40 => ?_) (fun c40 => ?_)
                    · skip
                      have c40 : ¬ (x39.toInt = 0) := fun q => c40 ((z_eq rfl (by decide : (0 : Int32).toInt = 0)).mpr q)
                      obtain ⟨x41, ex41⟩ : ∃ y : Int32, y = v5_68 + 1 := ⟨_, rfl⟩
                      have tx41 : x41.toInt = v5_68.toInt + 1 := by rw [ex41]; exact z_add rfl (by decide : (1 : Int32).toInt = 1) (by omega) (by omega)
                      refine lv_iinc (v := x41) (lv' := [(5, .int x41), (6, .int 1), (4, .int v4_68), (3, .int v3_5), (0, .ref (ad 0)), (1, .int b), (2, .int i)]) hx hb dX8_fewestGossips_135 hl (k := 1) rfl (by rw [ex41]; rfl) (by decide) rfl (fun ls hl => ?_)
                      refine lv_goto (tgt := 68) hx hb dX8_fewestGossips_138 (by decide) ?_
                      exact ih68 x41 v4_68 ct12 _ _ ls (by omega) (by first | omega | decide) hI hP hD hS (lv_sub hl [0, 2, 3, 4, 5, 6] rfl)
                    · skip
                      have c40 : x39.toInt = 0 := (z_eq rfl (by decide : (0 : Int32).toInt = 0)).mp c40
                      refine lv_aload_n hx hb dX8_fewestGossips_116 rfl (lv_at hl 4 rfl) ?_
                      refine lv_iload_n hx hb dX8_fewestGossips_117 rfl (lv_at hl 5 rfl) ?_
                      refine lv_iload_n hx hb dX8_fewestGossips_118 rfl (lv_at hl 6 rfl) ?_
                      refine lv_iload hx hb dX8_fewestGossips_119 (lv_at hl 1 rfl) ?_
                      obtain ⟨bk44, dr43, h45, h46, h47, hs42⟩ := a8_0 hI
                      have hFc := zw_free hD hS hA
                      refine va_calli (va_runV (As := [.int b, .int i, .int v5_68]) (rest := []) ⟨hx, hb, hml, hown, hg⟩ (k_X8_mayLaid l g _ ad pe ct12 b i v5_68 (by first | omega | decide) (by first | omega | decide) hI) (cwV 3 hg (z_gV mm_790 mm_792 mm_33 mm_108 mm_793) rfl rfl rfl (by decide +kernel) ⟨Nat.le_of_ble_eq_true rfl, Nat.le_of_ble_eq_true rfl⟩) ⟨(zA.pre [.ref (ad 0), .int b, .int i, .int v5_68] hP hK hD hN).1, va_recv hK hP (ci := 8) (q0 := 0) rfl (zw_at (by omega) hs42), (zA.pre [.ref (ad 0), .int b, .int i, .int v5_68] hP hK hD hN).2⟩ rfl rfl hl.1 rfl (lv_room (Nat.le_of_ble_eq_true rfl)) dX8_fewestGossips_121 ⟨Nat.le_of_ble_eq_true rfl, Nat.le_of_ble_eq_true rfl⟩) hS (fun q _ h => hFc q h) hFc (fun r48 _ t H1 locs ht hvm hr48 hB hz1 hk1 hS => ?_)
                      obtain ⟨ct49, hP1, hD1, hI⟩ := hB
                      rw [ht] at hP1
                      have hD := hD1.weaken (fun _ _ _ h => hFc _ h)
                      generalize H1 = H at hP1 hS ⊢
                      have hP := hP1
                      refine W.widen (k := 0) (n := 0) (Nat.le_refl _) (Nat.le_refl _) ?_
                      obtain ⟨hr48_0, hr48_1⟩ := hr48
                      have hr48_0 : 0 ≤ r48.toInt := hr48_0
                      have hr48_1 : r48.toInt ≤ 65535 := hr48_1
                      refine zc_i (va_runS (As := [.int r48]) (rest := []) ⟨hx, hb, hml, hown, hg⟩ (k_J6_bitCount_0f7a4 l g ad pe ct49 r48 hI) (va_cwS 1 hg (z_gS mm_734 mm_729 mm_119 mm_730) rfl rfl rfl (by decide +kernel) ⟨Nat.le_of_ble_eq_true rfl, Nat.le_of_ble_eq_true rfl⟩) (zR.pre [.int r48] hP hK hN) rfl rfl hl.1 rfl (lv_room (Nat.le_of_ble_eq_true rfl)) dX8_fewestGossips_124 ⟨Nat.le_of_ble_eq_true rfl, Nat.le_of_ble_eq_true rfl⟩) (fun r50 hr50 => ?_)
                      obtain ⟨hr50_0, hr50_1⟩ := hr50
                      have hr50_0 : 0 ≤ r50.toInt := hr50_0
                      have hr50_1 : r50.toInt ≤ 63 := hr50_1
                      refine lv_iconst (v := 1) hx hb dX8_fewestGossips_127 (by decide) ?_
                      refine lv_icmp_ne (tgt := 135) hx hb dX8_fewestGossips_128 (by decide) (fun c51 => ?_) (fun c51 => ?_)
                      · skip
                        have c51 : ¬ (r50.toInt = 1) := fun q => c51 ((z_eq rfl (by decide : (1 : Int32).toInt = 1)).mpr q)
                        obtain ⟨x52, ex52⟩ : ∃ y : Int32, y = v5_68 + 1 := ⟨_, rfl⟩
                        have tx52 : x52.toInt = v5_68.toInt + 1 := by rw [ex52]; exact z_add rfl (by decide : (1 : Int32).toInt = 1) (by omega) (by omega)
                        refine lv_iinc (v := x52) (lv' := [(5, .int x52), (6, .int 1), (4, .int v4_68), (3, .int v3_5), (0, .ref (ad 0)), (1, .int b), (2, .int i)]) hx hb dX8_fewestGossips_135 hl (k := 1) rfl (by rw [ex52]; rfl) (by decide) rfl (fun ls hl => ?_)
                        refine lv_goto (tgt := 68) hx hb dX8_fewestGossips_138 (by decide) ?_
                        exact ih68 x52 v4_68 ct49 _ _ ls (by omega) (by first | omega | decide) hI hP hD hS (lv_sub hl [0, 2, 3, 4, 5, 6] rfl)
                      · skip
                        have c51 : r50.toInt = 1 := (z_eq rfl (by decide : (1 : Int32).toInt = 1)).mp c51
                        refine lv_iload hx hb dX8_fewestGossips_131 (lv_at hl 1 rfl) ?_
                        refine lv_istore (lv' := [(4, .int v5_68), (6, .int 1), (5, .int v5_68), (3, .int v3_5), (0, .ref (ad 0)), (1, .int b), (2, .int i)]) hx hb dX8_fewestGossips_133 hl (by decide) rfl (fun ls hl => ?_)
                        obtain ⟨x53, ex53⟩ : ∃ y : Int32, y = v5_68 + 1 := ⟨_, rfl⟩
                        have tx53 : x53.toInt = v5_68.toInt + 1 := by rw [ex53]; exact z_add rfl (by decide : (1 : Int32).toInt = 1) (by omega) (by omega)
                        refine lv_iinc (v := x53) (lv' := [(5, .int x53), (4, .int v5_68), (6, .int 1), (3, .int v3_5), (0, .ref (ad 0)), (1, .int b), (2, .int i)]) hx hb dX8_fewestGossips_135 hl (k := 2) rfl (by rw [ex53]; rfl) (by decide) rfl (fun ls hl => ?_)
                        refine lv_goto (tgt := 68) hx hb dX8_fewestGossips_138 (by decide) ?_
                        exact ih68 x53 v5_68 ct49 _ _ ls (by omega) (by first | omega | decide) hI hP hD hS (lv_sub hl [0, 1, 3, 4, 5, 6] rfl)
        exact loop68 ((256 - (0 : Int32).toInt : Int).toNat + 1) (0 : Int32) (-1 : Int32) ct11 _ _ ls (by omega) (by first | omega | decide) hI hP hD hS (lv_sub hl [0, 1, 2, 3, 4, 5] rfl)
      · skip
        have c2 : ¬ (8 ≤ v4_5.toInt) := fun q => c2 ((z_le (by decide : (8 : Int32).toInt = 8) rfl).mpr q)
        refine lv_aload_n hx hb dX8_fewestGossips_12 rfl (lv_at hl 2 rfl) ?_
        obtain ⟨bk56, dr55, h57, h58, h59, hs54⟩ := a8_0 hI
        refine va_get (D := g.1) (ci := 8) (v := .ref (ad 9)) (C := RX8) (T := TX8) (N := 13) hx hb hg inG8 hown hK hP 0 (zw_at (by omega) hs54) rfl 5 (by decide) (hg _ mm_365) (fun _ h9 => h9) rfl dX8_fewestGossips_13 ?_
        refine lv_iload hx hb dX8_fewestGossips_16 (lv_at hl 0 rfl) ?_
        obtain ⟨f61, hgf62, hs60⟩ := a8_9 hI
        refine va_aldq hx hb hK hP 9 6 (zw_at (by omega) hs60) rfl (z_in rfl (by omega) (by omega)) dX8_fewestGossips_18 ?_
        obtain ⟨j63, hj63, ej63⟩ := hgf62 _ (z_clt (x := v4_5) rfl (by omega) (by omega))
        rw [ej63]
        refine W.eq (g2 := F0 m 19 ls [.ref (ad (99 + 3 * j63))]) rfl ?_
        obtain ⟨tld65, ofb66, hol67, flt68, fla69, ofl70, len71, atx72, ref73, hz74, h75, h76, h77, h78, hz79, hs64⟩ := a8_44 (kc := (99 + 3 * j63)) (by omega) hI
        have bhz74 := z_b01 hz74
        have bhz79 := z_b01 hz79
        refine va_get (D := g.1) (ci := 4) (v := .int tld65) (C := RX4) (T := TX4) (N := 11) hx hb hg inG4 hown hK hP (99 + 3 * j63) (zw_at (by omega) hs64) rfl 0 (by decide) (hg _ mm_272) (fun _ h9 => h9) rfl dX8_fewestGossips_19 ?_
        refine lv_if_eq (tgt := 46) hx hb dX8_fewestGossips_22 (by decide) (fun c80 => ?_) (fun c80 => ?_)
        · skip
          have c80 : tld65.toInt = 0 := (z_eq rfl (by decide : (0 : Int32).toInt = 0)).mp c80
          obtain ⟨x81, ex81⟩ : ∃ y : Int32, y = v4_5 + 1 := ⟨_, rfl⟩
          have tx81 : x81.toInt = v4_5.toInt + 1 := by rw [ex81]; exact z_add rfl (by decide : (1 : Int32).toInt = 1) (by omega) (by omega)
          refine lv_iinc (v := x81) (lv' := [(4, .int x81), (3, .int v3_5), (0, .ref (ad 0)), (1, .int b), (2, .int i)]) hx hb dX8_fewestGossips_46 hl (k := 0) rfl (by rw [ex81]; rfl) (by decide) rfl (fun ls hl => ?_)
          refine lv_goto (tgt := 5) hx hb dX8_fewestGossips_49 (by decide) ?_
          exact ih5 x81 v3_5 ct1 _ _ ls (by omega) (by first | omega | decide) hI hP hD hS (lv_sub hl [0, 1, 2, 3, 4] rfl)
        · skip
          have c80 : ¬ (tld65.toInt = 0) := fun q => c80 ((z_eq rfl (by decide : (0 : Int32).toInt = 0)).mpr q)
          refine lv_aload_n hx hb dX8_fewestGossips_25 rfl (lv_at hl 2 rfl) ?_
          refine va_get (D := g.1) (ci := 8) (v := .ref (ad 9)) (C := RX8) (T := TX8) (N := 13) hx hb hg inG8 hown hK hP 0 (zw_at (by omega) hs54) rfl 5 (by decide) (hg _ mm_365) (fun _ h9 => h9) rfl dX8_fewestGossips_26 ?_
          refine lv_iload hx hb dX8_fewestGossips_29 (lv_at hl 0 rfl) ?_
          refine va_aldq hx hb hK hP 9 6 (zw_at (by omega) hs60) rfl (z_in rfl (by omega) (by omega)) dX8_fewestGossips_31 ?_
          obtain ⟨j82, hj82, ej82⟩ := hgf62 _ (z_clt (x := v4_5) rfl (by omega) (by omega))
          rw [ej82]
          refine W.eq (g2 := F0 m 32 ls [.ref (ad (99 + 3 * j82))]) rfl ?_
          obtain ⟨tld84, ofb85, hol86, flt87, fla88, ofl89, len90, atx91, ref92, hz93, h94, h95, h96, h97, hz98, hs83⟩ := a8_44 (kc := (99 + 3 * j82)) (by omega) hI
          have bhz93 := z_b01 hz93
          have bhz98 := z_b01 hz98
          refine va_get (D := g.1) (ci := 4) (v := .int ofb85) (C := RX4) (T := TX4) (N := 11) hx hb hg inG4 hown hK hP (99 + 3 * j82) (zw_at (by omega) hs83) rfl 1 (by decide) (hg _ mm_274) (fun _ h9 => h9) rfl dX8_fewestGossips_32 ?_
          refine lv_iload_n hx hb dX8_fewestGossips_35 rfl (lv_at hl 3 rfl) ?_
          refine lv_icmp_ne (tgt := 46) hx hb dX8_fewestGossips_36 (by decide) (fun c99 => ?_) (fun c99 => ?_)
          · skip
            have c99 : ¬ (ofb85.toInt = b.toInt) := fun q => c99 ((z_eq rfl rfl).mpr q)
            obtain ⟨x100, ex100⟩ : ∃ y : Int32, y = v4_5 + 1 := ⟨_, rfl⟩
            have tx100 : x100.toInt = v4_5.toInt + 1 := by rw [ex100]; exact z_add rfl (by decide : (1 : Int32).toInt = 1) (by omega) (by omega)
            refine lv_iinc (v := x100) (lv' := [(4, .int x100), (3, .int v3_5), (0, .ref (ad 0)), (1, .int b), (2, .int i)]) hx hb dX8_fewestGossips_46 hl (k := 0) rfl (by rw [ex100]; rfl) (by decide) rfl (fun ls hl => ?_)
            refine lv_goto (tgt := 5) hx hb dX8_fewestGossips_49 (by decide) ?_
            exact ih5 x100 v3_5 ct1 _ _ ls (by omega) (by first | omega | decide) hI hP hD hS (lv_sub hl [0, 1, 2, 3, 4] rfl)
          · skip
            have c99 : ofb85.toInt = b.toInt := (z_eq rfl rfl).mp c99
            refine lv_iload_n hx hb dX8_fewestGossips_39 rfl (lv_at hl 1 rfl) ?_
            refine lv_iconst (v := 1) hx hb dX8_fewestGossips_40 (by decide) ?_
            refine lv_iload hx hb dX8_fewestGossips_41 (lv_at hl 0 rfl) ?_
            refine lv_ishl hx hb dX8_fewestGossips_43 ?_
            refine lv_topi (fun x101 ex101 => ?_)
            have tx101 := z_shl1 (y := v4_5) rfl (by omega) (k := 7) (by decide) (by omega)
            rw [← ex101] at tx101
            refine lv_ior hx hb dX8_fewestGossips_44 ?_
            refine lv_topi (fun x102 ex102 => ?_)
            refine lv_istore_n (lv' := [(3, .int x102), (4, .int v4_5), (0, .ref (ad 0)), (1, .int b), (2, .int i)]) hx hb dX8_fewestGossips_45 rfl hl (by decide) rfl (fun ls hl => ?_)
            obtain ⟨x103, ex103⟩ : ∃ y : Int32, y = v4_5 + 1 := ⟨_, rfl⟩
            have tx103 : x103.toInt = v4_5.toInt + 1 := by rw [ex103]; exact z_add rfl (by decide : (1 : Int32).toInt = 1) (by omega) (by omega)
            refine lv_iinc (v := x103) (lv' := [(4, .int x103), (3, .int x102), (0, .ref (ad 0)), (1, .int b), (2, .int i)]) hx hb dX8_fewestGossips_46 hl (k := 1) rfl (by rw [ex103]; rfl) (by decide) rfl (fun ls hl => ?_)
            refine lv_goto (tgt := 5) hx hb dX8_fewestGossips_49 (by decide) ?_
            exact ih5 x103 x102 ct1 _ _ ls (by omega) (by first | omega | decide) hI hP hD hS (lv_sub hl [0, 1, 2, 3, 4] rfl)
  exact loop5 ((8 - (0 : Int32).toInt : Int).toNat + 1) (0 : Int32) (0 : Int32) ct _ _ ls (by omega) (by first | omega | decide) hI hP hD hS (lv_sub hl [0, 1, 2, 3, 4] rfl)

set_option maxHeartbeats 4000000 in
set_option maxRecDepth 100000 in
theorem k_X8_fillColumn (l : Launch) (g : zG) (sz : Nat) (ad : Nat → Nat) (pe : Int32) (ct : Nat → va_E) (kb : Nat) (c0 : Int32) (lv : Int32) (hf_kb : 55 ≤ kb ∧ kb < 99 ∧ (kb - 55) % 11 = 0) (hl_c0 : 0 ≤ c0.toInt ∧ c0.toInt ≤ 3) (hI : Inv8 g ad pe ct) : Met l yX8_fillColumn (zW yX8_fillColumn cX8_fillColumn 6 none) ({ frames := 2, cells := 0, slots := 0, locals := 46 }) (va_Pc [.ref (ad 0), .ref (ad kb), .int c0, .int lv] (zA g (zw 126 ad ct) sz)) (va_Qv (fun (_ : Unit) => True) (fun _ t => ∃ ct2 : Nat → va_E, zP g (zw 126 ad ct2) t.heap ∧ va_D (va_A (zw 126 ad ct) sz) (zw 126 ad ct2) ∧ Inv8 g ad pe ct2 ∧ (ct2 0 = ct 0)) (va_A (zw 126 ad ct) sz)) 0 0 (va_A (zw 126 ad ct) sz) := by
  refine Met.ofW (cc := cX8_fillColumn) (maxL := 6) (ret := none) (by decide) rfl ?_
  intro p e s m args below meth c s₁ B hml hv
  obtain ⟨rfl, hsz, hP, hK, hD0, hN⟩ := hv
  have hx := B.exec
  have hb := B.bytes
  have hr := B.returns
  have hg := zW.law (atoms_spec (ws := (zW yX8_fillColumn cX8_fillColumn 6 none)) B.pre)
  have hown : s.vm.findClass RX8 = some m.cls := findClass_of_methodNamed B.named
  have hlocks := B.notSynchronized
  have hpe0 := hI.1
  subst hsz
  have hD := hD0.self (sz := s.heap.size)
  generalize hAe : va_A (zw 126 ad ct) s.heap.size = A at hD ⊢
  have hA : ∀ q : Nat, s.heap.size ≤ q → A q := fun q h => by rw [← hAe]; exact Or.inr h
  have hS : va_S A s.heap s.heap [] := va_S.rf
  have hl := lv_entry ([.ref (ad 0), .ref (ad kb), .int c0, .int lv]) (n := 6) (Nat.le_of_ble_eq_true rfl)
  rw [lg_entry_eq]
  generalize (lg_sl ([.ref (ad 0), .ref (ad kb), .int c0, .int lv]) ++ List.replicate (6 - (lg_sl ([.ref (ad 0), .ref (ad kb), .int c0, .int lv])).length) Slot.unset).toArray = ls at hl ⊢
  have hl : lv_has ls 6 [(0, .ref (ad 0)), (1, .ref (ad kb)), (2, .int c0), (3, .int lv)] := hl
  have hk0 : ct 0 = ct 0 := rfl
  obtain ⟨bk3, dr2, h4, h5, h6, hs1⟩ := a8_0 hI
  have rg_lv := z_rng lv
  refine lv_iconst (v := 0) hx hb dX8_fillColumn_0 (by decide) ?_
  refine lv_istore (lv' := [(4, .int 0), (0, .ref (ad 0)), (1, .ref (ad kb)), (2, .int c0), (3, .int lv)]) hx hb dX8_fillColumn_1 hl (by decide) rfl (fun ls hl => ?_)
  have loop3 : ∀ (n3 : Nat) (v4_3 : Int32) (ct7 : Nat → va_E) (H : Heap) (locs : List Loc) (ls : Array Slot), ((8 - v4_3.toInt : Int).toNat < n3) → (0 ≤ v4_3.toInt ∧ v4_3.toInt ≤ 8) → (ct7 0 = ct 0) → (Inv8 g ad pe ct7) → zP g (zw 126 ad ct7) H → va_D A (zw 126 ad ct7) → va_S A s.heap H locs → lv_has ls 6 [(4, .int v4_3), (0, .ref (ad 0)), (1, .ref (ad kb)), (2, .int c0), (3, .int lv)] → W p l e (headSpec (zW yX8_fillColumn cX8_fillColumn 6 none) ({ frames := 2, cells := 0, slots := 0, locals := 46 })).room s m ([.ref (ad 0), .ref (ad kb), .int c0, .int lv] : List Value).toArray below meth c H locs 0 0 (MQ below (va_Qv (fun (_ : Unit) => True) (fun _ t => ∃ ct2 : Nat → va_E, zP g (zw 126 ad ct2) t.heap ∧ va_D A (zw 126 ad ct2) ∧ Inv8 g ad pe ct2 ∧ (ct2 0 = ct 0)) A) ([.ref (ad 0), .ref (ad kb), .int c0, .int lv] : List Value).toArray s 0 0 A) (F0 m 3 ls []) := by
    intro n3
    induction n3 with
    | zero =>
      intro v4_3 ct7 H locs ls hn3 b4_3 hk0 hI hP hD hS hl
      exact absurd hn3 (Nat.not_lt_zero _)
    | succ n3 ih3 =>
      intro v4_3 ct7 H locs ls hn3 b4_3 hk0 hI hP hD hS hl
      have hs8 : ct7 0 = .inr (8, [.ref (ad 1), .ref (ad 2), .ref (ad 3), .ref (ad 5), .ref (ad 6), .ref (ad 9), .ref (ad 10), .ref (ad 17), .ref (ad 21), .ref (ad 34), .ref (ad (99 + 3 * dr2)), .int pe, .int bk3]) := hk0.trans hs1
      refine lv_iload hx hb dX8_fillColumn_3 (lv_at hl 0 rfl) ?_
      refine lv_aload_n hx hb dX8_fillColumn_5 rfl (lv_at hl 2 rfl) ?_
      obtain ⟨lns10, liv11, shw12, h13, h14, h15, h16, hz17, hs9⟩ := a8_40 (kc := kb) (by omega) hI
      have bhz17 := z_b01 hz17
      refine va_get (D := g.1) (ci := 2) (v := .int lns10) (C := RX2) (T := TX2) (N := 5) hx hb hg inG2 hown hK hP kb (zw_at (by omega) hs9) rfl 0 (by decide) (hg _ mm_342) (fun _ h9 => h9) rfl dX8_fillColumn_6 ?_
      refine lv_icmp_ge (tgt := 54) hx hb dX8_fillColumn_9 (by decide) (fun c18 => ?_) (fun c18 => ?_)
      · skip
        have c18 : lns10.toInt ≤ v4_3.toInt := (z_le rfl rfl).mp c18
        exact W.vret hx hb hr (fun t ht hW => ⟨⟨(), rfl, trivial, ct7, by rw [ht]; exact hP, hD, hI, (by assumption)⟩, hS.F ht⟩) hS.2.2 dX8_fillColumn_54
      · skip
        have c18 : ¬ (lns10.toInt ≤ v4_3.toInt) := fun q => c18 ((z_le rfl rfl).mpr q)
        refine lv_aload_n hx hb dX8_fillColumn_12 rfl (lv_at hl 1 rfl) ?_
        refine va_get (D := g.1) (ci := 8) (v := .ref (ad 1)) (C := RX8) (T := TX8) (N := 13) hx hb hg inG8 hown hK hP 0 (zw_at (by omega) hs8) rfl 0 (by decide) (hg _ mm_360) (fun _ h9 => h9) rfl dX8_fillColumn_13 ?_
        refine lv_iload_n hx hb dX8_fillColumn_16 rfl (lv_at hl 3 rfl) ?_
        have hs19 := a8_1 hI
        refine va_aldq hx hb hK hP 1 4 (zw_at (by omega) hs19) rfl (z_in rfl (by omega) (by omega)) dX8_fillColumn_17 ?_
        rw [zF1_at (x := c0) (by omega) (by omega)]
        refine lv_aload_n hx hb dX8_fillColumn_18 rfl (lv_at hl 2 rfl) ?_
        refine lv_iload hx hb dX8_fillColumn_19 (lv_at hl 0 rfl) ?_
        refine zc_i (va_runV (As := [.int v4_3]) (rest := [.ref (ad (0 + 35 + 5 * c0.toInt.toNat))]) ⟨hx, hb, hml, hown, hg⟩ (k_X2_owner l g ad pe ct7 kb v4_3 (by omega) hI) (cwV 1 hg (z_gV mm_565 mm_566 mm_567 mm_116 mm_568) rfl rfl rfl (by decide +kernel) ⟨Nat.le_of_ble_eq_true rfl, Nat.le_of_ble_eq_true rfl⟩) ⟨(zR.pre [.ref (ad kb), .int v4_3] hP hK hN).1, va_recv hK hP (ci := 2) (q0 := kb) rfl (zw_at (by omega) hs9), (zR.pre [.ref (ad kb), .int v4_3] hP hK hN).2⟩ rfl rfl hl.1 rfl (lv_room (Nat.le_of_ble_eq_true rfl)) dX8_fillColumn_21 ⟨Nat.le_of_ble_eq_true rfl, Nat.le_of_ble_eq_true rfl⟩) (fun r20 hr20 => ?_)
        obtain ⟨we22, se23, h24, h25, hs21⟩ := a8_35 (kc := (0 + 35 + 5 * c0.toInt.toNat)) (by omega) hI
        refine zc_i (va_runV (As := [.int r20]) (rest := []) ⟨hx, hb, hml, hown, hg⟩ (k_X3_valueOf l g ad pe ct7 (0 + 35 + 5 * c0.toInt.toNat) r20 (by omega) hI) (cwV 1 hg (z_gV mm_447 mm_448 mm_449 mm_115 mm_450) rfl rfl rfl (by decide +kernel) ⟨Nat.le_of_ble_eq_true rfl, Nat.le_of_ble_eq_true rfl⟩) ⟨(zR.pre [.ref (ad (0 + 35 + 5 * c0.toInt.toNat)), .int r20] hP hK hN).1, va_recv hK hP (ci := 3) (q0 := (0 + 35 + 5 * c0.toInt.toNat)) rfl (zw_at (by omega) hs21), (zR.pre [.ref (ad (0 + 35 + 5 * c0.toInt.toNat)), .int r20] hP hK hN).2⟩ rfl rfl hl.1 rfl (lv_room (Nat.le_of_ble_eq_true rfl)) dX8_fillColumn_24 ⟨Nat.le_of_ble_eq_true rfl, Nat.le_of_ble_eq_true rfl⟩) (fun r26 hr26 => ?_)
        refine lv_istore (lv' := [(5, .int r26), (4, .int v4_3), (0, .ref (ad 0)), (1, .ref (ad kb)), (2, .int c0), (3, .int lv)]) hx hb dX8_fillColumn_27 hl (by decide) rfl (fun ls hl => ?_)
        refine lv_aload_n hx hb dX8_fillColumn_29 rfl (lv_at hl 3 rfl) ?_
        refine lv_iload hx hb dX8_fillColumn_30 (lv_at hl 1 rfl) ?_
        refine lv_iload_n hx hb dX8_fillColumn_32 rfl (lv_at hl 4 rfl) ?_
        refine lv_aload_n hx hb dX8_fillColumn_33 rfl (lv_at hl 2 rfl) ?_
        refine va_get (D := g.1) (ci := 8) (v := .ref (ad 1)) (C := RX8) (T := TX8) (N := 13) hx hb hg inG8 hown hK hP 0 (zw_at (by omega) hs8) rfl 0 (by decide) (hg _ mm_360) (fun _ h9 => h9) rfl dX8_fillColumn_34 ?_
        refine lv_iload_n hx hb dX8_fillColumn_37 rfl (lv_at hl 4 rfl) ?_
        refine va_aldq hx hb hK hP 1 4 (zw_at (by omega) hs19) rfl (z_in rfl (by omega) (by omega)) dX8_fillColumn_38 ?_
        rw [zF1_at (x := c0) (by omega) (by omega)]
        refine lv_iload hx hb dX8_fillColumn_39 (lv_at hl 0 rfl) ?_
        refine lv_iload_n hx hb dX8_fillColumn_41 rfl (lv_at hl 5 rfl) ?_
        refine zc_i (va_runV (As := [.int r26, .int lv]) (rest := [.int c0, .int v4_3, .ref (ad kb)]) ⟨hx, hb, hml, hown, hg⟩ (k_X3_raised l g ad pe ct7 (0 + 35 + 5 * c0.toInt.toNat) r26 lv (by omega) hI) (cwV 2 hg (z_gV mm_532 mm_533 mm_534 mm_115 mm_535) rfl rfl rfl (by decide +kernel) ⟨Nat.le_of_ble_eq_true rfl, Nat.le_of_ble_eq_true rfl⟩) ⟨(zR.pre [.ref (ad (0 + 35 + 5 * c0.toInt.toNat)), .int r26, .int lv] hP hK hN).1, va_recv hK hP (ci := 3) (q0 := (0 + 35 + 5 * c0.toInt.toNat)) rfl (zw_at (by omega) hs21), (zR.pre [.ref (ad (0 + 35 + 5 * c0.toInt.toNat)), .int r26, .int lv] hP hK hN).2⟩ rfl rfl hl.1 rfl (lv_room (Nat.le_of_ble_eq_true rfl)) dX8_fillColumn_42 ⟨Nat.le_of_ble_eq_true rfl, Nat.le_of_ble_eq_true rfl⟩) (fun r27 hr27 => ?_)
        have hr27_0 := hr27
        have hr27_0 : r27.toInt = zrs (zTr ad (1000 + 100 * (0 + 35 + 5 * c0.toInt.toNat))) lv.toInt.toNat r26.toInt := hr27_0
        have hFc := zw_free hD hS hA
        refine va_callv (va_runV (As := [.int v4_3, .int c0, .int r27]) (rest := []) ⟨hx, hb, hml, hown, hg⟩ (k_X2_put l g _ ad pe ct7 kb v4_3 c0 r27 (by omega) hI) (cwV 3 hg (z_gV mm_570 mm_571 mm_572 mm_116 mm_573) rfl rfl rfl (by decide +kernel) ⟨Nat.le_of_ble_eq_true rfl, Nat.le_of_ble_eq_true rfl⟩) ⟨(zA.pre [.ref (ad kb), .int v4_3, .int c0, .int r27] hP hK hD hN).1, va_recv hK hP (ci := 2) (q0 := kb) rfl (zw_at (by omega) hs9), (zA.pre [.ref (ad kb), .int v4_3, .int c0, .int r27] hP hK hD hN).2⟩ rfl rfl hl.1 rfl (lv_room (Nat.le_of_ble_eq_true rfl)) dX8_fillColumn_45 ⟨Nat.le_of_ble_eq_true rfl, Nat.le_of_ble_eq_true rfl⟩) hS (fun q _ h => hFc q h) hFc (fun _ t H1 locs ht hvm hr28 hB hz1 hk1 hS => ?_)
        obtain ⟨ct29, hP1, hD1, hI, hk30⟩ := hB
        rw [ht] at hP1
        have hD := hD1.weaken (fun _ _ _ h => hFc _ h)
        generalize H1 = H at hP1 hS ⊢
        have hP := hP1
        refine W.widen (k := 0) (n := 0) (Nat.le_refl _) (Nat.le_refl _) ?_
        have hs31 : ct29 0 = .inr (8, [.ref (ad 1), .ref (ad 2), .ref (ad 3), .ref (ad 5), .ref (ad 6), .ref (ad 9), .ref (ad 10), .ref (ad 17), .ref (ad 21), .ref (ad 34), .ref (ad (99 + 3 * dr2)), .int pe, .int bk3]) := hk30.trans hs8
        have hk0 : ct29 0 = ct 0 := hk30.trans hk0
        have hs32 : ct29 0 = .inr (8, [.ref (ad 1), .ref (ad 2), .ref (ad 3), .ref (ad 5), .ref (ad 6), .ref (ad 9), .ref (ad 10), .ref (ad 17), .ref (ad 21), .ref (ad 34), .ref (ad (99 + 3 * dr2)), .int pe, .int bk3]) := hk0.trans hs1
        obtain ⟨x33, ex33⟩ : ∃ y : Int32, y = v4_3 + 1 := ⟨_, rfl⟩
        have tx33 : x33.toInt = v4_3.toInt + 1 := by rw [ex33]; exact z_add rfl (by decide : (1 : Int32).toInt = 1) (by omega) (by omega)
        refine lv_iinc (v := x33) (lv' := [(4, .int x33), (5, .int r26), (0, .ref (ad 0)), (1, .ref (ad kb)), (2, .int c0), (3, .int lv)]) hx hb dX8_fillColumn_48 hl (k := 1) rfl (by rw [ex33]; rfl) (by decide) rfl (fun ls hl => ?_)
        refine lv_goto (tgt := 3) hx hb dX8_fillColumn_51 (by decide) ?_
        exact ih3 x33 ct29 _ _ ls (by omega) (by first | omega | decide) hk0 hI hP hD hS (lv_sub hl [0, 2, 3, 4, 5] rfl)
  exact loop3 ((8 - (0 : Int32).toInt : Int).toNat + 1) (0 : Int32) ct _ _ ls (by omega) (by first | omega | decide) hk0 hI hP hD hS (lv_sub hl [0, 1, 2, 3, 4] rfl)

set_option maxHeartbeats 4000000 in
set_option maxRecDepth 100000 in
theorem k_X8_tellsPeople (l : Launch) (g : zG) (ad : Nat → Nat) (pe : Int32) (ct : Nat → va_E) (n : Int32) (hI : Inv8 g ad pe ct) : Met l yX8_tellsPeople (zW yX8_tellsPeople cX8_tellsPeople 5 (some .boolean)) ({ frames := 2, cells := 0, slots := 0, locals := 43 }) (va_Pc [.ref (ad 0), .int n] (zR g (zw 126 ad ct))) (vp_Si (fun r : Int32 => (r = 1) ∨ (r = 0))) 0 0 (fun _ => False) := by
  refine Met.ofW (cc := cX8_tellsPeople) (maxL := 5) (ret := (some .boolean)) (by decide) rfl ?_
  intro p e s m args below meth c s₁ B hml hv
  obtain ⟨rfl, hP, hK, hN⟩ := hv
  have hx := B.exec
  have hb := B.bytes
  have hr := B.returns
  have hg := zW.law (atoms_spec (ws := (zW yX8_tellsPeople cX8_tellsPeople 5 (some .boolean))) B.pre)
  have hown : s.vm.findClass RX8 = some m.cls := findClass_of_methodNamed B.named
  have hlocks := B.notSynchronized
  have hpe0 := hI.1
  have hl := lv_entry ([.ref (ad 0), .int n]) (n := 5) (Nat.le_of_ble_eq_true rfl)
  rw [lg_entry_eq]
  generalize (lg_sl ([.ref (ad 0), .int n]) ++ List.replicate (5 - (lg_sl ([.ref (ad 0), .int n])).length) Slot.unset).toArray = ls at hl ⊢
  have hl : lv_has ls 5 [(0, .ref (ad 0)), (1, .int n)] := hl
  have rg_n := z_rng n
  refine lv_iconst (v := 0) hx hb dX8_tellsPeople_0 (by decide) ?_
  refine lv_istore_n (lv' := [(2, .int 0), (0, .ref (ad 0)), (1, .int n)]) hx hb dX8_tellsPeople_1 rfl hl (by decide) rfl (fun ls hl => ?_)
  refine lv_iconst (v := 0) hx hb dX8_tellsPeople_2 (by decide) ?_
  refine lv_istore_n (lv' := [(3, .int 0), (2, .int 0), (0, .ref (ad 0)), (1, .int n)]) hx hb dX8_tellsPeople_3 rfl hl (by decide) rfl (fun ls hl => ?_)
  have loop4 : ∀ (n4 : Nat) (v3_4 : Int32) (v2_4 : Int32) (ls : Array Slot), ((n.toInt - v3_4.toInt : Int).toNat < n4) → (0 ≤ v3_4.toInt ∧ v3_4.toInt ≤ 2147483647) → lv_has ls 5 [(3, .int v3_4), (2, .int v2_4), (0, .ref (ad 0)), (1, .int n)] → W p l e (headSpec (zW yX8_tellsPeople cX8_tellsPeople 5 (some .boolean)) ({ frames := 2, cells := 0, slots := 0, locals := 43 })).room s m ([.ref (ad 0), .int n] : List Value).toArray below meth c s.heap [] 0 0 (MQ below (vp_Si (fun r : Int32 => (r = 1) ∨ (r = 0))) ([.ref (ad 0), .int n] : List Value).toArray s 0 0 (fun _ => False)) (F0 m 4 ls []) := by
    intro n4
    induction n4 with
    | zero =>
      intro v3_4 v2_4 ls hn4 b3_4 hl
      exact absurd hn4 (Nat.not_lt_zero _)
    | succ n4 ih4 =>
      intro v3_4 v2_4 ls hn4 b3_4 hl
      refine lv_iload_n hx hb dX8_tellsPeople_4 rfl (lv_at hl 0 rfl) ?_
      refine lv_iload_n hx hb dX8_tellsPeople_5 rfl (lv_at hl 3 rfl) ?_
      refine lv_icmp_ge (tgt := 53) hx hb dX8_tellsPeople_6 (by decide) (fun c1 => ?_) (fun c1 => ?_)
      · skip
        have c1 : n.toInt ≤ v3_4.toInt := (z_le rfl rfl).mp c1
        refine lv_iconst (v := 1) hx hb dX8_tellsPeople_53 (by decide) ?_
        have q2 : (1 : Int32).toInt = 1 := by decide
        exact W.zret (v := 1) hx hb hr rfl (fun t ht hW => ⟨1, rfl, by first | exact Or.inl ⟨rfl, by omega⟩ | exact Or.inr ⟨rfl, by omega⟩ | exact Or.inl rfl | exact Or.inr rfl | exact Or.inl ⟨rfl, by omega, by omega⟩ | exact (z_01 (by omega) (by omega)).symm, ht⟩) (fun q hq => by cases hq) dX8_tellsPeople_54
      · skip
        have c1 : ¬ (n.toInt ≤ v3_4.toInt) := fun q => c1 ((z_le rfl rfl).mpr q)
        refine lv_aload_n hx hb dX8_tellsPeople_9 rfl (lv_at hl 2 rfl) ?_
        obtain ⟨bk5, dr4, h6, h7, h8, hs3⟩ := a8_0 hI
        refine va_get (D := g.1) (ci := 8) (v := .ref (ad 3)) (C := RX8) (T := TX8) (N := 13) hx hb hg inG8 hown hK hP 0 (zw_at (by omega) hs3) rfl 2 (by decide) (hg _ mm_362) (fun _ h9 => h9) rfl dX8_tellsPeople_10 ?_
        refine lv_iload_n hx hb dX8_tellsPeople_13 rfl (lv_at hl 0 rfl) ?_
        obtain ⟨len10, h11, h12, hs9⟩ := a8_3 hI
        refine zc_i (va_runV (As := [.int v3_4]) (rest := []) ⟨hx, hb, hml, hown, hg⟩ (k_X7_byteAt l g ad pe ct v3_4 hI) (cwV 1 hg (z_gV mm_552 mm_553 mm_554 mm_109 mm_555) rfl rfl rfl (by decide +kernel) ⟨Nat.le_of_ble_eq_true rfl, Nat.le_of_ble_eq_true rfl⟩) ⟨(zR.pre [.ref (ad 3), .int v3_4] hP hK hN).1, va_recv hK hP (ci := 7) (q0 := 3) rfl (zw_at (by omega) hs9), (zR.pre [.ref (ad 3), .int v3_4] hP hK hN).2⟩ rfl rfl hl.1 rfl (lv_room (Nat.le_of_ble_eq_true rfl)) dX8_tellsPeople_14 ⟨Nat.le_of_ble_eq_true rfl, Nat.le_of_ble_eq_true rfl⟩) (fun r13 hr13 => ?_)
        refine lv_istore (lv' := [(4, .int r13), (3, .int v3_4), (2, .int v2_4), (0, .ref (ad 0)), (1, .int n)]) hx hb dX8_tellsPeople_17 hl (by decide) rfl (fun ls hl => ?_)
        refine lv_aload_n hx hb dX8_tellsPeople_19 rfl (lv_at hl 3 rfl) ?_
        refine lv_iload hx hb dX8_tellsPeople_20 (lv_at hl 0 rfl) ?_
        refine zc_i (va_runV (As := [.int r13]) (rest := []) ⟨hx, hb, hml, hown, hg⟩ (k_X8_isPerson l g ad pe ct r13 hI) (cwV 1 hg (z_gV mm_451 mm_453 mm_3 mm_108 mm_454) rfl rfl rfl (by decide +kernel) ⟨Nat.le_of_ble_eq_true rfl, Nat.le_of_ble_eq_true rfl⟩) ⟨(zR.pre [.ref (ad 0), .int r13] hP hK hN).1, va_recv hK hP (ci := 8) (q0 := 0) rfl (zw_at (by omega) hs3), (zR.pre [.ref (ad 0), .int r13] hP hK hN).2⟩ rfl rfl hl.1 rfl (lv_room (Nat.le_of_ble_eq_true rfl)) dX8_tellsPeople_22 ⟨Nat.le_of_ble_eq_true rfl, Nat.le_of_ble_eq_true rfl⟩) (fun r14 hr14 => ?_)
        rcases hr14 with hr14 | hr14
        · skip
          obtain ⟨rfl, h15, h16⟩ := hr14
          have h15 : 0 ≤ r13.toInt := h15
          have h16 : r13.toInt < pe.toInt := h16
          refine lv_if_eq (tgt := 38) hx hb dX8_tellsPeople_25 (by decide) (fun c17 => ?_) (fun c17 => ?_)
          · skip
            exact absurd c17 (by decide)
          · skip
            refine lv_iload_n hx hb dX8_tellsPeople_28 rfl (lv_at hl 2 rfl) ?_
            refine lv_iload hx hb dX8_tellsPeople_29 (lv_at hl 0 rfl) ?_
            refine lv_ishr hx hb dX8_tellsPeople_31 ?_
            refine lv_topi (fun x18 ex18 => ?_)
            refine lv_iconst (v := 1) hx hb dX8_tellsPeople_32 (by decide) ?_
            refine lv_iand hx hb dX8_tellsPeople_33 ?_
            refine lv_topi (fun x19 ex19 => ?_)
            have tx19 := z_andr (x := x18) (y := 1) (by decide : (1 : Int32).toInt = 1) (by omega)
            rw [← ex19] at tx19
            refine lv_iconst (v := 1) hx hb dX8_tellsPeople_34 (by decide) ?_
            refine lv_icmp_ne (tgt := 40) hx hb dX8_tellsPeople_35 (by decide) (fun c20 => ?_) (fun c20 => ?_)
            · skip
              have c20 : ¬ (x19.toInt = 1) := fun q => c20 ((z_eq rfl (by decide : (1 : Int32).toInt = 1)).mpr q)
              refine lv_iload_n hx hb dX8_tellsPeople_40 rfl (lv_at hl 2 rfl) ?_
              refine lv_iconst (v := 1) hx hb dX8_tellsPeople_41 (by decide) ?_
              refine lv_iload hx hb dX8_tellsPeople_42 (lv_at hl 0 rfl) ?_
              refine lv_ishl hx hb dX8_tellsPeople_44 ?_
              refine lv_topi (fun x21 ex21 => ?_)
              have tx21 := z_shl1 (y := r13) rfl (by omega) (k := 15) (by decide) (by omega)
              rw [← ex21] at tx21
              refine lv_ior hx hb dX8_tellsPeople_45 ?_
              refine lv_topi (fun x22 ex22 => ?_)
              refine lv_istore_n (lv' := [(2, .int x22), (4, .int r13), (3, .int v3_4), (0, .ref (ad 0)), (1, .int n)]) hx hb dX8_tellsPeople_46 rfl hl (by decide) rfl (fun ls hl => ?_)
              obtain ⟨x23, ex23⟩ : ∃ y : Int32, y = v3_4 + 1 := ⟨_, rfl⟩
              have tx23 : x23.toInt = v3_4.toInt + 1 := by rw [ex23]; exact z_add rfl (by decide : (1 : Int32).toInt = 1) (by omega) (by omega)
              refine lv_iinc (v := x23) (lv' := [(3, .int x23), (2, .int x22), (4, .int r13), (0, .ref (ad 0)), (1, .int n)]) hx hb dX8_tellsPeople_47 hl (k := 2) rfl (by rw [ex23]; rfl) (by decide) rfl (fun ls hl => ?_)
              refine lv_goto (tgt := 4) hx hb dX8_tellsPeople_50 (by decide) ?_
              exact ih4 x23 x22 ls (by omega) (by first | omega | decide) (lv_sub hl [0, 1, 3, 4] rfl)
            · skip
              have c20 : x19.toInt = 1 := (z_eq rfl (by decide : (1 : Int32).toInt = 1)).mp c20
              refine lv_iconst (v := 0) hx hb dX8_tellsPeople_38 (by decide) ?_
              have q24 : (0 : Int32).toInt = 0 := by decide
              exact W.zret (v := 0) hx hb hr rfl (fun t ht hW => ⟨0, rfl, by first | exact Or.inl ⟨rfl, by omega⟩ | exact Or.inr ⟨rfl, by omega⟩ | exact Or.inl rfl | exact Or.inr rfl | exact Or.inl ⟨rfl, by omega, by omega⟩ | exact (z_01 (by omega) (by omega)).symm, ht⟩) (fun q hq => by cases hq) dX8_tellsPeople_39
        · skip
          obtain ⟨rfl, h25⟩ := hr14
          have h25 : ¬ (0 ≤ r13.toInt ∧ r13.toInt < pe.toInt) := h25
          refine lv_if_eq (tgt := 38) hx hb dX8_tellsPeople_25 (by decide) (fun c26 => ?_) (fun c26 => ?_)
          · skip
            refine lv_iconst (v := 0) hx hb dX8_tellsPeople_38 (by decide) ?_
            have q27 : (0 : Int32).toInt = 0 := by decide
            exact W.zret (v := 0) hx hb hr rfl (fun t ht hW => ⟨0, rfl, by first | exact Or.inl ⟨rfl, by omega⟩ | exact Or.inr ⟨rfl, by omega⟩ | exact Or.inl rfl | exact Or.inr rfl | exact Or.inl ⟨rfl, by omega, by omega⟩ | exact (z_01 (by omega) (by omega)).symm, ht⟩) (fun q hq => by cases hq) dX8_tellsPeople_39
          · skip
            exact absurd c26 (by decide)
  exact loop4 ((n.toInt - (0 : Int32).toInt : Int).toNat + 1) (0 : Int32) (0 : Int32) ls (by omega) (by first | omega | decide) (lv_sub hl [0, 1, 2, 3] rfl)

set_option maxHeartbeats 4000000 in
set_option maxRecDepth 100000 in
theorem k_X8_prepareBlursOf (l : Launch) (g : zG) (sz : Nat) (ad : Nat → Nat) (pe : Int32) (ct : Nat → va_E) (c0 : Int32) (i : Int32) (v : Int32) (hl_c0 : 0 ≤ c0.toInt ∧ c0.toInt ≤ 3) (hI : Inv8 g ad pe ct) : Met l yX8_prepareBlursOf (zW yX8_prepareBlursOf cX8_prepareBlursOf 7 none) ({ frames := 3, cells := 0, slots := 0, locals := 67 }) (va_Pc [.ref (ad 0), .int c0, .int i, .int v] (zA g (zw 126 ad ct) sz)) (va_Qv (fun (_ : Unit) => True) (fun _ t => ∃ ct2 : Nat → va_E, zP g (zw 126 ad ct2) t.heap ∧ va_D (va_A (zw 126 ad ct) sz) (zw 126 ad ct2) ∧ Inv8 g ad pe ct2) (va_A (zw 126 ad ct) sz)) 0 0 (va_A (zw 126 ad ct) sz) := by
  refine Met.ofW (cc := cX8_prepareBlursOf) (maxL := 7) (ret := none) (by decide) rfl ?_
  intro p e s m args below meth c s₁ B hml hv
  obtain ⟨rfl, hsz, hP, hK, hD0, hN⟩ := hv
  have hx := B.exec
  have hb := B.bytes
  have hr := B.returns
  have hg := zW.law (atoms_spec (ws := (zW yX8_prepareBlursOf cX8_prepareBlursOf 7 none)) B.pre)
  have hown : s.vm.findClass RX8 = some m.cls := findClass_of_methodNamed B.named
  have hlocks := B.notSynchronized
  have hpe0 := hI.1
  subst hsz
  have hD := hD0.self (sz := s.heap.size)
  generalize hAe : va_A (zw 126 ad ct) s.heap.size = A at hD ⊢
  have hA : ∀ q : Nat, s.heap.size ≤ q → A q := fun q h => by rw [← hAe]; exact Or.inr h
  have hS : va_S A s.heap s.heap [] := va_S.rf
  have hl := lv_entry ([.ref (ad 0), .int c0, .int i, .int v]) (n := 7) (Nat.le_of_ble_eq_true rfl)
  rw [lg_entry_eq]
  generalize (lg_sl ([.ref (ad 0), .int c0, .int i, .int v]) ++ List.replicate (7 - (lg_sl ([.ref (ad 0), .int c0, .int i, .int v])).length) Slot.unset).toArray = ls at hl ⊢
  have hl : lv_has ls 7 [(0, .ref (ad 0)), (1, .int c0), (2, .int i), (3, .int v)] := hl
  have rg_i := z_rng i
  have rg_v := z_rng v
  refine lv_iconst (v := (-1)) hx hb dX8_prepareBlursOf_0 (by decide) ?_
  refine lv_istore (lv' := [(4, .int (-1)), (0, .ref (ad 0)), (1, .int c0), (2, .int i), (3, .int v)]) hx hb dX8_prepareBlursOf_1 hl (by decide) rfl (fun ls hl => ?_)
  refine lv_iconst (v := 0) hx hb dX8_prepareBlursOf_3 (by decide) ?_
  refine lv_istore (lv' := [(5, .int 0), (4, .int (-1)), (0, .ref (ad 0)), (1, .int c0), (2, .int i), (3, .int v)]) hx hb dX8_prepareBlursOf_4 hl (by decide) rfl (fun ls hl => ?_)
  have loop6 : ∀ (n6 : Nat) (v5_6 : Int32) (v4_6 : Int32) (ct1 : Nat → va_E) (H : Heap) (locs : List Loc) (ls : Array Slot), ((5 - v5_6.toInt : Int).toNat < n6) → (0 ≤ v5_6.toInt ∧ v5_6.toInt ≤ 5) → (Inv8 g ad pe ct1) → zP g (zw 126 ad ct1) H → va_D A (zw 126 ad ct1) → va_S A s.heap H locs → lv_has ls 7 [(5, .int v5_6), (4, .int v4_6), (0, .ref (ad 0)), (1, .int c0), (2, .int i), (3, .int v)] → W p l e (headSpec (zW yX8_prepareBlursOf cX8_prepareBlursOf 7 none) ({ frames := 3, cells := 0, slots := 0, locals := 67 })).room s m ([.ref (ad 0), .int c0, .int i, .int v] : List Value).toArray below meth c H locs 0 0 (MQ below (va_Qv (fun (_ : Unit) => True) (fun _ t => ∃ ct2 : Nat → va_E, zP g (zw 126 ad ct2) t.heap ∧ va_D A (zw 126 ad ct2) ∧ Inv8 g ad pe ct2) A) ([.ref (ad 0), .int c0, .int i, .int v] : List Value).toArray s 0 0 A) (F0 m 6 ls []) := by
    intro n6
    induction n6 with
    | zero =>
      intro v5_6 v4_6 ct1 H locs ls hn6 b5_6 hI hP hD hS hl
      exact absurd hn6 (Nat.not_lt_zero _)
    | succ n6 ih6 =>
      intro v5_6 v4_6 ct1 H locs ls hn6 b5_6 hI hP hD hS hl
      refine lv_iload hx hb dX8_prepareBlursOf_6 (lv_at hl 0 rfl) ?_
      refine lv_iconst (v := 5) hx hb dX8_prepareBlursOf_8 (by decide) ?_
      refine lv_icmp_ge (tgt := 86) hx hb dX8_prepareBlursOf_9 (by decide) (fun c2 => ?_) (fun c2 => ?_)
      · skip
        have c2 : 5 ≤ v5_6.toInt := (z_le (by decide : (5 : Int32).toInt = 5) rfl).mp c2
        exact W.vret hx hb hr (fun t ht hW => ⟨⟨(), rfl, trivial, ct1, by rw [ht]; exact hP, hD, hI⟩, hS.F ht⟩) hS.2.2 dX8_prepareBlursOf_86
      · skip
        have c2 : ¬ (5 ≤ v5_6.toInt) := fun q => c2 ((z_le (by decide : (5 : Int32).toInt = 5) rfl).mpr q)
        refine lv_aload_n hx hb dX8_prepareBlursOf_12 rfl (lv_at hl 2 rfl) ?_
        obtain ⟨bk5, dr4, h6, h7, h8, hs3⟩ := a8_0 hI
        refine va_get (D := g.1) (ci := 8) (v := .ref (ad 1)) (C := RX8) (T := TX8) (N := 13) hx hb hg inG8 hown hK hP 0 (zw_at (by omega) hs3) rfl 0 (by decide) (hg _ mm_360) (fun _ h9 => h9) rfl dX8_prepareBlursOf_13 ?_
        refine lv_iload_n hx hb dX8_prepareBlursOf_16 rfl (lv_at hl 3 rfl) ?_
        have hs9 := a8_1 hI
        refine va_aldq hx hb hK hP 1 4 (zw_at (by omega) hs9) rfl (z_in rfl (by omega) (by omega)) dX8_prepareBlursOf_17 ?_
        rw [zF1_at (x := c0) (by omega) (by omega)]
        refine lv_iload_n hx hb dX8_prepareBlursOf_18 rfl (lv_at hl 5 rfl) ?_
        refine lv_iload hx hb dX8_prepareBlursOf_19 (lv_at hl 0 rfl) ?_
        obtain ⟨we11, se12, h13, h14, hs10⟩ := a8_35 (kc := (0 + 35 + 5 * c0.toInt.toNat)) (by omega) hI
        refine zc_i (va_runV (As := [.int v, .int v5_6]) (rest := []) ⟨hx, hb, hml, hown, hg⟩ (k_X3_raised l g ad pe ct1 (0 + 35 + 5 * c0.toInt.toNat) v v5_6 (by omega) hI) (cwV 2 hg (z_gV mm_532 mm_533 mm_534 mm_115 mm_535) rfl rfl rfl (by decide +kernel) ⟨Nat.le_of_ble_eq_true rfl, Nat.le_of_ble_eq_true rfl⟩) ⟨(zR.pre [.ref (ad (0 + 35 + 5 * c0.toInt.toNat)), .int v, .int v5_6] hP hK hN).1, va_recv hK hP (ci := 3) (q0 := (0 + 35 + 5 * c0.toInt.toNat)) rfl (zw_at (by omega) hs10), (zR.pre [.ref (ad (0 + 35 + 5 * c0.toInt.toNat)), .int v, .int v5_6] hP hK hN).2⟩ rfl rfl hl.1 rfl (lv_room (Nat.le_of_ble_eq_true rfl)) dX8_prepareBlursOf_21 ⟨Nat.le_of_ble_eq_true rfl, Nat.le_of_ble_eq_true rfl⟩) (fun r15 hr15 => ?_)
        have hr15_0 := hr15
        have hr15_0 : r15.toInt = zrs (zTr ad (1000 + 100 * (0 + 35 + 5 * c0.toInt.toNat))) v5_6.toInt.toNat v.toInt := hr15_0
        refine lv_istore (lv' := [(6, .int r15), (5, .int v5_6), (4, .int v4_6), (0, .ref (ad 0)), (1, .int c0), (2, .int i), (3, .int v)]) hx hb dX8_prepareBlursOf_24 hl (by decide) rfl (fun ls hl => ?_)
        refine lv_aload_n hx hb dX8_prepareBlursOf_26 rfl (lv_at hl 3 rfl) ?_
        refine va_get (D := g.1) (ci := 8) (v := .ref (ad 21)) (C := RX8) (T := TX8) (N := 13) hx hb hg inG8 hown hK hP 0 (zw_at (by omega) hs3) rfl 8 (by decide) (hg _ mm_368) (fun _ h9 => h9) rfl dX8_prepareBlursOf_27 ?_
        refine lv_iload_n hx hb dX8_prepareBlursOf_30 rfl (lv_at hl 4 rfl) ?_
        refine lv_iload hx hb dX8_prepareBlursOf_31 (lv_at hl 1 rfl) ?_
        refine lv_iload_n hx hb dX8_prepareBlursOf_33 rfl (lv_at hl 5 rfl) ?_
        refine lv_aload_n hx hb dX8_prepareBlursOf_34 rfl (lv_at hl 3 rfl) ?_
        refine va_get (D := g.1) (ci := 8) (v := .ref (ad 1)) (C := RX8) (T := TX8) (N := 13) hx hb hg inG8 hown hK hP 0 (zw_at (by omega) hs3) rfl 0 (by decide) (hg _ mm_360) (fun _ h9 => h9) rfl dX8_prepareBlursOf_35 ?_
        refine lv_iload_n hx hb dX8_prepareBlursOf_38 rfl (lv_at hl 4 rfl) ?_
        refine va_aldq hx hb hK hP 1 4 (zw_at (by omega) hs9) rfl (z_in rfl (by omega) (by omega)) dX8_prepareBlursOf_39 ?_
        rw [zF1_at (x := c0) (by omega) (by omega)]
        refine lv_iload hx hb dX8_prepareBlursOf_40 (lv_at hl 0 rfl) ?_
        refine zc_i (va_runV (As := [.int r15]) (rest := [.int i, .int v5_6, .int c0, .ref (ad 21)]) ⟨hx, hb, hml, hown, hg⟩ (k_X3_whoBelow l g ad pe ct1 (0 + 35 + 5 * c0.toInt.toNat) r15 (by omega) hI) (cwV 1 hg (z_gV mm_687 mm_688 mm_689 mm_115 mm_690) rfl rfl rfl (by decide +kernel) ⟨Nat.le_of_ble_eq_true rfl, Nat.le_of_ble_eq_true rfl⟩) ⟨(zR.pre [.ref (ad (0 + 35 + 5 * c0.toInt.toNat)), .int r15] hP hK hN).1, va_recv hK hP (ci := 3) (q0 := (0 + 35 + 5 * c0.toInt.toNat)) rfl (zw_at (by omega) hs10), (zR.pre [.ref (ad (0 + 35 + 5 * c0.toInt.toNat)), .int r15] hP hK hN).2⟩ rfl rfl hl.1 rfl (lv_room (Nat.le_of_ble_eq_true rfl)) dX8_prepareBlursOf_42 ⟨Nat.le_of_ble_eq_true rfl, Nat.le_of_ble_eq_true rfl⟩) (fun r16 hr16 => ?_)
        refine lv_aload_n hx hb dX8_prepareBlursOf_45 rfl (lv_at hl 3 rfl) ?_
        refine va_get (D := g.1) (ci := 8) (v := .ref (ad 1)) (C := RX8) (T := TX8) (N := 13) hx hb hg inG8 hown hK hP 0 (zw_at (by omega) hs3) rfl 0 (by decide) (hg _ mm_360) (fun _ h9 => h9) rfl dX8_prepareBlursOf_46 ?_
        refine lv_iload_n hx hb dX8_prepareBlursOf_49 rfl (lv_at hl 4 rfl) ?_
        refine va_aldq hx hb hK hP 1 4 (zw_at (by omega) hs9) rfl (z_in rfl (by omega) (by omega)) dX8_prepareBlursOf_50 ?_
        rw [zF1_at (x := c0) (by omega) (by omega)]
        refine lv_iload hx hb dX8_prepareBlursOf_51 (lv_at hl 0 rfl) ?_
        refine zc_i (va_runV (As := [.int r15]) (rest := [.int r16, .int i, .int v5_6, .int c0, .ref (ad 21)]) ⟨hx, hb, hml, hown, hg⟩ (k_X3_lossOf l g ad pe ct1 (0 + 35 + 5 * c0.toInt.toNat) r15 (by omega) hI) (cwV 1 hg (z_gV mm_865 mm_866 mm_867 mm_115 mm_868) rfl rfl rfl (by decide +kernel) ⟨Nat.le_of_ble_eq_true rfl, Nat.le_of_ble_eq_true rfl⟩) ⟨(zR.pre [.ref (ad (0 + 35 + 5 * c0.toInt.toNat)), .int r15] hP hK hN).1, va_recv hK hP (ci := 3) (q0 := (0 + 35 + 5 * c0.toInt.toNat)) rfl (zw_at (by omega) hs10), (zR.pre [.ref (ad (0 + 35 + 5 * c0.toInt.toNat)), .int r15] hP hK hN).2⟩ rfl rfl hl.1 rfl (lv_room (Nat.le_of_ble_eq_true rfl)) dX8_prepareBlursOf_53 ⟨Nat.le_of_ble_eq_true rfl, Nat.le_of_ble_eq_true rfl⟩) (fun r17 hr17 => ?_)
        obtain ⟨lst19, lrw20, lct21, h22, h23, hs18⟩ := a8_21 hI
        have hFc := zw_free hD hS hA
        refine va_callv (va_runV (As := [.int c0, .int v5_6, .int i, .int r16, .int r17]) (rest := []) ⟨hx, hb, hml, hown, hg⟩ (k_X1_put l g _ ad pe ct1 c0 v5_6 i r16 r17 hI) (cwV 5 hg (z_gV mm_871 mm_872 mm_873 mm_113 mm_874) rfl rfl rfl (by decide +kernel) ⟨Nat.le_of_ble_eq_true rfl, Nat.le_of_ble_eq_true rfl⟩) ⟨(zA.pre [.ref (ad 21), .int c0, .int v5_6, .int i, .int r16, .int r17] hP hK hD hN).1, va_recv hK hP (ci := 1) (q0 := 21) rfl (zw_at (by omega) hs18), (zA.pre [.ref (ad 21), .int c0, .int v5_6, .int i, .int r16, .int r17] hP hK hD hN).2⟩ rfl rfl hl.1 rfl (lv_room (Nat.le_of_ble_eq_true rfl)) dX8_prepareBlursOf_56 ⟨Nat.le_of_ble_eq_true rfl, Nat.le_of_ble_eq_true rfl⟩) hS (fun q _ h => hFc q h) hFc (fun _ t H1 locs ht hvm hr24 hB hz1 hk1 hS => ?_)
        obtain ⟨ct25, hP1, hD1, hI⟩ := hB
        rw [ht] at hP1
        have hD := hD1.weaken (fun _ _ _ h => hFc _ h)
        generalize H1 = H at hP1 hS ⊢
        have hP := hP1
        refine W.widen (k := 0) (n := 0) (Nat.le_refl _) (Nat.le_refl _) ?_
        refine lv_iload hx hb dX8_prepareBlursOf_59 (lv_at hl 0 rfl) ?_
        refine lv_iload hx hb dX8_prepareBlursOf_61 (lv_at hl 2 rfl) ?_
        refine lv_icmp_eq (tgt := 76) hx hb dX8_prepareBlursOf_63 (by decide) (fun c26 => ?_) (fun c26 => ?_)
        · skip
          have c26 : r15.toInt = v4_6.toInt := (z_eq rfl rfl).mp c26
          refine lv_iload hx hb dX8_prepareBlursOf_76 (lv_at hl 0 rfl) ?_
          refine lv_istore (lv' := [(4, .int r15), (6, .int r15), (5, .int v5_6), (0, .ref (ad 0)), (1, .int c0), (2, .int i), (3, .int v)]) hx hb dX8_prepareBlursOf_78 hl (by decide) rfl (fun ls hl => ?_)
          obtain ⟨x27, ex27⟩ : ∃ y : Int32, y = v5_6 + 1 := ⟨_, rfl⟩
          have tx27 : x27.toInt = v5_6.toInt + 1 := by rw [ex27]; exact z_add rfl (by decide : (1 : Int32).toInt = 1) (by omega) (by omega)
          refine lv_iinc (v := x27) (lv' := [(5, .int x27), (4, .int r15), (6, .int r15), (0, .ref (ad 0)), (1, .int c0), (2, .int i), (3, .int v)]) hx hb dX8_prepareBlursOf_80 hl (k := 2) rfl (by rw [ex27]; rfl) (by decide) rfl (fun ls hl => ?_)
          refine lv_goto (tgt := 6) hx hb dX8_prepareBlursOf_83 (by decide) ?_
          exact ih6 x27 r15 ct25 _ _ ls (by omega) (by first | omega | decide) hI hP hD hS (lv_sub hl [0, 1, 3, 4, 5, 6] rfl)
        · skip
          have c26 : ¬ (r15.toInt = v4_6.toInt) := fun q => c26 ((z_eq rfl rfl).mpr q)
          refine lv_aload_n hx hb dX8_prepareBlursOf_66 rfl (lv_at hl 3 rfl) ?_
          obtain ⟨bk30, dr29, h31, h32, h33, hs28⟩ := a8_0 hI
          refine va_get (D := g.1) (ci := 8) (v := .ref (ad 21)) (C := RX8) (T := TX8) (N := 13) hx hb hg inG8 hown hK hP 0 (zw_at (by omega) hs28) rfl 8 (by decide) (hg _ mm_368) (fun _ h9 => h9) rfl dX8_prepareBlursOf_67 ?_
          refine lv_iload_n hx hb dX8_prepareBlursOf_70 rfl (lv_at hl 4 rfl) ?_
          refine lv_iload hx hb dX8_prepareBlursOf_71 (lv_at hl 1 rfl) ?_
          obtain ⟨lst35, lrw36, lct37, h38, h39, hs34⟩ := a8_21 hI
          have hFc := zw_free hD hS hA
          refine va_callv (va_runV (As := [.int c0, .int v5_6]) (rest := []) ⟨hx, hb, hml, hown, hg⟩ (k_X1_raiseTop l g _ ad pe ct25 c0 v5_6 hI) (cwV 2 hg (z_gV mm_878 mm_879 mm_880 mm_113 mm_881) rfl rfl rfl (by decide +kernel) ⟨Nat.le_of_ble_eq_true rfl, Nat.le_of_ble_eq_true rfl⟩) ⟨(zA.pre [.ref (ad 21), .int c0, .int v5_6] hP hK hD hN).1, va_recv hK hP (ci := 1) (q0 := 21) rfl (zw_at (by omega) hs34), (zA.pre [.ref (ad 21), .int c0, .int v5_6] hP hK hD hN).2⟩ rfl rfl hl.1 rfl (lv_room (Nat.le_of_ble_eq_true rfl)) dX8_prepareBlursOf_73 ⟨Nat.le_of_ble_eq_true rfl, Nat.le_of_ble_eq_true rfl⟩) hS (fun q _ h => hFc q h) hFc (fun _ t H1 locs ht hvm hr40 hB hz1 hk1 hS => ?_)
          obtain ⟨ct41, hP1, hD1, hI⟩ := hB
          rw [ht] at hP1
          have hD := hD1.weaken (fun _ _ _ h => hFc _ h)
          generalize H1 = H at hP1 hS ⊢
          have hP := hP1
          refine W.widen (k := 0) (n := 0) (Nat.le_refl _) (Nat.le_refl _) ?_
          refine lv_iload hx hb dX8_prepareBlursOf_76 (lv_at hl 0 rfl) ?_
          refine lv_istore (lv' := [(4, .int r15), (6, .int r15), (5, .int v5_6), (0, .ref (ad 0)), (1, .int c0), (2, .int i), (3, .int v)]) hx hb dX8_prepareBlursOf_78 hl (by decide) rfl (fun ls hl => ?_)
          obtain ⟨x42, ex42⟩ : ∃ y : Int32, y = v5_6 + 1 := ⟨_, rfl⟩
          have tx42 : x42.toInt = v5_6.toInt + 1 := by rw [ex42]; exact z_add rfl (by decide : (1 : Int32).toInt = 1) (by omega) (by omega)
          refine lv_iinc (v := x42) (lv' := [(5, .int x42), (4, .int r15), (6, .int r15), (0, .ref (ad 0)), (1, .int c0), (2, .int i), (3, .int v)]) hx hb dX8_prepareBlursOf_80 hl (k := 2) rfl (by rw [ex42]; rfl) (by decide) rfl (fun ls hl => ?_)
          refine lv_goto (tgt := 6) hx hb dX8_prepareBlursOf_83 (by decide) ?_
          exact ih6 x42 r15 ct41 _ _ ls (by omega) (by first | omega | decide) hI hP hD hS (lv_sub hl [0, 1, 3, 4, 5, 6] rfl)
  exact loop6 ((5 - (0 : Int32).toInt : Int).toNat + 1) (0 : Int32) (-1 : Int32) ct _ _ ls (by omega) (by first | omega | decide) hI hP hD hS (lv_sub hl [0, 1, 2, 3, 4, 5] rfl)

set_option maxHeartbeats 4000000 in
set_option maxRecDepth 100000 in
theorem k_X8_prepareBlurs (l : Launch) (g : zG) (sz : Nat) (ad : Nat → Nat) (pe : Int32) (ct : Nat → va_E) (n : Int32) (hI : Inv8 g ad pe ct) : Met l yX8_prepareBlurs (zW yX8_prepareBlurs cX8_prepareBlurs 4 none) ({ frames := 4, cells := 0, slots := 0, locals := 93 }) (va_Pc [.ref (ad 0), .int n] (zA g (zw 126 ad ct) sz)) (va_Qv (fun (_ : Unit) => True) (fun _ t => ∃ ct2 : Nat → va_E, zP g (zw 126 ad ct2) t.heap ∧ va_D (va_A (zw 126 ad ct) sz) (zw 126 ad ct2) ∧ Inv8 g ad pe ct2) (va_A (zw 126 ad ct) sz)) 0 0 (va_A (zw 126 ad ct) sz) := by
  refine Met.ofW (cc := cX8_prepareBlurs) (maxL := 4) (ret := none) (by decide) rfl ?_
  intro p e s m args below meth c s₁ B hml hv
  obtain ⟨rfl, hsz, hP, hK, hD0, hN⟩ := hv
  have hx := B.exec
  have hb := B.bytes
  have hr := B.returns
  have hg := zW.law (atoms_spec (ws := (zW yX8_prepareBlurs cX8_prepareBlurs 4 none)) B.pre)
  have hown : s.vm.findClass RX8 = some m.cls := findClass_of_methodNamed B.named
  have hlocks := B.notSynchronized
  have hpe0 := hI.1
  subst hsz
  have hD := hD0.self (sz := s.heap.size)
  generalize hAe : va_A (zw 126 ad ct) s.heap.size = A at hD ⊢
  have hA : ∀ q : Nat, s.heap.size ≤ q → A q := fun q h => by rw [← hAe]; exact Or.inr h
  have hS : va_S A s.heap s.heap [] := va_S.rf
  have hl := lv_entry ([.ref (ad 0), .int n]) (n := 4) (Nat.le_of_ble_eq_true rfl)
  rw [lg_entry_eq]
  generalize (lg_sl ([.ref (ad 0), .int n]) ++ List.replicate (4 - (lg_sl ([.ref (ad 0), .int n])).length) Slot.unset).toArray = ls at hl ⊢
  have hl : lv_has ls 4 [(0, .ref (ad 0)), (1, .int n)] := hl
  have rg_n := z_rng n
  refine lv_aload_n hx hb dX8_prepareBlurs_0 rfl (lv_at hl 0 rfl) ?_
  obtain ⟨bk3, dr2, h4, h5, h6, hs1⟩ := a8_0 hI
  refine va_get (D := g.1) (ci := 8) (v := .ref (ad 21)) (C := RX8) (T := TX8) (N := 13) hx hb hg inG8 hown hK hP 0 (zw_at (by omega) hs1) rfl 8 (by decide) (hg _ mm_368) (fun _ h9 => h9) rfl dX8_prepareBlurs_1 ?_
  obtain ⟨lst8, lrw9, lct10, h11, h12, hs7⟩ := a8_21 hI
  have hFc := zw_free hD hS hA
  refine va_callv (va_runV (As := []) (rest := []) ⟨hx, hb, hml, hown, hg⟩ (k_X1_clear l g _ ad pe ct  hI) (cwV 0 hg (z_gV mm_857 mm_858 mm_859 mm_113 mm_860) rfl rfl rfl (by decide +kernel) ⟨Nat.le_of_ble_eq_true rfl, Nat.le_of_ble_eq_true rfl⟩) ⟨(zA.pre [.ref (ad 21)] hP hK hD hN).1, va_recv hK hP (ci := 1) (q0 := 21) rfl (zw_at (by omega) hs7), (zA.pre [.ref (ad 21)] hP hK hD hN).2⟩ rfl rfl hl.1 rfl (lv_room (Nat.le_of_ble_eq_true rfl)) dX8_prepareBlurs_4 ⟨Nat.le_of_ble_eq_true rfl, Nat.le_of_ble_eq_true rfl⟩) hS (fun q _ h => hFc q h) hFc (fun _ t H1 locs ht hvm hr13 hB hz1 hk1 hS => ?_)
  obtain ⟨ct14, hP1, hD1, hI⟩ := hB
  rw [ht] at hP1
  have hD := hD1.weaken (fun _ _ _ h => hFc _ h)
  generalize H1 = H at hP1 hS ⊢
  have hP := hP1
  refine W.widen (k := 0) (n := 0) (Nat.le_refl _) (Nat.le_refl _) ?_
  refine lv_iconst (v := 0) hx hb dX8_prepareBlurs_7 (by decide) ?_
  refine lv_istore_n (lv' := [(2, .int 0), (0, .ref (ad 0)), (1, .int n)]) hx hb dX8_prepareBlurs_8 rfl hl (by decide) rfl (fun ls hl => ?_)
  have loop9 : ∀ (n9 : Nat) (v2_9 : Int32) (ct15 : Nat → va_E) (H : Heap) (locs : List Loc) (ls : Array Slot), ((4 - v2_9.toInt : Int).toNat < n9) → (0 ≤ v2_9.toInt ∧ v2_9.toInt ≤ 4) → (Inv8 g ad pe ct15) → zP g (zw 126 ad ct15) H → va_D A (zw 126 ad ct15) → va_S A s.heap H locs → lv_has ls 4 [(2, .int v2_9), (0, .ref (ad 0)), (1, .int n)] → W p l e (headSpec (zW yX8_prepareBlurs cX8_prepareBlurs 4 none) ({ frames := 4, cells := 0, slots := 0, locals := 93 })).room s m ([.ref (ad 0), .int n] : List Value).toArray below meth c H locs 0 0 (MQ below (va_Qv (fun (_ : Unit) => True) (fun _ t => ∃ ct2 : Nat → va_E, zP g (zw 126 ad ct2) t.heap ∧ va_D A (zw 126 ad ct2) ∧ Inv8 g ad pe ct2) A) ([.ref (ad 0), .int n] : List Value).toArray s 0 0 A) (F0 m 9 ls []) := by
    intro n9
    induction n9 with
    | zero =>
      intro v2_9 ct15 H locs ls hn9 b2_9 hI hP hD hS hl
      exact absurd hn9 (Nat.not_lt_zero _)
    | succ n9 ih9 =>
      intro v2_9 ct15 H locs ls hn9 b2_9 hI hP hD hS hl
      refine lv_iload_n hx hb dX8_prepareBlurs_9 rfl (lv_at hl 0 rfl) ?_
      refine lv_iconst (v := 4) hx hb dX8_prepareBlurs_10 (by decide) ?_
      refine lv_icmp_ge (tgt := 56) hx hb dX8_prepareBlurs_11 (by decide) (fun c16 => ?_) (fun c16 => ?_)
      · skip
        have c16 : 4 ≤ v2_9.toInt := (z_le (by decide : (4 : Int32).toInt = 4) rfl).mp c16
        exact W.vret hx hb hr (fun t ht hW => ⟨⟨(), rfl, trivial, ct15, by rw [ht]; exact hP, hD, hI⟩, hS.F ht⟩) hS.2.2 dX8_prepareBlurs_56
      · skip
        have c16 : ¬ (4 ≤ v2_9.toInt) := fun q => c16 ((z_le (by decide : (4 : Int32).toInt = 4) rfl).mpr q)
        refine lv_iconst (v := 0) hx hb dX8_prepareBlurs_14 (by decide) ?_
        refine lv_istore_n (lv' := [(3, .int 0), (2, .int v2_9), (0, .ref (ad 0)), (1, .int n)]) hx hb dX8_prepareBlurs_15 rfl hl (by decide) rfl (fun ls hl => ?_)
        have loop16 : ∀ (n16 : Nat) (v3_16 : Int32) (ct17 : Nat → va_E) (H : Heap) (locs : List Loc) (ls : Array Slot), ((n.toInt - v3_16.toInt : Int).toNat < n16) → (0 ≤ v3_16.toInt ∧ v3_16.toInt ≤ 2147483647) → (Inv8 g ad pe ct17) → zP g (zw 126 ad ct17) H → va_D A (zw 126 ad ct17) → va_S A s.heap H locs → lv_has ls 4 [(3, .int v3_16), (2, .int v2_9), (0, .ref (ad 0)), (1, .int n)] → W p l e (headSpec (zW yX8_prepareBlurs cX8_prepareBlurs 4 none) ({ frames := 4, cells := 0, slots := 0, locals := 93 })).room s m ([.ref (ad 0), .int n] : List Value).toArray below meth c H locs 0 0 (MQ below (va_Qv (fun (_ : Unit) => True) (fun _ t => ∃ ct2 : Nat → va_E, zP g (zw 126 ad ct2) t.heap ∧ va_D A (zw 126 ad ct2) ∧ Inv8 g ad pe ct2) A) ([.ref (ad 0), .int n] : List Value).toArray s 0 0 A) (F0 m 16 ls []) := by
          intro n16
          induction n16 with
          | zero =>
            intro v3_16 ct17 H locs ls hn16 b3_16 hI hP hD hS hl
            exact absurd hn16 (Nat.not_lt_zero _)
          | succ n16 ih16 =>
            intro v3_16 ct17 H locs ls hn16 b3_16 hI hP hD hS hl
            refine lv_iload_n hx hb dX8_prepareBlurs_16 rfl (lv_at hl 0 rfl) ?_
            refine lv_iload_n hx hb dX8_prepareBlurs_17 rfl (lv_at hl 3 rfl) ?_
            refine lv_icmp_ge (tgt := 50) hx hb dX8_prepareBlurs_18 (by decide) (fun c18 => ?_) (fun c18 => ?_)
            · skip
              have c18 : n.toInt ≤ v3_16.toInt := (z_le rfl rfl).mp c18
              obtain ⟨x19, ex19⟩ : ∃ y : Int32, y = v2_9 + 1 := ⟨_, rfl⟩
              have tx19 : x19.toInt = v2_9.toInt + 1 := by rw [ex19]; exact z_add rfl (by decide : (1 : Int32).toInt = 1) (by omega) (by omega)
              refine lv_iinc (v := x19) (lv' := [(2, .int x19), (3, .int v3_16), (0, .ref (ad 0)), (1, .int n)]) hx hb dX8_prepareBlurs_50 hl (k := 1) rfl (by rw [ex19]; rfl) (by decide) rfl (fun ls hl => ?_)
              refine lv_goto (tgt := 9) hx hb dX8_prepareBlurs_53 (by decide) ?_
              exact ih9 x19 ct17 _ _ ls (by omega) (by first | omega | decide) hI hP hD hS (lv_sub hl [0, 2, 3] rfl)
            · skip
              have c18 : ¬ (n.toInt ≤ v3_16.toInt) := fun q => c18 ((z_le rfl rfl).mpr q)
              refine lv_aload_n hx hb dX8_prepareBlurs_21 rfl (lv_at hl 2 rfl) ?_
              refine lv_iload_n hx hb dX8_prepareBlurs_22 rfl (lv_at hl 1 rfl) ?_
              refine lv_iload_n hx hb dX8_prepareBlurs_23 rfl (lv_at hl 0 rfl) ?_
              refine lv_aload_n hx hb dX8_prepareBlurs_24 rfl (lv_at hl 2 rfl) ?_
              obtain ⟨bk22, dr21, h23, h24, h25, hs20⟩ := a8_0 hI
              refine va_get (D := g.1) (ci := 8) (v := .ref (ad 1)) (C := RX8) (T := TX8) (N := 13) hx hb hg inG8 hown hK hP 0 (zw_at (by omega) hs20) rfl 0 (by decide) (hg _ mm_360) (fun _ h9 => h9) rfl dX8_prepareBlurs_25 ?_
              refine lv_iload_n hx hb dX8_prepareBlurs_28 rfl (lv_at hl 1 rfl) ?_
              have hs26 := a8_1 hI
              refine va_aldq hx hb hK hP 1 4 (zw_at (by omega) hs26) rfl (z_in rfl (by omega) (by omega)) dX8_prepareBlurs_29 ?_
              rw [zF1_at (x := v2_9) (by omega) (by omega)]
              refine lv_aload_n hx hb dX8_prepareBlurs_30 rfl (lv_at hl 2 rfl) ?_
              refine va_get (D := g.1) (ci := 8) (v := .ref (ad 3)) (C := RX8) (T := TX8) (N := 13) hx hb hg inG8 hown hK hP 0 (zw_at (by omega) hs20) rfl 2 (by decide) (hg _ mm_362) (fun _ h9 => h9) rfl dX8_prepareBlurs_31 ?_
              refine lv_iload_n hx hb dX8_prepareBlurs_34 rfl (lv_at hl 0 rfl) ?_
              obtain ⟨len28, h29, h30, hs27⟩ := a8_3 hI
              refine zc_i (va_runV (As := [.int v3_16]) (rest := [.ref (ad (0 + 35 + 5 * v2_9.toInt.toNat)), .int v3_16, .int v2_9, .ref (ad 0)]) ⟨hx, hb, hml, hown, hg⟩ (k_X7_byteAt l g ad pe ct17 v3_16 hI) (cwV 1 hg (z_gV mm_552 mm_553 mm_554 mm_109 mm_555) rfl rfl rfl (by decide +kernel) ⟨Nat.le_of_ble_eq_true rfl, Nat.le_of_ble_eq_true rfl⟩) ⟨(zR.pre [.ref (ad 3), .int v3_16] hP hK hN).1, va_recv hK hP (ci := 7) (q0 := 3) rfl (zw_at (by omega) hs27), (zR.pre [.ref (ad 3), .int v3_16] hP hK hN).2⟩ rfl rfl hl.1 rfl (lv_room (Nat.le_of_ble_eq_true rfl)) dX8_prepareBlurs_35 ⟨Nat.le_of_ble_eq_true rfl, Nat.le_of_ble_eq_true rfl⟩) (fun r31 hr31 => ?_)
              obtain ⟨we33, se34, h35, h36, hs32⟩ := a8_35 (kc := (0 + 35 + 5 * v2_9.toInt.toNat)) (by omega) hI
              refine zc_i (va_runV (As := [.int r31]) (rest := [.int v3_16, .int v2_9, .ref (ad 0)]) ⟨hx, hb, hml, hown, hg⟩ (k_X3_valueOf l g ad pe ct17 (0 + 35 + 5 * v2_9.toInt.toNat) r31 (by omega) hI) (cwV 1 hg (z_gV mm_447 mm_448 mm_449 mm_115 mm_450) rfl rfl rfl (by decide +kernel) ⟨Nat.le_of_ble_eq_true rfl, Nat.le_of_ble_eq_true rfl⟩) ⟨(zR.pre [.ref (ad (0 + 35 + 5 * v2_9.toInt.toNat)), .int r31] hP hK hN).1, va_recv hK hP (ci := 3) (q0 := (0 + 35 + 5 * v2_9.toInt.toNat)) rfl (zw_at (by omega) hs32), (zR.pre [.ref (ad (0 + 35 + 5 * v2_9.toInt.toNat)), .int r31] hP hK hN).2⟩ rfl rfl hl.1 rfl (lv_room (Nat.le_of_ble_eq_true rfl)) dX8_prepareBlurs_38 ⟨Nat.le_of_ble_eq_true rfl, Nat.le_of_ble_eq_true rfl⟩) (fun r37 hr37 => ?_)
              have hFc := zw_free hD hS hA
              refine va_callv (va_runV (As := [.int v2_9, .int v3_16, .int r37]) (rest := []) ⟨hx, hb, hml, hown, hg⟩ (k_X8_prepareBlursOf l g _ ad pe ct17 v2_9 v3_16 r37 (by first | omega | decide) hI) (cwV 3 hg (z_gV mm_861 mm_863 mm_43 mm_108 mm_864) rfl rfl rfl (by decide +kernel) ⟨Nat.le_of_ble_eq_true rfl, Nat.le_of_ble_eq_true rfl⟩) ⟨(zA.pre [.ref (ad 0), .int v2_9, .int v3_16, .int r37] hP hK hD hN).1, va_recv hK hP (ci := 8) (q0 := 0) rfl (zw_at (by omega) hs20), (zA.pre [.ref (ad 0), .int v2_9, .int v3_16, .int r37] hP hK hD hN).2⟩ rfl rfl hl.1 rfl (lv_room (Nat.le_of_ble_eq_true rfl)) dX8_prepareBlurs_41 ⟨Nat.le_of_ble_eq_true rfl, Nat.le_of_ble_eq_true rfl⟩) hS (fun q _ h => hFc q h) hFc (fun _ t H1 locs ht hvm hr38 hB hz1 hk1 hS => ?_)
              obtain ⟨ct39, hP1, hD1, hI⟩ := hB
              rw [ht] at hP1
              have hD := hD1.weaken (fun _ _ _ h => hFc _ h)
              generalize H1 = H at hP1 hS ⊢
              have hP := hP1
              refine W.widen (k := 0) (n := 0) (Nat.le_refl _) (Nat.le_refl _) ?_
              obtain ⟨x40, ex40⟩ : ∃ y : Int32, y = v3_16 + 1 := ⟨_, rfl⟩
              have tx40 : x40.toInt = v3_16.toInt + 1 := by rw [ex40]; exact z_add rfl (by decide : (1 : Int32).toInt = 1) (by omega) (by omega)
              refine lv_iinc (v := x40) (lv' := [(3, .int x40), (2, .int v2_9), (0, .ref (ad 0)), (1, .int n)]) hx hb dX8_prepareBlurs_44 hl (k := 0) rfl (by rw [ex40]; rfl) (by decide) rfl (fun ls hl => ?_)
              refine lv_goto (tgt := 16) hx hb dX8_prepareBlurs_47 (by decide) ?_
              exact ih16 x40 ct39 _ _ ls (by omega) (by first | omega | decide) hI hP hD hS (lv_sub hl [0, 1, 2, 3] rfl)
        exact loop16 ((n.toInt - (0 : Int32).toInt : Int).toNat + 1) (0 : Int32) ct15 _ _ ls (by omega) (by first | omega | decide) hI hP hD hS (lv_sub hl [0, 1, 2, 3] rfl)
  exact loop9 ((4 - (0 : Int32).toInt : Int).toNat + 1) (0 : Int32) ct14 _ _ ls (by omega) (by first | omega | decide) hI hP hD hS (lv_sub hl [0, 1, 2] rfl)
