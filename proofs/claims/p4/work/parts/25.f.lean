set_option maxHeartbeats 4000000 in
set_option maxRecDepth 100000 in
theorem k_X6_weighSet (l : Launch) (g : zG) (sz : Nat) (ad : Nat → Nat) (pe : Int32) (ct : Nat → va_E) (st0 : Int32) (hl_st0 : 0 ≤ st0.toInt ∧ st0.toInt ≤ 255) (hI : Inv8 g ad pe ct) : Met l yX6_weighSet (zW yX6_weighSet cX6_weighSet 4 none) ({ frames := 1, cells := 0, slots := 0, locals := 20 }) (va_Pc [.ref (ad 10), .int st0] (zA g (zw 126 ad ct) sz)) (va_Qv (fun (_ : Unit) => True) (fun _ t => ∃ ct2 : Nat → va_E, zP g (zw 126 ad ct2) t.heap ∧ va_D (va_A (zw 126 ad ct) sz) (zw 126 ad ct2) ∧ Inv8 g ad pe ct2) (va_A (zw 126 ad ct) sz)) 0 0 (va_A (zw 126 ad ct) sz) := by
  refine Met.ofW (cc := cX6_weighSet) (maxL := 4) (ret := none) (by decide) rfl ?_
  intro p e s m args below meth c s₁ B hml hv
  obtain ⟨rfl, hsz, hP, hK, hD0, hN⟩ := hv
  have hx := B.exec
  have hb := B.bytes
  have hr := B.returns
  have hg := zW.law (atoms_spec (ws := (zW yX6_weighSet cX6_weighSet 4 none)) B.pre)
  have hown : s.vm.findClass RX6 = some m.cls := findClass_of_methodNamed B.named
  have hlocks := B.notSynchronized
  have hpe0 := hI.1
  subst hsz
  have hD := hD0.self (sz := s.heap.size)
  generalize hAe : va_A (zw 126 ad ct) s.heap.size = A at hD ⊢
  have hA : ∀ q : Nat, s.heap.size ≤ q → A q := fun q h => by rw [← hAe]; exact Or.inr h
  have hS : va_S A s.heap s.heap [] := va_S.rf
  have hl := lv_entry ([.ref (ad 10), .int st0]) (n := 4) (Nat.le_of_ble_eq_true rfl)
  rw [lg_entry_eq]
  generalize (lg_sl ([.ref (ad 10), .int st0]) ++ List.replicate (4 - (lg_sl ([.ref (ad 10), .int st0])).length) Slot.unset).toArray = ls at hl ⊢
  have hl : lv_has ls 4 [(0, .ref (ad 10)), (1, .int st0)] := hl
  refine lv_iload_n hx hb dX6_weighSet_0 rfl (lv_at hl 1 rfl) ?_
  refine lv_aload_n hx hb dX6_weighSet_1 rfl (lv_at hl 0 rfl) ?_
  obtain ⟨lns2, liv3, lak4, fnd5, h6, h7, h8, h9, hs1⟩ := a8_10 hI
  refine va_get (D := g.1) (ci := 6) (v := .int liv3) (C := RX6) (T := TX6) (N := 10) hx hb hg inG6 hown hK hP 10 (zw_at (by omega) hs1) rfl 1 (by decide) (hg _ mm_174) (fun _ h9 => h9) rfl dX6_weighSet_2 ?_
  refine lv_iconst (v := (-1)) hx hb dX6_weighSet_5 (by decide) ?_
  refine lv_ixor hx hb dX6_weighSet_6 ?_
  refine lv_topi (fun x10 ex10 => ?_)
  refine lv_iand hx hb dX6_weighSet_7 ?_
  refine lv_topi (fun x11 ex11 => ?_)
  have tx11 := z_andl (x := st0) (y := x10) rfl (by omega)
  rw [← ex11] at tx11
  refine lv_if_eq (tgt := 12) hx hb dX6_weighSet_8 (by decide) (fun c12 => ?_) (fun c12 => ?_)
  · skip
    have c12 : x11.toInt = 0 := (z_eq rfl (by decide : (0 : Int32).toInt = 0)).mp c12
    refine lv_aload_n hx hb dX6_weighSet_12 rfl (lv_at hl 0 rfl) ?_
    refine va_get (D := g.1) (ci := 6) (v := .ref (ad 14)) (C := RX6) (T := TX6) (N := 10) hx hb hg inG6 hown hK hP 10 (zw_at (by omega) hs1) rfl 7 (by decide) (hg _ mm_186) (fun _ h9 => h9) rfl dX6_weighSet_13 ?_
    refine lv_iload_n hx hb dX6_weighSet_16 rfl (lv_at hl 1 rfl) ?_
    obtain ⟨f14, hs13⟩ := a8_14 hI
    refine va_iald hx hb hK hP 14 0 (zw_at (by omega) hs13) rfl (z_in rfl (by omega) (by omega)) dX6_weighSet_17 ?_
    refine lv_topi (fun y15 ey15 => ?_)
    refine zc_i (va_runS (As := [.int y15]) (rest := []) ⟨hx, hb, hml, hown, hg⟩ (k_J6_bitCount_0f7a4 l g ad pe ct y15 hI) (va_cwS 1 hg (z_gS mm_728 mm_729 mm_119 mm_730) rfl rfl rfl (by decide +kernel) ⟨Nat.le_of_ble_eq_true rfl, Nat.le_of_ble_eq_true rfl⟩) (zR.pre [.int y15] hP hK hN) rfl rfl hl.1 rfl (lv_room (Nat.le_of_ble_eq_true rfl)) dX6_weighSet_18 ⟨Nat.le_of_ble_eq_true rfl, Nat.le_of_ble_eq_true rfl⟩) (fun r16 hr16 => ?_)
    obtain ⟨hr16_0, hr16_1⟩ := hr16
    have hr16_0 : 0 ≤ r16.toInt := hr16_0
    have hr16_1 : r16.toInt ≤ 63 := hr16_1
    refine lv_iload_n hx hb dX6_weighSet_21 rfl (lv_at hl 1 rfl) ?_
    refine zc_i (va_runS (As := [.int st0]) (rest := [.int r16]) ⟨hx, hb, hml, hown, hg⟩ (k_J6_bitCount_0f7a4 l g ad pe ct st0 hI) (va_cwS 1 hg (z_gS mm_728 mm_729 mm_119 mm_730) rfl rfl rfl (by decide +kernel) ⟨Nat.le_of_ble_eq_true rfl, Nat.le_of_ble_eq_true rfl⟩) (zR.pre [.int st0] hP hK hN) rfl rfl hl.1 rfl (lv_room (Nat.le_of_ble_eq_true rfl)) dX6_weighSet_22 ⟨Nat.le_of_ble_eq_true rfl, Nat.le_of_ble_eq_true rfl⟩) (fun r17 hr17 => ?_)
    obtain ⟨hr17_0, hr17_1⟩ := hr17
    have hr17_0 : 0 ≤ r17.toInt := hr17_0
    have hr17_1 : r17.toInt ≤ 63 := hr17_1
    refine lv_isub hx hb dX6_weighSet_25 ?_
    refine lv_topi (fun x18 ex18 => ?_)
    have tx18 : x18.toInt = r16.toInt - r17.toInt := by rw [ex18]; exact z_sub rfl rfl (by omega) (by omega)
    refine lv_istore_n (lv' := [(2, .int x18), (0, .ref (ad 10)), (1, .int st0)]) hx hb dX6_weighSet_26 rfl hl (by decide) rfl (fun ls hl => ?_)
    refine lv_iload_n hx hb dX6_weighSet_27 rfl (lv_at hl 0 rfl) ?_
    refine lv_if_ge (tgt := 57) hx hb dX6_weighSet_28 (by decide) (fun c19 => ?_) (fun c19 => ?_)
    · skip
      have c19 : 0 ≤ x18.toInt := (z_le (by decide : (0 : Int32).toInt = 0) rfl).mp c19
      refine lv_iconst (v := 0) hx hb dX6_weighSet_57 (by decide) ?_
      refine lv_istore_n (lv' := [(3, .int 0), (2, .int x18), (0, .ref (ad 10)), (1, .int st0)]) hx hb dX6_weighSet_58 rfl hl (by decide) rfl (fun ls hl => ?_)
      have loop59 : ∀ (n59 : Nat) (v3_59 : Int32) (ct20 : Nat → va_E) (H : Heap) (locs : List Loc) (ls : Array Slot), ((8 - v3_59.toInt : Int).toNat < n59) → (0 ≤ v3_59.toInt ∧ v3_59.toInt ≤ 8) → (Inv8 g ad pe ct20) → zP g (zw 126 ad ct20) H → va_D A (zw 126 ad ct20) → va_S A s.heap H locs → lv_has ls 4 [(3, .int v3_59), (2, .int x18), (0, .ref (ad 10)), (1, .int st0)] → W p l e (headSpec (zW yX6_weighSet cX6_weighSet 4 none) ({ frames := 1, cells := 0, slots := 0, locals := 20 })).room s m ([.ref (ad 10), .int st0] : List Value).toArray below meth c H locs 0 0 (MQ below (va_Qv (fun (_ : Unit) => True) (fun _ t => ∃ ct2 : Nat → va_E, zP g (zw 126 ad ct2) t.heap ∧ va_D A (zw 126 ad ct2) ∧ Inv8 g ad pe ct2) A) ([.ref (ad 10), .int st0] : List Value).toArray s 0 0 A) (F0 m 59 ls []) := by
        intro n59
        induction n59 with
        | zero =>
          intro v3_59 ct20 H locs ls hn59 b3_59 hI hP hD hS hl
          exact absurd hn59 (Nat.not_lt_zero _)
        | succ n59 ih59 =>
          intro v3_59 ct20 H locs ls hn59 b3_59 hI hP hD hS hl
          refine lv_iload_n hx hb dX6_weighSet_59 rfl (lv_at hl 0 rfl) ?_
          refine lv_aload_n hx hb dX6_weighSet_60 rfl (lv_at hl 2 rfl) ?_
          obtain ⟨lns22, liv23, lak24, fnd25, h26, h27, h28, h29, hs21⟩ := a8_10 hI
          refine va_get (D := g.1) (ci := 6) (v := .int lns22) (C := RX6) (T := TX6) (N := 10) hx hb hg inG6 hown hK hP 10 (zw_at (by omega) hs21) rfl 0 (by decide) (hg _ mm_172) (fun _ h9 => h9) rfl dX6_weighSet_61 ?_
          refine lv_icmp_ge (tgt := 102) hx hb dX6_weighSet_64 (by decide) (fun c30 => ?_) (fun c30 => ?_)
          · skip
            have c30 : lns22.toInt ≤ v3_59.toInt := (z_le rfl rfl).mp c30
            exact W.vret hx hb hr (fun t ht hW => ⟨⟨(), rfl, trivial, ct20, by rw [ht]; exact hP, hD, hI⟩, hS.F ht⟩) hS.2.2 dX6_weighSet_102
          · skip
            have c30 : ¬ (lns22.toInt ≤ v3_59.toInt) := fun q => c30 ((z_le rfl rfl).mpr q)
            refine lv_iload_n hx hb dX6_weighSet_67 rfl (lv_at hl 1 rfl) ?_
            refine lv_if_ne (tgt := 102) hx hb dX6_weighSet_68 (by decide) (fun c31 => ?_) (fun c31 => ?_)
            · skip
              have c31 : ¬ (x18.toInt = 0) := fun q => c31 ((z_eq rfl (by decide : (0 : Int32).toInt = 0)).mpr q)
              exact W.vret hx hb hr (fun t ht hW => ⟨⟨(), rfl, trivial, ct20, by rw [ht]; exact hP, hD, hI⟩, hS.F ht⟩) hS.2.2 dX6_weighSet_102
            · skip
              have c31 : x18.toInt = 0 := (z_eq rfl (by decide : (0 : Int32).toInt = 0)).mp c31
              refine lv_iload_n hx hb dX6_weighSet_71 rfl (lv_at hl 3 rfl) ?_
              refine lv_iload_n hx hb dX6_weighSet_72 rfl (lv_at hl 0 rfl) ?_
              refine lv_ishr hx hb dX6_weighSet_73 ?_
              refine lv_topi (fun x32 ex32 => ?_)
              have tx32 := z_shr (x := st0) rfl (by omega) v3_59
              rw [← ex32] at tx32
              refine lv_iconst (v := 1) hx hb dX6_weighSet_74 (by decide) ?_
              refine lv_iand hx hb dX6_weighSet_75 ?_
              refine lv_topi (fun x33 ex33 => ?_)
              have tx33 := z_andr (x := x32) (y := 1) (by decide : (1 : Int32).toInt = 1) (by omega)
              rw [← ex33] at tx33
              refine lv_if_ne (tgt := 96) hx hb dX6_weighSet_76 (by decide) (fun c34 => ?_) (fun c34 => ?_)
              · skip
                have c34 : ¬ (x33.toInt = 0) := fun q => c34 ((z_eq rfl (by decide : (0 : Int32).toInt = 0)).mpr q)
                obtain ⟨x35, ex35⟩ : ∃ y : Int32, y = v3_59 + 1 := ⟨_, rfl⟩
                have tx35 : x35.toInt = v3_59.toInt + 1 := by rw [ex35]; exact z_add rfl (by decide : (1 : Int32).toInt = 1) (by omega) (by omega)
                refine lv_iinc (v := x35) (lv' := [(3, .int x35), (2, .int x18), (0, .ref (ad 10)), (1, .int st0)]) hx hb dX6_weighSet_96 hl (k := 0) rfl (by rw [ex35]; rfl) (by decide) rfl (fun ls hl => ?_)
                refine lv_goto (tgt := 59) hx hb dX6_weighSet_99 (by decide) ?_
                exact ih59 x35 ct20 _ _ ls (by omega) (by first | omega | decide) hI hP hD hS (lv_sub hl [0, 1, 2, 3] rfl)
              · skip
                have c34 : x33.toInt = 0 := (z_eq rfl (by decide : (0 : Int32).toInt = 0)).mp c34
                refine lv_aload_n hx hb dX6_weighSet_79 rfl (lv_at hl 2 rfl) ?_
                refine va_get (D := g.1) (ci := 6) (v := .ref (ad 13)) (C := RX6) (T := TX6) (N := 10) hx hb hg inG6 hown hK hP 10 (zw_at (by omega) hs21) rfl 6 (by decide) (hg _ mm_184) (fun _ h9 => h9) rfl dX6_weighSet_80 ?_
                refine lv_iload_n hx hb dX6_weighSet_83 rfl (lv_at hl 0 rfl) ?_
                refine lv_dup2_11 hx hb dX6_weighSet_84 rfl rfl ?_
                obtain ⟨f37, hp38, hs36⟩ := a8_13 hI
                refine va_iald hx hb hK hP 13 0 (zw_at (by omega) hs36) rfl (z_in rfl (by omega) (by omega)) dX6_weighSet_85 ?_
                refine lv_topi (fun y39 ey39 => ?_)
                have hy39 := hp38 _ (z_clt (x := v3_59) rfl (by omega) (by omega))
                rw [← ey39] at hy39
                have hy39 : 0 ≤ y39.toInt ∧ y39.toInt ≤ 65535 := hy39
                refine lv_aload_n hx hb dX6_weighSet_86 rfl (lv_at hl 2 rfl) ?_
                refine va_get (D := g.1) (ci := 6) (v := .ref (ad 14)) (C := RX6) (T := TX6) (N := 10) hx hb hg inG6 hown hK hP 10 (zw_at (by omega) hs21) rfl 7 (by decide) (hg _ mm_186) (fun _ h9 => h9) rfl dX6_weighSet_87 ?_
                refine lv_iload_n hx hb dX6_weighSet_90 rfl (lv_at hl 3 rfl) ?_
                obtain ⟨f41, hs40⟩ := a8_14 hI
                refine va_iald hx hb hK hP 14 0 (zw_at (by omega) hs40) rfl (z_in rfl (by omega) (by omega)) dX6_weighSet_91 ?_
                refine lv_topi (fun y42 ey42 => ?_)
                refine lv_iconst (v := (-1)) hx hb dX6_weighSet_92 (by decide) ?_
                refine lv_ixor hx hb dX6_weighSet_93 ?_
                refine lv_topi (fun x43 ex43 => ?_)
                refine lv_iand hx hb dX6_weighSet_94 ?_
                refine lv_topi (fun x44 ex44 => ?_)
                have tx44 := z_andl (x := y39) (y := x43) rfl (by omega)
                rw [← ex44] at tx44
                refine va_iast hx hb hK hP hD hS 13 0 (zw_at (by omega) hs36) rfl (z_in rfl (by omega) (by omega)) dX6_weighSet_95 (fun H locs hP hD hS => ?_)
                have hp46 : ∀ j : Nat, j < 8 → (fun x : Int32 => 0 ≤ x.toInt ∧ x.toInt ≤ 65535) ((upd f37 (Int32.toNatClampNeg v3_59) x44) j) := fun j hj => by
                  unfold upd
                  by_cases q : j = Int32.toNatClampNeg v3_59
                  · rw [if_pos q]; exact (show 0 ≤ (x44 : Int32).toInt ∧ (x44 : Int32).toInt ≤ 65535 from (by first | omega | decide))
                  · rw [if_neg q]; exact hp38 j hj
                have hP : zP g ((zw 126 ad ct20).set 13 (ad 13, .inl (g.2 0, 8, .inl (upd f37 (Int32.toNatClampNeg v3_59) x44)))) H := hP
                have hD : va_D A ((zw 126 ad ct20).set 13 (ad 13, .inl (g.2 0, 8, .inl (upd f37 (Int32.toNatClampNeg v3_59) x44)))) := hD
                rw [zw_set (by omega)] at hP hD
                obtain ⟨ct47, ec48⟩ : ∃ z : Nat → va_E, z = va_up ct20 13 (.inl (g.2 0, 8, .inl (upd f37 (Int32.toNatClampNeg v3_59) x44))) := ⟨_, rfl⟩
                rw [← ec48] at hP hD
                have hI : Inv8 g ad pe ct47 := by rw [ec48]; exact up8 hI (i8_13 ⟨_, hp46, rfl⟩)
                have hs49 : ct47 10 = .inr (6, [.int lns22, .int liv23, .int lak24, .int fnd25, .ref (ad 11), .ref (ad 12), .ref (ad 13), .ref (ad 14), .ref (ad 15), .ref (ad 16)]) := by rw [ec48, va_up_ne _ _ (by omega)]; exact hs21
                have hs50 : ct47 14 = .inl (g.2 0, 256, .inl f41) := by rw [ec48, va_up_ne _ _ (by omega)]; exact hs40
                have hs51 : ct47 13 = .inl (g.2 0, 8, .inl (upd f37 (Int32.toNatClampNeg v3_59) x44)) := by rw [ec48]; exact va_up_self _ _ _
                obtain ⟨x52, ex52⟩ : ∃ y : Int32, y = v3_59 + 1 := ⟨_, rfl⟩
                have tx52 : x52.toInt = v3_59.toInt + 1 := by rw [ex52]; exact z_add rfl (by decide : (1 : Int32).toInt = 1) (by omega) (by omega)
                refine lv_iinc (v := x52) (lv' := [(3, .int x52), (2, .int x18), (0, .ref (ad 10)), (1, .int st0)]) hx hb dX6_weighSet_96 hl (k := 0) rfl (by rw [ex52]; rfl) (by decide) rfl (fun ls hl => ?_)
                refine lv_goto (tgt := 59) hx hb dX6_weighSet_99 (by decide) ?_
                exact ih59 x52 ct47 _ _ ls (by omega) (by first | omega | decide) hI hP hD hS (lv_sub hl [0, 1, 2, 3] rfl)
      exact loop59 ((8 - (0 : Int32).toInt : Int).toNat + 1) (0 : Int32) ct _ _ ls (by omega) (by first | omega | decide) hI hP hD hS (lv_sub hl [0, 1, 2, 3] rfl)
    · skip
      have c19 : ¬ (0 ≤ x18.toInt) := fun q => c19 ((z_le (by decide : (0 : Int32).toInt = 0) rfl).mpr q)
      refine lv_aload_n hx hb dX6_weighSet_31 rfl (lv_at hl 1 rfl) ?_
      refine va_get (D := g.1) (ci := 6) (v := .int lak4) (C := RX6) (T := TX6) (N := 10) hx hb hg inG6 hown hK hP 10 (zw_at (by omega) hs1) rfl 2 (by decide) (hg _ mm_176) (fun _ h9 => h9) rfl dX6_weighSet_32 ?_
      refine lv_if_eq (tgt := 52) hx hb dX6_weighSet_35 (by decide) (fun c53 => ?_) (fun c53 => ?_)
      · skip
        have c53 : lak4.toInt = 0 := (z_eq rfl (by decide : (0 : Int32).toInt = 0)).mp c53
        refine lv_aload_n hx hb dX6_weighSet_52 rfl (lv_at hl 1 rfl) ?_
        refine lv_iload_n hx hb dX6_weighSet_53 rfl (lv_at hl 2 rfl) ?_
        refine va_put (D := g.1) (ci := 6) (v := .int st0) (ty := .int) (C := RX6) (T := TX6) (N := 10) hx hb hg inG6 tyX6 tyX6_ok nmX6 hown hK hP hD hS 10 (zw_at (by omega) hs1) rfl 2 (by decide) (hg _ mm_176) (fun _ h9 => h9) rfl (by decide +kernel) rfl rfl (Nat.le_of_ble_eq_true rfl) dX6_weighSet_54 (fun H locs hP hD hS => ?_)
        have hP : zP g ((zw 126 ad ct).set 10 (ad 10, .inr (6, [.int lns2, .int liv3, .int st0, .int fnd5, .ref (ad 11), .ref (ad 12), .ref (ad 13), .ref (ad 14), .ref (ad 15), .ref (ad 16)]))) H := hP
        have hD : va_D A ((zw 126 ad ct).set 10 (ad 10, .inr (6, [.int lns2, .int liv3, .int st0, .int fnd5, .ref (ad 11), .ref (ad 12), .ref (ad 13), .ref (ad 14), .ref (ad 15), .ref (ad 16)]))) := hD
        rw [zw_set (by omega)] at hP hD
        obtain ⟨ct54, ec55⟩ : ∃ z : Nat → va_E, z = va_up ct 10 (.inr (6, [.int lns2, .int liv3, .int st0, .int fnd5, .ref (ad 11), .ref (ad 12), .ref (ad 13), .ref (ad 14), .ref (ad 15), .ref (ad 16)])) := ⟨_, rfl⟩
        rw [← ec55] at hP hD
        have hI : Inv8 g ad pe ct54 := by rw [ec55]; exact up8 hI (i8_10 ⟨(lns2 : Int32), (liv3 : Int32), (st0 : Int32), (fnd5 : Int32), (by first | omega | decide), (by first | omega | decide), (by first | omega | decide), (by first | omega | decide), rfl⟩)
        have hs56 : ct54 14 = .inl (g.2 0, 256, .inl f14) := by rw [ec55, va_up_ne _ _ (by omega)]; exact hs13
        have hs57 : ct54 10 = .inr (6, [.int lns2, .int liv3, .int st0, .int fnd5, .ref (ad 11), .ref (ad 12), .ref (ad 13), .ref (ad 14), .ref (ad 15), .ref (ad 16)]) := by rw [ec55]; exact va_up_self _ _ _
        refine lv_iconst (v := 0) hx hb dX6_weighSet_57 (by decide) ?_
        refine lv_istore_n (lv' := [(3, .int 0), (2, .int x18), (0, .ref (ad 10)), (1, .int st0)]) hx hb dX6_weighSet_58 rfl hl (by decide) rfl (fun ls hl => ?_)
        have loop59 : ∀ (n59 : Nat) (v3_59 : Int32) (ct58 : Nat → va_E) (H : Heap) (locs : List Loc) (ls : Array Slot), ((8 - v3_59.toInt : Int).toNat < n59) → (0 ≤ v3_59.toInt ∧ v3_59.toInt ≤ 8) → (Inv8 g ad pe ct58) → zP g (zw 126 ad ct58) H → va_D A (zw 126 ad ct58) → va_S A s.heap H locs → lv_has ls 4 [(3, .int v3_59), (2, .int x18), (0, .ref (ad 10)), (1, .int st0)] → W p l e (headSpec (zW yX6_weighSet cX6_weighSet 4 none) ({ frames := 1, cells := 0, slots := 0, locals := 20 })).room s m ([.ref (ad 10), .int st0] : List Value).toArray below meth c H locs 0 0 (MQ below (va_Qv (fun (_ : Unit) => True) (fun _ t => ∃ ct2 : Nat → va_E, zP g (zw 126 ad ct2) t.heap ∧ va_D A (zw 126 ad ct2) ∧ Inv8 g ad pe ct2) A) ([.ref (ad 10), .int st0] : List Value).toArray s 0 0 A) (F0 m 59 ls []) := by
          intro n59
          induction n59 with
          | zero =>
            intro v3_59 ct58 H locs ls hn59 b3_59 hI hP hD hS hl
            exact absurd hn59 (Nat.not_lt_zero _)
          | succ n59 ih59 =>
            intro v3_59 ct58 H locs ls hn59 b3_59 hI hP hD hS hl
            refine lv_iload_n hx hb dX6_weighSet_59 rfl (lv_at hl 0 rfl) ?_
            refine lv_aload_n hx hb dX6_weighSet_60 rfl (lv_at hl 2 rfl) ?_
            obtain ⟨lns60, liv61, lak62, fnd63, h64, h65, h66, h67, hs59⟩ := a8_10 hI
            refine va_get (D := g.1) (ci := 6) (v := .int lns60) (C := RX6) (T := TX6) (N := 10) hx hb hg inG6 hown hK hP 10 (zw_at (by omega) hs59) rfl 0 (by decide) (hg _ mm_172) (fun _ h9 => h9) rfl dX6_weighSet_61 ?_
            refine lv_icmp_ge (tgt := 102) hx hb dX6_weighSet_64 (by decide) (fun c68 => ?_) (fun c68 => ?_)
            · skip
              have c68 : lns60.toInt ≤ v3_59.toInt := (z_le rfl rfl).mp c68
              exact W.vret hx hb hr (fun t ht hW => ⟨⟨(), rfl, trivial, ct58, by rw [ht]; exact hP, hD, hI⟩, hS.F ht⟩) hS.2.2 dX6_weighSet_102
            · skip
              have c68 : ¬ (lns60.toInt ≤ v3_59.toInt) := fun q => c68 ((z_le rfl rfl).mpr q)
              refine lv_iload_n hx hb dX6_weighSet_67 rfl (lv_at hl 1 rfl) ?_
              refine lv_if_ne (tgt := 102) hx hb dX6_weighSet_68 (by decide) (fun c69 => ?_) (fun c69 => ?_)
              · skip
                have c69 : ¬ (x18.toInt = 0) := fun q => c69 ((z_eq rfl (by decide : (0 : Int32).toInt = 0)).mpr q)
                exact W.vret hx hb hr (fun t ht hW => ⟨⟨(), rfl, trivial, ct58, by rw [ht]; exact hP, hD, hI⟩, hS.F ht⟩) hS.2.2 dX6_weighSet_102
              · skip
                have c69 : x18.toInt = 0 := (z_eq rfl (by decide : (0 : Int32).toInt = 0)).mp c69
                exfalso
                omega
        exact loop59 ((8 - (0 : Int32).toInt : Int).toNat + 1) (0 : Int32) ct54 _ _ ls (by omega) (by first | omega | decide) hI hP hD hS (lv_sub hl [0, 1, 2, 3] rfl)
      · skip
        have c53 : ¬ (lak4.toInt = 0) := fun q => c53 ((z_eq rfl (by decide : (0 : Int32).toInt = 0)).mpr q)
        refine lv_iload_n hx hb dX6_weighSet_38 rfl (lv_at hl 2 rfl) ?_
        refine zc_i (va_runS (As := [.int st0]) (rest := []) ⟨hx, hb, hml, hown, hg⟩ (k_J6_bitCount_0f7a4 l g ad pe ct st0 hI) (va_cwS 1 hg (z_gS mm_728 mm_729 mm_119 mm_730) rfl rfl rfl (by decide +kernel) ⟨Nat.le_of_ble_eq_true rfl, Nat.le_of_ble_eq_true rfl⟩) (zR.pre [.int st0] hP hK hN) rfl rfl hl.1 rfl (lv_room (Nat.le_of_ble_eq_true rfl)) dX6_weighSet_39 ⟨Nat.le_of_ble_eq_true rfl, Nat.le_of_ble_eq_true rfl⟩) (fun r70 hr70 => ?_)
        obtain ⟨hr70_0, hr70_1⟩ := hr70
        have hr70_0 : 0 ≤ r70.toInt := hr70_0
        have hr70_1 : r70.toInt ≤ 63 := hr70_1
        refine lv_aload_n hx hb dX6_weighSet_42 rfl (lv_at hl 1 rfl) ?_
        refine va_get (D := g.1) (ci := 6) (v := .int lak4) (C := RX6) (T := TX6) (N := 10) hx hb hg inG6 hown hK hP 10 (zw_at (by omega) hs1) rfl 2 (by decide) (hg _ mm_176) (fun _ h9 => h9) rfl dX6_weighSet_43 ?_
        refine zc_i (va_runS (As := [.int lak4]) (rest := [.int r70]) ⟨hx, hb, hml, hown, hg⟩ (k_J6_bitCount_0f7a4 l g ad pe ct lak4 hI) (va_cwS 1 hg (z_gS mm_728 mm_729 mm_119 mm_730) rfl rfl rfl (by decide +kernel) ⟨Nat.le_of_ble_eq_true rfl, Nat.le_of_ble_eq_true rfl⟩) (zR.pre [.int lak4] hP hK hN) rfl rfl hl.1 rfl (lv_room (Nat.le_of_ble_eq_true rfl)) dX6_weighSet_46 ⟨Nat.le_of_ble_eq_true rfl, Nat.le_of_ble_eq_true rfl⟩) (fun r71 hr71 => ?_)
        obtain ⟨hr71_0, hr71_1⟩ := hr71
        have hr71_0 : 0 ≤ r71.toInt := hr71_0
        have hr71_1 : r71.toInt ≤ 63 := hr71_1
        refine lv_icmp_ge (tgt := 57) hx hb dX6_weighSet_49 (by decide) (fun c72 => ?_) (fun c72 => ?_)
        · skip
          have c72 : r71.toInt ≤ r70.toInt := (z_le rfl rfl).mp c72
          refine lv_iconst (v := 0) hx hb dX6_weighSet_57 (by decide) ?_
          refine lv_istore_n (lv' := [(3, .int 0), (2, .int x18), (0, .ref (ad 10)), (1, .int st0)]) hx hb dX6_weighSet_58 rfl hl (by decide) rfl (fun ls hl => ?_)
          have loop59 : ∀ (n59 : Nat) (v3_59 : Int32) (ct73 : Nat → va_E) (H : Heap) (locs : List Loc) (ls : Array Slot), ((8 - v3_59.toInt : Int).toNat < n59) → (0 ≤ v3_59.toInt ∧ v3_59.toInt ≤ 8) → (Inv8 g ad pe ct73) → zP g (zw 126 ad ct73) H → va_D A (zw 126 ad ct73) → va_S A s.heap H locs → lv_has ls 4 [(3, .int v3_59), (2, .int x18), (0, .ref (ad 10)), (1, .int st0)] → W p l e (headSpec (zW yX6_weighSet cX6_weighSet 4 none) ({ frames := 1, cells := 0, slots := 0, locals := 20 })).room s m ([.ref (ad 10), .int st0] : List Value).toArray below meth c H locs 0 0 (MQ below (va_Qv (fun (_ : Unit) => True) (fun _ t => ∃ ct2 : Nat → va_E, zP g (zw 126 ad ct2) t.heap ∧ va_D A (zw 126 ad ct2) ∧ Inv8 g ad pe ct2) A) ([.ref (ad 10), .int st0] : List Value).toArray s 0 0 A) (F0 m 59 ls []) := by
            intro n59
            induction n59 with
            | zero =>
              intro v3_59 ct73 H locs ls hn59 b3_59 hI hP hD hS hl
              exact absurd hn59 (Nat.not_lt_zero _)
            | succ n59 ih59 =>
              intro v3_59 ct73 H locs ls hn59 b3_59 hI hP hD hS hl
              refine lv_iload_n hx hb dX6_weighSet_59 rfl (lv_at hl 0 rfl) ?_
              refine lv_aload_n hx hb dX6_weighSet_60 rfl (lv_at hl 2 rfl) ?_
              obtain ⟨lns75, liv76, lak77, fnd78, h79, h80, h81, h82, hs74⟩ := a8_10 hI
              refine va_get (D := g.1) (ci := 6) (v := .int lns75) (C := RX6) (T := TX6) (N := 10) hx hb hg inG6 hown hK hP 10 (zw_at (by omega) hs74) rfl 0 (by decide) (hg _ mm_172) (fun _ h9 => h9) rfl dX6_weighSet_61 ?_
              refine lv_icmp_ge (tgt := 102) hx hb dX6_weighSet_64 (by decide) (fun c83 => ?_) (fun c83 => ?_)
              · skip
                have c83 : lns75.toInt ≤ v3_59.toInt := (z_le rfl rfl).mp c83
                exact W.vret hx hb hr (fun t ht hW => ⟨⟨(), rfl, trivial, ct73, by rw [ht]; exact hP, hD, hI⟩, hS.F ht⟩) hS.2.2 dX6_weighSet_102
              · skip
                have c83 : ¬ (lns75.toInt ≤ v3_59.toInt) := fun q => c83 ((z_le rfl rfl).mpr q)
                refine lv_iload_n hx hb dX6_weighSet_67 rfl (lv_at hl 1 rfl) ?_
                refine lv_if_ne (tgt := 102) hx hb dX6_weighSet_68 (by decide) (fun c84 => ?_) (fun c84 => ?_)
                · skip
                  have c84 : ¬ (x18.toInt = 0) := fun q => c84 ((z_eq rfl (by decide : (0 : Int32).toInt = 0)).mpr q)
                  exact W.vret hx hb hr (fun t ht hW => ⟨⟨(), rfl, trivial, ct73, by rw [ht]; exact hP, hD, hI⟩, hS.F ht⟩) hS.2.2 dX6_weighSet_102
                · skip
                  have c84 : x18.toInt = 0 := (z_eq rfl (by decide : (0 : Int32).toInt = 0)).mp c84
                  exfalso
                  omega
          exact loop59 ((8 - (0 : Int32).toInt : Int).toNat + 1) (0 : Int32) ct _ _ ls (by omega) (by first | omega | decide) hI hP hD hS (lv_sub hl [0, 1, 2, 3] rfl)
        · skip
          have c72 : ¬ (r71.toInt ≤ r70.toInt) := fun q => c72 ((z_le rfl rfl).mpr q)
          refine lv_aload_n hx hb dX6_weighSet_52 rfl (lv_at hl 1 rfl) ?_
          refine lv_iload_n hx hb dX6_weighSet_53 rfl (lv_at hl 2 rfl) ?_
          refine va_put (D := g.1) (ci := 6) (v := .int st0) (ty := .int) (C := RX6) (T := TX6) (N := 10) hx hb hg inG6 tyX6 tyX6_ok nmX6 hown hK hP hD hS 10 (zw_at (by omega) hs1) rfl 2 (by decide) (hg _ mm_176) (fun _ h9 => h9) rfl (by decide +kernel) rfl rfl (Nat.le_of_ble_eq_true rfl) dX6_weighSet_54 (fun H locs hP hD hS => ?_)
          have hP : zP g ((zw 126 ad ct).set 10 (ad 10, .inr (6, [.int lns2, .int liv3, .int st0, .int fnd5, .ref (ad 11), .ref (ad 12), .ref (ad 13), .ref (ad 14), .ref (ad 15), .ref (ad 16)]))) H := hP
          have hD : va_D A ((zw 126 ad ct).set 10 (ad 10, .inr (6, [.int lns2, .int liv3, .int st0, .int fnd5, .ref (ad 11), .ref (ad 12), .ref (ad 13), .ref (ad 14), .ref (ad 15), .ref (ad 16)]))) := hD
          rw [zw_set (by omega)] at hP hD
          obtain ⟨ct85, ec86⟩ : ∃ z : Nat → va_E, z = va_up ct 10 (.inr (6, [.int lns2, .int liv3, .int st0, .int fnd5, .ref (ad 11), .ref (ad 12), .ref (ad 13), .ref (ad 14), .ref (ad 15), .ref (ad 16)])) := ⟨_, rfl⟩
          rw [← ec86] at hP hD
          have hI : Inv8 g ad pe ct85 := by rw [ec86]; exact up8 hI (i8_10 ⟨(lns2 : Int32), (liv3 : Int32), (st0 : Int32), (fnd5 : Int32), (by first | omega | decide), (by first | omega | decide), (by first | omega | decide), (by first | omega | decide), rfl⟩)
          have hs87 : ct85 14 = .inl (g.2 0, 256, .inl f14) := by rw [ec86, va_up_ne _ _ (by omega)]; exact hs13
          have hs88 : ct85 10 = .inr (6, [.int lns2, .int liv3, .int st0, .int fnd5, .ref (ad 11), .ref (ad 12), .ref (ad 13), .ref (ad 14), .ref (ad 15), .ref (ad 16)]) := by rw [ec86]; exact va_up_self _ _ _
          refine lv_iconst (v := 0) hx hb dX6_weighSet_57 (by decide) ?_
          refine lv_istore_n (lv' := [(3, .int 0), (2, .int x18), (0, .ref (ad 10)), (1, .int st0)]) hx hb dX6_weighSet_58 rfl hl (by decide) rfl (fun ls hl => ?_)
          have loop59 : ∀ (n59 : Nat) (v3_59 : Int32) (ct89 : Nat → va_E) (H : Heap) (locs : List Loc) (ls : Array Slot), ((8 - v3_59.toInt : Int).toNat < n59) → (0 ≤ v3_59.toInt ∧ v3_59.toInt ≤ 8) → (Inv8 g ad pe ct89) → zP g (zw 126 ad ct89) H → va_D A (zw 126 ad ct89) → va_S A s.heap H locs → lv_has ls 4 [(3, .int v3_59), (2, .int x18), (0, .ref (ad 10)), (1, .int st0)] → W p l e (headSpec (zW yX6_weighSet cX6_weighSet 4 none) ({ frames := 1, cells := 0, slots := 0, locals := 20 })).room s m ([.ref (ad 10), .int st0] : List Value).toArray below meth c H locs 0 0 (MQ below (va_Qv (fun (_ : Unit) => True) (fun _ t => ∃ ct2 : Nat → va_E, zP g (zw 126 ad ct2) t.heap ∧ va_D A (zw 126 ad ct2) ∧ Inv8 g ad pe ct2) A) ([.ref (ad 10), .int st0] : List Value).toArray s 0 0 A) (F0 m 59 ls []) := by
            intro n59
            induction n59 with
            | zero =>
              intro v3_59 ct89 H locs ls hn59 b3_59 hI hP hD hS hl
              exact absurd hn59 (Nat.not_lt_zero _)
            | succ n59 ih59 =>
              intro v3_59 ct89 H locs ls hn59 b3_59 hI hP hD hS hl
              refine lv_iload_n hx hb dX6_weighSet_59 rfl (lv_at hl 0 rfl) ?_
              refine lv_aload_n hx hb dX6_weighSet_60 rfl (lv_at hl 2 rfl) ?_
              obtain ⟨lns91, liv92, lak93, fnd94, h95, h96, h97, h98, hs90⟩ := a8_10 hI
              refine va_get (D := g.1) (ci := 6) (v := .int lns91) (C := RX6) (T := TX6) (N := 10) hx hb hg inG6 hown hK hP 10 (zw_at (by omega) hs90) rfl 0 (by decide) (hg _ mm_172) (fun _ h9 => h9) rfl dX6_weighSet_61 ?_
              refine lv_icmp_ge (tgt := 102) hx hb dX6_weighSet_64 (by decide) (fun c99 => ?_) (fun c99 => ?_)
              · skip
                have c99 : lns91.toInt ≤ v3_59.toInt := (z_le rfl rfl).mp c99
                exact W.vret hx hb hr (fun t ht hW => ⟨⟨(), rfl, trivial, ct89, by rw [ht]; exact hP, hD, hI⟩, hS.F ht⟩) hS.2.2 dX6_weighSet_102
              · skip
                have c99 : ¬ (lns91.toInt ≤ v3_59.toInt) := fun q => c99 ((z_le rfl rfl).mpr q)
                refine lv_iload_n hx hb dX6_weighSet_67 rfl (lv_at hl 1 rfl) ?_
                refine lv_if_ne (tgt := 102) hx hb dX6_weighSet_68 (by decide) (fun c100 => ?_) (fun c100 => ?_)
                · skip
                  have c100 : ¬ (x18.toInt = 0) := fun q => c100 ((z_eq rfl (by decide : (0 : Int32).toInt = 0)).mpr q)
                  exact W.vret hx hb hr (fun t ht hW => ⟨⟨(), rfl, trivial, ct89, by rw [ht]; exact hP, hD, hI⟩, hS.F ht⟩) hS.2.2 dX6_weighSet_102
                · skip
                  have c100 : x18.toInt = 0 := (z_eq rfl (by decide : (0 : Int32).toInt = 0)).mp c100
                  exfalso
                  omega
          exact loop59 ((8 - (0 : Int32).toInt : Int).toNat + 1) (0 : Int32) ct85 _ _ ls (by omega) (by first | omega | decide) hI hP hD hS (lv_sub hl [0, 1, 2, 3] rfl)
  · skip
    have c12 : ¬ (x11.toInt = 0) := fun q => c12 ((z_eq rfl (by decide : (0 : Int32).toInt = 0)).mpr q)
    exact W.vret hx hb hr (fun t ht hW => ⟨⟨(), rfl, trivial, ct, by rw [ht]; exact hP, hD, hI⟩, hS.F ht⟩) hS.2.2 dX6_weighSet_11

set_option maxHeartbeats 4000000 in
set_option maxRecDepth 100000 in
theorem k_X6_weigh (l : Launch) (g : zG) (sz : Nat) (ad : Nat → Nat) (pe : Int32) (ct : Nat → va_E) (hI : Inv8 g ad pe ct) : Met l yX6_weigh (zW yX6_weigh cX6_weigh 3 none) ({ frames := 2, cells := 0, slots := 0, locals := 43 }) (va_Pc [.ref (ad 10)] (zA g (zw 126 ad ct) sz)) (va_Qv (fun (_ : Unit) => True) (fun _ t => ∃ ct2 : Nat → va_E, zP g (zw 126 ad ct2) t.heap ∧ va_D (va_A (zw 126 ad ct) sz) (zw 126 ad ct2) ∧ Inv8 g ad pe ct2) (va_A (zw 126 ad ct) sz)) 0 0 (va_A (zw 126 ad ct) sz) := by
  refine Met.ofW (cc := cX6_weigh) (maxL := 3) (ret := none) (by decide) rfl ?_
  intro p e s m args below meth c s₁ B hml hv
  obtain ⟨rfl, hsz, hP, hK, hD0, hN⟩ := hv
  have hx := B.exec
  have hb := B.bytes
  have hr := B.returns
  have hg := zW.law (atoms_spec (ws := (zW yX6_weigh cX6_weigh 3 none)) B.pre)
  have hown : s.vm.findClass RX6 = some m.cls := findClass_of_methodNamed B.named
  have hlocks := B.notSynchronized
  have hpe0 := hI.1
  subst hsz
  have hD := hD0.self (sz := s.heap.size)
  generalize hAe : va_A (zw 126 ad ct) s.heap.size = A at hD ⊢
  have hA : ∀ q : Nat, s.heap.size ≤ q → A q := fun q h => by rw [← hAe]; exact Or.inr h
  have hS : va_S A s.heap s.heap [] := va_S.rf
  have hl := lv_entry ([.ref (ad 10)]) (n := 3) (Nat.le_of_ble_eq_true rfl)
  rw [lg_entry_eq]
  generalize (lg_sl ([.ref (ad 10)]) ++ List.replicate (3 - (lg_sl ([.ref (ad 10)])).length) Slot.unset).toArray = ls at hl ⊢
  have hl : lv_has ls 3 [(0, .ref (ad 10))] := hl
  refine lv_aload_n hx hb dX6_weigh_0 rfl (lv_at hl 0 rfl) ?_
  refine lv_iconst (v := 0) hx hb dX6_weigh_1 (by decide) ?_
  obtain ⟨lns2, liv3, lak4, fnd5, h6, h7, h8, h9, hs1⟩ := a8_10 hI
  refine va_put (D := g.1) (ci := 6) (v := .int 0) (ty := .int) (C := RX6) (T := TX6) (N := 10) hx hb hg inG6 tyX6 tyX6_ok nmX6 hown hK hP hD hS 10 (zw_at (by omega) hs1) rfl 2 (by decide) (hg _ mm_176) (fun _ h9 => h9) rfl (by decide +kernel) rfl rfl (Nat.le_of_ble_eq_true rfl) dX6_weigh_2 (fun H locs hP hD hS => ?_)
  have hP : zP g ((zw 126 ad ct).set 10 (ad 10, .inr (6, [.int lns2, .int liv3, .int 0, .int fnd5, .ref (ad 11), .ref (ad 12), .ref (ad 13), .ref (ad 14), .ref (ad 15), .ref (ad 16)]))) H := hP
  have hD : va_D A ((zw 126 ad ct).set 10 (ad 10, .inr (6, [.int lns2, .int liv3, .int 0, .int fnd5, .ref (ad 11), .ref (ad 12), .ref (ad 13), .ref (ad 14), .ref (ad 15), .ref (ad 16)]))) := hD
  rw [zw_set (by omega)] at hP hD
  obtain ⟨ct10, ec11⟩ : ∃ z : Nat → va_E, z = va_up ct 10 (.inr (6, [.int lns2, .int liv3, .int 0, .int fnd5, .ref (ad 11), .ref (ad 12), .ref (ad 13), .ref (ad 14), .ref (ad 15), .ref (ad 16)])) := ⟨_, rfl⟩
  rw [← ec11] at hP hD
  have hI : Inv8 g ad pe ct10 := by rw [ec11]; exact up8 hI (i8_10 ⟨(lns2 : Int32), (liv3 : Int32), (0 : Int32), (fnd5 : Int32), (by first | omega | decide), (by first | omega | decide), (by first | omega | decide), (by first | omega | decide), rfl⟩)
  have hs12 : ct10 10 = .inr (6, [.int lns2, .int liv3, .int 0, .int fnd5, .ref (ad 11), .ref (ad 12), .ref (ad 13), .ref (ad 14), .ref (ad 15), .ref (ad 16)]) := by rw [ec11]; exact va_up_self _ _ _
  refine lv_iconst (v := 0) hx hb dX6_weigh_5 (by decide) ?_
  refine lv_istore_n (lv' := [(1, .int 0), (0, .ref (ad 10))]) hx hb dX6_weigh_6 rfl hl (by decide) rfl (fun ls hl => ?_)
  have loop7 : ∀ (n7 : Nat) (v1_7 : Int32) (ct13 : Nat → va_E) (H : Heap) (locs : List Loc) (ls : Array Slot), ((8 - v1_7.toInt : Int).toNat < n7) → (0 ≤ v1_7.toInt ∧ v1_7.toInt ≤ 8) → (Inv8 g ad pe ct13) → zP g (zw 126 ad ct13) H → va_D A (zw 126 ad ct13) → va_S A s.heap H locs → lv_has ls 3 [(1, .int v1_7), (0, .ref (ad 10))] → W p l e (headSpec (zW yX6_weigh cX6_weigh 3 none) ({ frames := 2, cells := 0, slots := 0, locals := 43 })).room s m ([.ref (ad 10)] : List Value).toArray below meth c H locs 0 0 (MQ below (va_Qv (fun (_ : Unit) => True) (fun _ t => ∃ ct2 : Nat → va_E, zP g (zw 126 ad ct2) t.heap ∧ va_D A (zw 126 ad ct2) ∧ Inv8 g ad pe ct2) A) ([.ref (ad 10)] : List Value).toArray s 0 0 A) (F0 m 7 ls []) := by
    intro n7
    induction n7 with
    | zero =>
      intro v1_7 ct13 H locs ls hn7 b1_7 hI hP hD hS hl
      exact absurd hn7 (Nat.not_lt_zero _)
    | succ n7 ih7 =>
      intro v1_7 ct13 H locs ls hn7 b1_7 hI hP hD hS hl
      refine lv_iload_n hx hb dX6_weigh_7 rfl (lv_at hl 0 rfl) ?_
      refine lv_bipush (v := 8) hx hb dX6_weigh_8 (by decide) ?_
      refine lv_icmp_ge (tgt := 31) hx hb dX6_weigh_10 (by decide) (fun c14 => ?_) (fun c14 => ?_)
      · skip
        have c14 : 8 ≤ v1_7.toInt := (z_le (by decide : (8 : Int32).toInt = 8) rfl).mp c14
        refine lv_iconst (v := 0) hx hb dX6_weigh_31 (by decide) ?_
        refine lv_istore_n (lv' := [(1, .int 0), (0, .ref (ad 10))]) hx hb dX6_weigh_32 rfl hl (by decide) rfl (fun ls hl => ?_)
        have loop33 : ∀ (n33 : Nat) (v1_33 : Int32) (ct15 : Nat → va_E) (H : Heap) (locs : List Loc) (ls : Array Slot), ((8 - v1_33.toInt : Int).toNat < n33) → (0 ≤ v1_33.toInt ∧ v1_33.toInt ≤ 8) → (Inv8 g ad pe ct15) → zP g (zw 126 ad ct15) H → va_D A (zw 126 ad ct15) → va_S A s.heap H locs → lv_has ls 3 [(1, .int v1_33), (0, .ref (ad 10))] → W p l e (headSpec (zW yX6_weigh cX6_weigh 3 none) ({ frames := 2, cells := 0, slots := 0, locals := 43 })).room s m ([.ref (ad 10)] : List Value).toArray below meth c H locs 0 0 (MQ below (va_Qv (fun (_ : Unit) => True) (fun _ t => ∃ ct2 : Nat → va_E, zP g (zw 126 ad ct2) t.heap ∧ va_D A (zw 126 ad ct2) ∧ Inv8 g ad pe ct2) A) ([.ref (ad 10)] : List Value).toArray s 0 0 A) (F0 m 33 ls []) := by
          intro n33
          induction n33 with
          | zero =>
            intro v1_33 ct15 H locs ls hn33 b1_33 hI hP hD hS hl
            exact absurd hn33 (Nat.not_lt_zero _)
          | succ n33 ih33 =>
            intro v1_33 ct15 H locs ls hn33 b1_33 hI hP hD hS hl
            refine lv_iload_n hx hb dX6_weigh_33 rfl (lv_at hl 0 rfl) ?_
            refine lv_aload_n hx hb dX6_weigh_34 rfl (lv_at hl 1 rfl) ?_
            obtain ⟨lns17, liv18, lak19, fnd20, h21, h22, h23, h24, hs16⟩ := a8_10 hI
            refine va_get (D := g.1) (ci := 6) (v := .int lns17) (C := RX6) (T := TX6) (N := 10) hx hb hg inG6 hown hK hP 10 (zw_at (by omega) hs16) rfl 0 (by decide) (hg _ mm_172) (fun _ h9 => h9) rfl dX6_weigh_35 ?_
            refine lv_icmp_ge (tgt := 106) hx hb dX6_weigh_38 (by decide) (fun c25 => ?_) (fun c25 => ?_)
            · skip
              have c25 : lns17.toInt ≤ v1_33.toInt := (z_le rfl rfl).mp c25
              refine lv_iconst (v := 0) hx hb dX6_weigh_106 (by decide) ?_
              refine lv_istore_n (lv' := [(1, .int 0), (0, .ref (ad 10))]) hx hb dX6_weigh_107 rfl hl (by decide) rfl (fun ls hl => ?_)
              have loop108 : ∀ (n108 : Nat) (v1_108 : Int32) (ct26 : Nat → va_E) (H : Heap) (locs : List Loc) (ls : Array Slot), ((8 - v1_108.toInt : Int).toNat < n108) → (0 ≤ v1_108.toInt ∧ v1_108.toInt ≤ 8) → (Inv8 g ad pe ct26) → zP g (zw 126 ad ct26) H → va_D A (zw 126 ad ct26) → va_S A s.heap H locs → lv_has ls 3 [(1, .int v1_108), (0, .ref (ad 10))] → W p l e (headSpec (zW yX6_weigh cX6_weigh 3 none) ({ frames := 2, cells := 0, slots := 0, locals := 43 })).room s m ([.ref (ad 10)] : List Value).toArray below meth c H locs 0 0 (MQ below (va_Qv (fun (_ : Unit) => True) (fun _ t => ∃ ct2 : Nat → va_E, zP g (zw 126 ad ct2) t.heap ∧ va_D A (zw 126 ad ct2) ∧ Inv8 g ad pe ct2) A) ([.ref (ad 10)] : List Value).toArray s 0 0 A) (F0 m 108 ls []) := by
                intro n108
                induction n108 with
                | zero =>
                  intro v1_108 ct26 H locs ls hn108 b1_108 hI hP hD hS hl
                  exact absurd hn108 (Nat.not_lt_zero _)
                | succ n108 ih108 =>
                  intro v1_108 ct26 H locs ls hn108 b1_108 hI hP hD hS hl
                  refine lv_iload_n hx hb dX6_weigh_108 rfl (lv_at hl 0 rfl) ?_
                  refine lv_bipush (v := 8) hx hb dX6_weigh_109 (by decide) ?_
                  refine lv_icmp_ge (tgt := 134) hx hb dX6_weigh_111 (by decide) (fun c27 => ?_) (fun c27 => ?_)
                  · skip
                    have c27 : 8 ≤ v1_108.toInt := (z_le (by decide : (8 : Int32).toInt = 8) rfl).mp c27
                    exact W.vret hx hb hr (fun t ht hW => ⟨⟨(), rfl, trivial, ct26, by rw [ht]; exact hP, hD, hI⟩, hS.F ht⟩) hS.2.2 dX6_weigh_134
                  · skip
                    have c27 : ¬ (8 ≤ v1_108.toInt) := fun q => c27 ((z_le (by decide : (8 : Int32).toInt = 8) rfl).mpr q)
                    refine lv_aload_n hx hb dX6_weigh_114 rfl (lv_at hl 1 rfl) ?_
                    obtain ⟨lns29, liv30, lak31, fnd32, h33, h34, h35, h36, hs28⟩ := a8_10 hI
                    refine va_get (D := g.1) (ci := 6) (v := .int lak31) (C := RX6) (T := TX6) (N := 10) hx hb hg inG6 hown hK hP 10 (zw_at (by omega) hs28) rfl 2 (by decide) (hg _ mm_176) (fun _ h9 => h9) rfl dX6_weigh_115 ?_
                    refine lv_if_eq (tgt := 134) hx hb dX6_weigh_118 (by decide) (fun c37 => ?_) (fun c37 => ?_)
                    · skip
                      have c37 : lak31.toInt = 0 := (z_eq rfl (by decide : (0 : Int32).toInt = 0)).mp c37
                      exact W.vret hx hb hr (fun t ht hW => ⟨⟨(), rfl, trivial, ct26, by rw [ht]; exact hP, hD, hI⟩, hS.F ht⟩) hS.2.2 dX6_weigh_134
                    · skip
                      have c37 : ¬ (lak31.toInt = 0) := fun q => c37 ((z_eq rfl (by decide : (0 : Int32).toInt = 0)).mpr q)
                      refine lv_aload_n hx hb dX6_weigh_121 rfl (lv_at hl 1 rfl) ?_
                      refine va_get (D := g.1) (ci := 6) (v := .ref (ad 13)) (C := RX6) (T := TX6) (N := 10) hx hb hg inG6 hown hK hP 10 (zw_at (by omega) hs28) rfl 6 (by decide) (hg _ mm_184) (fun _ h9 => h9) rfl dX6_weigh_122 ?_
                      refine lv_iload_n hx hb dX6_weigh_125 rfl (lv_at hl 0 rfl) ?_
                      refine lv_iconst (v := 0) hx hb dX6_weigh_126 (by decide) ?_
                      obtain ⟨f39, hp40, hs38⟩ := a8_13 hI
                      refine va_iast hx hb hK hP hD hS 13 0 (zw_at (by omega) hs38) rfl (z_in rfl (by omega) (by omega)) dX6_weigh_127 (fun H locs hP hD hS => ?_)
                      have hp42 : ∀ j : Nat, j < 8 → (fun x : Int32 => 0 ≤ x.toInt ∧ x.toInt ≤ 65535) ((upd f39 (Int32.toNatClampNeg v1_108) 0) j) := fun j hj => by
                        unfold upd
                        by_cases q : j = Int32.toNatClampNeg v1_108
                        · rw [if_pos q]; exact (show 0 ≤ (0 : Int32).toInt ∧ (0 : Int32).toInt ≤ 65535 from (by first | omega | decide))
                        · rw [if_neg q]; exact hp40 j hj
                      have hP : zP g ((zw 126 ad ct26).set 13 (ad 13, .inl (g.2 0, 8, .inl (upd f39 (Int32.toNatClampNeg v1_108) 0)))) H := hP
                      have hD : va_D A ((zw 126 ad ct26).set 13 (ad 13, .inl (g.2 0, 8, .inl (upd f39 (Int32.toNatClampNeg v1_108) 0)))) := hD
                      rw [zw_set (by omega)] at hP hD
                      obtain ⟨ct43, ec44⟩ : ∃ z : Nat → va_E, z = va_up ct26 13 (.inl (g.2 0, 8, .inl (upd f39 (Int32.toNatClampNeg v1_108) 0))) := ⟨_, rfl⟩
                      rw [← ec44] at hP hD
                      have hI : Inv8 g ad pe ct43 := by rw [ec44]; exact up8 hI (i8_13 ⟨_, hp42, rfl⟩)
                      have hs45 : ct43 10 = .inr (6, [.int lns29, .int liv30, .int lak31, .int fnd32, .ref (ad 11), .ref (ad 12), .ref (ad 13), .ref (ad 14), .ref (ad 15), .ref (ad 16)]) := by rw [ec44, va_up_ne _ _ (by omega)]; exact hs28
                      have hs46 : ct43 13 = .inl (g.2 0, 8, .inl (upd f39 (Int32.toNatClampNeg v1_108) 0)) := by rw [ec44]; exact va_up_self _ _ _
                      obtain ⟨x47, ex47⟩ : ∃ y : Int32, y = v1_108 + 1 := ⟨_, rfl⟩
                      have tx47 : x47.toInt = v1_108.toInt + 1 := by rw [ex47]; exact z_add rfl (by decide : (1 : Int32).toInt = 1) (by omega) (by omega)
                      refine lv_iinc (v := x47) (lv' := [(1, .int x47), (0, .ref (ad 10))]) hx hb dX6_weigh_128 hl (k := 0) rfl (by rw [ex47]; rfl) (by decide) rfl (fun ls hl => ?_)
                      refine lv_goto (tgt := 108) hx hb dX6_weigh_131 (by decide) ?_
                      exact ih108 x47 ct43 _ _ ls (by omega) (by first | omega | decide) hI hP hD hS (lv_sub hl [0, 1] rfl)
              exact loop108 ((8 - (0 : Int32).toInt : Int).toNat + 1) (0 : Int32) ct15 _ _ ls (by omega) (by first | omega | decide) hI hP hD hS (lv_sub hl [0, 1] rfl)
            · skip
              have c25 : ¬ (lns17.toInt ≤ v1_33.toInt) := fun q => c25 ((z_le rfl rfl).mpr q)
              refine lv_aload_n hx hb dX6_weigh_41 rfl (lv_at hl 1 rfl) ?_
              refine va_get (D := g.1) (ci := 6) (v := .int liv18) (C := RX6) (T := TX6) (N := 10) hx hb hg inG6 hown hK hP 10 (zw_at (by omega) hs16) rfl 1 (by decide) (hg _ mm_174) (fun _ h9 => h9) rfl dX6_weigh_42 ?_
              refine lv_iload_n hx hb dX6_weigh_45 rfl (lv_at hl 0 rfl) ?_
              refine lv_ishr hx hb dX6_weigh_46 ?_
              refine lv_topi (fun x48 ex48 => ?_)
              have tx48 := z_shr (x := liv18) rfl (by omega) v1_33
              rw [← ex48] at tx48
              refine lv_iconst (v := 1) hx hb dX6_weigh_47 (by decide) ?_
              refine lv_iand hx hb dX6_weigh_48 ?_
              refine lv_topi (fun x49 ex49 => ?_)
              have tx49 := z_andr (x := x48) (y := 1) (by decide : (1 : Int32).toInt = 1) (by omega)
              rw [← ex49] at tx49
              refine lv_iconst (v := 1) hx hb dX6_weigh_49 (by decide) ?_
              refine lv_icmp_ne (tgt := 100) hx hb dX6_weigh_50 (by decide) (fun c50 => ?_) (fun c50 => ?_)
              · skip
                have c50 : ¬ (x49.toInt = 1) := fun q => c50 ((z_eq rfl (by decide : (1 : Int32).toInt = 1)).mpr q)
                obtain ⟨x51, ex51⟩ : ∃ y : Int32, y = v1_33 + 1 := ⟨_, rfl⟩
                have tx51 : x51.toInt = v1_33.toInt + 1 := by rw [ex51]; exact z_add rfl (by decide : (1 : Int32).toInt = 1) (by omega) (by omega)
                refine lv_iinc (v := x51) (lv' := [(1, .int x51), (0, .ref (ad 10))]) hx hb dX6_weigh_100 hl (k := 0) rfl (by rw [ex51]; rfl) (by decide) rfl (fun ls hl => ?_)
                refine lv_goto (tgt := 33) hx hb dX6_weigh_103 (by decide) ?_
                exact ih33 x51 ct15 _ _ ls (by omega) (by first | omega | decide) hI hP hD hS (lv_sub hl [0, 1] rfl)
              · skip
                have c50 : x49.toInt = 1 := (z_eq rfl (by decide : (1 : Int32).toInt = 1)).mp c50
                refine lv_iconst (v := 0) hx hb dX6_weigh_53 (by decide) ?_
                refine lv_istore_n (lv' := [(2, .int 0), (1, .int v1_33), (0, .ref (ad 10))]) hx hb dX6_weigh_54 rfl hl (by decide) rfl (fun ls hl => ?_)
                have loop55 : ∀ (n55 : Nat) (v2_55 : Int32) (ct52 : Nat → va_E) (H : Heap) (locs : List Loc) (ls : Array Slot), ((128 - v2_55.toInt : Int).toNat < n55) → (0 ≤ v2_55.toInt ∧ v2_55.toInt ≤ 128) → (Inv8 g ad pe ct52) → zP g (zw 126 ad ct52) H → va_D A (zw 126 ad ct52) → va_S A s.heap H locs → lv_has ls 3 [(2, .int v2_55), (1, .int v1_33), (0, .ref (ad 10))] → W p l e (headSpec (zW yX6_weigh cX6_weigh 3 none) ({ frames := 2, cells := 0, slots := 0, locals := 43 })).room s m ([.ref (ad 10)] : List Value).toArray below meth c H locs 0 0 (MQ below (va_Qv (fun (_ : Unit) => True) (fun _ t => ∃ ct2 : Nat → va_E, zP g (zw 126 ad ct2) t.heap ∧ va_D A (zw 126 ad ct2) ∧ Inv8 g ad pe ct2) A) ([.ref (ad 10)] : List Value).toArray s 0 0 A) (F0 m 55 ls []) := by
                  intro n55
                  induction n55 with
                  | zero =>
                    intro v2_55 ct52 H locs ls hn55 b2_55 hI hP hD hS hl
                    exact absurd hn55 (Nat.not_lt_zero _)
                  | succ n55 ih55 =>
                    intro v2_55 ct52 H locs ls hn55 b2_55 hI hP hD hS hl
                    refine lv_iload_n hx hb dX6_weigh_55 rfl (lv_at hl 0 rfl) ?_
                    refine lv_iconst (v := 1) hx hb dX6_weigh_56 (by decide) ?_
                    refine lv_iload_n hx hb dX6_weigh_57 rfl (lv_at hl 1 rfl) ?_
                    refine lv_ishl hx hb dX6_weigh_58 ?_
                    refine lv_topi (fun x53 ex53 => ?_)
                    have tx53 := z_shl1 (y := v1_33) rfl (by omega) (k := 7) (by decide) (by omega)
                    rw [← ex53] at tx53
                    refine lv_icmp_ge (tgt := 100) hx hb dX6_weigh_59 (by decide) (fun c54 => ?_) (fun c54 => ?_)
                    · skip
                      have c54 : x53.toInt ≤ v2_55.toInt := (z_le rfl rfl).mp c54
                      obtain ⟨x55, ex55⟩ : ∃ y : Int32, y = v1_33 + 1 := ⟨_, rfl⟩
                      have tx55 : x55.toInt = v1_33.toInt + 1 := by rw [ex55]; exact z_add rfl (by decide : (1 : Int32).toInt = 1) (by omega) (by omega)
                      refine lv_iinc (v := x55) (lv' := [(1, .int x55), (2, .int v2_55), (0, .ref (ad 10))]) hx hb dX6_weigh_100 hl (k := 1) rfl (by rw [ex55]; rfl) (by decide) rfl (fun ls hl => ?_)
                      refine lv_goto (tgt := 33) hx hb dX6_weigh_103 (by decide) ?_
                      exact ih33 x55 ct52 _ _ ls (by omega) (by first | omega | decide) hI hP hD hS (lv_sub hl [0, 2] rfl)
                    · skip
                      have c54 : ¬ (x53.toInt ≤ v2_55.toInt) := fun q => c54 ((z_le rfl rfl).mpr q)
                      refine lv_aload_n hx hb dX6_weigh_62 rfl (lv_at hl 2 rfl) ?_
                      obtain ⟨lns57, liv58, lak59, fnd60, h61, h62, h63, h64, hs56⟩ := a8_10 hI
                      refine va_get (D := g.1) (ci := 6) (v := .ref (ad 14)) (C := RX6) (T := TX6) (N := 10) hx hb hg inG6 hown hK hP 10 (zw_at (by omega) hs56) rfl 7 (by decide) (hg _ mm_186) (fun _ h9 => h9) rfl dX6_weigh_63 ?_
                      refine lv_iload_n hx hb dX6_weigh_66 rfl (lv_at hl 0 rfl) ?_
                      refine lv_iconst (v := 1) hx hb dX6_weigh_67 (by decide) ?_
                      refine lv_iload_n hx hb dX6_weigh_68 rfl (lv_at hl 1 rfl) ?_
                      refine lv_ishl hx hb dX6_weigh_69 ?_
                      refine lv_topi (fun x65 ex65 => ?_)
                      have tx65 := z_shl1 (y := v1_33) rfl (by omega) (k := 7) (by decide) (by omega)
                      rw [← ex65] at tx65
                      refine lv_ior hx hb dX6_weigh_70 ?_
                      refine lv_topi (fun x66 ex66 => ?_)
                      have tx66 := z_or (x := v2_55) (y := x65) rfl rfl (k := 8) (N := 256) (by decide) (by decide) (by omega) (by omega) (by omega) (by omega)
                      rw [← ex66] at tx66
                      refine lv_aload_n hx hb dX6_weigh_71 rfl (lv_at hl 2 rfl) ?_
                      refine va_get (D := g.1) (ci := 6) (v := .ref (ad 14)) (C := RX6) (T := TX6) (N := 10) hx hb hg inG6 hown hK hP 10 (zw_at (by omega) hs56) rfl 7 (by decide) (hg _ mm_186) (fun _ h9 => h9) rfl dX6_weigh_72 ?_
                      refine lv_iload_n hx hb dX6_weigh_75 rfl (lv_at hl 0 rfl) ?_
                      obtain ⟨f68, hs67⟩ := a8_14 hI
                      refine va_iald hx hb hK hP 14 0 (zw_at (by omega) hs67) rfl (z_in rfl (by omega) (by omega)) dX6_weigh_76 ?_
                      refine lv_topi (fun y69 ey69 => ?_)
                      refine lv_aload_n hx hb dX6_weigh_77 rfl (lv_at hl 2 rfl) ?_
                      refine va_get (D := g.1) (ci := 6) (v := .ref (ad 12)) (C := RX6) (T := TX6) (N := 10) hx hb hg inG6 hown hK hP 10 (zw_at (by omega) hs56) rfl 5 (by decide) (hg _ mm_182) (fun _ h9 => h9) rfl dX6_weigh_78 ?_
                      refine lv_iload_n hx hb dX6_weigh_81 rfl (lv_at hl 1 rfl) ?_
                      obtain ⟨f71, hp72, hs70⟩ := a8_12 hI
                      refine va_iald hx hb hK hP 12 0 (zw_at (by omega) hs70) rfl (z_in rfl (by omega) (by omega)) dX6_weigh_82 ?_
                      refine lv_topi (fun y73 ey73 => ?_)
                      have hy73 := hp72 _ (z_clt (x := v1_33) rfl (by omega) (by omega))
                      rw [← ey73] at hy73
                      have hy73 : 0 ≤ y73.toInt ∧ y73.toInt ≤ 65535 := hy73
                      refine lv_ior hx hb dX6_weigh_83 ?_
                      refine lv_topi (fun x74 ex74 => ?_)
                      refine va_iast hx hb hK hP hD hS 14 0 (zw_at (by omega) hs67) rfl (z_in rfl (by omega) (by omega)) dX6_weigh_84 (fun H locs hP hD hS => ?_)
                      have hP : zP g ((zw 126 ad ct52).set 14 (ad 14, .inl (g.2 0, 256, .inl (upd f68 (Int32.toNatClampNeg x66) x74)))) H := hP
                      have hD : va_D A ((zw 126 ad ct52).set 14 (ad 14, .inl (g.2 0, 256, .inl (upd f68 (Int32.toNatClampNeg x66) x74)))) := hD
                      rw [zw_set (by omega)] at hP hD
                      obtain ⟨ct76, ec77⟩ : ∃ z : Nat → va_E, z = va_up ct52 14 (.inl (g.2 0, 256, .inl (upd f68 (Int32.toNatClampNeg x66) x74))) := ⟨_, rfl⟩
                      rw [← ec77] at hP hD
                      have hI : Inv8 g ad pe ct76 := by rw [ec77]; exact up8 hI (i8_14 ⟨_, rfl⟩)
                      have hs78 : ct76 10 = .inr (6, [.int lns57, .int liv58, .int lak59, .int fnd60, .ref (ad 11), .ref (ad 12), .ref (ad 13), .ref (ad 14), .ref (ad 15), .ref (ad 16)]) := by rw [ec77, va_up_ne _ _ (by omega)]; exact hs56
                      have hs79 : ct76 12 = .inl (g.2 0, 8, .inl f71) := by rw [ec77, va_up_ne _ _ (by omega)]; exact hs70
                      have hs80 : ct76 14 = .inl (g.2 0, 256, .inl (upd f68 (Int32.toNatClampNeg x66) x74)) := by rw [ec77]; exact va_up_self _ _ _
                      refine lv_aload_n hx hb dX6_weigh_85 rfl (lv_at hl 2 rfl) ?_
                      refine lv_iload_n hx hb dX6_weigh_86 rfl (lv_at hl 0 rfl) ?_
                      refine lv_iconst (v := 1) hx hb dX6_weigh_87 (by decide) ?_
                      refine lv_iload_n hx hb dX6_weigh_88 rfl (lv_at hl 1 rfl) ?_
                      refine lv_ishl hx hb dX6_weigh_89 ?_
                      refine lv_topi (fun x81 ex81 => ?_)
                      have tx81 := z_shl1 (y := v1_33) rfl (by omega) (k := 7) (by decide) (by omega)
                      rw [← ex81] at tx81
                      refine lv_ior hx hb dX6_weigh_90 ?_
                      refine lv_topi (fun x82 ex82 => ?_)
                      have tx82 := z_or (x := v2_55) (y := x81) rfl rfl (k := 8) (N := 256) (by decide) (by decide) (by omega) (by omega) (by omega) (by omega)
                      rw [← ex82] at tx82
                      have hFc := zw_free hD hS hA
                      refine va_callv (va_runV (As := [.int x82]) (rest := []) ⟨hx, hb, hml, hown, hg⟩ (k_X6_weighSet l g _ ad pe ct76 x82 (by first | omega | decide) hI) (cwV 1 hg (z_gV mm_724 mm_726 mm_29 mm_111 mm_727) rfl rfl rfl (by decide +kernel) ⟨Nat.le_of_ble_eq_true rfl, Nat.le_of_ble_eq_true rfl⟩) ⟨(zA.pre [.ref (ad 10), .int x82] hP hK hD hN).1, va_recv hK hP (ci := 6) (q0 := 10) rfl (zw_at (by omega) hs78), (zA.pre [.ref (ad 10), .int x82] hP hK hD hN).2⟩ rfl rfl hl.1 rfl (lv_room (Nat.le_of_ble_eq_true rfl)) dX6_weigh_91 ⟨Nat.le_of_ble_eq_true rfl, Nat.le_of_ble_eq_true rfl⟩) hS (fun q _ h => hFc q h) hFc (fun _ t H1 locs ht hvm hr83 hB hz1 hk1 hS => ?_)
                      obtain ⟨ct84, hP1, hD1, hI⟩ := hB
                      rw [ht] at hP1
                      have hD := hD1.weaken (fun _ _ _ h => hFc _ h)
                      generalize H1 = H at hP1 hS ⊢
                      have hP := hP1
                      refine W.widen (k := 0) (n := 0) (Nat.le_refl _) (Nat.le_refl _) ?_
                      obtain ⟨x85, ex85⟩ : ∃ y : Int32, y = v2_55 + 1 := ⟨_, rfl⟩
                      have tx85 : x85.toInt = v2_55.toInt + 1 := by rw [ex85]; exact z_add rfl (by decide : (1 : Int32).toInt = 1) (by omega) (by omega)
                      refine lv_iinc (v := x85) (lv' := [(2, .int x85), (1, .int v1_33), (0, .ref (ad 10))]) hx hb dX6_weigh_94 hl (k := 0) rfl (by rw [ex85]; rfl) (by decide) rfl (fun ls hl => ?_)
                      refine lv_goto (tgt := 55) hx hb dX6_weigh_97 (by decide) ?_
                      exact ih55 x85 ct84 _ _ ls (by omega) (by first | omega | decide) hI hP hD hS (lv_sub hl [0, 1, 2] rfl)
                exact loop55 ((128 - (0 : Int32).toInt : Int).toNat + 1) (0 : Int32) ct15 _ _ ls (by omega) (by first | omega | decide) hI hP hD hS (lv_sub hl [0, 1, 2] rfl)
        exact loop33 ((8 - (0 : Int32).toInt : Int).toNat + 1) (0 : Int32) ct13 _ _ ls (by omega) (by first | omega | decide) hI hP hD hS (lv_sub hl [0, 1] rfl)
      · skip
        have c14 : ¬ (8 ≤ v1_7.toInt) := fun q => c14 ((z_le (by decide : (8 : Int32).toInt = 8) rfl).mpr q)
        refine lv_aload_n hx hb dX6_weigh_13 rfl (lv_at hl 1 rfl) ?_
        obtain ⟨lns87, liv88, lak89, fnd90, h91, h92, h93, h94, hs86⟩ := a8_10 hI
        refine va_get (D := g.1) (ci := 6) (v := .ref (ad 13)) (C := RX6) (T := TX6) (N := 10) hx hb hg inG6 hown hK hP 10 (zw_at (by omega) hs86) rfl 6 (by decide) (hg _ mm_184) (fun _ h9 => h9) rfl dX6_weigh_14 ?_
        refine lv_iload_n hx hb dX6_weigh_17 rfl (lv_at hl 0 rfl) ?_
        refine lv_aload_n hx hb dX6_weigh_18 rfl (lv_at hl 1 rfl) ?_
        refine va_get (D := g.1) (ci := 6) (v := .ref (ad 12)) (C := RX6) (T := TX6) (N := 10) hx hb hg inG6 hown hK hP 10 (zw_at (by omega) hs86) rfl 5 (by decide) (hg _ mm_182) (fun _ h9 => h9) rfl dX6_weigh_19 ?_
        refine lv_iload_n hx hb dX6_weigh_22 rfl (lv_at hl 0 rfl) ?_
        obtain ⟨f96, hp97, hs95⟩ := a8_12 hI
        refine va_iald hx hb hK hP 12 0 (zw_at (by omega) hs95) rfl (z_in rfl (by omega) (by omega)) dX6_weigh_23 ?_
        refine lv_topi (fun y98 ey98 => ?_)
        have hy98 := hp97 _ (z_clt (x := v1_7) rfl (by omega) (by omega))
        rw [← ey98] at hy98
        have hy98 : 0 ≤ y98.toInt ∧ y98.toInt ≤ 65535 := hy98
        obtain ⟨f100, hp101, hs99⟩ := a8_13 hI
        refine va_iast hx hb hK hP hD hS 13 0 (zw_at (by omega) hs99) rfl (z_in rfl (by omega) (by omega)) dX6_weigh_24 (fun H locs hP hD hS => ?_)
        have hp103 : ∀ j : Nat, j < 8 → (fun x : Int32 => 0 ≤ x.toInt ∧ x.toInt ≤ 65535) ((upd f100 (Int32.toNatClampNeg v1_7) y98) j) := fun j hj => by
          unfold upd
          by_cases q : j = Int32.toNatClampNeg v1_7
          · rw [if_pos q]; exact (show 0 ≤ (y98 : Int32).toInt ∧ (y98 : Int32).toInt ≤ 65535 from (by first | omega | decide))
          · rw [if_neg q]; exact hp101 j hj
        have hP : zP g ((zw 126 ad ct13).set 13 (ad 13, .inl (g.2 0, 8, .inl (upd f100 (Int32.toNatClampNeg v1_7) y98)))) H := hP
        have hD : va_D A ((zw 126 ad ct13).set 13 (ad 13, .inl (g.2 0, 8, .inl (upd f100 (Int32.toNatClampNeg v1_7) y98)))) := hD
        rw [zw_set (by omega)] at hP hD
        obtain ⟨ct104, ec105⟩ : ∃ z : Nat → va_E, z = va_up ct13 13 (.inl (g.2 0, 8, .inl (upd f100 (Int32.toNatClampNeg v1_7) y98))) := ⟨_, rfl⟩
        rw [← ec105] at hP hD
        have hI : Inv8 g ad pe ct104 := by rw [ec105]; exact up8 hI (i8_13 ⟨_, hp103, rfl⟩)
        have hs106 : ct104 10 = .inr (6, [.int lns87, .int liv88, .int lak89, .int fnd90, .ref (ad 11), .ref (ad 12), .ref (ad 13), .ref (ad 14), .ref (ad 15), .ref (ad 16)]) := by rw [ec105, va_up_ne _ _ (by omega)]; exact hs86
        have hs107 : ct104 12 = .inl (g.2 0, 8, .inl f96) := by rw [ec105, va_up_ne _ _ (by omega)]; exact hs95
        have hs108 : ct104 13 = .inl (g.2 0, 8, .inl (upd f100 (Int32.toNatClampNeg v1_7) y98)) := by rw [ec105]; exact va_up_self _ _ _
        obtain ⟨x109, ex109⟩ : ∃ y : Int32, y = v1_7 + 1 := ⟨_, rfl⟩
        have tx109 : x109.toInt = v1_7.toInt + 1 := by rw [ex109]; exact z_add rfl (by decide : (1 : Int32).toInt = 1) (by omega) (by omega)
        refine lv_iinc (v := x109) (lv' := [(1, .int x109), (0, .ref (ad 10))]) hx hb dX6_weigh_25 hl (k := 0) rfl (by rw [ex109]; rfl) (by decide) rfl (fun ls hl => ?_)
        refine lv_goto (tgt := 7) hx hb dX6_weigh_28 (by decide) ?_
        exact ih7 x109 ct104 _ _ ls (by omega) (by first | omega | decide) hI hP hD hS (lv_sub hl [0, 1] rfl)
  exact loop7 ((8 - (0 : Int32).toInt : Int).toNat + 1) (0 : Int32) ct10 _ _ ls (by omega) (by first | omega | decide) hI hP hD hS (lv_sub hl [0, 1] rfl)

set_option maxHeartbeats 4000000 in
set_option maxRecDepth 100000 in
theorem k_X6_giveTo (l : Launch) (g : zG) (sz : Nat) (ad : Nat → Nat) (pe : Int32) (ct : Nat → va_E) (st0 : Int32) (p0 : Int32) (hl_st0 : 0 ≤ st0.toInt ∧ st0.toInt ≤ 255) (hI : Inv8 g ad pe ct) : Met l yX6_giveTo (zW yX6_giveTo cX6_giveTo 4 none) ({ frames := 0, cells := 0, slots := 0, locals := 0 }) (va_Pc [.ref (ad 10), .int st0, .int p0] (zA g (zw 126 ad ct) sz)) (va_Qv (fun (_ : Unit) => True) (fun _ t => ∃ ct2 : Nat → va_E, zP g (zw 126 ad ct2) t.heap ∧ va_D (va_A (zw 126 ad ct) sz) (zw 126 ad ct2) ∧ Inv8 g ad pe ct2) (va_A (zw 126 ad ct) sz)) 0 0 (va_A (zw 126 ad ct) sz) := by
  refine Met.ofW (cc := cX6_giveTo) (maxL := 4) (ret := none) (by decide) rfl ?_
  intro p e s m args below meth c s₁ B hml hv
  obtain ⟨rfl, hsz, hP, hK, hD0, hN⟩ := hv
  have hx := B.exec
  have hb := B.bytes
  have hr := B.returns
  have hg := zW.law (atoms_spec (ws := (zW yX6_giveTo cX6_giveTo 4 none)) B.pre)
  have hown : s.vm.findClass RX6 = some m.cls := findClass_of_methodNamed B.named
  have hlocks := B.notSynchronized
  have hpe0 := hI.1
  subst hsz
  have hD := hD0.self (sz := s.heap.size)
  generalize hAe : va_A (zw 126 ad ct) s.heap.size = A at hD ⊢
  have hA : ∀ q : Nat, s.heap.size ≤ q → A q := fun q h => by rw [← hAe]; exact Or.inr h
  have hS : va_S A s.heap s.heap [] := va_S.rf
  have hl := lv_entry ([.ref (ad 10), .int st0, .int p0]) (n := 4) (Nat.le_of_ble_eq_true rfl)
  rw [lg_entry_eq]
  generalize (lg_sl ([.ref (ad 10), .int st0, .int p0]) ++ List.replicate (4 - (lg_sl ([.ref (ad 10), .int st0, .int p0])).length) Slot.unset).toArray = ls at hl ⊢
  have hl : lv_has ls 4 [(0, .ref (ad 10)), (1, .int st0), (2, .int p0)] := hl
  have rg_p0 := z_rng p0
  refine lv_iconst (v := 0) hx hb dX6_giveTo_0 (by decide) ?_
  refine lv_istore_n (lv' := [(3, .int 0), (0, .ref (ad 10)), (1, .int st0), (2, .int p0)]) hx hb dX6_giveTo_1 rfl hl (by decide) rfl (fun ls hl => ?_)
  have loop2 : ∀ (n2 : Nat) (v3_2 : Int32) (ct1 : Nat → va_E) (H : Heap) (locs : List Loc) (ls : Array Slot), ((8 - v3_2.toInt : Int).toNat < n2) → (0 ≤ v3_2.toInt ∧ v3_2.toInt ≤ 8) → (Inv8 g ad pe ct1) → zP g (zw 126 ad ct1) H → va_D A (zw 126 ad ct1) → va_S A s.heap H locs → lv_has ls 4 [(3, .int v3_2), (0, .ref (ad 10)), (1, .int st0), (2, .int p0)] → W p l e (headSpec (zW yX6_giveTo cX6_giveTo 4 none) ({ frames := 0, cells := 0, slots := 0, locals := 0 })).room s m ([.ref (ad 10), .int st0, .int p0] : List Value).toArray below meth c H locs 0 0 (MQ below (va_Qv (fun (_ : Unit) => True) (fun _ t => ∃ ct2 : Nat → va_E, zP g (zw 126 ad ct2) t.heap ∧ va_D A (zw 126 ad ct2) ∧ Inv8 g ad pe ct2) A) ([.ref (ad 10), .int st0, .int p0] : List Value).toArray s 0 0 A) (F0 m 2 ls []) := by
    intro n2
    induction n2 with
    | zero =>
      intro v3_2 ct1 H locs ls hn2 b3_2 hI hP hD hS hl
      exact absurd hn2 (Nat.not_lt_zero _)
    | succ n2 ih2 =>
      intro v3_2 ct1 H locs ls hn2 b3_2 hI hP hD hS hl
      refine lv_iload_n hx hb dX6_giveTo_2 rfl (lv_at hl 0 rfl) ?_
      refine lv_aload_n hx hb dX6_giveTo_3 rfl (lv_at hl 1 rfl) ?_
      obtain ⟨lns3, liv4, lak5, fnd6, h7, h8, h9, h10, hs2⟩ := a8_10 hI
      refine va_get (D := g.1) (ci := 6) (v := .int lns3) (C := RX6) (T := TX6) (N := 10) hx hb hg inG6 hown hK hP 10 (zw_at (by omega) hs2) rfl 0 (by decide) (hg _ mm_172) (fun _ h9 => h9) rfl dX6_giveTo_4 ?_
      refine lv_icmp_ge (tgt := 57) hx hb dX6_giveTo_7 (by decide) (fun c11 => ?_) (fun c11 => ?_)
      · skip
        have c11 : lns3.toInt ≤ v3_2.toInt := (z_le rfl rfl).mp c11
        exact W.vret hx hb hr (fun t ht hW => ⟨⟨(), rfl, trivial, ct1, by rw [ht]; exact hP, hD, hI⟩, hS.F ht⟩) hS.2.2 dX6_giveTo_57
      · skip
        have c11 : ¬ (lns3.toInt ≤ v3_2.toInt) := fun q => c11 ((z_le rfl rfl).mpr q)
        refine lv_iload_n hx hb dX6_giveTo_10 rfl (lv_at hl 2 rfl) ?_
        refine lv_iload_n hx hb dX6_giveTo_11 rfl (lv_at hl 0 rfl) ?_
        refine lv_ishr hx hb dX6_giveTo_12 ?_
        refine lv_topi (fun x12 ex12 => ?_)
        have tx12 := z_shr (x := st0) rfl (by omega) v3_2
        rw [← ex12] at tx12
        refine lv_iconst (v := 1) hx hb dX6_giveTo_13 (by decide) ?_
        refine lv_iand hx hb dX6_giveTo_14 ?_
        refine lv_topi (fun x13 ex13 => ?_)
        have tx13 := z_andr (x := x12) (y := 1) (by decide : (1 : Int32).toInt = 1) (by omega)
        rw [← ex13] at tx13
        refine lv_if_ne (tgt := 51) hx hb dX6_giveTo_15 (by decide) (fun c14 => ?_) (fun c14 => ?_)
        · skip
          have c14 : ¬ (x13.toInt = 0) := fun q => c14 ((z_eq rfl (by decide : (0 : Int32).toInt = 0)).mpr q)
          obtain ⟨x15, ex15⟩ : ∃ y : Int32, y = v3_2 + 1 := ⟨_, rfl⟩
          have tx15 : x15.toInt = v3_2.toInt + 1 := by rw [ex15]; exact z_add rfl (by decide : (1 : Int32).toInt = 1) (by omega) (by omega)
          refine lv_iinc (v := x15) (lv' := [(3, .int x15), (0, .ref (ad 10)), (1, .int st0), (2, .int p0)]) hx hb dX6_giveTo_51 hl (k := 0) rfl (by rw [ex15]; rfl) (by decide) rfl (fun ls hl => ?_)
          refine lv_goto (tgt := 2) hx hb dX6_giveTo_54 (by decide) ?_
          exact ih2 x15 ct1 _ _ ls (by omega) (by first | omega | decide) hI hP hD hS (lv_sub hl [0, 1, 2, 3] rfl)
        · skip
          have c14 : x13.toInt = 0 := (z_eq rfl (by decide : (0 : Int32).toInt = 0)).mp c14
          refine lv_aload_n hx hb dX6_giveTo_18 rfl (lv_at hl 1 rfl) ?_
          refine va_get (D := g.1) (ci := 6) (v := .ref (ad 12)) (C := RX6) (T := TX6) (N := 10) hx hb hg inG6 hown hK hP 10 (zw_at (by omega) hs2) rfl 5 (by decide) (hg _ mm_182) (fun _ h9 => h9) rfl dX6_giveTo_19 ?_
          refine lv_iload_n hx hb dX6_giveTo_22 rfl (lv_at hl 0 rfl) ?_
          obtain ⟨f17, hp18, hs16⟩ := a8_12 hI
          refine va_iald hx hb hK hP 12 0 (zw_at (by omega) hs16) rfl (z_in rfl (by omega) (by omega)) dX6_giveTo_23 ?_
          refine lv_topi (fun y19 ey19 => ?_)
          have hy19 := hp18 _ (z_clt (x := v3_2) rfl (by omega) (by omega))
          rw [← ey19] at hy19
          have hy19 : 0 ≤ y19.toInt ∧ y19.toInt ≤ 65535 := hy19
          refine lv_iload_n hx hb dX6_giveTo_24 rfl (lv_at hl 3 rfl) ?_
          refine lv_ishr hx hb dX6_giveTo_25 ?_
          refine lv_topi (fun x20 ex20 => ?_)
          have tx20 := z_shr (x := y19) rfl (by omega) p0
          rw [← ex20] at tx20
          refine lv_iconst (v := 1) hx hb dX6_giveTo_26 (by decide) ?_
          refine lv_iand hx hb dX6_giveTo_27 ?_
          refine lv_topi (fun x21 ex21 => ?_)
          have tx21 := z_andr (x := x20) (y := 1) (by decide : (1 : Int32).toInt = 1) (by omega)
          rw [← ex21] at tx21
          refine lv_iconst (v := 1) hx hb dX6_giveTo_28 (by decide) ?_
          refine lv_icmp_ne (tgt := 51) hx hb dX6_giveTo_29 (by decide) (fun c22 => ?_) (fun c22 => ?_)
          · skip
            have c22 : ¬ (x21.toInt = 1) := fun q => c22 ((z_eq rfl (by decide : (1 : Int32).toInt = 1)).mpr q)
            obtain ⟨x23, ex23⟩ : ∃ y : Int32, y = v3_2 + 1 := ⟨_, rfl⟩
            have tx23 : x23.toInt = v3_2.toInt + 1 := by rw [ex23]; exact z_add rfl (by decide : (1 : Int32).toInt = 1) (by omega) (by omega)
            refine lv_iinc (v := x23) (lv' := [(3, .int x23), (0, .ref (ad 10)), (1, .int st0), (2, .int p0)]) hx hb dX6_giveTo_51 hl (k := 0) rfl (by rw [ex23]; rfl) (by decide) rfl (fun ls hl => ?_)
            refine lv_goto (tgt := 2) hx hb dX6_giveTo_54 (by decide) ?_
            exact ih2 x23 ct1 _ _ ls (by omega) (by first | omega | decide) hI hP hD hS (lv_sub hl [0, 1, 2, 3] rfl)
          · skip
            have c22 : x21.toInt = 1 := (z_eq rfl (by decide : (1 : Int32).toInt = 1)).mp c22
            refine lv_aload_n hx hb dX6_giveTo_32 rfl (lv_at hl 1 rfl) ?_
            refine va_get (D := g.1) (ci := 6) (v := .ref (ad 15)) (C := RX6) (T := TX6) (N := 10) hx hb hg inG6 hown hK hP 10 (zw_at (by omega) hs2) rfl 8 (by decide) (hg _ mm_187) (fun _ h9 => h9) rfl dX6_giveTo_33 ?_
            refine lv_iload_n hx hb dX6_giveTo_36 rfl (lv_at hl 2 rfl) ?_
            refine lv_iconst (v := 1) hx hb dX6_giveTo_37 (by decide) ?_
            refine lv_iload_n hx hb dX6_giveTo_38 rfl (lv_at hl 0 rfl) ?_
            refine lv_ishl hx hb dX6_giveTo_39 ?_
            refine lv_topi (fun x24 ex24 => ?_)
            have tx24 := z_shl1 (y := v3_2) rfl (by omega) (k := 7) (by decide) (by omega)
            rw [← ex24] at tx24
            refine lv_ior hx hb dX6_giveTo_40 ?_
            refine lv_topi (fun x25 ex25 => ?_)
            have tx25 := z_or (x := st0) (y := x24) rfl rfl (k := 8) (N := 256) (by decide) (by decide) (by omega) (by omega) (by omega) (by omega)
            rw [← ex25] at tx25
            refine lv_dup2_11 hx hb dX6_giveTo_41 rfl rfl ?_
            obtain ⟨f27, hs26⟩ := a8_15 hI
            refine va_lald hx hb hK hP 15 1 (zw_at (by omega) hs26) rfl (z_in rfl (by omega) (by omega)) dX6_giveTo_42 ?_
            refine lv_topl (fun y28 ey28 => ?_)
            refine lv_aload_n hx hb dX6_giveTo_43 rfl (lv_at hl 1 rfl) ?_
            refine va_get (D := g.1) (ci := 6) (v := .ref (ad 15)) (C := RX6) (T := TX6) (N := 10) hx hb hg inG6 hown hK hP 10 (zw_at (by omega) hs2) rfl 8 (by decide) (hg _ mm_187) (fun _ h9 => h9) rfl dX6_giveTo_44 ?_
            refine lv_iload_n hx hb dX6_giveTo_47 rfl (lv_at hl 2 rfl) ?_
            refine va_lald hx hb hK hP 15 1 (zw_at (by omega) hs26) rfl (z_in rfl (by omega) (by omega)) dX6_giveTo_48 ?_
            refine lv_topl (fun y29 ey29 => ?_)
            refine lv_ladd hx hb dX6_giveTo_49 ?_
            refine lv_topl (fun x30 ex30 => ?_)
            refine va_last hx hb hK hP hD hS 15 1 (zw_at (by omega) hs26) rfl (z_in rfl (by omega) (by omega)) dX6_giveTo_50 (fun H locs hP hD hS => ?_)
            have hP : zP g ((zw 126 ad ct1).set 15 (ad 15, .inl (g.2 1, 256, .inr (.inl (vp_updL f27 (Int32.toNatClampNeg x25) x30))))) H := hP
            have hD : va_D A ((zw 126 ad ct1).set 15 (ad 15, .inl (g.2 1, 256, .inr (.inl (vp_updL f27 (Int32.toNatClampNeg x25) x30))))) := hD
            rw [zw_set (by omega)] at hP hD
            obtain ⟨ct32, ec33⟩ : ∃ z : Nat → va_E, z = va_up ct1 15 (.inl (g.2 1, 256, .inr (.inl (vp_updL f27 (Int32.toNatClampNeg x25) x30)))) := ⟨_, rfl⟩
            rw [← ec33] at hP hD
            have hI : Inv8 g ad pe ct32 := by rw [ec33]; exact up8 hI (i8_15 ⟨_, rfl⟩)
            have hs34 : ct32 10 = .inr (6, [.int lns3, .int liv4, .int lak5, .int fnd6, .ref (ad 11), .ref (ad 12), .ref (ad 13), .ref (ad 14), .ref (ad 15), .ref (ad 16)]) := by rw [ec33, va_up_ne _ _ (by omega)]; exact hs2
            have hs35 : ct32 12 = .inl (g.2 0, 8, .inl f17) := by rw [ec33, va_up_ne _ _ (by omega)]; exact hs16
            have hs36 : ct32 15 = .inl (g.2 1, 256, .inr (.inl (vp_updL f27 (Int32.toNatClampNeg x25) x30))) := by rw [ec33]; exact va_up_self _ _ _
            obtain ⟨x37, ex37⟩ : ∃ y : Int32, y = v3_2 + 1 := ⟨_, rfl⟩
            have tx37 : x37.toInt = v3_2.toInt + 1 := by rw [ex37]; exact z_add rfl (by decide : (1 : Int32).toInt = 1) (by omega) (by omega)
            refine lv_iinc (v := x37) (lv' := [(3, .int x37), (0, .ref (ad 10)), (1, .int st0), (2, .int p0)]) hx hb dX6_giveTo_51 hl (k := 0) rfl (by rw [ex37]; rfl) (by decide) rfl (fun ls hl => ?_)
            refine lv_goto (tgt := 2) hx hb dX6_giveTo_54 (by decide) ?_
            exact ih2 x37 ct32 _ _ ls (by omega) (by first | omega | decide) hI hP hD hS (lv_sub hl [0, 1, 2, 3] rfl)
  exact loop2 ((8 - (0 : Int32).toInt : Int).toNat + 1) (0 : Int32) ct _ _ ls (by omega) (by first | omega | decide) hI hP hD hS (lv_sub hl [0, 1, 2, 3] rfl)

set_option maxHeartbeats 4000000 in
set_option maxRecDepth 100000 in
theorem k_X6_number (l : Launch) (g : zG) (sz : Nat) (ad : Nat → Nat) (pe : Int32) (ct : Nat → va_E) (hI : Inv8 g ad pe ct) : Met l yX6_number (zW yX6_number cX6_number 4 (some .long)) ({ frames := 1, cells := 0, slots := 0, locals := 23 }) (va_Pc [.ref (ad 10)] (zA g (zw 126 ad ct) sz)) (va_Ql (fun (r : Int64) (_ : Unit) => (True)) (fun _ t => ∃ ct2 : Nat → va_E, zP g (zw 126 ad ct2) t.heap ∧ va_D (va_A (zw 126 ad ct) sz) (zw 126 ad ct2) ∧ Inv8 g ad pe ct2) (va_A (zw 126 ad ct) sz)) 0 0 (va_A (zw 126 ad ct) sz) := by
  refine Met.ofW (cc := cX6_number) (maxL := 4) (ret := (some .long)) (by decide) rfl ?_
  intro p e s m args below meth c s₁ B hml hv
  obtain ⟨rfl, hsz, hP, hK, hD0, hN⟩ := hv
  have hx := B.exec
  have hb := B.bytes
  have hr := B.returns
  have hg := zW.law (atoms_spec (ws := (zW yX6_number cX6_number 4 (some .long))) B.pre)
  have hown : s.vm.findClass RX6 = some m.cls := findClass_of_methodNamed B.named
  have hlocks := B.notSynchronized
  have hpe0 := hI.1
  subst hsz
  have hD := hD0.self (sz := s.heap.size)
  generalize hAe : va_A (zw 126 ad ct) s.heap.size = A at hD ⊢
  have hA : ∀ q : Nat, s.heap.size ≤ q → A q := fun q h => by rw [← hAe]; exact Or.inr h
  have hS : va_S A s.heap s.heap [] := va_S.rf
  have hl := lv_entry ([.ref (ad 10)]) (n := 4) (Nat.le_of_ble_eq_true rfl)
  rw [lg_entry_eq]
  generalize (lg_sl ([.ref (ad 10)]) ++ List.replicate (4 - (lg_sl ([.ref (ad 10)])).length) Slot.unset).toArray = ls at hl ⊢
  have hl : lv_has ls 4 [(0, .ref (ad 10))] := hl
  refine lv_iconst (v := 1) hx hb dX6_number_0 (by decide) ?_
  refine lv_aload_n hx hb dX6_number_1 rfl (lv_at hl 0 rfl) ?_
  obtain ⟨lns2, liv3, lak4, fnd5, h6, h7, h8, h9, hs1⟩ := a8_10 hI
  refine va_get (D := g.1) (ci := 6) (v := .int lns2) (C := RX6) (T := TX6) (N := 10) hx hb hg inG6 hown hK hP 10 (zw_at (by omega) hs1) rfl 0 (by decide) (hg _ mm_172) (fun _ h9 => h9) rfl dX6_number_2 ?_
  refine lv_ishl hx hb dX6_number_5 ?_
  refine lv_topi (fun x10 ex10 => ?_)
  have tx10 := z_shl1 (y := lns2) rfl (by omega) (k := 8) (by decide) (by omega)
  rw [← ex10] at tx10
  refine lv_istore_n (lv' := [(1, .int x10), (0, .ref (ad 10))]) hx hb dX6_number_6 rfl hl (by decide) rfl (fun ls hl => ?_)
  refine lv_iconst (v := 0) hx hb dX6_number_7 (by decide) ?_
  refine lv_istore_n (lv' := [(2, .int 0), (1, .int x10), (0, .ref (ad 10))]) hx hb dX6_number_8 rfl hl (by decide) rfl (fun ls hl => ?_)
  have loop9 : ∀ (n9 : Nat) (v2_9 : Int32) (ct11 : Nat → va_E) (H : Heap) (locs : List Loc) (ls : Array Slot), ((256 - v2_9.toInt : Int).toNat < n9) → (0 ≤ v2_9.toInt ∧ v2_9.toInt ≤ 256) → (Inv8 g ad pe ct11) → zP g (zw 126 ad ct11) H → va_D A (zw 126 ad ct11) → va_S A s.heap H locs → lv_has ls 4 [(2, .int v2_9), (1, .int x10), (0, .ref (ad 10))] → W p l e (headSpec (zW yX6_number cX6_number 4 (some .long)) ({ frames := 1, cells := 0, slots := 0, locals := 23 })).room s m ([.ref (ad 10)] : List Value).toArray below meth c H locs 0 0 (MQ below (va_Ql (fun (r : Int64) (_ : Unit) => (True)) (fun _ t => ∃ ct2 : Nat → va_E, zP g (zw 126 ad ct2) t.heap ∧ va_D A (zw 126 ad ct2) ∧ Inv8 g ad pe ct2) A) ([.ref (ad 10)] : List Value).toArray s 0 0 A) (F0 m 9 ls []) := by
    intro n9
    induction n9 with
    | zero =>
      intro v2_9 ct11 H locs ls hn9 b2_9 hI hP hD hS hl
      exact absurd hn9 (Nat.not_lt_zero _)
    | succ n9 ih9 =>
      intro v2_9 ct11 H locs ls hn9 b2_9 hI hP hD hS hl
      refine lv_iload_n hx hb dX6_number_9 rfl (lv_at hl 0 rfl) ?_
      refine lv_iload_n hx hb dX6_number_10 rfl (lv_at hl 1 rfl) ?_
      refine lv_icmp_ge (tgt := 27) hx hb dX6_number_11 (by decide) (fun c12 => ?_) (fun c12 => ?_)
      · skip
        have c12 : x10.toInt ≤ v2_9.toInt := (z_le rfl rfl).mp c12
        refine lv_aload_n hx hb dX6_number_27 rfl (lv_at hl 2 rfl) ?_
        obtain ⟨lns14, liv15, lak16, fnd17, h18, h19, h20, h21, hs13⟩ := a8_10 hI
        refine va_get (D := g.1) (ci := 6) (v := .ref (ad 15)) (C := RX6) (T := TX6) (N := 10) hx hb hg inG6 hown hK hP 10 (zw_at (by omega) hs13) rfl 8 (by decide) (hg _ mm_187) (fun _ h9 => h9) rfl dX6_number_28 ?_
        refine lv_iconst (v := 0) hx hb dX6_number_31 (by decide) ?_
        refine lv_lconst (v := 1) hx hb dX6_number_32 (by decide) ?_
        obtain ⟨f23, hs22⟩ := a8_15 hI
        refine va_last hx hb hK hP hD hS 15 1 (zw_at (by omega) hs22) rfl (z_in (by decide : (0 : Int32).toInt = 0) (by omega) (by omega)) dX6_number_33 (fun H locs hP hD hS => ?_)
        have hP : zP g ((zw 126 ad ct11).set 15 (ad 15, .inl (g.2 1, 256, .inr (.inl (vp_updL f23 (Int32.toNatClampNeg 0) 1))))) H := hP
        have hD : va_D A ((zw 126 ad ct11).set 15 (ad 15, .inl (g.2 1, 256, .inr (.inl (vp_updL f23 (Int32.toNatClampNeg 0) 1))))) := hD
        rw [zw_set (by omega)] at hP hD
        obtain ⟨ct25, ec26⟩ : ∃ z : Nat → va_E, z = va_up ct11 15 (.inl (g.2 1, 256, .inr (.inl (vp_updL f23 (Int32.toNatClampNeg 0) 1)))) := ⟨_, rfl⟩
        rw [← ec26] at hP hD
        have hI : Inv8 g ad pe ct25 := by rw [ec26]; exact up8 hI (i8_15 ⟨_, rfl⟩)
        have hs27 : ct25 10 = .inr (6, [.int lns14, .int liv15, .int lak16, .int fnd17, .ref (ad 11), .ref (ad 12), .ref (ad 13), .ref (ad 14), .ref (ad 15), .ref (ad 16)]) := by rw [ec26, va_up_ne _ _ (by omega)]; exact hs13
        have hs28 : ct25 15 = .inl (g.2 1, 256, .inr (.inl (vp_updL f23 (Int32.toNatClampNeg 0) 1))) := by rw [ec26]; exact va_up_self _ _ _
        refine lv_iconst (v := 0) hx hb dX6_number_34 (by decide) ?_
        refine lv_istore_n (lv' := [(2, .int 0), (1, .int x10), (0, .ref (ad 10))]) hx hb dX6_number_35 rfl hl (by decide) rfl (fun ls hl => ?_)
        have loop36 : ∀ (n36 : Nat) (v2_36 : Int32) (ct29 : Nat → va_E) (H : Heap) (locs : List Loc) (ls : Array Slot), ((16 - v2_36.toInt : Int).toNat < n36) → (0 ≤ v2_36.toInt ∧ v2_36.toInt ≤ 16) → (Inv8 g ad pe ct29) → zP g (zw 126 ad ct29) H → va_D A (zw 126 ad ct29) → va_S A s.heap H locs → lv_has ls 4 [(2, .int v2_36), (1, .int x10), (0, .ref (ad 10))] → W p l e (headSpec (zW yX6_number cX6_number 4 (some .long)) ({ frames := 1, cells := 0, slots := 0, locals := 23 })).room s m ([.ref (ad 10)] : List Value).toArray below meth c H locs 0 0 (MQ below (va_Ql (fun (r : Int64) (_ : Unit) => (True)) (fun _ t => ∃ ct2 : Nat → va_E, zP g (zw 126 ad ct2) t.heap ∧ va_D A (zw 126 ad ct2) ∧ Inv8 g ad pe ct2) A) ([.ref (ad 10)] : List Value).toArray s 0 0 A) (F0 m 36 ls []) := by
          intro n36
          induction n36 with
          | zero =>
            intro v2_36 ct29 H locs ls hn36 b2_36 hI hP hD hS hl
            exact absurd hn36 (Nat.not_lt_zero _)
          | succ n36 ih36 =>
            intro v2_36 ct29 H locs ls hn36 b2_36 hI hP hD hS hl
            refine lv_iload_n hx hb dX6_number_36 rfl (lv_at hl 0 rfl) ?_
            refine lv_bipush (v := 16) hx hb dX6_number_37 (by decide) ?_
            refine lv_icmp_ge (tgt := 79) hx hb dX6_number_39 (by decide) (fun c30 => ?_) (fun c30 => ?_)
            · skip
              have c30 : 16 ≤ v2_36.toInt := (z_le (by decide : (16 : Int32).toInt = 16) rfl).mp c30
              refine lv_aload_n hx hb dX6_number_79 rfl (lv_at hl 2 rfl) ?_
              obtain ⟨lns32, liv33, lak34, fnd35, h36, h37, h38, h39, hs31⟩ := a8_10 hI
              refine va_get (D := g.1) (ci := 6) (v := .ref (ad 15)) (C := RX6) (T := TX6) (N := 10) hx hb hg inG6 hown hK hP 10 (zw_at (by omega) hs31) rfl 8 (by decide) (hg _ mm_187) (fun _ h9 => h9) rfl dX6_number_80 ?_
              refine lv_aload_n hx hb dX6_number_83 rfl (lv_at hl 2 rfl) ?_
              refine va_get (D := g.1) (ci := 6) (v := .int liv33) (C := RX6) (T := TX6) (N := 10) hx hb hg inG6 hown hK hP 10 (zw_at (by omega) hs31) rfl 1 (by decide) (hg _ mm_174) (fun _ h9 => h9) rfl dX6_number_84 ?_
              obtain ⟨f41, hs40⟩ := a8_15 hI
              refine va_lald hx hb hK hP 15 1 (zw_at (by omega) hs40) rfl (z_in rfl (by omega) (by omega)) dX6_number_87 ?_
              refine lv_topl (fun y42 ey42 => ?_)
              exact W.lret (v := y42) hx hb hr (fun t ht hW => ⟨⟨y42, (), rfl, trivial, ct29, by rw [ht]; exact hP, hD, hI⟩, hS.F ht⟩) hS.2.2 dX6_number_88
            · skip
              have c30 : ¬ (16 ≤ v2_36.toInt) := fun q => c30 ((z_le (by decide : (16 : Int32).toInt = 16) rfl).mpr q)
              refine lv_iload_n hx hb dX6_number_42 rfl (lv_at hl 1 rfl) ?_
              refine lv_iconst (v := 1) hx hb dX6_number_43 (by decide) ?_
              refine lv_isub hx hb dX6_number_44 ?_
              refine lv_topi (fun x43 ex43 => ?_)
              have tx43 : x43.toInt = x10.toInt - 1 := by rw [ex43]; exact z_sub rfl (by decide : (1 : Int32).toInt = 1) (by omega) (by omega)
              refine lv_istore_n (lv' := [(3, .int x43), (2, .int v2_36), (1, .int x10), (0, .ref (ad 10))]) hx hb dX6_number_45 rfl hl (by decide) rfl (fun ls hl => ?_)
              have loop46 : ∀ (n46 : Nat) (v3_46 : Int32) (ct44 : Nat → va_E) (H : Heap) (locs : List Loc) (ls : Array Slot), ((v3_46.toInt + 1 : Int).toNat < n46) → (-1 ≤ v3_46.toInt ∧ v3_46.toInt ≤ 255) → (Inv8 g ad pe ct44) → zP g (zw 126 ad ct44) H → va_D A (zw 126 ad ct44) → va_S A s.heap H locs → lv_has ls 4 [(3, .int v3_46), (2, .int v2_36), (1, .int x10), (0, .ref (ad 10))] → W p l e (headSpec (zW yX6_number cX6_number 4 (some .long)) ({ frames := 1, cells := 0, slots := 0, locals := 23 })).room s m ([.ref (ad 10)] : List Value).toArray below meth c H locs 0 0 (MQ below (va_Ql (fun (r : Int64) (_ : Unit) => (True)) (fun _ t => ∃ ct2 : Nat → va_E, zP g (zw 126 ad ct2) t.heap ∧ va_D A (zw 126 ad ct2) ∧ Inv8 g ad pe ct2) A) ([.ref (ad 10)] : List Value).toArray s 0 0 A) (F0 m 46 ls []) := by
                intro n46
                induction n46 with
                | zero =>
                  intro v3_46 ct44 H locs ls hn46 b3_46 hI hP hD hS hl
                  exact absurd hn46 (Nat.not_lt_zero _)
                | succ n46 ih46 =>
                  intro v3_46 ct44 H locs ls hn46 b3_46 hI hP hD hS hl
                  refine lv_iload_n hx hb dX6_number_46 rfl (lv_at hl 0 rfl) ?_
                  refine lv_if_lt (tgt := 73) hx hb dX6_number_47 (by decide) (fun c45 => ?_) (fun c45 => ?_)
                  · skip
                    have c45 : v3_46.toInt < 0 := (z_lt rfl (by decide : (0 : Int32).toInt = 0)).mp c45
                    obtain ⟨x46, ex46⟩ : ∃ y : Int32, y = v2_36 + 1 := ⟨_, rfl⟩
                    have tx46 : x46.toInt = v2_36.toInt + 1 := by rw [ex46]; exact z_add rfl (by decide : (1 : Int32).toInt = 1) (by omega) (by omega)
                    refine lv_iinc (v := x46) (lv' := [(2, .int x46), (3, .int v3_46), (1, .int x10), (0, .ref (ad 10))]) hx hb dX6_number_73 hl (k := 1) rfl (by rw [ex46]; rfl) (by decide) rfl (fun ls hl => ?_)
                    refine lv_goto (tgt := 36) hx hb dX6_number_76 (by decide) ?_
                    exact ih36 x46 ct44 _ _ ls (by omega) (by first | omega | decide) hI hP hD hS (lv_sub hl [0, 2, 3] rfl)
                  · skip
                    have c45 : ¬ (v3_46.toInt < 0) := fun q => c45 ((z_lt rfl (by decide : (0 : Int32).toInt = 0)).mpr q)
                    refine lv_aload_n hx hb dX6_number_50 rfl (lv_at hl 3 rfl) ?_
                    obtain ⟨lns48, liv49, lak50, fnd51, h52, h53, h54, h55, hs47⟩ := a8_10 hI
                    refine va_get (D := g.1) (ci := 6) (v := .ref (ad 15)) (C := RX6) (T := TX6) (N := 10) hx hb hg inG6 hown hK hP 10 (zw_at (by omega) hs47) rfl 8 (by decide) (hg _ mm_187) (fun _ h9 => h9) rfl dX6_number_51 ?_
                    refine lv_iload_n hx hb dX6_number_54 rfl (lv_at hl 0 rfl) ?_
                    obtain ⟨f57, hs56⟩ := a8_15 hI
                    refine va_lald hx hb hK hP 15 1 (zw_at (by omega) hs56) rfl (z_in rfl (by omega) (by omega)) dX6_number_55 ?_
                    refine lv_topl (fun y58 ey58 => ?_)
                    refine lv_lconst (v := 0) hx hb dX6_number_56 (by decide) ?_
                    refine W.lcmp hx hb dX6_number_57 ?_
                    refine lv_if_eq (tgt := 67) hx hb dX6_number_58 (by decide) (fun c59 => ?_) (fun c59 => ?_)
                    · skip
                      have c59 := (lg_cmp_eq _ _).mp c59
                      obtain ⟨x60, ex60⟩ : ∃ y : Int32, y = v3_46 + (-1) := ⟨_, rfl⟩
                      have tx60 : x60.toInt = v3_46.toInt + (-1) := by rw [ex60]; exact z_add rfl (by decide : ((-1) : Int32).toInt = (-1)) (by omega) (by omega)
                      refine lv_iinc (v := x60) (lv' := [(3, .int x60), (2, .int v2_36), (1, .int x10), (0, .ref (ad 10))]) hx hb dX6_number_67 hl (k := 0) rfl (by rw [ex60]; rfl) (by decide) rfl (fun ls hl => ?_)
                      refine lv_goto (tgt := 46) hx hb dX6_number_70 (by decide) ?_
                      exact ih46 x60 ct44 _ _ ls (by omega) (by first | omega | decide) hI hP hD hS (lv_sub hl [0, 1, 2, 3] rfl)
                    · skip
                      have c59 := fun q => c59 ((lg_cmp_eq _ _).mpr q)
                      have c59 : ¬ (y58 = (0 : Int64)) := c59
                      refine lv_aload_n hx hb dX6_number_61 rfl (lv_at hl 3 rfl) ?_
                      refine lv_iload_n hx hb dX6_number_62 rfl (lv_at hl 0 rfl) ?_
                      refine lv_iload_n hx hb dX6_number_63 rfl (lv_at hl 1 rfl) ?_
                      have hFc := zw_free hD hS hA
                      refine va_callv (va_runV (As := [.int v3_46, .int v2_36]) (rest := []) ⟨hx, hb, hml, hown, hg⟩ (k_X6_giveTo l g _ ad pe ct44 v3_46 v2_36 (by first | omega | decide) hI) (cwV 2 hg (z_gV mm_704 mm_706 mm_28 mm_111 mm_707) rfl rfl rfl (by decide +kernel) ⟨Nat.le_of_ble_eq_true rfl, Nat.le_of_ble_eq_true rfl⟩) ⟨(zA.pre [.ref (ad 10), .int v3_46, .int v2_36] hP hK hD hN).1, va_recv hK hP (ci := 6) (q0 := 10) rfl (zw_at (by omega) hs47), (zA.pre [.ref (ad 10), .int v3_46, .int v2_36] hP hK hD hN).2⟩ rfl rfl hl.1 rfl (lv_room (Nat.le_of_ble_eq_true rfl)) dX6_number_64 ⟨Nat.le_of_ble_eq_true rfl, Nat.le_of_ble_eq_true rfl⟩) hS (fun q _ h => hFc q h) hFc (fun _ t H1 locs ht hvm hr61 hB hz1 hk1 hS => ?_)
                      obtain ⟨ct62, hP1, hD1, hI⟩ := hB
                      rw [ht] at hP1
                      have hD := hD1.weaken (fun _ _ _ h => hFc _ h)
                      generalize H1 = H at hP1 hS ⊢
                      have hP := hP1
                      refine W.widen (k := 0) (n := 0) (Nat.le_refl _) (Nat.le_refl _) ?_
                      obtain ⟨x63, ex63⟩ : ∃ y : Int32, y = v3_46 + (-1) := ⟨_, rfl⟩
                      have tx63 : x63.toInt = v3_46.toInt + (-1) := by rw [ex63]; exact z_add rfl (by decide : ((-1) : Int32).toInt = (-1)) (by omega) (by omega)
                      refine lv_iinc (v := x63) (lv' := [(3, .int x63), (2, .int v2_36), (1, .int x10), (0, .ref (ad 10))]) hx hb dX6_number_67 hl (k := 0) rfl (by rw [ex63]; rfl) (by decide) rfl (fun ls hl => ?_)
                      refine lv_goto (tgt := 46) hx hb dX6_number_70 (by decide) ?_
                      exact ih46 x63 ct62 _ _ ls (by omega) (by first | omega | decide) hI hP hD hS (lv_sub hl [0, 1, 2, 3] rfl)
              exact loop46 ((x43.toInt + 1 : Int).toNat + 1) x43 ct29 _ _ ls (by omega) (by first | omega | decide) hI hP hD hS (lv_sub hl [0, 1, 2, 3] rfl)
        exact loop36 ((16 - (0 : Int32).toInt : Int).toNat + 1) (0 : Int32) ct25 _ _ ls (by omega) (by first | omega | decide) hI hP hD hS (lv_sub hl [0, 1, 2] rfl)
      · skip
        have c12 : ¬ (x10.toInt ≤ v2_9.toInt) := fun q => c12 ((z_le rfl rfl).mpr q)
        refine lv_aload_n hx hb dX6_number_14 rfl (lv_at hl 2 rfl) ?_
        obtain ⟨lns65, liv66, lak67, fnd68, h69, h70, h71, h72, hs64⟩ := a8_10 hI
        refine va_get (D := g.1) (ci := 6) (v := .ref (ad 15)) (C := RX6) (T := TX6) (N := 10) hx hb hg inG6 hown hK hP 10 (zw_at (by omega) hs64) rfl 8 (by decide) (hg _ mm_187) (fun _ h9 => h9) rfl dX6_number_15 ?_
        refine lv_iload_n hx hb dX6_number_18 rfl (lv_at hl 0 rfl) ?_
        refine lv_lconst (v := 0) hx hb dX6_number_19 (by decide) ?_
        obtain ⟨f74, hs73⟩ := a8_15 hI
        refine va_last hx hb hK hP hD hS 15 1 (zw_at (by omega) hs73) rfl (z_in rfl (by omega) (by omega)) dX6_number_20 (fun H locs hP hD hS => ?_)
        have hP : zP g ((zw 126 ad ct11).set 15 (ad 15, .inl (g.2 1, 256, .inr (.inl (vp_updL f74 (Int32.toNatClampNeg v2_9) 0))))) H := hP
        have hD : va_D A ((zw 126 ad ct11).set 15 (ad 15, .inl (g.2 1, 256, .inr (.inl (vp_updL f74 (Int32.toNatClampNeg v2_9) 0))))) := hD
        rw [zw_set (by omega)] at hP hD
        obtain ⟨ct76, ec77⟩ : ∃ z : Nat → va_E, z = va_up ct11 15 (.inl (g.2 1, 256, .inr (.inl (vp_updL f74 (Int32.toNatClampNeg v2_9) 0)))) := ⟨_, rfl⟩
        rw [← ec77] at hP hD
        have hI : Inv8 g ad pe ct76 := by rw [ec77]; exact up8 hI (i8_15 ⟨_, rfl⟩)
        have hs78 : ct76 10 = .inr (6, [.int lns65, .int liv66, .int lak67, .int fnd68, .ref (ad 11), .ref (ad 12), .ref (ad 13), .ref (ad 14), .ref (ad 15), .ref (ad 16)]) := by rw [ec77, va_up_ne _ _ (by omega)]; exact hs64
        have hs79 : ct76 15 = .inl (g.2 1, 256, .inr (.inl (vp_updL f74 (Int32.toNatClampNeg v2_9) 0))) := by rw [ec77]; exact va_up_self _ _ _
        obtain ⟨x80, ex80⟩ : ∃ y : Int32, y = v2_9 + 1 := ⟨_, rfl⟩
        have tx80 : x80.toInt = v2_9.toInt + 1 := by rw [ex80]; exact z_add rfl (by decide : (1 : Int32).toInt = 1) (by omega) (by omega)
        refine lv_iinc (v := x80) (lv' := [(2, .int x80), (1, .int x10), (0, .ref (ad 10))]) hx hb dX6_number_21 hl (k := 0) rfl (by rw [ex80]; rfl) (by decide) rfl (fun ls hl => ?_)
        refine lv_goto (tgt := 9) hx hb dX6_number_24 (by decide) ?_
        exact ih9 x80 ct76 _ _ ls (by omega) (by first | omega | decide) hI hP hD hS (lv_sub hl [0, 1, 2] rfl)
  exact loop9 ((256 - (0 : Int32).toInt : Int).toNat + 1) (0 : Int32) ct _ _ ls (by omega) (by first | omega | decide) hI hP hD hS (lv_sub hl [0, 1, 2] rfl)

set_option maxHeartbeats 4000000 in
set_option maxRecDepth 100000 in
theorem k_X6_least (l : Launch) (g : zG) (sz : Nat) (ad : Nat → Nat) (pe : Int32) (ct : Nat → va_E) (i0 : Int32) (hI : Inv8 g ad pe ct) : Met l yX6_least (zW yX6_least cX6_least 4 (some .int)) ({ frames := 3, cells := 0, slots := 0, locals := 65 }) (va_Pc [.ref (ad 10), .int i0] (zA g (zw 126 ad ct) sz)) (va_Qi (fun (r : Int32) (_ : Unit) => (True)) (fun _ t => ∃ ct2 : Nat → va_E, zP g (zw 126 ad ct2) t.heap ∧ va_D (va_A (zw 126 ad ct) sz) (zw 126 ad ct2) ∧ Inv8 g ad pe ct2) (va_A (zw 126 ad ct) sz)) 0 0 (va_A (zw 126 ad ct) sz) := by
  refine Met.ofW (cc := cX6_least) (maxL := 4) (ret := (some .int)) (by decide) rfl ?_
  intro p e s m args below meth c s₁ B hml hv
  obtain ⟨rfl, hsz, hP, hK, hD0, hN⟩ := hv
  have hx := B.exec
  have hb := B.bytes
  have hr := B.returns
  have hg := zW.law (atoms_spec (ws := (zW yX6_least cX6_least 4 (some .int))) B.pre)
  have hown : s.vm.findClass RX6 = some m.cls := findClass_of_methodNamed B.named
  have hlocks := B.notSynchronized
  have hpe0 := hI.1
  subst hsz
  have hD := hD0.self (sz := s.heap.size)
  generalize hAe : va_A (zw 126 ad ct) s.heap.size = A at hD ⊢
  have hA : ∀ q : Nat, s.heap.size ≤ q → A q := fun q h => by rw [← hAe]; exact Or.inr h
  have hS : va_S A s.heap s.heap [] := va_S.rf
  have hl := lv_entry ([.ref (ad 10), .int i0]) (n := 4) (Nat.le_of_ble_eq_true rfl)
  rw [lg_entry_eq]
  generalize (lg_sl ([.ref (ad 10), .int i0]) ++ List.replicate (4 - (lg_sl ([.ref (ad 10), .int i0])).length) Slot.unset).toArray = ls at hl ⊢
  have hl : lv_has ls 4 [(0, .ref (ad 10)), (1, .int i0)] := hl
  have rg_i0 := z_rng i0
  refine lv_iconst (v := (-1)) hx hb dX6_least_0 (by decide) ?_
  refine lv_istore_n (lv' := [(2, .int (-1)), (0, .ref (ad 10)), (1, .int i0)]) hx hb dX6_least_1 rfl hl (by decide) rfl (fun ls hl => ?_)
  refine lv_iconst (v := 0) hx hb dX6_least_2 (by decide) ?_
  refine lv_istore_n (lv' := [(3, .int 0), (2, .int (-1)), (0, .ref (ad 10)), (1, .int i0)]) hx hb dX6_least_3 rfl hl (by decide) rfl (fun ls hl => ?_)
  have loop4 : ∀ (n4 : Nat) (v3_4 : Int32) (v2_4 : Int32) (ct1 : Nat → va_E) (H : Heap) (locs : List Loc) (ls : Array Slot), ((8 - v3_4.toInt : Int).toNat < n4) → (0 ≤ v3_4.toInt ∧ v3_4.toInt ≤ 8) → (Inv8 g ad pe ct1) → zP g (zw 126 ad ct1) H → va_D A (zw 126 ad ct1) → va_S A s.heap H locs → lv_has ls 4 [(3, .int v3_4), (2, .int v2_4), (0, .ref (ad 10)), (1, .int i0)] → W p l e (headSpec (zW yX6_least cX6_least 4 (some .int)) ({ frames := 3, cells := 0, slots := 0, locals := 65 })).room s m ([.ref (ad 10), .int i0] : List Value).toArray below meth c H locs 0 0 (MQ below (va_Qi (fun (r : Int32) (_ : Unit) => (True)) (fun _ t => ∃ ct2 : Nat → va_E, zP g (zw 126 ad ct2) t.heap ∧ va_D A (zw 126 ad ct2) ∧ Inv8 g ad pe ct2) A) ([.ref (ad 10), .int i0] : List Value).toArray s 0 0 A) (F0 m 4 ls []) := by
    intro n4
    induction n4 with
    | zero =>
      intro v3_4 v2_4 ct1 H locs ls hn4 b3_4 hI hP hD hS hl
      exact absurd hn4 (Nat.not_lt_zero _)
    | succ n4 ih4 =>
      intro v3_4 v2_4 ct1 H locs ls hn4 b3_4 hI hP hD hS hl
      refine lv_iload_n hx hb dX6_least_4 rfl (lv_at hl 0 rfl) ?_
      refine lv_iload_n hx hb dX6_least_5 rfl (lv_at hl 3 rfl) ?_
      refine lv_icmp_gt (tgt := 67) hx hb dX6_least_6 (by decide) (fun c2 => ?_) (fun c2 => ?_)
      · skip
        have c2 : i0.toInt < v3_4.toInt := (z_lt rfl rfl).mp c2
        refine lv_iload_n hx hb dX6_least_67 rfl (lv_at hl 1 rfl) ?_
        exact W.iret (v := v2_4) hx hb hr (fun t ht hW => ⟨⟨v2_4, (), rfl, trivial, ct1, by rw [ht]; exact hP, hD, hI⟩, hS.F ht⟩) hS.2.2 dX6_least_68
      · skip
        have c2 : ¬ (i0.toInt < v3_4.toInt) := fun q => c2 ((z_lt rfl rfl).mpr q)
        refine lv_iload_n hx hb dX6_least_9 rfl (lv_at hl 0 rfl) ?_
        refine lv_aload_n hx hb dX6_least_10 rfl (lv_at hl 2 rfl) ?_
        obtain ⟨lns4, liv5, lak6, fnd7, h8, h9, h10, h11, hs3⟩ := a8_10 hI
        refine va_get (D := g.1) (ci := 6) (v := .int lns4) (C := RX6) (T := TX6) (N := 10) hx hb hg inG6 hown hK hP 10 (zw_at (by omega) hs3) rfl 0 (by decide) (hg _ mm_172) (fun _ h9 => h9) rfl dX6_least_11 ?_
        refine lv_icmp_ge (tgt := 67) hx hb dX6_least_14 (by decide) (fun c12 => ?_) (fun c12 => ?_)
        · skip
          have c12 : lns4.toInt ≤ v3_4.toInt := (z_le rfl rfl).mp c12
          refine lv_iload_n hx hb dX6_least_67 rfl (lv_at hl 1 rfl) ?_
          exact W.iret (v := v2_4) hx hb hr (fun t ht hW => ⟨⟨v2_4, (), rfl, trivial, ct1, by rw [ht]; exact hP, hD, hI⟩, hS.F ht⟩) hS.2.2 dX6_least_68
        · skip
          have c12 : ¬ (lns4.toInt ≤ v3_4.toInt) := fun q => c12 ((z_le rfl rfl).mpr q)
          refine lv_aload_n hx hb dX6_least_17 rfl (lv_at hl 2 rfl) ?_
          refine va_get (D := g.1) (ci := 6) (v := .int liv5) (C := RX6) (T := TX6) (N := 10) hx hb hg inG6 hown hK hP 10 (zw_at (by omega) hs3) rfl 1 (by decide) (hg _ mm_174) (fun _ h9 => h9) rfl dX6_least_18 ?_
          refine lv_iload_n hx hb dX6_least_21 rfl (lv_at hl 0 rfl) ?_
          refine lv_ishr hx hb dX6_least_22 ?_
          refine lv_topi (fun x13 ex13 => ?_)
          have tx13 := z_shr (x := liv5) rfl (by omega) v3_4
          rw [← ex13] at tx13
          refine lv_iconst (v := 1) hx hb dX6_least_23 (by decide) ?_
          refine lv_iand hx hb dX6_least_24 ?_
          refine lv_topi (fun x14 ex14 => ?_)
          have tx14 := z_andr (x := x13) (y := 1) (by decide : (1 : Int32).toInt = 1) (by omega)
          rw [← ex14] at tx14
          refine lv_iconst (v := 1) hx hb dX6_least_25 (by decide) ?_
          refine lv_icmp_ne (tgt := 61) hx hb dX6_least_26 (by decide) (fun c15 => ?_) (fun c15 => ?_)
          · skip
            have c15 : ¬ (x14.toInt = 1) := fun q => c15 ((z_eq rfl (by decide : (1 : Int32).toInt = 1)).mpr q)
            obtain ⟨x16, ex16⟩ : ∃ y : Int32, y = v3_4 + 1 := ⟨_, rfl⟩
            have tx16 : x16.toInt = v3_4.toInt + 1 := by rw [ex16]; exact z_add rfl (by decide : (1 : Int32).toInt = 1) (by omega) (by omega)
            refine lv_iinc (v := x16) (lv' := [(3, .int x16), (2, .int v2_4), (0, .ref (ad 10)), (1, .int i0)]) hx hb dX6_least_61 hl (k := 0) rfl (by rw [ex16]; rfl) (by decide) rfl (fun ls hl => ?_)
            refine lv_goto (tgt := 4) hx hb dX6_least_64 (by decide) ?_
            exact ih4 x16 v2_4 ct1 _ _ ls (by omega) (by first | omega | decide) hI hP hD hS (lv_sub hl [0, 1, 2, 3] rfl)
          · skip
            have c15 : x14.toInt = 1 := (z_eq rfl (by decide : (1 : Int32).toInt = 1)).mp c15
            refine lv_aload_n hx hb dX6_least_29 rfl (lv_at hl 2 rfl) ?_
            have hFc := zw_free hD hS hA
            refine va_callv (va_runV (As := []) (rest := []) ⟨hx, hb, hml, hown, hg⟩ (k_X6_weigh l g _ ad pe ct1  hI) (cwV 0 hg (z_gV mm_743 mm_721 mm_722 mm_111 mm_723) rfl rfl rfl (by decide +kernel) ⟨Nat.le_of_ble_eq_true rfl, Nat.le_of_ble_eq_true rfl⟩) ⟨(zA.pre [.ref (ad 10)] hP hK hD hN).1, va_recv hK hP (ci := 6) (q0 := 10) rfl (zw_at (by omega) hs3), (zA.pre [.ref (ad 10)] hP hK hD hN).2⟩ rfl rfl hl.1 rfl (lv_room (Nat.le_of_ble_eq_true rfl)) dX6_least_30 ⟨Nat.le_of_ble_eq_true rfl, Nat.le_of_ble_eq_true rfl⟩) hS (fun q _ h => hFc q h) hFc (fun _ t H1 locs ht hvm hr17 hB hz1 hk1 hS => ?_)
            obtain ⟨ct18, hP1, hD1, hI⟩ := hB
            rw [ht] at hP1
            have hD := hD1.weaken (fun _ _ _ h => hFc _ h)
            generalize H1 = H at hP1 hS ⊢
            have hP := hP1
            refine W.widen (k := 0) (n := 0) (Nat.le_refl _) (Nat.le_refl _) ?_
            refine lv_aload_n hx hb dX6_least_33 rfl (lv_at hl 2 rfl) ?_
            obtain ⟨lns20, liv21, lak22, fnd23, h24, h25, h26, h27, hs19⟩ := a8_10 hI
            refine va_get (D := g.1) (ci := 6) (v := .ref (ad 13)) (C := RX6) (T := TX6) (N := 10) hx hb hg inG6 hown hK hP 10 (zw_at (by omega) hs19) rfl 6 (by decide) (hg _ mm_184) (fun _ h9 => h9) rfl dX6_least_34 ?_
            refine lv_iload_n hx hb dX6_least_37 rfl (lv_at hl 0 rfl) ?_
            obtain ⟨f29, hp30, hs28⟩ := a8_13 hI
            refine va_iald hx hb hK hP 13 0 (zw_at (by omega) hs28) rfl (z_in rfl (by omega) (by omega)) dX6_least_38 ?_
            refine lv_topi (fun y31 ey31 => ?_)
            have hy31 := hp30 _ (z_clt (x := v3_4) rfl (by omega) (by omega))
            rw [← ey31] at hy31
            have hy31 : 0 ≤ y31.toInt ∧ y31.toInt ≤ 65535 := hy31
            refine zc_i (va_runSN (As := [.int y31]) (rest := []) ⟨hx, hb, hml, hown, hg⟩ (k_low16 l g ad pe ct18 y31 (by first | omega | decide) hI) ⟨va_cnB 1 hg (z_gN mm_746) rfl rfl rfl (hN.at 12 rfl) (hg _ mm_108) (by decide +kernel) ⟨Nat.le_of_ble_eq_true rfl, Nat.le_of_ble_eq_true rfl⟩, (hg _ mm_745), trivial⟩ (zR.pre [.int y31] hP hK hN) rfl rfl hl.1 rfl (lv_room (Nat.le_of_ble_eq_true rfl)) dX6_least_39 ⟨Nat.le_of_ble_eq_true rfl, Nat.le_of_ble_eq_true rfl⟩) (fun r32 hr32 => ?_)
            obtain ⟨hr32_0, hr32_1⟩ := hr32
            have hr32_0 : -1 ≤ r32.toInt := hr32_0
            have hr32_1 : r32.toInt ≤ 15 := hr32_1
            refine lv_istore_n (lv' := [(2, .int r32), (3, .int v3_4), (0, .ref (ad 10)), (1, .int i0)]) hx hb dX6_least_42 rfl hl (by decide) rfl (fun ls hl => ?_)
            refine lv_aload_n hx hb dX6_least_43 rfl (lv_at hl 2 rfl) ?_
            refine va_get (D := g.1) (ci := 6) (v := .ref (ad 12)) (C := RX6) (T := TX6) (N := 10) hx hb hg inG6 hown hK hP 10 (zw_at (by omega) hs19) rfl 5 (by decide) (hg _ mm_182) (fun _ h9 => h9) rfl dX6_least_44 ?_
            refine lv_iload_n hx hb dX6_least_47 rfl (lv_at hl 1 rfl) ?_
            refine lv_iload_n hx hb dX6_least_48 rfl (lv_at hl 0 rfl) ?_
            refine lv_iconst (v := (-1)) hx hb dX6_least_49 (by decide) ?_
            refine lv_icmp_ne (tgt := 57) hx hb dX6_least_50 (by decide) (fun c33 => ?_) (fun c33 => ?_)
            · skip
              have c33 : ¬ (r32.toInt = (-1)) := fun q => c33 ((z_eq rfl (by decide : ((-1) : Int32).toInt = (-1))).mpr q)
              refine lv_iconst (v := 1) hx hb dX6_least_57 (by decide) ?_
              refine lv_iload_n hx hb dX6_least_58 rfl (lv_at hl 0 rfl) ?_
              refine lv_ishl hx hb dX6_least_59 ?_
              refine lv_topi (fun x34 ex34 => ?_)
              have tx34 := z_shl1 (y := r32) rfl (by omega) (k := 15) (by decide) (by omega)
              rw [← ex34] at tx34
              obtain ⟨f36, hp37, hs35⟩ := a8_12 hI
              refine va_iast hx hb hK hP hD hS 12 0 (zw_at (by omega) hs35) rfl (z_in rfl (by omega) (by omega)) dX6_least_60 (fun H locs hP hD hS => ?_)
              have hp39 : ∀ j : Nat, j < 8 → (fun x : Int32 => 0 ≤ x.toInt ∧ x.toInt ≤ 65535) ((upd f36 (Int32.toNatClampNeg v3_4) x34) j) := fun j hj => by
                unfold upd
                by_cases q : j = Int32.toNatClampNeg v3_4
                · rw [if_pos q]; exact (show 0 ≤ (x34 : Int32).toInt ∧ (x34 : Int32).toInt ≤ 65535 from (by first | omega | decide))
                · rw [if_neg q]; exact hp37 j hj
              have hP : zP g ((zw 126 ad ct18).set 12 (ad 12, .inl (g.2 0, 8, .inl (upd f36 (Int32.toNatClampNeg v3_4) x34)))) H := hP
              have hD : va_D A ((zw 126 ad ct18).set 12 (ad 12, .inl (g.2 0, 8, .inl (upd f36 (Int32.toNatClampNeg v3_4) x34)))) := hD
              rw [zw_set (by omega)] at hP hD
              obtain ⟨ct40, ec41⟩ : ∃ z : Nat → va_E, z = va_up ct18 12 (.inl (g.2 0, 8, .inl (upd f36 (Int32.toNatClampNeg v3_4) x34))) := ⟨_, rfl⟩
              rw [← ec41] at hP hD
              have hI : Inv8 g ad pe ct40 := by rw [ec41]; exact up8 hI (i8_12 ⟨_, hp39, rfl⟩)
              have hs42 : ct40 10 = .inr (6, [.int lns20, .int liv21, .int lak22, .int fnd23, .ref (ad 11), .ref (ad 12), .ref (ad 13), .ref (ad 14), .ref (ad 15), .ref (ad 16)]) := by rw [ec41, va_up_ne _ _ (by omega)]; exact hs19
              have hs43 : ct40 13 = .inl (g.2 0, 8, .inl f29) := by rw [ec41, va_up_ne _ _ (by omega)]; exact hs28
              have hs44 : ct40 12 = .inl (g.2 0, 8, .inl (upd f36 (Int32.toNatClampNeg v3_4) x34)) := by rw [ec41]; exact va_up_self _ _ _
              obtain ⟨x45, ex45⟩ : ∃ y : Int32, y = v3_4 + 1 := ⟨_, rfl⟩
              have tx45 : x45.toInt = v3_4.toInt + 1 := by rw [ex45]; exact z_add rfl (by decide : (1 : Int32).toInt = 1) (by omega) (by omega)
              refine lv_iinc (v := x45) (lv' := [(3, .int x45), (2, .int r32), (0, .ref (ad 10)), (1, .int i0)]) hx hb dX6_least_61 hl (k := 1) rfl (by rw [ex45]; rfl) (by decide) rfl (fun ls hl => ?_)
              refine lv_goto (tgt := 4) hx hb dX6_least_64 (by decide) ?_
              exact ih4 x45 r32 ct40 _ _ ls (by omega) (by first | omega | decide) hI hP hD hS (lv_sub hl [0, 1, 2, 3] rfl)
            · skip
              have c33 : r32.toInt = (-1) := (z_eq rfl (by decide : ((-1) : Int32).toInt = (-1))).mp c33
              refine lv_iconst (v := 0) hx hb dX6_least_53 (by decide) ?_
              refine lv_goto (tgt := 60) hx hb dX6_least_54 (by decide) ?_
              obtain ⟨f47, hp48, hs46⟩ := a8_12 hI
              refine va_iast hx hb hK hP hD hS 12 0 (zw_at (by omega) hs46) rfl (z_in rfl (by omega) (by omega)) dX6_least_60 (fun H locs hP hD hS => ?_)
              have hp50 : ∀ j : Nat, j < 8 → (fun x : Int32 => 0 ≤ x.toInt ∧ x.toInt ≤ 65535) ((upd f47 (Int32.toNatClampNeg v3_4) 0) j) := fun j hj => by
                unfold upd
                by_cases q : j = Int32.toNatClampNeg v3_4
                · rw [if_pos q]; exact (show 0 ≤ (0 : Int32).toInt ∧ (0 : Int32).toInt ≤ 65535 from (by first | omega | decide))
                · rw [if_neg q]; exact hp48 j hj
              have hP : zP g ((zw 126 ad ct18).set 12 (ad 12, .inl (g.2 0, 8, .inl (upd f47 (Int32.toNatClampNeg v3_4) 0)))) H := hP
              have hD : va_D A ((zw 126 ad ct18).set 12 (ad 12, .inl (g.2 0, 8, .inl (upd f47 (Int32.toNatClampNeg v3_4) 0)))) := hD
              rw [zw_set (by omega)] at hP hD
              obtain ⟨ct51, ec52⟩ : ∃ z : Nat → va_E, z = va_up ct18 12 (.inl (g.2 0, 8, .inl (upd f47 (Int32.toNatClampNeg v3_4) 0))) := ⟨_, rfl⟩
              rw [← ec52] at hP hD
              have hI : Inv8 g ad pe ct51 := by rw [ec52]; exact up8 hI (i8_12 ⟨_, hp50, rfl⟩)
              have hs53 : ct51 10 = .inr (6, [.int lns20, .int liv21, .int lak22, .int fnd23, .ref (ad 11), .ref (ad 12), .ref (ad 13), .ref (ad 14), .ref (ad 15), .ref (ad 16)]) := by rw [ec52, va_up_ne _ _ (by omega)]; exact hs19
              have hs54 : ct51 13 = .inl (g.2 0, 8, .inl f29) := by rw [ec52, va_up_ne _ _ (by omega)]; exact hs28
              have hs55 : ct51 12 = .inl (g.2 0, 8, .inl (upd f47 (Int32.toNatClampNeg v3_4) 0)) := by rw [ec52]; exact va_up_self _ _ _
              obtain ⟨x56, ex56⟩ : ∃ y : Int32, y = v3_4 + 1 := ⟨_, rfl⟩
              have tx56 : x56.toInt = v3_4.toInt + 1 := by rw [ex56]; exact z_add rfl (by decide : (1 : Int32).toInt = 1) (by omega) (by omega)
              refine lv_iinc (v := x56) (lv' := [(3, .int x56), (2, .int r32), (0, .ref (ad 10)), (1, .int i0)]) hx hb dX6_least_61 hl (k := 1) rfl (by rw [ex56]; rfl) (by decide) rfl (fun ls hl => ?_)
              refine lv_goto (tgt := 4) hx hb dX6_least_64 (by decide) ?_
              exact ih4 x56 r32 ct51 _ _ ls (by omega) (by first | omega | decide) hI hP hD hS (lv_sub hl [0, 1, 2, 3] rfl)
  exact loop4 ((8 - (0 : Int32).toInt : Int).toNat + 1) (0 : Int32) (-1 : Int32) ct _ _ ls (by omega) (by first | omega | decide) hI hP hD hS (lv_sub hl [0, 1, 2, 3] rfl)

set_option maxHeartbeats 4000000 in
set_option maxRecDepth 100000 in
theorem k_X6_findSome (l : Launch) (g : zG) (sz : Nat) (ad : Nat → Nat) (pe : Int32) (ct : Nat → va_E) (hI : Inv8 g ad pe ct) : Met l yX6_findSome (zW yX6_findSome cX6_findSome 6 (some .boolean)) ({ frames := 1, cells := 0, slots := 0, locals := 20 }) (va_Pc [.ref (ad 10)] (zA g (zw 126 ad ct) sz)) (va_Qi (fun (r : Int32) (_ : Unit) => (r = 1) ∨ (r = 0)) (fun _ t => ∃ ct2 : Nat → va_E, zP g (zw 126 ad ct2) t.heap ∧ va_D (va_A (zw 126 ad ct) sz) (zw 126 ad ct2) ∧ Inv8 g ad pe ct2) (va_A (zw 126 ad ct) sz)) 0 0 (va_A (zw 126 ad ct) sz) := by
  refine Met.ofW (cc := cX6_findSome) (maxL := 6) (ret := (some .boolean)) (by decide) rfl ?_
  intro p e s m args below meth c s₁ B hml hv
  obtain ⟨rfl, hsz, hP, hK, hD0, hN⟩ := hv
  have hx := B.exec
  have hb := B.bytes
  have hr := B.returns
  have hg := zW.law (atoms_spec (ws := (zW yX6_findSome cX6_findSome 6 (some .boolean))) B.pre)
  have hown : s.vm.findClass RX6 = some m.cls := findClass_of_methodNamed B.named
  have hlocks := B.notSynchronized
  have hpe0 := hI.1
  subst hsz
  have hD := hD0.self (sz := s.heap.size)
  generalize hAe : va_A (zw 126 ad ct) s.heap.size = A at hD ⊢
  have hA : ∀ q : Nat, s.heap.size ≤ q → A q := fun q h => by rw [← hAe]; exact Or.inr h
  have hS : va_S A s.heap s.heap [] := va_S.rf
  have hl := lv_entry ([.ref (ad 10)]) (n := 6) (Nat.le_of_ble_eq_true rfl)
  rw [lg_entry_eq]
  generalize (lg_sl ([.ref (ad 10)]) ++ List.replicate (6 - (lg_sl ([.ref (ad 10)])).length) Slot.unset).toArray = ls at hl ⊢
  have hl : lv_has ls 6 [(0, .ref (ad 10))] := hl
  refine lv_iconst (v := 0) hx hb dX6_findSome_0 (by decide) ?_
  refine lv_istore_n (lv' := [(1, .int 0), (0, .ref (ad 10))]) hx hb dX6_findSome_1 rfl hl (by decide) rfl (fun ls hl => ?_)
  refine lv_iconst (v := 0) hx hb dX6_findSome_2 (by decide) ?_
  refine lv_istore_n (lv' := [(2, .int 0), (1, .int 0), (0, .ref (ad 10))]) hx hb dX6_findSome_3 rfl hl (by decide) rfl (fun ls hl => ?_)
  refine lv_iconst (v := 0) hx hb dX6_findSome_4 (by decide) ?_
  refine lv_istore_n (lv' := [(3, .int 0), (2, .int 0), (1, .int 0), (0, .ref (ad 10))]) hx hb dX6_findSome_5 rfl hl (by decide) rfl (fun ls hl => ?_)
  refine lv_iconst (v := 0) hx hb dX6_findSome_6 (by decide) ?_
  refine lv_istore (lv' := [(4, .int 0), (3, .int 0), (2, .int 0), (1, .int 0), (0, .ref (ad 10))]) hx hb dX6_findSome_7 hl (by decide) rfl (fun ls hl => ?_)
  have loop9 : ∀ (n9 : Nat) (v4_9 : Int32) (v3_9 : Int32) (v2_9 : Int32) (v1_9 : Int32) (ct1 : Nat → va_E) (H : Heap) (locs : List Loc) (ls : Array Slot), ((8 - v4_9.toInt : Int).toNat < n9) → (0 ≤ v4_9.toInt ∧ v4_9.toInt ≤ 8) → (Inv8 g ad pe ct1) → zP g (zw 126 ad ct1) H → va_D A (zw 126 ad ct1) → va_S A s.heap H locs → lv_has ls 6 [(4, .int v4_9), (3, .int v3_9), (2, .int v2_9), (1, .int v1_9), (0, .ref (ad 10))] → W p l e (headSpec (zW yX6_findSome cX6_findSome 6 (some .boolean)) ({ frames := 1, cells := 0, slots := 0, locals := 20 })).room s m ([.ref (ad 10)] : List Value).toArray below meth c H locs 0 0 (MQ below (va_Qi (fun (r : Int32) (_ : Unit) => (r = 1) ∨ (r = 0)) (fun _ t => ∃ ct2 : Nat → va_E, zP g (zw 126 ad ct2) t.heap ∧ va_D A (zw 126 ad ct2) ∧ Inv8 g ad pe ct2) A) ([.ref (ad 10)] : List Value).toArray s 0 0 A) (F0 m 9 ls []) := by
    intro n9
    induction n9 with
    | zero =>
      intro v4_9 v3_9 v2_9 v1_9 ct1 H locs ls hn9 b4_9 hI hP hD hS hl
      exact absurd hn9 (Nat.not_lt_zero _)
    | succ n9 ih9 =>
      intro v4_9 v3_9 v2_9 v1_9 ct1 H locs ls hn9 b4_9 hI hP hD hS hl
      refine lv_iload hx hb dX6_findSome_9 (lv_at hl 0 rfl) ?_
      refine lv_aload_n hx hb dX6_findSome_11 rfl (lv_at hl 4 rfl) ?_
      obtain ⟨lns3, liv4, lak5, fnd6, h7, h8, h9, h10, hs2⟩ := a8_10 hI
      refine va_get (D := g.1) (ci := 6) (v := .int lns3) (C := RX6) (T := TX6) (N := 10) hx hb hg inG6 hown hK hP 10 (zw_at (by omega) hs2) rfl 0 (by decide) (hg _ mm_172) (fun _ h9 => h9) rfl dX6_findSome_12 ?_
      refine lv_icmp_ge (tgt := 79) hx hb dX6_findSome_15 (by decide) (fun c11 => ?_) (fun c11 => ?_)
      · skip
        have c11 : lns3.toInt ≤ v4_9.toInt := (z_le rfl rfl).mp c11
        refine lv_iconst (v := 0) hx hb dX6_findSome_79 (by decide) ?_
        refine lv_istore (lv' := [(4, .int 0), (3, .int v3_9), (2, .int v2_9), (1, .int v1_9), (0, .ref (ad 10))]) hx hb dX6_findSome_80 hl (by decide) rfl (fun ls hl => ?_)
        have loop82 : ∀ (n82 : Nat) (v4_82 : Int32) (ct12 : Nat → va_E) (H : Heap) (locs : List Loc) (ls : Array Slot), ((8 - v4_82.toInt : Int).toNat < n82) → (0 ≤ v4_82.toInt ∧ v4_82.toInt ≤ 8) → (Inv8 g ad pe ct12) → zP g (zw 126 ad ct12) H → va_D A (zw 126 ad ct12) → va_S A s.heap H locs → lv_has ls 6 [(4, .int v4_82), (3, .int v3_9), (2, .int v2_9), (1, .int v1_9), (0, .ref (ad 10))] → W p l e (headSpec (zW yX6_findSome cX6_findSome 6 (some .boolean)) ({ frames := 1, cells := 0, slots := 0, locals := 20 })).room s m ([.ref (ad 10)] : List Value).toArray below meth c H locs 0 0 (MQ below (va_Qi (fun (r : Int32) (_ : Unit) => (r = 1) ∨ (r = 0)) (fun _ t => ∃ ct2 : Nat → va_E, zP g (zw 126 ad ct2) t.heap ∧ va_D A (zw 126 ad ct2) ∧ Inv8 g ad pe ct2) A) ([.ref (ad 10)] : List Value).toArray s 0 0 A) (F0 m 82 ls []) := by
          intro n82
          induction n82 with
          | zero =>
            intro v4_82 ct12 H locs ls hn82 b4_82 hI hP hD hS hl
            exact absurd hn82 (Nat.not_lt_zero _)
          | succ n82 ih82 =>
            intro v4_82 ct12 H locs ls hn82 b4_82 hI hP hD hS hl
            refine lv_iload hx hb dX6_findSome_82 (lv_at hl 0 rfl) ?_
            refine lv_aload_n hx hb dX6_findSome_84 rfl (lv_at hl 4 rfl) ?_
            obtain ⟨lns14, liv15, lak16, fnd17, h18, h19, h20, h21, hs13⟩ := a8_10 hI
            refine va_get (D := g.1) (ci := 6) (v := .int lns14) (C := RX6) (T := TX6) (N := 10) hx hb hg inG6 hown hK hP 10 (zw_at (by omega) hs13) rfl 0 (by decide) (hg _ mm_172) (fun _ h9 => h9) rfl dX6_findSome_85 ?_
            refine lv_icmp_ge (tgt := 144) hx hb dX6_findSome_88 (by decide) (fun c22 => ?_) (fun c22 => ?_)
            · skip
              have c22 : lns14.toInt ≤ v4_82.toInt := (z_le rfl rfl).mp c22
              refine lv_aload_n hx hb dX6_findSome_144 rfl (lv_at hl 4 rfl) ?_
              refine lv_dup hx hb dX6_findSome_145 rfl ?_
              refine va_get (D := g.1) (ci := 6) (v := .int fnd17) (C := RX6) (T := TX6) (N := 10) hx hb hg inG6 hown hK hP 10 (zw_at (by omega) hs13) rfl 3 (by decide) (hg _ mm_178) (fun _ h9 => h9) rfl dX6_findSome_146 ?_
              refine lv_iload_n hx hb dX6_findSome_149 rfl (lv_at hl 1 rfl) ?_
              refine lv_ior hx hb dX6_findSome_150 ?_
              refine lv_topi (fun x23 ex23 => ?_)
              refine va_put (D := g.1) (ci := 6) (v := .int x23) (ty := .int) (C := RX6) (T := TX6) (N := 10) hx hb hg inG6 tyX6 tyX6_ok nmX6 hown hK hP hD hS 10 (zw_at (by omega) hs13) rfl 3 (by decide) (hg _ mm_178) (fun _ h9 => h9) rfl (by decide +kernel) rfl rfl (Nat.le_of_ble_eq_true rfl) dX6_findSome_151 (fun H locs hP hD hS => ?_)
              have hP : zP g ((zw 126 ad ct12).set 10 (ad 10, .inr (6, [.int lns14, .int liv15, .int lak16, .int x23, .ref (ad 11), .ref (ad 12), .ref (ad 13), .ref (ad 14), .ref (ad 15), .ref (ad 16)]))) H := hP
              have hD : va_D A ((zw 126 ad ct12).set 10 (ad 10, .inr (6, [.int lns14, .int liv15, .int lak16, .int x23, .ref (ad 11), .ref (ad 12), .ref (ad 13), .ref (ad 14), .ref (ad 15), .ref (ad 16)]))) := hD
              rw [zw_set (by omega)] at hP hD
              obtain ⟨ct24, ec25⟩ : ∃ z : Nat → va_E, z = va_up ct12 10 (.inr (6, [.int lns14, .int liv15, .int lak16, .int x23, .ref (ad 11), .ref (ad 12), .ref (ad 13), .ref (ad 14), .ref (ad 15), .ref (ad 16)])) := ⟨_, rfl⟩
              rw [← ec25] at hP hD
              have hI : Inv8 g ad pe ct24 := by rw [ec25]; exact up8 hI (i8_10 ⟨(lns14 : Int32), (liv15 : Int32), (lak16 : Int32), (x23 : Int32), (by first | omega | decide), (by first | omega | decide), (by first | omega | decide), (by first | omega | decide), rfl⟩)
              have hs26 : ct24 10 = .inr (6, [.int lns14, .int liv15, .int lak16, .int x23, .ref (ad 11), .ref (ad 12), .ref (ad 13), .ref (ad 14), .ref (ad 15), .ref (ad 16)]) := by rw [ec25]; exact va_up_self _ _ _
              refine lv_iload_n hx hb dX6_findSome_154 rfl (lv_at hl 1 rfl) ?_
              refine lv_if_eq (tgt := 162) hx hb dX6_findSome_155 (by decide) (fun c27 => ?_) (fun c27 => ?_)
              · skip
                have c27 : v3_9.toInt = 0 := (z_eq rfl (by decide : (0 : Int32).toInt = 0)).mp c27
                refine lv_iconst (v := 0) hx hb dX6_findSome_162 (by decide) ?_
                have q28 : (0 : Int32).toInt = 0 := by decide
                exact W.zret (v := 0) hx hb hr rfl (fun t ht hW => ⟨⟨0, (), rfl, by first | exact Or.inl ⟨rfl, by omega⟩ | exact Or.inr ⟨rfl, by omega⟩ | exact Or.inl rfl | exact Or.inr rfl | exact Or.inl ⟨rfl, by omega, by omega⟩ | exact (z_01 (by omega) (by omega)).symm, ct24, by rw [ht]; exact hP, hD, hI⟩, hS.F ht⟩) hS.2.2 dX6_findSome_163
              · skip
                have c27 : ¬ (v3_9.toInt = 0) := fun q => c27 ((z_eq rfl (by decide : (0 : Int32).toInt = 0)).mpr q)
                refine lv_iconst (v := 1) hx hb dX6_findSome_158 (by decide) ?_
                refine lv_goto (tgt := 163) hx hb dX6_findSome_159 (by decide) ?_
                have q29 : (1 : Int32).toInt = 1 := by decide
                exact W.zret (v := 1) hx hb hr rfl (fun t ht hW => ⟨⟨1, (), rfl, by first | exact Or.inl ⟨rfl, by omega⟩ | exact Or.inr ⟨rfl, by omega⟩ | exact Or.inl rfl | exact Or.inr rfl | exact Or.inl ⟨rfl, by omega, by omega⟩ | exact (z_01 (by omega) (by omega)).symm, ct24, by rw [ht]; exact hP, hD, hI⟩, hS.F ht⟩) hS.2.2 dX6_findSome_163
            · skip
              have c22 : ¬ (lns14.toInt ≤ v4_82.toInt) := fun q => c22 ((z_le rfl rfl).mpr q)
              refine lv_iload_n hx hb dX6_findSome_91 rfl (lv_at hl 1 rfl) ?_
              refine lv_iload hx hb dX6_findSome_92 (lv_at hl 0 rfl) ?_
              refine lv_ishr hx hb dX6_findSome_94 ?_
              refine lv_topi (fun x30 ex30 => ?_)
              refine lv_iconst (v := 1) hx hb dX6_findSome_95 (by decide) ?_
              refine lv_iand hx hb dX6_findSome_96 ?_
              refine lv_topi (fun x31 ex31 => ?_)
              have tx31 := z_andr (x := x30) (y := 1) (by decide : (1 : Int32).toInt = 1) (by omega)
              rw [← ex31] at tx31
              refine lv_iconst (v := 1) hx hb dX6_findSome_97 (by decide) ?_
              refine lv_icmp_ne (tgt := 117) hx hb dX6_findSome_98 (by decide) (fun c32 => ?_) (fun c32 => ?_)
              · skip
                have c32 : ¬ (x31.toInt = 1) := fun q => c32 ((z_eq rfl (by decide : (1 : Int32).toInt = 1)).mpr q)
                refine lv_iconst (v := 0) hx hb dX6_findSome_117 (by decide) ?_
                refine lv_istore (lv' := [(5, .int 0), (4, .int v4_82), (3, .int v3_9), (2, .int v2_9), (1, .int v1_9), (0, .ref (ad 10))]) hx hb dX6_findSome_118 hl (by decide) rfl (fun ls hl => ?_)
                refine lv_iload hx hb dX6_findSome_120 (lv_at hl 0 rfl) ?_
                refine lv_if_ne (tgt := 138) hx hb dX6_findSome_122 (by decide) (fun c33 => ?_) (fun c33 => ?_)
                · skip
                  exact absurd c33 (by decide)
                · skip
                  refine lv_aload_n hx hb dX6_findSome_125 rfl (lv_at hl 5 rfl) ?_
                  refine va_get (D := g.1) (ci := 6) (v := .ref (ad 16)) (C := RX6) (T := TX6) (N := 10) hx hb hg inG6 hown hK hP 10 (zw_at (by omega) hs13) rfl 9 (by decide) (hg _ mm_188) (fun _ h9 => h9) rfl dX6_findSome_126 ?_
                  refine lv_iload hx hb dX6_findSome_129 (lv_at hl 1 rfl) ?_
                  refine lv_dup2_11 hx hb dX6_findSome_131 rfl rfl ?_
                  obtain ⟨f35, hs34⟩ := a8_16 hI
                  refine va_iald hx hb hK hP 16 0 (zw_at (by omega) hs34) rfl (z_in rfl (by omega) (by omega)) dX6_findSome_132 ?_
                  refine lv_topi (fun y36 ey36 => ?_)
                  refine lv_iload_n hx hb dX6_findSome_133 rfl (lv_at hl 4 rfl) ?_
                  refine lv_iconst (v := (-1)) hx hb dX6_findSome_134 (by decide) ?_
                  refine lv_ixor hx hb dX6_findSome_135 ?_
                  refine lv_topi (fun x37 ex37 => ?_)
                  refine lv_iand hx hb dX6_findSome_136 ?_
                  refine lv_topi (fun x38 ex38 => ?_)
                  refine va_iast hx hb hK hP hD hS 16 0 (zw_at (by omega) hs34) rfl (z_in rfl (by omega) (by omega)) dX6_findSome_137 (fun H locs hP hD hS => ?_)
                  have hP : zP g ((zw 126 ad ct12).set 16 (ad 16, .inl (g.2 0, 8, .inl (upd f35 (Int32.toNatClampNeg v4_82) x38)))) H := hP
                  have hD : va_D A ((zw 126 ad ct12).set 16 (ad 16, .inl (g.2 0, 8, .inl (upd f35 (Int32.toNatClampNeg v4_82) x38)))) := hD
                  rw [zw_set (by omega)] at hP hD
                  obtain ⟨ct40, ec41⟩ : ∃ z : Nat → va_E, z = va_up ct12 16 (.inl (g.2 0, 8, .inl (upd f35 (Int32.toNatClampNeg v4_82) x38))) := ⟨_, rfl⟩
                  rw [← ec41] at hP hD
                  have hI : Inv8 g ad pe ct40 := by rw [ec41]; exact up8 hI (i8_16 ⟨_, rfl⟩)
                  have hs42 : ct40 10 = .inr (6, [.int lns14, .int liv15, .int lak16, .int fnd17, .ref (ad 11), .ref (ad 12), .ref (ad 13), .ref (ad 14), .ref (ad 15), .ref (ad 16)]) := by rw [ec41, va_up_ne _ _ (by omega)]; exact hs13
                  have hs43 : ct40 16 = .inl (g.2 0, 8, .inl (upd f35 (Int32.toNatClampNeg v4_82) x38)) := by rw [ec41]; exact va_up_self _ _ _
                  obtain ⟨x44, ex44⟩ : ∃ y : Int32, y = v4_82 + 1 := ⟨_, rfl⟩
                  have tx44 : x44.toInt = v4_82.toInt + 1 := by rw [ex44]; exact z_add rfl (by decide : (1 : Int32).toInt = 1) (by omega) (by omega)
                  refine lv_iinc (v := x44) (lv' := [(4, .int x44), (5, .int 0), (3, .int v3_9), (2, .int v2_9), (1, .int v1_9), (0, .ref (ad 10))]) hx hb dX6_findSome_138 hl (k := 1) rfl (by rw [ex44]; rfl) (by decide) rfl (fun ls hl => ?_)
                  refine lv_goto (tgt := 82) hx hb dX6_findSome_141 (by decide) ?_
                  exact ih82 x44 ct40 _ _ ls (by omega) (by first | omega | decide) hI hP hD hS (lv_sub hl [0, 2, 3, 4, 5] rfl)
              · skip
                have c32 : x31.toInt = 1 := (z_eq rfl (by decide : (1 : Int32).toInt = 1)).mp c32
                refine lv_iload_n hx hb dX6_findSome_101 rfl (lv_at hl 2 rfl) ?_
                refine lv_aload_n hx hb dX6_findSome_102 rfl (lv_at hl 4 rfl) ?_
                refine va_get (D := g.1) (ci := 6) (v := .ref (ad 16)) (C := RX6) (T := TX6) (N := 10) hx hb hg inG6 hown hK hP 10 (zw_at (by omega) hs13) rfl 9 (by decide) (hg _ mm_188) (fun _ h9 => h9) rfl dX6_findSome_103 ?_
                refine lv_iload hx hb dX6_findSome_106 (lv_at hl 0 rfl) ?_
                obtain ⟨f46, hs45⟩ := a8_16 hI
                refine va_iald hx hb hK hP 16 0 (zw_at (by omega) hs45) rfl (z_in rfl (by omega) (by omega)) dX6_findSome_108 ?_
                refine lv_topi (fun y47 ey47 => ?_)
                refine lv_iand hx hb dX6_findSome_109 ?_
                refine lv_topi (fun x48 ex48 => ?_)
                refine lv_if_ne (tgt := 117) hx hb dX6_findSome_110 (by decide) (fun c49 => ?_) (fun c49 => ?_)
                · skip
                  have c49 : ¬ (x48.toInt = 0) := fun q => c49 ((z_eq rfl (by decide : (0 : Int32).toInt = 0)).mpr q)
                  refine lv_iconst (v := 0) hx hb dX6_findSome_117 (by decide) ?_
                  refine lv_istore (lv' := [(5, .int 0), (4, .int v4_82), (3, .int v3_9), (2, .int v2_9), (1, .int v1_9), (0, .ref (ad 10))]) hx hb dX6_findSome_118 hl (by decide) rfl (fun ls hl => ?_)
                  refine lv_iload hx hb dX6_findSome_120 (lv_at hl 0 rfl) ?_
                  refine lv_if_ne (tgt := 138) hx hb dX6_findSome_122 (by decide) (fun c50 => ?_) (fun c50 => ?_)
                  · skip
                    exact absurd c50 (by decide)
                  · skip
                    refine lv_aload_n hx hb dX6_findSome_125 rfl (lv_at hl 5 rfl) ?_
                    refine va_get (D := g.1) (ci := 6) (v := .ref (ad 16)) (C := RX6) (T := TX6) (N := 10) hx hb hg inG6 hown hK hP 10 (zw_at (by omega) hs13) rfl 9 (by decide) (hg _ mm_188) (fun _ h9 => h9) rfl dX6_findSome_126 ?_
                    refine lv_iload hx hb dX6_findSome_129 (lv_at hl 1 rfl) ?_
                    refine lv_dup2_11 hx hb dX6_findSome_131 rfl rfl ?_
                    refine va_iald hx hb hK hP 16 0 (zw_at (by omega) hs45) rfl (z_in rfl (by omega) (by omega)) dX6_findSome_132 ?_
                    refine lv_topi (fun y51 ey51 => ?_)
                    refine lv_iload_n hx hb dX6_findSome_133 rfl (lv_at hl 4 rfl) ?_
                    refine lv_iconst (v := (-1)) hx hb dX6_findSome_134 (by decide) ?_
                    refine lv_ixor hx hb dX6_findSome_135 ?_
                    refine lv_topi (fun x52 ex52 => ?_)
                    refine lv_iand hx hb dX6_findSome_136 ?_
                    refine lv_topi (fun x53 ex53 => ?_)
                    refine va_iast hx hb hK hP hD hS 16 0 (zw_at (by omega) hs45) rfl (z_in rfl (by omega) (by omega)) dX6_findSome_137 (fun H locs hP hD hS => ?_)
                    have hP : zP g ((zw 126 ad ct12).set 16 (ad 16, .inl (g.2 0, 8, .inl (upd f46 (Int32.toNatClampNeg v4_82) x53)))) H := hP
                    have hD : va_D A ((zw 126 ad ct12).set 16 (ad 16, .inl (g.2 0, 8, .inl (upd f46 (Int32.toNatClampNeg v4_82) x53)))) := hD
                    rw [zw_set (by omega)] at hP hD
                    obtain ⟨ct55, ec56⟩ : ∃ z : Nat → va_E, z = va_up ct12 16 (.inl (g.2 0, 8, .inl (upd f46 (Int32.toNatClampNeg v4_82) x53))) := ⟨_, rfl⟩
                    rw [← ec56] at hP hD
                    have hI : Inv8 g ad pe ct55 := by rw [ec56]; exact up8 hI (i8_16 ⟨_, rfl⟩)
                    have hs57 : ct55 10 = .inr (6, [.int lns14, .int liv15, .int lak16, .int fnd17, .ref (ad 11), .ref (ad 12), .ref (ad 13), .ref (ad 14), .ref (ad 15), .ref (ad 16)]) := by rw [ec56, va_up_ne _ _ (by omega)]; exact hs13
                    have hs58 : ct55 16 = .inl (g.2 0, 8, .inl (upd f46 (Int32.toNatClampNeg v4_82) x53)) := by rw [ec56]; exact va_up_self _ _ _
                    obtain ⟨x59, ex59⟩ : ∃ y : Int32, y = v4_82 + 1 := ⟨_, rfl⟩
                    have tx59 : x59.toInt = v4_82.toInt + 1 := by rw [ex59]; exact z_add rfl (by decide : (1 : Int32).toInt = 1) (by omega) (by omega)
                    refine lv_iinc (v := x59) (lv' := [(4, .int x59), (5, .int 0), (3, .int v3_9), (2, .int v2_9), (1, .int v1_9), (0, .ref (ad 10))]) hx hb dX6_findSome_138 hl (k := 1) rfl (by rw [ex59]; rfl) (by decide) rfl (fun ls hl => ?_)
                    refine lv_goto (tgt := 82) hx hb dX6_findSome_141 (by decide) ?_
                    exact ih82 x59 ct55 _ _ ls (by omega) (by first | omega | decide) hI hP hD hS (lv_sub hl [0, 2, 3, 4, 5] rfl)
                · skip
                  have c49 : x48.toInt = 0 := (z_eq rfl (by decide : (0 : Int32).toInt = 0)).mp c49
                  refine lv_iconst (v := 1) hx hb dX6_findSome_113 (by decide) ?_
                  refine lv_goto (tgt := 118) hx hb dX6_findSome_114 (by decide) ?_
                  refine lv_istore (lv' := [(5, .int 1), (4, .int v4_82), (3, .int v3_9), (2, .int v2_9), (1, .int v1_9), (0, .ref (ad 10))]) hx hb dX6_findSome_118 hl (by decide) rfl (fun ls hl => ?_)
                  refine lv_iload hx hb dX6_findSome_120 (lv_at hl 0 rfl) ?_
                  refine lv_if_ne (tgt := 138) hx hb dX6_findSome_122 (by decide) (fun c60 => ?_) (fun c60 => ?_)
                  · skip
                    obtain ⟨x61, ex61⟩ : ∃ y : Int32, y = v4_82 + 1 := ⟨_, rfl⟩
                    have tx61 : x61.toInt = v4_82.toInt + 1 := by rw [ex61]; exact z_add rfl (by decide : (1 : Int32).toInt = 1) (by omega) (by omega)
                    refine lv_iinc (v := x61) (lv' := [(4, .int x61), (5, .int 1), (3, .int v3_9), (2, .int v2_9), (1, .int v1_9), (0, .ref (ad 10))]) hx hb dX6_findSome_138 hl (k := 1) rfl (by rw [ex61]; rfl) (by decide) rfl (fun ls hl => ?_)
                    refine lv_goto (tgt := 82) hx hb dX6_findSome_141 (by decide) ?_
                    exact ih82 x61 ct12 _ _ ls (by omega) (by first | omega | decide) hI hP hD hS (lv_sub hl [0, 2, 3, 4, 5] rfl)
                  · skip
                    exact absurd c60 (by decide)
        exact loop82 ((8 - (0 : Int32).toInt : Int).toNat + 1) (0 : Int32) ct1 _ _ ls (by omega) (by first | omega | decide) hI hP hD hS (lv_sub hl [0, 1, 2, 3, 4] rfl)
      · skip
        have c11 : ¬ (lns3.toInt ≤ v4_9.toInt) := fun q => c11 ((z_le rfl rfl).mpr q)
        refine lv_aload_n hx hb dX6_findSome_18 rfl (lv_at hl 4 rfl) ?_
        refine va_get (D := g.1) (ci := 6) (v := .int fnd6) (C := RX6) (T := TX6) (N := 10) hx hb hg inG6 hown hK hP 10 (zw_at (by omega) hs2) rfl 3 (by decide) (hg _ mm_178) (fun _ h9 => h9) rfl dX6_findSome_19 ?_
        refine lv_iload hx hb dX6_findSome_22 (lv_at hl 0 rfl) ?_
        refine lv_ishr hx hb dX6_findSome_24 ?_
        refine lv_topi (fun x62 ex62 => ?_)
        refine lv_iconst (v := 1) hx hb dX6_findSome_25 (by decide) ?_
        refine lv_iand hx hb dX6_findSome_26 ?_
        refine lv_topi (fun x63 ex63 => ?_)
        have tx63 := z_andr (x := x62) (y := 1) (by decide : (1 : Int32).toInt = 1) (by omega)
        rw [← ex63] at tx63
        refine lv_if_ne (tgt := 73) hx hb dX6_findSome_27 (by decide) (fun c64 => ?_) (fun c64 => ?_)
        · skip
          have c64 : ¬ (x63.toInt = 0) := fun q => c64 ((z_eq rfl (by decide : (0 : Int32).toInt = 0)).mpr q)
          obtain ⟨x65, ex65⟩ : ∃ y : Int32, y = v4_9 + 1 := ⟨_, rfl⟩
          have tx65 : x65.toInt = v4_9.toInt + 1 := by rw [ex65]; exact z_add rfl (by decide : (1 : Int32).toInt = 1) (by omega) (by omega)
          refine lv_iinc (v := x65) (lv' := [(4, .int x65), (3, .int v3_9), (2, .int v2_9), (1, .int v1_9), (0, .ref (ad 10))]) hx hb dX6_findSome_73 hl (k := 0) rfl (by rw [ex65]; rfl) (by decide) rfl (fun ls hl => ?_)
          refine lv_goto (tgt := 9) hx hb dX6_findSome_76 (by decide) ?_
          exact ih9 x65 v3_9 v2_9 v1_9 ct1 _ _ ls (by omega) (by first | omega | decide) hI hP hD hS (lv_sub hl [0, 1, 2, 3, 4] rfl)
        · skip
          have c64 : x63.toInt = 0 := (z_eq rfl (by decide : (0 : Int32).toInt = 0)).mp c64
          refine lv_aload_n hx hb dX6_findSome_30 rfl (lv_at hl 4 rfl) ?_
          refine va_get (D := g.1) (ci := 6) (v := .ref (ad 16)) (C := RX6) (T := TX6) (N := 10) hx hb hg inG6 hown hK hP 10 (zw_at (by omega) hs2) rfl 9 (by decide) (hg _ mm_188) (fun _ h9 => h9) rfl dX6_findSome_31 ?_
          refine lv_iload hx hb dX6_findSome_34 (lv_at hl 0 rfl) ?_
          obtain ⟨f67, hs66⟩ := a8_16 hI
          refine va_iald hx hb hK hP 16 0 (zw_at (by omega) hs66) rfl (z_in rfl (by omega) (by omega)) dX6_findSome_36 ?_
          refine lv_topi (fun y68 ey68 => ?_)
          refine zc_i (va_runS (As := [.int y68]) (rest := []) ⟨hx, hb, hml, hown, hg⟩ (k_J6_bitCount_0f7a4 l g ad pe ct1 y68 hI) (va_cwS 1 hg (z_gS mm_728 mm_729 mm_119 mm_730) rfl rfl rfl (by decide +kernel) ⟨Nat.le_of_ble_eq_true rfl, Nat.le_of_ble_eq_true rfl⟩) (zR.pre [.int y68] hP hK hN) rfl rfl hl.1 rfl (lv_room (Nat.le_of_ble_eq_true rfl)) dX6_findSome_37 ⟨Nat.le_of_ble_eq_true rfl, Nat.le_of_ble_eq_true rfl⟩) (fun r69 hr69 => ?_)
          obtain ⟨hr69_0, hr69_1⟩ := hr69
          have hr69_0 : 0 ≤ r69.toInt := hr69_0
          have hr69_1 : r69.toInt ≤ 63 := hr69_1
          refine lv_iconst (v := 1) hx hb dX6_findSome_40 (by decide) ?_
          refine lv_icmp_ne (tgt := 73) hx hb dX6_findSome_41 (by decide) (fun c70 => ?_) (fun c70 => ?_)
          · skip
            have c70 : ¬ (r69.toInt = 1) := fun q => c70 ((z_eq rfl (by decide : (1 : Int32).toInt = 1)).mpr q)
            obtain ⟨x71, ex71⟩ : ∃ y : Int32, y = v4_9 + 1 := ⟨_, rfl⟩
            have tx71 : x71.toInt = v4_9.toInt + 1 := by rw [ex71]; exact z_add rfl (by decide : (1 : Int32).toInt = 1) (by omega) (by omega)
            refine lv_iinc (v := x71) (lv' := [(4, .int x71), (3, .int v3_9), (2, .int v2_9), (1, .int v1_9), (0, .ref (ad 10))]) hx hb dX6_findSome_73 hl (k := 0) rfl (by rw [ex71]; rfl) (by decide) rfl (fun ls hl => ?_)
            refine lv_goto (tgt := 9) hx hb dX6_findSome_76 (by decide) ?_
            exact ih9 x71 v3_9 v2_9 v1_9 ct1 _ _ ls (by omega) (by first | omega | decide) hI hP hD hS (lv_sub hl [0, 1, 2, 3, 4] rfl)
          · skip
            have c70 : r69.toInt = 1 := (z_eq rfl (by decide : (1 : Int32).toInt = 1)).mp c70
            refine lv_iload_n hx hb dX6_findSome_44 rfl (lv_at hl 1 rfl) ?_
            refine lv_iconst (v := 1) hx hb dX6_findSome_45 (by decide) ?_
            refine lv_iload hx hb dX6_findSome_46 (lv_at hl 0 rfl) ?_
            refine lv_ishl hx hb dX6_findSome_48 ?_
            refine lv_topi (fun x72 ex72 => ?_)
            have tx72 := z_shl1 (y := v4_9) rfl (by omega) (k := 7) (by decide) (by omega)
            rw [← ex72] at tx72
            refine lv_ior hx hb dX6_findSome_49 ?_
            refine lv_topi (fun x73 ex73 => ?_)
            refine lv_istore_n (lv' := [(3, .int x73), (4, .int v4_9), (2, .int v2_9), (1, .int v1_9), (0, .ref (ad 10))]) hx hb dX6_findSome_50 rfl hl (by decide) rfl (fun ls hl => ?_)
            refine lv_iload_n hx hb dX6_findSome_51 rfl (lv_at hl 2 rfl) ?_
            refine lv_iload_n hx hb dX6_findSome_52 rfl (lv_at hl 3 rfl) ?_
            refine lv_aload_n hx hb dX6_findSome_53 rfl (lv_at hl 4 rfl) ?_
            refine va_get (D := g.1) (ci := 6) (v := .ref (ad 16)) (C := RX6) (T := TX6) (N := 10) hx hb hg inG6 hown hK hP 10 (zw_at (by omega) hs2) rfl 9 (by decide) (hg _ mm_188) (fun _ h9 => h9) rfl dX6_findSome_54 ?_
            refine lv_iload hx hb dX6_findSome_57 (lv_at hl 1 rfl) ?_
            refine va_iald hx hb hK hP 16 0 (zw_at (by omega) hs66) rfl (z_in rfl (by omega) (by omega)) dX6_findSome_59 ?_
            refine lv_topi (fun y74 ey74 => ?_)
            refine lv_iand hx hb dX6_findSome_60 ?_
            refine lv_topi (fun x75 ex75 => ?_)
            refine lv_ior hx hb dX6_findSome_61 ?_
            refine lv_topi (fun x76 ex76 => ?_)
            refine lv_istore_n (lv' := [(2, .int x76), (3, .int x73), (4, .int v4_9), (1, .int v1_9), (0, .ref (ad 10))]) hx hb dX6_findSome_62 rfl hl (by decide) rfl (fun ls hl => ?_)
            refine lv_iload_n hx hb dX6_findSome_63 rfl (lv_at hl 3 rfl) ?_
            refine lv_aload_n hx hb dX6_findSome_64 rfl (lv_at hl 4 rfl) ?_
            refine va_get (D := g.1) (ci := 6) (v := .ref (ad 16)) (C := RX6) (T := TX6) (N := 10) hx hb hg inG6 hown hK hP 10 (zw_at (by omega) hs2) rfl 9 (by decide) (hg _ mm_188) (fun _ h9 => h9) rfl dX6_findSome_65 ?_
            refine lv_iload hx hb dX6_findSome_68 (lv_at hl 2 rfl) ?_
            refine va_iald hx hb hK hP 16 0 (zw_at (by omega) hs66) rfl (z_in rfl (by omega) (by omega)) dX6_findSome_70 ?_
            refine lv_topi (fun y77 ey77 => ?_)
            refine lv_ior hx hb dX6_findSome_71 ?_
            refine lv_topi (fun x78 ex78 => ?_)
            refine lv_istore_n (lv' := [(1, .int x78), (2, .int x76), (3, .int x73), (4, .int v4_9), (0, .ref (ad 10))]) hx hb dX6_findSome_72 rfl hl (by decide) rfl (fun ls hl => ?_)
            obtain ⟨x79, ex79⟩ : ∃ y : Int32, y = v4_9 + 1 := ⟨_, rfl⟩
            have tx79 : x79.toInt = v4_9.toInt + 1 := by rw [ex79]; exact z_add rfl (by decide : (1 : Int32).toInt = 1) (by omega) (by omega)
            refine lv_iinc (v := x79) (lv' := [(4, .int x79), (1, .int x78), (2, .int x76), (3, .int x73), (0, .ref (ad 10))]) hx hb dX6_findSome_73 hl (k := 3) rfl (by rw [ex79]; rfl) (by decide) rfl (fun ls hl => ?_)
            refine lv_goto (tgt := 9) hx hb dX6_findSome_76 (by decide) ?_
            exact ih9 x79 x73 x76 x78 ct1 _ _ ls (by omega) (by first | omega | decide) hI hP hD hS (lv_sub hl [0, 3, 2, 1, 4] rfl)
  exact loop9 ((8 - (0 : Int32).toInt : Int).toNat + 1) (0 : Int32) (0 : Int32) (0 : Int32) (0 : Int32) ct _ _ ls (by omega) (by first | omega | decide) hI hP hD hS (lv_sub hl [0, 1, 2, 3, 4] rfl)

set_option maxHeartbeats 4000000 in
set_option maxRecDepth 100000 in
theorem k_X6_stepByStep (l : Launch) (g : zG) (sz : Nat) (ad : Nat → Nat) (pe : Int32) (ct : Nat → va_E) (hI : Inv8 g ad pe ct) : Met l yX6_stepByStep (zW yX6_stepByStep cX6_stepByStep 4 (some .int)) ({ frames := 2, cells := 0, slots := 0, locals := 45 }) (va_Pc [.ref (ad 10)] (zA g (zw 126 ad ct) sz)) (va_Qi (fun (r : Int32) (_ : Unit) => (True)) (fun _ t => ∃ ct2 : Nat → va_E, zP g (zw 126 ad ct2) t.heap ∧ va_D (va_A (zw 126 ad ct) sz) (zw 126 ad ct2) ∧ Inv8 g ad pe ct2) (va_A (zw 126 ad ct) sz)) 0 0 (va_A (zw 126 ad ct) sz) := by
  refine Met.ofW (cc := cX6_stepByStep) (maxL := 4) (ret := (some .int)) (by decide) rfl ?_
  intro p e s m args below meth c s₁ B hml hv
  obtain ⟨rfl, hsz, hP, hK, hD0, hN⟩ := hv
  have hx := B.exec
  have hb := B.bytes
  have hr := B.returns
  have hg := zW.law (atoms_spec (ws := (zW yX6_stepByStep cX6_stepByStep 4 (some .int))) B.pre)
  have hown : s.vm.findClass RX6 = some m.cls := findClass_of_methodNamed B.named
  have hlocks := B.notSynchronized
  have hpe0 := hI.1
  subst hsz
  have hD := hD0.self (sz := s.heap.size)
  generalize hAe : va_A (zw 126 ad ct) s.heap.size = A at hD ⊢
  have hA : ∀ q : Nat, s.heap.size ≤ q → A q := fun q h => by rw [← hAe]; exact Or.inr h
  have hS : va_S A s.heap s.heap [] := va_S.rf
  have hl := lv_entry ([.ref (ad 10)]) (n := 4) (Nat.le_of_ble_eq_true rfl)
  rw [lg_entry_eq]
  generalize (lg_sl ([.ref (ad 10)]) ++ List.replicate (4 - (lg_sl ([.ref (ad 10)])).length) Slot.unset).toArray = ls at hl ⊢
  have hl : lv_has ls 4 [(0, .ref (ad 10))] := hl
  refine lv_aload_n hx hb dX6_stepByStep_0 rfl (lv_at hl 0 rfl) ?_
  refine lv_iconst (v := 0) hx hb dX6_stepByStep_1 (by decide) ?_
  obtain ⟨lns2, liv3, lak4, fnd5, h6, h7, h8, h9, hs1⟩ := a8_10 hI
  refine va_put (D := g.1) (ci := 6) (v := .int 0) (ty := .int) (C := RX6) (T := TX6) (N := 10) hx hb hg inG6 tyX6 tyX6_ok nmX6 hown hK hP hD hS 10 (zw_at (by omega) hs1) rfl 3 (by decide) (hg _ mm_178) (fun _ h9 => h9) rfl (by decide +kernel) rfl rfl (Nat.le_of_ble_eq_true rfl) dX6_stepByStep_2 (fun H locs hP hD hS => ?_)
  have hP : zP g ((zw 126 ad ct).set 10 (ad 10, .inr (6, [.int lns2, .int liv3, .int lak4, .int 0, .ref (ad 11), .ref (ad 12), .ref (ad 13), .ref (ad 14), .ref (ad 15), .ref (ad 16)]))) H := hP
  have hD : va_D A ((zw 126 ad ct).set 10 (ad 10, .inr (6, [.int lns2, .int liv3, .int lak4, .int 0, .ref (ad 11), .ref (ad 12), .ref (ad 13), .ref (ad 14), .ref (ad 15), .ref (ad 16)]))) := hD
  rw [zw_set (by omega)] at hP hD
  obtain ⟨ct10, ec11⟩ : ∃ z : Nat → va_E, z = va_up ct 10 (.inr (6, [.int lns2, .int liv3, .int lak4, .int 0, .ref (ad 11), .ref (ad 12), .ref (ad 13), .ref (ad 14), .ref (ad 15), .ref (ad 16)])) := ⟨_, rfl⟩
  rw [← ec11] at hP hD
  have hI : Inv8 g ad pe ct10 := by rw [ec11]; exact up8 hI (i8_10 ⟨(lns2 : Int32), (liv3 : Int32), (lak4 : Int32), (0 : Int32), (by first | omega | decide), (by first | omega | decide), (by first | omega | decide), (by first | omega | decide), rfl⟩)
  have hs12 : ct10 10 = .inr (6, [.int lns2, .int liv3, .int lak4, .int 0, .ref (ad 11), .ref (ad 12), .ref (ad 13), .ref (ad 14), .ref (ad 15), .ref (ad 16)]) := by rw [ec11]; exact va_up_self _ _ _
  refine lv_iconst (v := 0) hx hb dX6_stepByStep_5 (by decide) ?_
  refine lv_istore_n (lv' := [(1, .int 0), (0, .ref (ad 10))]) hx hb dX6_stepByStep_6 rfl hl (by decide) rfl (fun ls hl => ?_)
  have loop7 : ∀ (n7 : Nat) (v1_7 : Int32) (ct13 : Nat → va_E) (H : Heap) (locs : List Loc) (ls : Array Slot), ((8 - v1_7.toInt : Int).toNat < n7) → (0 ≤ v1_7.toInt ∧ v1_7.toInt ≤ 8) → (Inv8 g ad pe ct13) → zP g (zw 126 ad ct13) H → va_D A (zw 126 ad ct13) → va_S A s.heap H locs → lv_has ls 4 [(1, .int v1_7), (0, .ref (ad 10))] → W p l e (headSpec (zW yX6_stepByStep cX6_stepByStep 4 (some .int)) ({ frames := 2, cells := 0, slots := 0, locals := 45 })).room s m ([.ref (ad 10)] : List Value).toArray below meth c H locs 0 0 (MQ below (va_Qi (fun (r : Int32) (_ : Unit) => (True)) (fun _ t => ∃ ct2 : Nat → va_E, zP g (zw 126 ad ct2) t.heap ∧ va_D A (zw 126 ad ct2) ∧ Inv8 g ad pe ct2) A) ([.ref (ad 10)] : List Value).toArray s 0 0 A) (F0 m 7 ls []) := by
    intro n7
    induction n7 with
    | zero =>
      intro v1_7 ct13 H locs ls hn7 b1_7 hI hP hD hS hl
      exact absurd hn7 (Nat.not_lt_zero _)
    | succ n7 ih7 =>
      intro v1_7 ct13 H locs ls hn7 b1_7 hI hP hD hS hl
      refine lv_iload_n hx hb dX6_stepByStep_7 rfl (lv_at hl 0 rfl) ?_
      refine lv_bipush (v := 8) hx hb dX6_stepByStep_8 (by decide) ?_
      refine lv_icmp_ge (tgt := 31) hx hb dX6_stepByStep_10 (by decide) (fun c14 => ?_) (fun c14 => ?_)
      · skip
        have c14 : 8 ≤ v1_7.toInt := (z_le (by decide : (8 : Int32).toInt = 8) rfl).mp c14
        refine lv_iconst (v := 0) hx hb dX6_stepByStep_31 (by decide) ?_
        refine lv_istore_n (lv' := [(1, .int 0), (0, .ref (ad 10))]) hx hb dX6_stepByStep_32 rfl hl (by decide) rfl (fun ls hl => ?_)
        refine lv_iconst (v := 1) hx hb dX6_stepByStep_33 (by decide) ?_
        refine lv_istore_n (lv' := [(2, .int 1), (1, .int 0), (0, .ref (ad 10))]) hx hb dX6_stepByStep_34 rfl hl (by decide) rfl (fun ls hl => ?_)
        refine lv_iconst (v := 0) hx hb dX6_stepByStep_35 (by decide) ?_
        refine lv_istore_n (lv' := [(3, .int 0), (2, .int 1), (1, .int 0), (0, .ref (ad 10))]) hx hb dX6_stepByStep_36 rfl hl (by decide) rfl (fun ls hl => ?_)
        have loop37 : ∀ (n37 : Nat) (v3_37 : Int32) (v2_37 : Int32) (v1_37 : Int32) (ct15 : Nat → va_E) (H : Heap) (locs : List Loc) (ls : Array Slot), ((9 - v3_37.toInt : Int).toNat < n37) → (0 ≤ v3_37.toInt ∧ v3_37.toInt ≤ 9) → (Inv8 g ad pe ct15) → zP g (zw 126 ad ct15) H → va_D A (zw 126 ad ct15) → va_S A s.heap H locs → lv_has ls 4 [(3, .int v3_37), (2, .int v2_37), (1, .int v1_37), (0, .ref (ad 10))] → W p l e (headSpec (zW yX6_stepByStep cX6_stepByStep 4 (some .int)) ({ frames := 2, cells := 0, slots := 0, locals := 45 })).room s m ([.ref (ad 10)] : List Value).toArray below meth c H locs 0 0 (MQ below (va_Qi (fun (r : Int32) (_ : Unit) => (True)) (fun _ t => ∃ ct2 : Nat → va_E, zP g (zw 126 ad ct2) t.heap ∧ va_D A (zw 126 ad ct2) ∧ Inv8 g ad pe ct2) A) ([.ref (ad 10)] : List Value).toArray s 0 0 A) (F0 m 37 ls []) := by
          intro n37
          induction n37 with
          | zero =>
            intro v3_37 v2_37 v1_37 ct15 H locs ls hn37 b3_37 hI hP hD hS hl
            exact absurd hn37 (Nat.not_lt_zero _)
          | succ n37 ih37 =>
            intro v3_37 v2_37 v1_37 ct15 H locs ls hn37 b3_37 hI hP hD hS hl
            refine lv_iload_n hx hb dX6_stepByStep_37 rfl (lv_at hl 0 rfl) ?_
            refine lv_bipush (v := 8) hx hb dX6_stepByStep_38 (by decide) ?_
            refine lv_icmp_gt (tgt := 65) hx hb dX6_stepByStep_40 (by decide) (fun c16 => ?_) (fun c16 => ?_)
            · skip
              have c16 : 8 < v3_37.toInt := (z_lt (by decide : (8 : Int32).toInt = 8) rfl).mp c16
              refine lv_iload_n hx hb dX6_stepByStep_65 rfl (lv_at hl 2 rfl) ?_
              exact W.iret (v := v1_37) hx hb hr (fun t ht hW => ⟨⟨v1_37, (), rfl, trivial, ct15, by rw [ht]; exact hP, hD, hI⟩, hS.F ht⟩) hS.2.2 dX6_stepByStep_66
            · skip
              have c16 : ¬ (8 < v3_37.toInt) := fun q => c16 ((z_lt (by decide : (8 : Int32).toInt = 8) rfl).mpr q)
              refine lv_iload_n hx hb dX6_stepByStep_43 rfl (lv_at hl 1 rfl) ?_
              refine lv_if_eq (tgt := 65) hx hb dX6_stepByStep_44 (by decide) (fun c17 => ?_) (fun c17 => ?_)
              · skip
                have c17 : v2_37.toInt = 0 := (z_eq rfl (by decide : (0 : Int32).toInt = 0)).mp c17
                refine lv_iload_n hx hb dX6_stepByStep_65 rfl (lv_at hl 2 rfl) ?_
                exact W.iret (v := v1_37) hx hb hr (fun t ht hW => ⟨⟨v1_37, (), rfl, trivial, ct15, by rw [ht]; exact hP, hD, hI⟩, hS.F ht⟩) hS.2.2 dX6_stepByStep_66
              · skip
                have c17 : ¬ (v2_37.toInt = 0) := fun q => c17 ((z_eq rfl (by decide : (0 : Int32).toInt = 0)).mpr q)
                refine lv_aload_n hx hb dX6_stepByStep_47 rfl (lv_at hl 3 rfl) ?_
                obtain ⟨lns19, liv20, lak21, fnd22, h23, h24, h25, h26, hs18⟩ := a8_10 hI
                have hFc := zw_free hD hS hA
                refine va_calli (va_runV (As := []) (rest := []) ⟨hx, hb, hml, hown, hg⟩ (k_X6_findSome l g _ ad pe ct15  hI) (cwV 0 hg (z_gV mm_759 mm_761 mm_30 mm_111 mm_762) rfl rfl rfl (by decide +kernel) ⟨Nat.le_of_ble_eq_true rfl, Nat.le_of_ble_eq_true rfl⟩) ⟨(zA.pre [.ref (ad 10)] hP hK hD hN).1, va_recv hK hP (ci := 6) (q0 := 10) rfl (zw_at (by omega) hs18), (zA.pre [.ref (ad 10)] hP hK hD hN).2⟩ rfl rfl hl.1 rfl (lv_room (Nat.le_of_ble_eq_true rfl)) dX6_stepByStep_48 ⟨Nat.le_of_ble_eq_true rfl, Nat.le_of_ble_eq_true rfl⟩) hS (fun q _ h => hFc q h) hFc (fun r27 _ t H1 locs ht hvm hr27 hB hz1 hk1 hS => ?_)
                obtain ⟨ct28, hP1, hD1, hI⟩ := hB
                rw [ht] at hP1
                have hD := hD1.weaken (fun _ _ _ h => hFc _ h)
                generalize H1 = H at hP1 hS ⊢
                have hP := hP1
                refine W.widen (k := 0) (n := 0) (Nat.le_refl _) (Nat.le_refl _) ?_
                rcases hr27 with hr27 | hr27
                · skip
                  obtain rfl := hr27
                  refine lv_istore_n (lv' := [(2, .int 1), (3, .int v3_37), (1, .int v1_37), (0, .ref (ad 10))]) hx hb dX6_stepByStep_51 rfl hl (by decide) rfl (fun ls hl => ?_)
                  refine lv_iload_n hx hb dX6_stepByStep_52 rfl (lv_at hl 0 rfl) ?_
                  refine lv_if_eq (tgt := 59) hx hb dX6_stepByStep_53 (by decide) (fun c29 => ?_) (fun c29 => ?_)
                  · skip
                    exact absurd c29 (by decide)
                  · skip
                    obtain ⟨x30, ex30⟩ : ∃ y : Int32, y = v1_37 + 1 := ⟨_, rfl⟩
                    refine lv_iinc (v := x30) (lv' := [(1, .int x30), (2, .int 1), (3, .int v3_37), (0, .ref (ad 10))]) hx hb dX6_stepByStep_56 hl (k := 2) rfl (by rw [ex30]; rfl) (by decide) rfl (fun ls hl => ?_)
                    obtain ⟨x31, ex31⟩ : ∃ y : Int32, y = v3_37 + 1 := ⟨_, rfl⟩
                    have tx31 : x31.toInt = v3_37.toInt + 1 := by rw [ex31]; exact z_add rfl (by decide : (1 : Int32).toInt = 1) (by omega) (by omega)
                    refine lv_iinc (v := x31) (lv' := [(3, .int x31), (1, .int x30), (2, .int 1), (0, .ref (ad 10))]) hx hb dX6_stepByStep_59 hl (k := 2) rfl (by rw [ex31]; rfl) (by decide) rfl (fun ls hl => ?_)
                    refine lv_goto (tgt := 37) hx hb dX6_stepByStep_62 (by decide) ?_
                    exact ih37 x31 (1 : Int32) x30 ct28 _ _ ls (by omega) (by first | omega | decide) hI hP hD hS (lv_sub hl [0, 2, 1, 3] rfl)
                · skip
                  obtain rfl := hr27
                  refine lv_istore_n (lv' := [(2, .int 0), (3, .int v3_37), (1, .int v1_37), (0, .ref (ad 10))]) hx hb dX6_stepByStep_51 rfl hl (by decide) rfl (fun ls hl => ?_)
                  refine lv_iload_n hx hb dX6_stepByStep_52 rfl (lv_at hl 0 rfl) ?_
                  refine lv_if_eq (tgt := 59) hx hb dX6_stepByStep_53 (by decide) (fun c32 => ?_) (fun c32 => ?_)
                  · skip
                    obtain ⟨x33, ex33⟩ : ∃ y : Int32, y = v3_37 + 1 := ⟨_, rfl⟩
                    have tx33 : x33.toInt = v3_37.toInt + 1 := by rw [ex33]; exact z_add rfl (by decide : (1 : Int32).toInt = 1) (by omega) (by omega)
                    refine lv_iinc (v := x33) (lv' := [(3, .int x33), (2, .int 0), (1, .int v1_37), (0, .ref (ad 10))]) hx hb dX6_stepByStep_59 hl (k := 1) rfl (by rw [ex33]; rfl) (by decide) rfl (fun ls hl => ?_)
                    refine lv_goto (tgt := 37) hx hb dX6_stepByStep_62 (by decide) ?_
                    exact ih37 x33 (0 : Int32) v1_37 ct28 _ _ ls (by omega) (by first | omega | decide) hI hP hD hS (lv_sub hl [0, 1, 2, 3] rfl)
                  · skip
                    exact absurd c32 (by decide)
        exact loop37 ((9 - (0 : Int32).toInt : Int).toNat + 1) (0 : Int32) (1 : Int32) (0 : Int32) ct13 _ _ ls (by omega) (by first | omega | decide) hI hP hD hS (lv_sub hl [0, 1, 2, 3] rfl)
      · skip
        have c14 : ¬ (8 ≤ v1_7.toInt) := fun q => c14 ((z_le (by decide : (8 : Int32).toInt = 8) rfl).mpr q)
        refine lv_aload_n hx hb dX6_stepByStep_13 rfl (lv_at hl 1 rfl) ?_
        obtain ⟨lns35, liv36, lak37, fnd38, h39, h40, h41, h42, hs34⟩ := a8_10 hI
        refine va_get (D := g.1) (ci := 6) (v := .ref (ad 16)) (C := RX6) (T := TX6) (N := 10) hx hb hg inG6 hown hK hP 10 (zw_at (by omega) hs34) rfl 9 (by decide) (hg _ mm_188) (fun _ h9 => h9) rfl dX6_stepByStep_14 ?_
        refine lv_iload_n hx hb dX6_stepByStep_17 rfl (lv_at hl 0 rfl) ?_
        refine lv_aload_n hx hb dX6_stepByStep_18 rfl (lv_at hl 1 rfl) ?_
        refine va_get (D := g.1) (ci := 6) (v := .ref (ad 12)) (C := RX6) (T := TX6) (N := 10) hx hb hg inG6 hown hK hP 10 (zw_at (by omega) hs34) rfl 5 (by decide) (hg _ mm_182) (fun _ h9 => h9) rfl dX6_stepByStep_19 ?_
        refine lv_iload_n hx hb dX6_stepByStep_22 rfl (lv_at hl 0 rfl) ?_
        obtain ⟨f44, hp45, hs43⟩ := a8_12 hI
        refine va_iald hx hb hK hP 12 0 (zw_at (by omega) hs43) rfl (z_in rfl (by omega) (by omega)) dX6_stepByStep_23 ?_
        refine lv_topi (fun y46 ey46 => ?_)
        have hy46 := hp45 _ (z_clt (x := v1_7) rfl (by omega) (by omega))
        rw [← ey46] at hy46
        have hy46 : 0 ≤ y46.toInt ∧ y46.toInt ≤ 65535 := hy46
        obtain ⟨f48, hs47⟩ := a8_16 hI
        refine va_iast hx hb hK hP hD hS 16 0 (zw_at (by omega) hs47) rfl (z_in rfl (by omega) (by omega)) dX6_stepByStep_24 (fun H locs hP hD hS => ?_)
        have hP : zP g ((zw 126 ad ct13).set 16 (ad 16, .inl (g.2 0, 8, .inl (upd f48 (Int32.toNatClampNeg v1_7) y46)))) H := hP
        have hD : va_D A ((zw 126 ad ct13).set 16 (ad 16, .inl (g.2 0, 8, .inl (upd f48 (Int32.toNatClampNeg v1_7) y46)))) := hD
        rw [zw_set (by omega)] at hP hD
        obtain ⟨ct50, ec51⟩ : ∃ z : Nat → va_E, z = va_up ct13 16 (.inl (g.2 0, 8, .inl (upd f48 (Int32.toNatClampNeg v1_7) y46))) := ⟨_, rfl⟩
        rw [← ec51] at hP hD
        have hI : Inv8 g ad pe ct50 := by rw [ec51]; exact up8 hI (i8_16 ⟨_, rfl⟩)
        have hs52 : ct50 10 = .inr (6, [.int lns35, .int liv36, .int lak37, .int fnd38, .ref (ad 11), .ref (ad 12), .ref (ad 13), .ref (ad 14), .ref (ad 15), .ref (ad 16)]) := by rw [ec51, va_up_ne _ _ (by omega)]; exact hs34
        have hs53 : ct50 12 = .inl (g.2 0, 8, .inl f44) := by rw [ec51, va_up_ne _ _ (by omega)]; exact hs43
        have hs54 : ct50 16 = .inl (g.2 0, 8, .inl (upd f48 (Int32.toNatClampNeg v1_7) y46)) := by rw [ec51]; exact va_up_self _ _ _
        obtain ⟨x55, ex55⟩ : ∃ y : Int32, y = v1_7 + 1 := ⟨_, rfl⟩
        have tx55 : x55.toInt = v1_7.toInt + 1 := by rw [ex55]; exact z_add rfl (by decide : (1 : Int32).toInt = 1) (by omega) (by omega)
        refine lv_iinc (v := x55) (lv' := [(1, .int x55), (0, .ref (ad 10))]) hx hb dX6_stepByStep_25 hl (k := 0) rfl (by rw [ex55]; rfl) (by decide) rfl (fun ls hl => ?_)
        refine lv_goto (tgt := 7) hx hb dX6_stepByStep_28 (by decide) ?_
        exact ih7 x55 ct50 _ _ ls (by omega) (by first | omega | decide) hI hP hD hS (lv_sub hl [0, 1] rfl)
  exact loop7 ((8 - (0 : Int32).toInt : Int).toNat + 1) (0 : Int32) ct10 _ _ ls (by omega) (by first | omega | decide) hI hP hD hS (lv_sub hl [0, 1] rfl)

set_option maxHeartbeats 4000000 in
set_option maxRecDepth 100000 in
theorem k_X6_left (l : Launch) (g : zG) (ad : Nat → Nat) (pe : Int32) (ct : Nat → va_E) (i : Int32) (hI : Inv8 g ad pe ct) : Met l yX6_left (zW yX6_left cX6_left 2 (some .int)) ({ frames := 1, cells := 0, slots := 0, locals := 22 }) (va_Pc [.ref (ad 10), .int i] (zR g (zw 126 ad ct))) (vp_Si (fun r : Int32 => (True))) 0 0 (fun _ => False) := by
  refine Met.ofW (cc := cX6_left) (maxL := 2) (ret := (some .int)) (by decide) rfl ?_
  intro p e s m args below meth c s₁ B hml hv
  obtain ⟨rfl, hP, hK, hN⟩ := hv
  have hx := B.exec
  have hb := B.bytes
  have hr := B.returns
  have hg := zW.law (atoms_spec (ws := (zW yX6_left cX6_left 2 (some .int))) B.pre)
  have hown : s.vm.findClass RX6 = some m.cls := findClass_of_methodNamed B.named
  have hlocks := B.notSynchronized
  have hpe0 := hI.1
  have hl := lv_entry ([.ref (ad 10), .int i]) (n := 2) (Nat.le_of_ble_eq_true rfl)
  rw [lg_entry_eq]
  generalize (lg_sl ([.ref (ad 10), .int i]) ++ List.replicate (2 - (lg_sl ([.ref (ad 10), .int i])).length) Slot.unset).toArray = ls at hl ⊢
  have hl : lv_has ls 2 [(0, .ref (ad 10)), (1, .int i)] := hl
  have rg_i := z_rng i
  refine lv_iload_n hx hb dX6_left_0 rfl (lv_at hl 1 rfl) ?_
  refine lv_iconst (v := 0) hx hb dX6_left_1 (by decide) ?_
  refine lv_bipush (v := 7) hx hb dX6_left_2 (by decide) ?_
  refine zc_i (va_runSN (As := [.int i, .int 0, .int 7]) (rest := []) ⟨hx, hb, hml, hown, hg⟩ (k_X8_within l g ad pe ct i (0 : Int32) (7 : Int32) hI) ⟨va_cnB 3 hg (z_gN mm_409) rfl rfl rfl (hN.at 13 rfl) (hg _ mm_108) (by decide +kernel) ⟨Nat.le_of_ble_eq_true rfl, Nat.le_of_ble_eq_true rfl⟩, (hg _ mm_408), trivial⟩ (zR.pre [.int i, .int 0, .int 7] hP hK hN) rfl rfl hl.1 rfl (lv_room (Nat.le_of_ble_eq_true rfl)) dX6_left_4 ⟨Nat.le_of_ble_eq_true rfl, Nat.le_of_ble_eq_true rfl⟩) (fun r1 hr1 => ?_)
  rcases hr1 with hr1 | hr1
  · skip
    obtain ⟨rfl, h2, h3⟩ := hr1
    have h2 : (0 : Int) ≤ i.toInt := h2
    have h3 : i.toInt ≤ (7 : Int) := h3
    refine lv_if_eq (tgt := 19) hx hb dX6_left_7 (by decide) (fun c4 => ?_) (fun c4 => ?_)
    · skip
      exact absurd c4 (by decide)
    · skip
      refine lv_aload_n hx hb dX6_left_10 rfl (lv_at hl 0 rfl) ?_
      obtain ⟨lns6, liv7, lak8, fnd9, h10, h11, h12, h13, hs5⟩ := a8_10 hI
      refine va_get (D := g.1) (ci := 6) (v := .ref (ad 16)) (C := RX6) (T := TX6) (N := 10) hx hb hg inG6 hown hK hP 10 (zw_at (by omega) hs5) rfl 9 (by decide) (hg _ mm_188) (fun _ h9 => h9) rfl dX6_left_11 ?_
      refine lv_iload_n hx hb dX6_left_14 rfl (lv_at hl 1 rfl) ?_
      obtain ⟨f15, hs14⟩ := a8_16 hI
      refine va_iald hx hb hK hP 16 0 (zw_at (by omega) hs14) rfl (z_in rfl (by omega) (by omega)) dX6_left_15 ?_
      refine lv_topi (fun y16 ey16 => ?_)
      refine lv_goto (tgt := 20) hx hb dX6_left_16 (by decide) ?_
      exact W.iret (v := y16) hx hb hr (fun t ht hW => ⟨y16, rfl, trivial, ht⟩) (fun q hq => by cases hq) dX6_left_20
  · skip
    obtain ⟨rfl, h17⟩ := hr1
    have h17 : ¬ ((0 : Int) ≤ i.toInt ∧ i.toInt ≤ (7 : Int)) := h17
    refine lv_if_eq (tgt := 19) hx hb dX6_left_7 (by decide) (fun c18 => ?_) (fun c18 => ?_)
    · skip
      refine lv_iconst (v := 0) hx hb dX6_left_19 (by decide) ?_
      have q19 : (0 : Int32).toInt = 0 := by decide
      exact W.iret (v := 0) hx hb hr (fun t ht hW => ⟨0, rfl, trivial, ht⟩) (fun q hq => by cases hq) dX6_left_20
    · skip
      exact absurd c18 (by decide)
