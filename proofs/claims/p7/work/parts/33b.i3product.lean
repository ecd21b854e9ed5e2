set_option maxHeartbeats 4000000 in
set_option maxRecDepth 100000 in
theorem k_X4_product_3 (l : Launch) (g : zG) (sz : Nat) (ad : Nat → Nat) (pe : Int32) (ct : Nat → va_E) (kg : Nat) (ask : Int32) (hf_kg : 99 ≤ kg ∧ kg < 126 ∧ (kg - 99) % 3 = 0) (hI : Inv8 g ad pe ct) : Met l yX4_product (zW yX4_product cX4_product 7 (some .int)) ({ frames := 12, cells := 0, slots := 0, locals := 295 }) (va_Pc [.ref (ad kg), .int 3, .int ask] (zA g (zw 126 ad ct) sz)) (va_Qi (fun (r : Int32) (_ : Unit) => (True)) (fun _ t => ∃ ct2 : Nat → va_E, zP g (zw 126 ad ct2) t.heap ∧ va_D (va_A (zw 126 ad ct) sz) (zw 126 ad ct2) ∧ Inv8 g ad pe ct2) (va_A (zw 126 ad ct) sz)) 0 0 (va_A (zw 126 ad ct) sz) := by
  refine Met.ofW (cc := cX4_product) (maxL := 7) (ret := (some .int)) (by decide) rfl ?_
  intro p e s m args below meth c s₁ B hml hv
  obtain ⟨rfl, hsz, hP, hK, hD0, hN⟩ := hv
  have hx := B.exec
  have hb := B.bytes
  have hr := B.returns
  have hg := zW.law (atoms_spec (ws := (zW yX4_product cX4_product 7 (some .int))) B.pre)
  have hown : s.vm.findClass RX4 = some m.cls := findClass_of_methodNamed B.named
  have hlocks := B.notSynchronized
  have hpe0 := hI.1
  subst hsz
  have hD := hD0.self (sz := s.heap.size)
  generalize hAe : va_A (zw 126 ad ct) s.heap.size = A at hD ⊢
  have hA : ∀ q : Nat, s.heap.size ≤ q → A q := fun q h => by rw [← hAe]; exact Or.inr h
  have hS : va_S A s.heap s.heap [] := va_S.rf
  have hl := lv_entry ([.ref (ad kg), .int 3, .int ask]) (n := 7) (Nat.le_of_ble_eq_true rfl)
  rw [lg_entry_eq]
  generalize (lg_sl ([.ref (ad kg), .int 3, .int ask]) ++ List.replicate (7 - (lg_sl ([.ref (ad kg), .int 3, .int ask])).length) Slot.unset).toArray = ls at hl ⊢
  have hl : lv_has ls 7 [(0, .ref (ad kg)), (1, .int 3), (2, .int ask)] := hl
  have rg_ask := z_rng ask
  refine lv_aload_n hx hb dX4_product_0 rfl (lv_at hl 0 rfl) ?_
  refine lv_iload_n hx hb dX4_product_1 rfl (lv_at hl 1 rfl) ?_
  refine lv_iload_n hx hb dX4_product_2 rfl (lv_at hl 2 rfl) ?_
  obtain ⟨tld2, ofb3, hol4, flt5, fla6, ofl7, len8, atx9, ref10, hz11, h12, h13, h14, h15, hz16, hs1⟩ := a8_44 (kc := kg) (by omega) hI
  have bhz11 := z_b01 hz11
  have bhz16 := z_b01 hz16
  have hFc := zw_free hD hS hA
  refine va_calli (va_runV (As := [.int 3, .int ask]) (rest := []) ⟨hx, hb, hml, hown, hg⟩ (k_X4_factor_3 l g _ ad pe ct kg ask (by omega) hI) (cwV 2 hg (z_gV mm_499 mm_501 mm_14 mm_114 mm_502) rfl rfl rfl (by decide +kernel) ⟨Nat.le_of_ble_eq_true rfl, Nat.le_of_ble_eq_true rfl⟩) ⟨(zA.pre [.ref (ad kg), .int 3, .int ask] hP hK hD hN).1, va_recv hK hP (ci := 4) (q0 := kg) rfl (zw_at (by omega) hs1), (zA.pre [.ref (ad kg), .int 3, .int ask] hP hK hD hN).2⟩ rfl rfl hl.1 rfl (lv_room (Nat.le_of_ble_eq_true rfl)) dX4_product_3 ⟨Nat.le_of_ble_eq_true rfl, Nat.le_of_ble_eq_true rfl⟩) hS (fun q _ h => hFc q h) hFc (fun r17 _ t H1 locs ht hvm hr17 hB hz1 hk1 hS => ?_)
  obtain ⟨ct18, hP1, hD1, hI⟩ := hB
  rw [ht] at hP1
  have hD := hD1.weaken (fun _ _ _ h => hFc _ h)
  generalize H1 = H at hP1 hS ⊢
  have hP := hP1
  refine W.widen (k := 0) (n := 0) (Nat.le_refl _) (Nat.le_refl _) ?_
  refine lv_istore_n (lv' := [(3, .int r17), (0, .ref (ad kg)), (1, .int 3), (2, .int ask)]) hx hb dX4_product_6 rfl hl (by decide) rfl (fun ls hl => ?_)
  refine lv_iconst (v := 0) hx hb dX4_product_7 (by decide) ?_
  refine lv_istore (lv' := [(4, .int 0), (3, .int r17), (0, .ref (ad kg)), (1, .int 3), (2, .int ask)]) hx hb dX4_product_8 hl (by decide) rfl (fun ls hl => ?_)
  have loop10 : ∀ (n10 : Nat) (v4_10 : Int32) (v3_10 : Int32) (ct19 : Nat → va_E) (H : Heap) (locs : List Loc) (ls : Array Slot), ((100 - v4_10.toInt : Int).toNat < n10) → (0 ≤ v4_10.toInt ∧ v4_10.toInt ≤ 100) → (Inv8 g ad pe ct19) → zP g (zw 126 ad ct19) H → va_D A (zw 126 ad ct19) → va_S A s.heap H locs → lv_has ls 7 [(4, .int v4_10), (3, .int v3_10), (0, .ref (ad kg)), (1, .int 3), (2, .int ask)] → W p l e (headSpec (zW yX4_product cX4_product 7 (some .int)) ({ frames := 12, cells := 0, slots := 0, locals := 295 })).room s m ([.ref (ad kg), .int 3, .int ask] : List Value).toArray below meth c H locs 0 0 (MQ below (va_Qi (fun (r : Int32) (_ : Unit) => (True)) (fun _ t => ∃ ct2 : Nat → va_E, zP g (zw 126 ad ct2) t.heap ∧ va_D A (zw 126 ad ct2) ∧ Inv8 g ad pe ct2) A) ([.ref (ad kg), .int 3, .int ask] : List Value).toArray s 0 0 A) (F0 m 10 ls []) := by
    intro n10
    induction n10 with
    | zero =>
      intro v4_10 v3_10 ct19 H locs ls hn10 b4_10 hI hP hD hS hl
      exact absurd hn10 (Nat.not_lt_zero _)
    | succ n10 ih10 =>
      intro v4_10 v3_10 ct19 H locs ls hn10 b4_10 hI hP hD hS hl
      refine lv_iload hx hb dX4_product_10 (lv_at hl 0 rfl) ?_
      refine lv_bipush (v := 100) hx hb dX4_product_12 (by decide) ?_
      refine lv_icmp_ge (tgt := 136) hx hb dX4_product_14 (by decide) (fun c20 => ?_) (fun c20 => ?_)
      · skip
        have c20 : 100 ≤ v4_10.toInt := (z_le (by decide : (100 : Int32).toInt = 100) rfl).mp c20
        refine lv_iload_n hx hb dX4_product_136 rfl (lv_at hl 1 rfl) ?_
        exact W.iret (v := v3_10) hx hb hr (fun t ht hW => ⟨⟨v3_10, (), rfl, trivial, ct19, by rw [ht]; exact hP, hD, hI⟩, hS.F ht⟩) hS.2.2 dX4_product_137
      · skip
        have c20 : ¬ (100 ≤ v4_10.toInt) := fun q => c20 ((z_le (by decide : (100 : Int32).toInt = 100) rfl).mpr q)
        refine lv_aload_n hx hb dX4_product_17 rfl (lv_at hl 2 rfl) ?_
        obtain ⟨tld22, ofb23, hol24, flt25, fla26, ofl27, len28, atx29, ref30, hz31, h32, h33, h34, h35, hz36, hs21⟩ := a8_44 (kc := kg) (by omega) hI
        have bhz31 := z_b01 hz31
        have bhz36 := z_b01 hz36
        refine zc_i (va_runV (As := []) (rest := []) ⟨hx, hb, hml, hown, hg⟩ (k_X4_nextp l g ad pe ct19 kg tld22 ofb23 hol24 flt25 fla26 ofl27 len28 atx29 ref30 (by omega) hI hs21) (cwV 0 hg (z_gV mm_475 mm_477 mm_8 mm_114 mm_478) rfl rfl rfl (by decide +kernel) ⟨Nat.le_of_ble_eq_true rfl, Nat.le_of_ble_eq_true rfl⟩) ⟨(zR.pre [.ref (ad kg)] hP hK hN).1, va_recv hK hP (ci := 4) (q0 := kg) rfl (zw_at (by omega) hs21), (zR.pre [.ref (ad kg)] hP hK hN).2⟩ rfl rfl hl.1 rfl (lv_room (Nat.le_of_ble_eq_true rfl)) dX4_product_18 ⟨Nat.le_of_ble_eq_true rfl, Nat.le_of_ble_eq_true rfl⟩) (fun r37 hr37 => ?_)
        have h38 := hr37
        have h38 : nxp r37 atx29 := h38
        refine lv_bipush (v := 42) hx hb dX4_product_21 (by decide) ?_
        refine lv_icmp_eq (tgt := 44) hx hb dX4_product_23 (by decide) (fun c39 => ?_) (fun c39 => ?_)
        · skip
          have c39 : r37.toInt = 42 := (z_eq rfl (by decide : (42 : Int32).toInt = 42)).mp c39
          refine lv_aload_n hx hb dX4_product_44 rfl (lv_at hl 2 rfl) ?_
          refine zc_i (va_runV (As := []) (rest := []) ⟨hx, hb, hml, hown, hg⟩ (k_X4_nextp l g ad pe ct19 kg tld22 ofb23 hol24 flt25 fla26 ofl27 len28 atx29 ref30 (by omega) hI hs21) (cwV 0 hg (z_gV mm_475 mm_477 mm_8 mm_114 mm_478) rfl rfl rfl (by decide +kernel) ⟨Nat.le_of_ble_eq_true rfl, Nat.le_of_ble_eq_true rfl⟩) ⟨(zR.pre [.ref (ad kg)] hP hK hN).1, va_recv hK hP (ci := 4) (q0 := kg) rfl (zw_at (by omega) hs21), (zR.pre [.ref (ad kg)] hP hK hN).2⟩ rfl rfl hl.1 rfl (lv_room (Nat.le_of_ble_eq_true rfl)) dX4_product_45 ⟨Nat.le_of_ble_eq_true rfl, Nat.le_of_ble_eq_true rfl⟩) (fun r40 hr40 => ?_)
          have h41 := hr40
          have h41 : nxp r40 atx29 := h41
          refine lv_istore (lv' := [(5, .int r40), (4, .int v4_10), (3, .int v3_10), (0, .ref (ad kg)), (1, .int 3), (2, .int ask)]) hx hb dX4_product_48 hl (by decide) rfl (fun ls hl => ?_)
          refine lv_aload_n hx hb dX4_product_50 rfl (lv_at hl 3 rfl) ?_
          refine lv_dup hx hb dX4_product_51 rfl ?_
          refine va_get (D := g.1) (ci := 4) (v := .int atx29) (C := RX4) (T := TX4) (N := 11) hx hb hg inG4 hown hK hP kg (zw_at (by omega) hs21) rfl 9 (by decide) (hg _ mm_285) (fun _ h9 => h9) rfl dX4_product_52 ?_
          refine lv_iconst (v := 1) hx hb dX4_product_55 (by decide) ?_
          refine lv_iadd hx hb dX4_product_56 ?_
          refine lv_topi (fun x42 ex42 => ?_)
          have tx42 : x42.toInt = atx29.toInt + 1 := by rw [ex42]; exact z_add rfl (by decide : (1 : Int32).toInt = 1) (by omega) (by omega)
          have hat42 : atx29.toInt ≤ 99 := by first | exact nxp_use h38 (by omega) | exact nxp_use h41 (by omega)
          refine va_put (D := g.1) (ci := 4) (v := .int x42) (ty := .int) (C := RX4) (T := TX4) (N := 11) hx hb hg inG4 tyX4 tyX4_ok nmX4 hown hK hP hD hS kg (zw_at (by omega) hs21) rfl 9 (by decide) (hg _ mm_285) (fun _ h9 => h9) rfl (by decide +kernel) rfl rfl (Nat.le_of_ble_eq_true rfl) dX4_product_57 (fun H locs hP hD hS => ?_)
          have hP : zP g ((zw 126 ad ct19).set kg (ad kg, .inr (4, [.int tld22, .int ofb23, .int hol24, .int flt25, .int fla26, .int ofl27, .ref (ad (kg + 1)), .ref (ad (kg + 2)), .int len28, .int x42, .int ref30]))) H := hP
          have hD : va_D A ((zw 126 ad ct19).set kg (ad kg, .inr (4, [.int tld22, .int ofb23, .int hol24, .int flt25, .int fla26, .int ofl27, .ref (ad (kg + 1)), .ref (ad (kg + 2)), .int len28, .int x42, .int ref30]))) := hD
          rw [zw_set (by omega)] at hP hD
          obtain ⟨ct43, ec44⟩ : ∃ z : Nat → va_E, z = va_up ct19 kg (.inr (4, [.int tld22, .int ofb23, .int hol24, .int flt25, .int fla26, .int ofl27, .ref (ad (kg + 1)), .ref (ad (kg + 2)), .int len28, .int x42, .int ref30])) := ⟨_, rfl⟩
          rw [← ec44] at hP hD
          have hI : Inv8 g ad pe ct43 := by rw [ec44]; exact up8 hI (i8_44 (kc := kg) (by omega) ⟨(tld22 : Int32), (ofb23 : Int32), (hol24 : Int32), (flt25 : Int32), (fla26 : Int32), (ofl27 : Int32), (len28 : Int32), (x42 : Int32), (ref30 : Int32), hz31, (by first | omega | decide), (by first | omega | decide), (by first | omega | decide), (by first | omega | decide), hz36, rfl⟩)
          have hs45 : ct43 kg = .inr (4, [.int tld22, .int ofb23, .int hol24, .int flt25, .int fla26, .int ofl27, .ref (ad (kg + 1)), .ref (ad (kg + 2)), .int len28, .int x42, .int ref30]) := by rw [ec44]; exact va_up_self _ _ _
          refine lv_aload_n hx hb dX4_product_60 rfl (lv_at hl 3 rfl) ?_
          refine lv_iload_n hx hb dX4_product_61 rfl (lv_at hl 4 rfl) ?_
          refine lv_iload_n hx hb dX4_product_62 rfl (lv_at hl 5 rfl) ?_
          have hFc := zw_free hD hS hA
          refine va_calli (va_runV (As := [.int 3, .int ask]) (rest := []) ⟨hx, hb, hml, hown, hg⟩ (k_X4_factor_3 l g _ ad pe ct43 kg ask (by omega) hI) (cwV 2 hg (z_gV mm_499 mm_501 mm_14 mm_114 mm_502) rfl rfl rfl (by decide +kernel) ⟨Nat.le_of_ble_eq_true rfl, Nat.le_of_ble_eq_true rfl⟩) ⟨(zA.pre [.ref (ad kg), .int 3, .int ask] hP hK hD hN).1, va_recv hK hP (ci := 4) (q0 := kg) rfl (zw_at (by omega) hs45), (zA.pre [.ref (ad kg), .int 3, .int ask] hP hK hD hN).2⟩ rfl rfl hl.1 rfl (lv_room (Nat.le_of_ble_eq_true rfl)) dX4_product_63 ⟨Nat.le_of_ble_eq_true rfl, Nat.le_of_ble_eq_true rfl⟩) hS (fun q _ h => hFc q h) hFc (fun r46 _ t H1 locs ht hvm hr46 hB hz1 hk1 hS => ?_)
          obtain ⟨ct47, hP1, hD1, hI⟩ := hB
          rw [ht] at hP1
          have hD := hD1.weaken (fun _ _ _ h => hFc _ h)
          generalize H1 = H at hP1 hS ⊢
          have hP := hP1
          refine W.widen (k := 0) (n := 0) (Nat.le_refl _) (Nat.le_refl _) ?_
          refine lv_istore (lv' := [(6, .int r46), (5, .int r40), (4, .int v4_10), (3, .int v3_10), (0, .ref (ad kg)), (1, .int 3), (2, .int ask)]) hx hb dX4_product_66 hl (by decide) rfl (fun ls hl => ?_)
          refine lv_iload hx hb dX4_product_68 (lv_at hl 1 rfl) ?_
          refine lv_bipush (v := 42) hx hb dX4_product_70 (by decide) ?_
          refine lv_icmp_ne (tgt := 83) hx hb dX4_product_72 (by decide) (fun c48 => ?_) (fun c48 => ?_)
          · skip
            have c48 : ¬ (r40.toInt = 42) := fun q => c48 ((z_eq rfl (by decide : (42 : Int32).toInt = 42)).mpr q)
            refine lv_iload hx hb dX4_product_83 (lv_at hl 0 rfl) ?_
            refine lv_if_ne (tgt := 111) hx hb dX4_product_85 (by decide) (fun c49 => ?_) (fun c49 => ?_)
            · skip
              have c49 : ¬ (r46.toInt = 0) := fun q => c49 ((z_eq rfl (by decide : (0 : Int32).toInt = 0)).mpr q)
              refine lv_iload hx hb dX4_product_111 (lv_at hl 1 rfl) ?_
              refine lv_bipush (v := 47) hx hb dX4_product_113 (by decide) ?_
              refine lv_icmp_ne (tgt := 125) hx hb dX4_product_115 (by decide) (fun c50 => ?_) (fun c50 => ?_)
              · skip
                have c50 : ¬ (r40.toInt = 47) := fun q => c50 ((z_eq rfl (by decide : (47 : Int32).toInt = 47)).mpr q)
                refine lv_iload_n hx hb dX4_product_125 rfl (lv_at hl 3 rfl) ?_
                refine lv_iload hx hb dX4_product_126 (lv_at hl 0 rfl) ?_
                refine lv_irem hx hb dX4_product_128 (z_nz (by omega)) ?_
                refine lv_topi (fun x51 ex51 => ?_)
                refine lv_istore_n (lv' := [(3, .int x51), (6, .int r46), (5, .int r40), (4, .int v4_10), (0, .ref (ad kg)), (1, .int 3), (2, .int ask)]) hx hb dX4_product_129 rfl hl (by decide) rfl (fun ls hl => ?_)
                obtain ⟨x52, ex52⟩ : ∃ y : Int32, y = v4_10 + 1 := ⟨_, rfl⟩
                have tx52 : x52.toInt = v4_10.toInt + 1 := by rw [ex52]; exact z_add rfl (by decide : (1 : Int32).toInt = 1) (by omega) (by omega)
                refine lv_iinc (v := x52) (lv' := [(4, .int x52), (3, .int x51), (6, .int r46), (5, .int r40), (0, .ref (ad kg)), (1, .int 3), (2, .int ask)]) hx hb dX4_product_130 hl (k := 3) rfl (by rw [ex52]; rfl) (by decide) rfl (fun ls hl => ?_)
                refine lv_goto (tgt := 10) hx hb dX4_product_133 (by decide) ?_
                exact ih10 x52 x51 ct47 _ _ ls (by omega) (by first | omega | decide) hI hP hD hS (lv_sub hl [0, 1, 4, 5, 6] rfl)
              · skip
                have c50 : r40.toInt = 47 := (z_eq rfl (by decide : (47 : Int32).toInt = 47)).mp c50
                refine lv_iload_n hx hb dX4_product_118 rfl (lv_at hl 3 rfl) ?_
                refine lv_iload hx hb dX4_product_119 (lv_at hl 0 rfl) ?_
                refine lv_idiv hx hb dX4_product_121 (z_nz (by omega)) ?_
                refine lv_topi (fun x53 ex53 => ?_)
                refine lv_goto (tgt := 129) hx hb dX4_product_122 (by decide) ?_
                refine lv_istore_n (lv' := [(3, .int x53), (6, .int r46), (5, .int r40), (4, .int v4_10), (0, .ref (ad kg)), (1, .int 3), (2, .int ask)]) hx hb dX4_product_129 rfl hl (by decide) rfl (fun ls hl => ?_)
                obtain ⟨x54, ex54⟩ : ∃ y : Int32, y = v4_10 + 1 := ⟨_, rfl⟩
                have tx54 : x54.toInt = v4_10.toInt + 1 := by rw [ex54]; exact z_add rfl (by decide : (1 : Int32).toInt = 1) (by omega) (by omega)
                refine lv_iinc (v := x54) (lv' := [(4, .int x54), (3, .int x53), (6, .int r46), (5, .int r40), (0, .ref (ad kg)), (1, .int 3), (2, .int ask)]) hx hb dX4_product_130 hl (k := 3) rfl (by rw [ex54]; rfl) (by decide) rfl (fun ls hl => ?_)
                refine lv_goto (tgt := 10) hx hb dX4_product_133 (by decide) ?_
                exact ih10 x54 x53 ct47 _ _ ls (by omega) (by first | omega | decide) hI hP hD hS (lv_sub hl [0, 1, 4, 5, 6] rfl)
            · skip
              have c49 : r46.toInt = 0 := (z_eq rfl (by decide : (0 : Int32).toInt = 0)).mp c49
              refine lv_aload_n hx hb dX4_product_88 rfl (lv_at hl 4 rfl) ?_
              refine lv_aload_n hx hb dX4_product_89 rfl (lv_at hl 4 rfl) ?_
              obtain ⟨tld56, ofb57, hol58, flt59, fla60, ofl61, len62, atx63, ref64, hz65, h66, h67, h68, h69, hz70, hs55⟩ := a8_44 (kc := kg) (by omega) hI
              have bhz65 := z_b01 hz65
              have bhz70 := z_b01 hz70
              refine va_get (D := g.1) (ci := 4) (v := .int ref64) (C := RX4) (T := TX4) (N := 11) hx hb hg inG4 hown hK hP kg (zw_at (by omega) hs55) rfl 10 (by decide) (hg _ mm_286) (fun _ h9 => h9) rfl dX4_product_90 ?_
              refine lv_if_ne (tgt := 100) hx hb dX4_product_93 (by decide) (fun c71 => ?_) (fun c71 => ?_)
              · skip
                have c71 : ¬ (ref64.toInt = 0) := fun q => c71 ((z_eq rfl (by decide : (0 : Int32).toInt = 0)).mpr q)
                refine lv_iconst (v := 1) hx hb dX4_product_100 (by decide) ?_
                refine lv_goto (tgt := 105) hx hb dX4_product_101 (by decide) ?_
                refine va_put (D := g.1) (ci := 4) (v := .int 1) (ty := .boolean) (C := RX4) (T := TX4) (N := 11) hx hb hg inG4 tyX4 tyX4_ok nmX4 hown hK hP hD hS kg (zw_at (by omega) hs55) rfl 10 (by decide) (hg _ mm_286) (fun _ h9 => h9) rfl (by decide +kernel) rfl rfl (Nat.le_of_ble_eq_true rfl) dX4_product_105 (fun H locs hP hD hS => ?_)
                have hP : zP g ((zw 126 ad ct47).set kg (ad kg, .inr (4, [.int tld56, .int ofb57, .int hol58, .int flt59, .int fla60, .int ofl61, .ref (ad (kg + 1)), .ref (ad (kg + 2)), .int len62, .int atx63, .int 1]))) H := hP
                have hD : va_D A ((zw 126 ad ct47).set kg (ad kg, .inr (4, [.int tld56, .int ofb57, .int hol58, .int flt59, .int fla60, .int ofl61, .ref (ad (kg + 1)), .ref (ad (kg + 2)), .int len62, .int atx63, .int 1]))) := hD
                rw [zw_set (by omega)] at hP hD
                obtain ⟨ct72, ec73⟩ : ∃ z : Nat → va_E, z = va_up ct47 kg (.inr (4, [.int tld56, .int ofb57, .int hol58, .int flt59, .int fla60, .int ofl61, .ref (ad (kg + 1)), .ref (ad (kg + 2)), .int len62, .int atx63, .int 1])) := ⟨_, rfl⟩
                rw [← ec73] at hP hD
                have hI : Inv8 g ad pe ct72 := by rw [ec73]; exact up8 hI (i8_44 (kc := kg) (by omega) ⟨(tld56 : Int32), (ofb57 : Int32), (hol58 : Int32), (flt59 : Int32), (fla60 : Int32), (ofl61 : Int32), (len62 : Int32), (atx63 : Int32), (1 : Int32), hz65, (by first | omega | decide), (by first | omega | decide), (by first | omega | decide), (by first | omega | decide), (Or.inr rfl), rfl⟩)
                have hs74 : ct72 kg = .inr (4, [.int tld56, .int ofb57, .int hol58, .int flt59, .int fla60, .int ofl61, .ref (ad (kg + 1)), .ref (ad (kg + 2)), .int len62, .int atx63, .int 1]) := by rw [ec73]; exact va_up_self _ _ _
                refine lv_goto (tgt := 130) hx hb dX4_product_108 (by decide) ?_
                obtain ⟨x75, ex75⟩ : ∃ y : Int32, y = v4_10 + 1 := ⟨_, rfl⟩
                have tx75 : x75.toInt = v4_10.toInt + 1 := by rw [ex75]; exact z_add rfl (by decide : (1 : Int32).toInt = 1) (by omega) (by omega)
                refine lv_iinc (v := x75) (lv' := [(4, .int x75), (6, .int r46), (5, .int r40), (3, .int v3_10), (0, .ref (ad kg)), (1, .int 3), (2, .int ask)]) hx hb dX4_product_130 hl (k := 2) rfl (by rw [ex75]; rfl) (by decide) rfl (fun ls hl => ?_)
                refine lv_goto (tgt := 10) hx hb dX4_product_133 (by decide) ?_
                exact ih10 x75 v3_10 ct72 _ _ ls (by omega) (by first | omega | decide) hI hP hD hS (lv_sub hl [0, 3, 4, 5, 6] rfl)
              · skip
                have c71 : ref64.toInt = 0 := (z_eq rfl (by decide : (0 : Int32).toInt = 0)).mp c71
                refine lv_iload_n hx hb dX4_product_96 rfl (lv_at hl 6 rfl) ?_
                refine lv_if_eq (tgt := 104) hx hb dX4_product_97 (by decide) (fun c76 => ?_) (fun c76 => ?_)
                · skip
                  have c76 : ask.toInt = 0 := (z_eq rfl (by decide : (0 : Int32).toInt = 0)).mp c76
                  refine lv_iconst (v := 0) hx hb dX4_product_104 (by decide) ?_
                  refine va_put (D := g.1) (ci := 4) (v := .int 0) (ty := .boolean) (C := RX4) (T := TX4) (N := 11) hx hb hg inG4 tyX4 tyX4_ok nmX4 hown hK hP hD hS kg (zw_at (by omega) hs55) rfl 10 (by decide) (hg _ mm_286) (fun _ h9 => h9) rfl (by decide +kernel) rfl rfl (Nat.le_of_ble_eq_true rfl) dX4_product_105 (fun H locs hP hD hS => ?_)
                  have hP : zP g ((zw 126 ad ct47).set kg (ad kg, .inr (4, [.int tld56, .int ofb57, .int hol58, .int flt59, .int fla60, .int ofl61, .ref (ad (kg + 1)), .ref (ad (kg + 2)), .int len62, .int atx63, .int 0]))) H := hP
                  have hD : va_D A ((zw 126 ad ct47).set kg (ad kg, .inr (4, [.int tld56, .int ofb57, .int hol58, .int flt59, .int fla60, .int ofl61, .ref (ad (kg + 1)), .ref (ad (kg + 2)), .int len62, .int atx63, .int 0]))) := hD
                  rw [zw_set (by omega)] at hP hD
                  obtain ⟨ct77, ec78⟩ : ∃ z : Nat → va_E, z = va_up ct47 kg (.inr (4, [.int tld56, .int ofb57, .int hol58, .int flt59, .int fla60, .int ofl61, .ref (ad (kg + 1)), .ref (ad (kg + 2)), .int len62, .int atx63, .int 0])) := ⟨_, rfl⟩
                  rw [← ec78] at hP hD
                  have hI : Inv8 g ad pe ct77 := by rw [ec78]; exact up8 hI (i8_44 (kc := kg) (by omega) ⟨(tld56 : Int32), (ofb57 : Int32), (hol58 : Int32), (flt59 : Int32), (fla60 : Int32), (ofl61 : Int32), (len62 : Int32), (atx63 : Int32), (0 : Int32), hz65, (by first | omega | decide), (by first | omega | decide), (by first | omega | decide), (by first | omega | decide), (Or.inl rfl), rfl⟩)
                  have hs79 : ct77 kg = .inr (4, [.int tld56, .int ofb57, .int hol58, .int flt59, .int fla60, .int ofl61, .ref (ad (kg + 1)), .ref (ad (kg + 2)), .int len62, .int atx63, .int 0]) := by rw [ec78]; exact va_up_self _ _ _
                  refine lv_goto (tgt := 130) hx hb dX4_product_108 (by decide) ?_
                  obtain ⟨x80, ex80⟩ : ∃ y : Int32, y = v4_10 + 1 := ⟨_, rfl⟩
                  have tx80 : x80.toInt = v4_10.toInt + 1 := by rw [ex80]; exact z_add rfl (by decide : (1 : Int32).toInt = 1) (by omega) (by omega)
                  refine lv_iinc (v := x80) (lv' := [(4, .int x80), (6, .int r46), (5, .int r40), (3, .int v3_10), (0, .ref (ad kg)), (1, .int 3), (2, .int ask)]) hx hb dX4_product_130 hl (k := 2) rfl (by rw [ex80]; rfl) (by decide) rfl (fun ls hl => ?_)
                  refine lv_goto (tgt := 10) hx hb dX4_product_133 (by decide) ?_
                  exact ih10 x80 v3_10 ct77 _ _ ls (by omega) (by first | omega | decide) hI hP hD hS (lv_sub hl [0, 3, 4, 5, 6] rfl)
                · skip
                  have c76 : ¬ (ask.toInt = 0) := fun q => c76 ((z_eq rfl (by decide : (0 : Int32).toInt = 0)).mpr q)
                  refine lv_iconst (v := 1) hx hb dX4_product_100 (by decide) ?_
                  refine lv_goto (tgt := 105) hx hb dX4_product_101 (by decide) ?_
                  refine va_put (D := g.1) (ci := 4) (v := .int 1) (ty := .boolean) (C := RX4) (T := TX4) (N := 11) hx hb hg inG4 tyX4 tyX4_ok nmX4 hown hK hP hD hS kg (zw_at (by omega) hs55) rfl 10 (by decide) (hg _ mm_286) (fun _ h9 => h9) rfl (by decide +kernel) rfl rfl (Nat.le_of_ble_eq_true rfl) dX4_product_105 (fun H locs hP hD hS => ?_)
                  have hP : zP g ((zw 126 ad ct47).set kg (ad kg, .inr (4, [.int tld56, .int ofb57, .int hol58, .int flt59, .int fla60, .int ofl61, .ref (ad (kg + 1)), .ref (ad (kg + 2)), .int len62, .int atx63, .int 1]))) H := hP
                  have hD : va_D A ((zw 126 ad ct47).set kg (ad kg, .inr (4, [.int tld56, .int ofb57, .int hol58, .int flt59, .int fla60, .int ofl61, .ref (ad (kg + 1)), .ref (ad (kg + 2)), .int len62, .int atx63, .int 1]))) := hD
                  rw [zw_set (by omega)] at hP hD
                  obtain ⟨ct81, ec82⟩ : ∃ z : Nat → va_E, z = va_up ct47 kg (.inr (4, [.int tld56, .int ofb57, .int hol58, .int flt59, .int fla60, .int ofl61, .ref (ad (kg + 1)), .ref (ad (kg + 2)), .int len62, .int atx63, .int 1])) := ⟨_, rfl⟩
                  rw [← ec82] at hP hD
                  have hI : Inv8 g ad pe ct81 := by rw [ec82]; exact up8 hI (i8_44 (kc := kg) (by omega) ⟨(tld56 : Int32), (ofb57 : Int32), (hol58 : Int32), (flt59 : Int32), (fla60 : Int32), (ofl61 : Int32), (len62 : Int32), (atx63 : Int32), (1 : Int32), hz65, (by first | omega | decide), (by first | omega | decide), (by first | omega | decide), (by first | omega | decide), (Or.inr rfl), rfl⟩)
                  have hs83 : ct81 kg = .inr (4, [.int tld56, .int ofb57, .int hol58, .int flt59, .int fla60, .int ofl61, .ref (ad (kg + 1)), .ref (ad (kg + 2)), .int len62, .int atx63, .int 1]) := by rw [ec82]; exact va_up_self _ _ _
                  refine lv_goto (tgt := 130) hx hb dX4_product_108 (by decide) ?_
                  obtain ⟨x84, ex84⟩ : ∃ y : Int32, y = v4_10 + 1 := ⟨_, rfl⟩
                  have tx84 : x84.toInt = v4_10.toInt + 1 := by rw [ex84]; exact z_add rfl (by decide : (1 : Int32).toInt = 1) (by omega) (by omega)
                  refine lv_iinc (v := x84) (lv' := [(4, .int x84), (6, .int r46), (5, .int r40), (3, .int v3_10), (0, .ref (ad kg)), (1, .int 3), (2, .int ask)]) hx hb dX4_product_130 hl (k := 2) rfl (by rw [ex84]; rfl) (by decide) rfl (fun ls hl => ?_)
                  refine lv_goto (tgt := 10) hx hb dX4_product_133 (by decide) ?_
                  exact ih10 x84 v3_10 ct81 _ _ ls (by omega) (by first | omega | decide) hI hP hD hS (lv_sub hl [0, 3, 4, 5, 6] rfl)
          · skip
            have c48 : r40.toInt = 42 := (z_eq rfl (by decide : (42 : Int32).toInt = 42)).mp c48
            refine lv_iload_n hx hb dX4_product_75 rfl (lv_at hl 3 rfl) ?_
            refine lv_iload hx hb dX4_product_76 (lv_at hl 0 rfl) ?_
            refine lv_imul hx hb dX4_product_78 ?_
            refine lv_topi (fun x85 ex85 => ?_)
            refine lv_istore_n (lv' := [(3, .int x85), (6, .int r46), (5, .int r40), (4, .int v4_10), (0, .ref (ad kg)), (1, .int 3), (2, .int ask)]) hx hb dX4_product_79 rfl hl (by decide) rfl (fun ls hl => ?_)
            refine lv_goto (tgt := 130) hx hb dX4_product_80 (by decide) ?_
            obtain ⟨x86, ex86⟩ : ∃ y : Int32, y = v4_10 + 1 := ⟨_, rfl⟩
            have tx86 : x86.toInt = v4_10.toInt + 1 := by rw [ex86]; exact z_add rfl (by decide : (1 : Int32).toInt = 1) (by omega) (by omega)
            refine lv_iinc (v := x86) (lv' := [(4, .int x86), (3, .int x85), (6, .int r46), (5, .int r40), (0, .ref (ad kg)), (1, .int 3), (2, .int ask)]) hx hb dX4_product_130 hl (k := 3) rfl (by rw [ex86]; rfl) (by decide) rfl (fun ls hl => ?_)
            refine lv_goto (tgt := 10) hx hb dX4_product_133 (by decide) ?_
            exact ih10 x86 x85 ct47 _ _ ls (by omega) (by first | omega | decide) hI hP hD hS (lv_sub hl [0, 1, 4, 5, 6] rfl)
        · skip
          have c39 : ¬ (r37.toInt = 42) := fun q => c39 ((z_eq rfl (by decide : (42 : Int32).toInt = 42)).mpr q)
          refine lv_aload_n hx hb dX4_product_26 rfl (lv_at hl 2 rfl) ?_
          refine zc_i (va_runV (As := []) (rest := []) ⟨hx, hb, hml, hown, hg⟩ (k_X4_nextp l g ad pe ct19 kg tld22 ofb23 hol24 flt25 fla26 ofl27 len28 atx29 ref30 (by omega) hI hs21) (cwV 0 hg (z_gV mm_475 mm_477 mm_8 mm_114 mm_478) rfl rfl rfl (by decide +kernel) ⟨Nat.le_of_ble_eq_true rfl, Nat.le_of_ble_eq_true rfl⟩) ⟨(zR.pre [.ref (ad kg)] hP hK hN).1, va_recv hK hP (ci := 4) (q0 := kg) rfl (zw_at (by omega) hs21), (zR.pre [.ref (ad kg)] hP hK hN).2⟩ rfl rfl hl.1 rfl (lv_room (Nat.le_of_ble_eq_true rfl)) dX4_product_27 ⟨Nat.le_of_ble_eq_true rfl, Nat.le_of_ble_eq_true rfl⟩) (fun r87 hr87 => ?_)
          have h88 := hr87
          have h88 : nxp r87 atx29 := h88
          refine lv_bipush (v := 47) hx hb dX4_product_30 (by decide) ?_
          refine lv_icmp_eq (tgt := 44) hx hb dX4_product_32 (by decide) (fun c89 => ?_) (fun c89 => ?_)
          · skip
            have c89 : r87.toInt = 47 := (z_eq rfl (by decide : (47 : Int32).toInt = 47)).mp c89
            refine lv_aload_n hx hb dX4_product_44 rfl (lv_at hl 2 rfl) ?_
            refine zc_i (va_runV (As := []) (rest := []) ⟨hx, hb, hml, hown, hg⟩ (k_X4_nextp l g ad pe ct19 kg tld22 ofb23 hol24 flt25 fla26 ofl27 len28 atx29 ref30 (by omega) hI hs21) (cwV 0 hg (z_gV mm_475 mm_477 mm_8 mm_114 mm_478) rfl rfl rfl (by decide +kernel) ⟨Nat.le_of_ble_eq_true rfl, Nat.le_of_ble_eq_true rfl⟩) ⟨(zR.pre [.ref (ad kg)] hP hK hN).1, va_recv hK hP (ci := 4) (q0 := kg) rfl (zw_at (by omega) hs21), (zR.pre [.ref (ad kg)] hP hK hN).2⟩ rfl rfl hl.1 rfl (lv_room (Nat.le_of_ble_eq_true rfl)) dX4_product_45 ⟨Nat.le_of_ble_eq_true rfl, Nat.le_of_ble_eq_true rfl⟩) (fun r90 hr90 => ?_)
            have h91 := hr90
            have h91 : nxp r90 atx29 := h91
            refine lv_istore (lv' := [(5, .int r90), (4, .int v4_10), (3, .int v3_10), (0, .ref (ad kg)), (1, .int 3), (2, .int ask)]) hx hb dX4_product_48 hl (by decide) rfl (fun ls hl => ?_)
            refine lv_aload_n hx hb dX4_product_50 rfl (lv_at hl 3 rfl) ?_
            refine lv_dup hx hb dX4_product_51 rfl ?_
            refine va_get (D := g.1) (ci := 4) (v := .int atx29) (C := RX4) (T := TX4) (N := 11) hx hb hg inG4 hown hK hP kg (zw_at (by omega) hs21) rfl 9 (by decide) (hg _ mm_285) (fun _ h9 => h9) rfl dX4_product_52 ?_
            refine lv_iconst (v := 1) hx hb dX4_product_55 (by decide) ?_
            refine lv_iadd hx hb dX4_product_56 ?_
            refine lv_topi (fun x92 ex92 => ?_)
            have tx92 : x92.toInt = atx29.toInt + 1 := by rw [ex92]; exact z_add rfl (by decide : (1 : Int32).toInt = 1) (by omega) (by omega)
            have hat92 : atx29.toInt ≤ 99 := by first | exact nxp_use h38 (by omega) | exact nxp_use h88 (by omega) | exact nxp_use h91 (by omega)
            refine va_put (D := g.1) (ci := 4) (v := .int x92) (ty := .int) (C := RX4) (T := TX4) (N := 11) hx hb hg inG4 tyX4 tyX4_ok nmX4 hown hK hP hD hS kg (zw_at (by omega) hs21) rfl 9 (by decide) (hg _ mm_285) (fun _ h9 => h9) rfl (by decide +kernel) rfl rfl (Nat.le_of_ble_eq_true rfl) dX4_product_57 (fun H locs hP hD hS => ?_)
            have hP : zP g ((zw 126 ad ct19).set kg (ad kg, .inr (4, [.int tld22, .int ofb23, .int hol24, .int flt25, .int fla26, .int ofl27, .ref (ad (kg + 1)), .ref (ad (kg + 2)), .int len28, .int x92, .int ref30]))) H := hP
            have hD : va_D A ((zw 126 ad ct19).set kg (ad kg, .inr (4, [.int tld22, .int ofb23, .int hol24, .int flt25, .int fla26, .int ofl27, .ref (ad (kg + 1)), .ref (ad (kg + 2)), .int len28, .int x92, .int ref30]))) := hD
            rw [zw_set (by omega)] at hP hD
            obtain ⟨ct93, ec94⟩ : ∃ z : Nat → va_E, z = va_up ct19 kg (.inr (4, [.int tld22, .int ofb23, .int hol24, .int flt25, .int fla26, .int ofl27, .ref (ad (kg + 1)), .ref (ad (kg + 2)), .int len28, .int x92, .int ref30])) := ⟨_, rfl⟩
            rw [← ec94] at hP hD
            have hI : Inv8 g ad pe ct93 := by rw [ec94]; exact up8 hI (i8_44 (kc := kg) (by omega) ⟨(tld22 : Int32), (ofb23 : Int32), (hol24 : Int32), (flt25 : Int32), (fla26 : Int32), (ofl27 : Int32), (len28 : Int32), (x92 : Int32), (ref30 : Int32), hz31, (by first | omega | decide), (by first | omega | decide), (by first | omega | decide), (by first | omega | decide), hz36, rfl⟩)
            have hs95 : ct93 kg = .inr (4, [.int tld22, .int ofb23, .int hol24, .int flt25, .int fla26, .int ofl27, .ref (ad (kg + 1)), .ref (ad (kg + 2)), .int len28, .int x92, .int ref30]) := by rw [ec94]; exact va_up_self _ _ _
            refine lv_aload_n hx hb dX4_product_60 rfl (lv_at hl 3 rfl) ?_
            refine lv_iload_n hx hb dX4_product_61 rfl (lv_at hl 4 rfl) ?_
            refine lv_iload_n hx hb dX4_product_62 rfl (lv_at hl 5 rfl) ?_
            have hFc := zw_free hD hS hA
            refine va_calli (va_runV (As := [.int 3, .int ask]) (rest := []) ⟨hx, hb, hml, hown, hg⟩ (k_X4_factor_3 l g _ ad pe ct93 kg ask (by omega) hI) (cwV 2 hg (z_gV mm_499 mm_501 mm_14 mm_114 mm_502) rfl rfl rfl (by decide +kernel) ⟨Nat.le_of_ble_eq_true rfl, Nat.le_of_ble_eq_true rfl⟩) ⟨(zA.pre [.ref (ad kg), .int 3, .int ask] hP hK hD hN).1, va_recv hK hP (ci := 4) (q0 := kg) rfl (zw_at (by omega) hs95), (zA.pre [.ref (ad kg), .int 3, .int ask] hP hK hD hN).2⟩ rfl rfl hl.1 rfl (lv_room (Nat.le_of_ble_eq_true rfl)) dX4_product_63 ⟨Nat.le_of_ble_eq_true rfl, Nat.le_of_ble_eq_true rfl⟩) hS (fun q _ h => hFc q h) hFc (fun r96 _ t H1 locs ht hvm hr96 hB hz1 hk1 hS => ?_)
            obtain ⟨ct97, hP1, hD1, hI⟩ := hB
            rw [ht] at hP1
            have hD := hD1.weaken (fun _ _ _ h => hFc _ h)
            generalize H1 = H at hP1 hS ⊢
            have hP := hP1
            refine W.widen (k := 0) (n := 0) (Nat.le_refl _) (Nat.le_refl _) ?_
            refine lv_istore (lv' := [(6, .int r96), (5, .int r90), (4, .int v4_10), (3, .int v3_10), (0, .ref (ad kg)), (1, .int 3), (2, .int ask)]) hx hb dX4_product_66 hl (by decide) rfl (fun ls hl => ?_)
            refine lv_iload hx hb dX4_product_68 (lv_at hl 1 rfl) ?_
            refine lv_bipush (v := 42) hx hb dX4_product_70 (by decide) ?_
            refine lv_icmp_ne (tgt := 83) hx hb dX4_product_72 (by decide) (fun c98 => ?_) (fun c98 => ?_)
            · skip
              have c98 : ¬ (r90.toInt = 42) := fun q => c98 ((z_eq rfl (by decide : (42 : Int32).toInt = 42)).mpr q)
              refine lv_iload hx hb dX4_product_83 (lv_at hl 0 rfl) ?_
              refine lv_if_ne (tgt := 111) hx hb dX4_product_85 (by decide) (fun c99 => ?_) (fun c99 => ?_)
              · skip
                have c99 : ¬ (r96.toInt = 0) := fun q => c99 ((z_eq rfl (by decide : (0 : Int32).toInt = 0)).mpr q)
                refine lv_iload hx hb dX4_product_111 (lv_at hl 1 rfl) ?_
                refine lv_bipush (v := 47) hx hb dX4_product_113 (by decide) ?_
                refine lv_icmp_ne (tgt := 125) hx hb dX4_product_115 (by decide) (fun c100 => ?_) (fun c100 => ?_)
                · skip
                  have c100 : ¬ (r90.toInt = 47) := fun q => c100 ((z_eq rfl (by decide : (47 : Int32).toInt = 47)).mpr q)
                  refine lv_iload_n hx hb dX4_product_125 rfl (lv_at hl 3 rfl) ?_
                  refine lv_iload hx hb dX4_product_126 (lv_at hl 0 rfl) ?_
                  refine lv_irem hx hb dX4_product_128 (z_nz (by omega)) ?_
                  refine lv_topi (fun x101 ex101 => ?_)
                  refine lv_istore_n (lv' := [(3, .int x101), (6, .int r96), (5, .int r90), (4, .int v4_10), (0, .ref (ad kg)), (1, .int 3), (2, .int ask)]) hx hb dX4_product_129 rfl hl (by decide) rfl (fun ls hl => ?_)
                  obtain ⟨x102, ex102⟩ : ∃ y : Int32, y = v4_10 + 1 := ⟨_, rfl⟩
                  have tx102 : x102.toInt = v4_10.toInt + 1 := by rw [ex102]; exact z_add rfl (by decide : (1 : Int32).toInt = 1) (by omega) (by omega)
                  refine lv_iinc (v := x102) (lv' := [(4, .int x102), (3, .int x101), (6, .int r96), (5, .int r90), (0, .ref (ad kg)), (1, .int 3), (2, .int ask)]) hx hb dX4_product_130 hl (k := 3) rfl (by rw [ex102]; rfl) (by decide) rfl (fun ls hl => ?_)
                  refine lv_goto (tgt := 10) hx hb dX4_product_133 (by decide) ?_
                  exact ih10 x102 x101 ct97 _ _ ls (by omega) (by first | omega | decide) hI hP hD hS (lv_sub hl [0, 1, 4, 5, 6] rfl)
                · skip
                  have c100 : r90.toInt = 47 := (z_eq rfl (by decide : (47 : Int32).toInt = 47)).mp c100
                  refine lv_iload_n hx hb dX4_product_118 rfl (lv_at hl 3 rfl) ?_
                  refine lv_iload hx hb dX4_product_119 (lv_at hl 0 rfl) ?_
                  refine lv_idiv hx hb dX4_product_121 (z_nz (by omega)) ?_
                  refine lv_topi (fun x103 ex103 => ?_)
                  refine lv_goto (tgt := 129) hx hb dX4_product_122 (by decide) ?_
                  refine lv_istore_n (lv' := [(3, .int x103), (6, .int r96), (5, .int r90), (4, .int v4_10), (0, .ref (ad kg)), (1, .int 3), (2, .int ask)]) hx hb dX4_product_129 rfl hl (by decide) rfl (fun ls hl => ?_)
                  obtain ⟨x104, ex104⟩ : ∃ y : Int32, y = v4_10 + 1 := ⟨_, rfl⟩
                  have tx104 : x104.toInt = v4_10.toInt + 1 := by rw [ex104]; exact z_add rfl (by decide : (1 : Int32).toInt = 1) (by omega) (by omega)
                  refine lv_iinc (v := x104) (lv' := [(4, .int x104), (3, .int x103), (6, .int r96), (5, .int r90), (0, .ref (ad kg)), (1, .int 3), (2, .int ask)]) hx hb dX4_product_130 hl (k := 3) rfl (by rw [ex104]; rfl) (by decide) rfl (fun ls hl => ?_)
                  refine lv_goto (tgt := 10) hx hb dX4_product_133 (by decide) ?_
                  exact ih10 x104 x103 ct97 _ _ ls (by omega) (by first | omega | decide) hI hP hD hS (lv_sub hl [0, 1, 4, 5, 6] rfl)
              · skip
                have c99 : r96.toInt = 0 := (z_eq rfl (by decide : (0 : Int32).toInt = 0)).mp c99
                refine lv_aload_n hx hb dX4_product_88 rfl (lv_at hl 4 rfl) ?_
                refine lv_aload_n hx hb dX4_product_89 rfl (lv_at hl 4 rfl) ?_
                obtain ⟨tld106, ofb107, hol108, flt109, fla110, ofl111, len112, atx113, ref114, hz115, h116, h117, h118, h119, hz120, hs105⟩ := a8_44 (kc := kg) (by omega) hI
                have bhz115 := z_b01 hz115
                have bhz120 := z_b01 hz120
                refine va_get (D := g.1) (ci := 4) (v := .int ref114) (C := RX4) (T := TX4) (N := 11) hx hb hg inG4 hown hK hP kg (zw_at (by omega) hs105) rfl 10 (by decide) (hg _ mm_286) (fun _ h9 => h9) rfl dX4_product_90 ?_
                refine lv_if_ne (tgt := 100) hx hb dX4_product_93 (by decide) (fun c121 => ?_) (fun c121 => ?_)
                · skip
                  have c121 : ¬ (ref114.toInt = 0) := fun q => c121 ((z_eq rfl (by decide : (0 : Int32).toInt = 0)).mpr q)
                  refine lv_iconst (v := 1) hx hb dX4_product_100 (by decide) ?_
                  refine lv_goto (tgt := 105) hx hb dX4_product_101 (by decide) ?_
                  refine va_put (D := g.1) (ci := 4) (v := .int 1) (ty := .boolean) (C := RX4) (T := TX4) (N := 11) hx hb hg inG4 tyX4 tyX4_ok nmX4 hown hK hP hD hS kg (zw_at (by omega) hs105) rfl 10 (by decide) (hg _ mm_286) (fun _ h9 => h9) rfl (by decide +kernel) rfl rfl (Nat.le_of_ble_eq_true rfl) dX4_product_105 (fun H locs hP hD hS => ?_)
                  have hP : zP g ((zw 126 ad ct97).set kg (ad kg, .inr (4, [.int tld106, .int ofb107, .int hol108, .int flt109, .int fla110, .int ofl111, .ref (ad (kg + 1)), .ref (ad (kg + 2)), .int len112, .int atx113, .int 1]))) H := hP
                  have hD : va_D A ((zw 126 ad ct97).set kg (ad kg, .inr (4, [.int tld106, .int ofb107, .int hol108, .int flt109, .int fla110, .int ofl111, .ref (ad (kg + 1)), .ref (ad (kg + 2)), .int len112, .int atx113, .int 1]))) := hD
                  rw [zw_set (by omega)] at hP hD
                  obtain ⟨ct122, ec123⟩ : ∃ z : Nat → va_E, z = va_up ct97 kg (.inr (4, [.int tld106, .int ofb107, .int hol108, .int flt109, .int fla110, .int ofl111, .ref (ad (kg + 1)), .ref (ad (kg + 2)), .int len112, .int atx113, .int 1])) := ⟨_, rfl⟩
                  rw [← ec123] at hP hD
                  have hI : Inv8 g ad pe ct122 := by rw [ec123]; exact up8 hI (i8_44 (kc := kg) (by omega) ⟨(tld106 : Int32), (ofb107 : Int32), (hol108 : Int32), (flt109 : Int32), (fla110 : Int32), (ofl111 : Int32), (len112 : Int32), (atx113 : Int32), (1 : Int32), hz115, (by first | omega | decide), (by first | omega | decide), (by first | omega | decide), (by first | omega | decide), (Or.inr rfl), rfl⟩)
                  have hs124 : ct122 kg = .inr (4, [.int tld106, .int ofb107, .int hol108, .int flt109, .int fla110, .int ofl111, .ref (ad (kg + 1)), .ref (ad (kg + 2)), .int len112, .int atx113, .int 1]) := by rw [ec123]; exact va_up_self _ _ _
                  refine lv_goto (tgt := 130) hx hb dX4_product_108 (by decide) ?_
                  obtain ⟨x125, ex125⟩ : ∃ y : Int32, y = v4_10 + 1 := ⟨_, rfl⟩
                  have tx125 : x125.toInt = v4_10.toInt + 1 := by rw [ex125]; exact z_add rfl (by decide : (1 : Int32).toInt = 1) (by omega) (by omega)
                  refine lv_iinc (v := x125) (lv' := [(4, .int x125), (6, .int r96), (5, .int r90), (3, .int v3_10), (0, .ref (ad kg)), (1, .int 3), (2, .int ask)]) hx hb dX4_product_130 hl (k := 2) rfl (by rw [ex125]; rfl) (by decide) rfl (fun ls hl => ?_)
                  refine lv_goto (tgt := 10) hx hb dX4_product_133 (by decide) ?_
                  exact ih10 x125 v3_10 ct122 _ _ ls (by omega) (by first | omega | decide) hI hP hD hS (lv_sub hl [0, 3, 4, 5, 6] rfl)
                · skip
                  have c121 : ref114.toInt = 0 := (z_eq rfl (by decide : (0 : Int32).toInt = 0)).mp c121
                  refine lv_iload_n hx hb dX4_product_96 rfl (lv_at hl 6 rfl) ?_
                  refine lv_if_eq (tgt := 104) hx hb dX4_product_97 (by decide) (fun c126 => ?_) (fun c126 => ?_)
                  · skip
                    have c126 : ask.toInt = 0 := (z_eq rfl (by decide : (0 : Int32).toInt = 0)).mp c126
                    refine lv_iconst (v := 0) hx hb dX4_product_104 (by decide) ?_
                    refine va_put (D := g.1) (ci := 4) (v := .int 0) (ty := .boolean) (C := RX4) (T := TX4) (N := 11) hx hb hg inG4 tyX4 tyX4_ok nmX4 hown hK hP hD hS kg (zw_at (by omega) hs105) rfl 10 (by decide) (hg _ mm_286) (fun _ h9 => h9) rfl (by decide +kernel) rfl rfl (Nat.le_of_ble_eq_true rfl) dX4_product_105 (fun H locs hP hD hS => ?_)
                    have hP : zP g ((zw 126 ad ct97).set kg (ad kg, .inr (4, [.int tld106, .int ofb107, .int hol108, .int flt109, .int fla110, .int ofl111, .ref (ad (kg + 1)), .ref (ad (kg + 2)), .int len112, .int atx113, .int 0]))) H := hP
                    have hD : va_D A ((zw 126 ad ct97).set kg (ad kg, .inr (4, [.int tld106, .int ofb107, .int hol108, .int flt109, .int fla110, .int ofl111, .ref (ad (kg + 1)), .ref (ad (kg + 2)), .int len112, .int atx113, .int 0]))) := hD
                    rw [zw_set (by omega)] at hP hD
                    obtain ⟨ct127, ec128⟩ : ∃ z : Nat → va_E, z = va_up ct97 kg (.inr (4, [.int tld106, .int ofb107, .int hol108, .int flt109, .int fla110, .int ofl111, .ref (ad (kg + 1)), .ref (ad (kg + 2)), .int len112, .int atx113, .int 0])) := ⟨_, rfl⟩
                    rw [← ec128] at hP hD
                    have hI : Inv8 g ad pe ct127 := by rw [ec128]; exact up8 hI (i8_44 (kc := kg) (by omega) ⟨(tld106 : Int32), (ofb107 : Int32), (hol108 : Int32), (flt109 : Int32), (fla110 : Int32), (ofl111 : Int32), (len112 : Int32), (atx113 : Int32), (0 : Int32), hz115, (by first | omega | decide), (by first | omega | decide), (by first | omega | decide), (by first | omega | decide), (Or.inl rfl), rfl⟩)
                    have hs129 : ct127 kg = .inr (4, [.int tld106, .int ofb107, .int hol108, .int flt109, .int fla110, .int ofl111, .ref (ad (kg + 1)), .ref (ad (kg + 2)), .int len112, .int atx113, .int 0]) := by rw [ec128]; exact va_up_self _ _ _
                    refine lv_goto (tgt := 130) hx hb dX4_product_108 (by decide) ?_
                    obtain ⟨x130, ex130⟩ : ∃ y : Int32, y = v4_10 + 1 := ⟨_, rfl⟩
                    have tx130 : x130.toInt = v4_10.toInt + 1 := by rw [ex130]; exact z_add rfl (by decide : (1 : Int32).toInt = 1) (by omega) (by omega)
                    refine lv_iinc (v := x130) (lv' := [(4, .int x130), (6, .int r96), (5, .int r90), (3, .int v3_10), (0, .ref (ad kg)), (1, .int 3), (2, .int ask)]) hx hb dX4_product_130 hl (k := 2) rfl (by rw [ex130]; rfl) (by decide) rfl (fun ls hl => ?_)
                    refine lv_goto (tgt := 10) hx hb dX4_product_133 (by decide) ?_
                    exact ih10 x130 v3_10 ct127 _ _ ls (by omega) (by first | omega | decide) hI hP hD hS (lv_sub hl [0, 3, 4, 5, 6] rfl)
                  · skip
                    have c126 : ¬ (ask.toInt = 0) := fun q => c126 ((z_eq rfl (by decide : (0 : Int32).toInt = 0)).mpr q)
                    refine lv_iconst (v := 1) hx hb dX4_product_100 (by decide) ?_
                    refine lv_goto (tgt := 105) hx hb dX4_product_101 (by decide) ?_
                    refine va_put (D := g.1) (ci := 4) (v := .int 1) (ty := .boolean) (C := RX4) (T := TX4) (N := 11) hx hb hg inG4 tyX4 tyX4_ok nmX4 hown hK hP hD hS kg (zw_at (by omega) hs105) rfl 10 (by decide) (hg _ mm_286) (fun _ h9 => h9) rfl (by decide +kernel) rfl rfl (Nat.le_of_ble_eq_true rfl) dX4_product_105 (fun H locs hP hD hS => ?_)
                    have hP : zP g ((zw 126 ad ct97).set kg (ad kg, .inr (4, [.int tld106, .int ofb107, .int hol108, .int flt109, .int fla110, .int ofl111, .ref (ad (kg + 1)), .ref (ad (kg + 2)), .int len112, .int atx113, .int 1]))) H := hP
                    have hD : va_D A ((zw 126 ad ct97).set kg (ad kg, .inr (4, [.int tld106, .int ofb107, .int hol108, .int flt109, .int fla110, .int ofl111, .ref (ad (kg + 1)), .ref (ad (kg + 2)), .int len112, .int atx113, .int 1]))) := hD
                    rw [zw_set (by omega)] at hP hD
                    obtain ⟨ct131, ec132⟩ : ∃ z : Nat → va_E, z = va_up ct97 kg (.inr (4, [.int tld106, .int ofb107, .int hol108, .int flt109, .int fla110, .int ofl111, .ref (ad (kg + 1)), .ref (ad (kg + 2)), .int len112, .int atx113, .int 1])) := ⟨_, rfl⟩
                    rw [← ec132] at hP hD
                    have hI : Inv8 g ad pe ct131 := by rw [ec132]; exact up8 hI (i8_44 (kc := kg) (by omega) ⟨(tld106 : Int32), (ofb107 : Int32), (hol108 : Int32), (flt109 : Int32), (fla110 : Int32), (ofl111 : Int32), (len112 : Int32), (atx113 : Int32), (1 : Int32), hz115, (by first | omega | decide), (by first | omega | decide), (by first | omega | decide), (by first | omega | decide), (Or.inr rfl), rfl⟩)
                    have hs133 : ct131 kg = .inr (4, [.int tld106, .int ofb107, .int hol108, .int flt109, .int fla110, .int ofl111, .ref (ad (kg + 1)), .ref (ad (kg + 2)), .int len112, .int atx113, .int 1]) := by rw [ec132]; exact va_up_self _ _ _
                    refine lv_goto (tgt := 130) hx hb dX4_product_108 (by decide) ?_
                    obtain ⟨x134, ex134⟩ : ∃ y : Int32, y = v4_10 + 1 := ⟨_, rfl⟩
                    have tx134 : x134.toInt = v4_10.toInt + 1 := by rw [ex134]; exact z_add rfl (by decide : (1 : Int32).toInt = 1) (by omega) (by omega)
                    refine lv_iinc (v := x134) (lv' := [(4, .int x134), (6, .int r96), (5, .int r90), (3, .int v3_10), (0, .ref (ad kg)), (1, .int 3), (2, .int ask)]) hx hb dX4_product_130 hl (k := 2) rfl (by rw [ex134]; rfl) (by decide) rfl (fun ls hl => ?_)
                    refine lv_goto (tgt := 10) hx hb dX4_product_133 (by decide) ?_
                    exact ih10 x134 v3_10 ct131 _ _ ls (by omega) (by first | omega | decide) hI hP hD hS (lv_sub hl [0, 3, 4, 5, 6] rfl)
            · skip
              have c98 : r90.toInt = 42 := (z_eq rfl (by decide : (42 : Int32).toInt = 42)).mp c98
              refine lv_iload_n hx hb dX4_product_75 rfl (lv_at hl 3 rfl) ?_
              refine lv_iload hx hb dX4_product_76 (lv_at hl 0 rfl) ?_
              refine lv_imul hx hb dX4_product_78 ?_
              refine lv_topi (fun x135 ex135 => ?_)
              refine lv_istore_n (lv' := [(3, .int x135), (6, .int r96), (5, .int r90), (4, .int v4_10), (0, .ref (ad kg)), (1, .int 3), (2, .int ask)]) hx hb dX4_product_79 rfl hl (by decide) rfl (fun ls hl => ?_)
              refine lv_goto (tgt := 130) hx hb dX4_product_80 (by decide) ?_
              obtain ⟨x136, ex136⟩ : ∃ y : Int32, y = v4_10 + 1 := ⟨_, rfl⟩
              have tx136 : x136.toInt = v4_10.toInt + 1 := by rw [ex136]; exact z_add rfl (by decide : (1 : Int32).toInt = 1) (by omega) (by omega)
              refine lv_iinc (v := x136) (lv' := [(4, .int x136), (3, .int x135), (6, .int r96), (5, .int r90), (0, .ref (ad kg)), (1, .int 3), (2, .int ask)]) hx hb dX4_product_130 hl (k := 3) rfl (by rw [ex136]; rfl) (by decide) rfl (fun ls hl => ?_)
              refine lv_goto (tgt := 10) hx hb dX4_product_133 (by decide) ?_
              exact ih10 x136 x135 ct97 _ _ ls (by omega) (by first | omega | decide) hI hP hD hS (lv_sub hl [0, 1, 4, 5, 6] rfl)
          · skip
            have c89 : ¬ (r87.toInt = 47) := fun q => c89 ((z_eq rfl (by decide : (47 : Int32).toInt = 47)).mpr q)
            refine lv_aload_n hx hb dX4_product_35 rfl (lv_at hl 2 rfl) ?_
            refine zc_i (va_runV (As := []) (rest := []) ⟨hx, hb, hml, hown, hg⟩ (k_X4_nextp l g ad pe ct19 kg tld22 ofb23 hol24 flt25 fla26 ofl27 len28 atx29 ref30 (by omega) hI hs21) (cwV 0 hg (z_gV mm_475 mm_477 mm_8 mm_114 mm_478) rfl rfl rfl (by decide +kernel) ⟨Nat.le_of_ble_eq_true rfl, Nat.le_of_ble_eq_true rfl⟩) ⟨(zR.pre [.ref (ad kg)] hP hK hN).1, va_recv hK hP (ci := 4) (q0 := kg) rfl (zw_at (by omega) hs21), (zR.pre [.ref (ad kg)] hP hK hN).2⟩ rfl rfl hl.1 rfl (lv_room (Nat.le_of_ble_eq_true rfl)) dX4_product_36 ⟨Nat.le_of_ble_eq_true rfl, Nat.le_of_ble_eq_true rfl⟩) (fun r137 hr137 => ?_)
            have h138 := hr137
            have h138 : nxp r137 atx29 := h138
            refine lv_bipush (v := 37) hx hb dX4_product_39 (by decide) ?_
            refine lv_icmp_ne (tgt := 136) hx hb dX4_product_41 (by decide) (fun c139 => ?_) (fun c139 => ?_)
            · skip
              have c139 : ¬ (r137.toInt = 37) := fun q => c139 ((z_eq rfl (by decide : (37 : Int32).toInt = 37)).mpr q)
              refine lv_iload_n hx hb dX4_product_136 rfl (lv_at hl 1 rfl) ?_
              exact W.iret (v := v3_10) hx hb hr (fun t ht hW => ⟨⟨v3_10, (), rfl, trivial, ct19, by rw [ht]; exact hP, hD, hI⟩, hS.F ht⟩) hS.2.2 dX4_product_137
            · skip
              have c139 : r137.toInt = 37 := (z_eq rfl (by decide : (37 : Int32).toInt = 37)).mp c139
              refine lv_aload_n hx hb dX4_product_44 rfl (lv_at hl 2 rfl) ?_
              refine zc_i (va_runV (As := []) (rest := []) ⟨hx, hb, hml, hown, hg⟩ (k_X4_nextp l g ad pe ct19 kg tld22 ofb23 hol24 flt25 fla26 ofl27 len28 atx29 ref30 (by omega) hI hs21) (cwV 0 hg (z_gV mm_475 mm_477 mm_8 mm_114 mm_478) rfl rfl rfl (by decide +kernel) ⟨Nat.le_of_ble_eq_true rfl, Nat.le_of_ble_eq_true rfl⟩) ⟨(zR.pre [.ref (ad kg)] hP hK hN).1, va_recv hK hP (ci := 4) (q0 := kg) rfl (zw_at (by omega) hs21), (zR.pre [.ref (ad kg)] hP hK hN).2⟩ rfl rfl hl.1 rfl (lv_room (Nat.le_of_ble_eq_true rfl)) dX4_product_45 ⟨Nat.le_of_ble_eq_true rfl, Nat.le_of_ble_eq_true rfl⟩) (fun r140 hr140 => ?_)
              have h141 := hr140
              have h141 : nxp r140 atx29 := h141
              refine lv_istore (lv' := [(5, .int r140), (4, .int v4_10), (3, .int v3_10), (0, .ref (ad kg)), (1, .int 3), (2, .int ask)]) hx hb dX4_product_48 hl (by decide) rfl (fun ls hl => ?_)
              refine lv_aload_n hx hb dX4_product_50 rfl (lv_at hl 3 rfl) ?_
              refine lv_dup hx hb dX4_product_51 rfl ?_
              refine va_get (D := g.1) (ci := 4) (v := .int atx29) (C := RX4) (T := TX4) (N := 11) hx hb hg inG4 hown hK hP kg (zw_at (by omega) hs21) rfl 9 (by decide) (hg _ mm_285) (fun _ h9 => h9) rfl dX4_product_52 ?_
              refine lv_iconst (v := 1) hx hb dX4_product_55 (by decide) ?_
              refine lv_iadd hx hb dX4_product_56 ?_
              refine lv_topi (fun x142 ex142 => ?_)
              have tx142 : x142.toInt = atx29.toInt + 1 := by rw [ex142]; exact z_add rfl (by decide : (1 : Int32).toInt = 1) (by omega) (by omega)
              have hat142 : atx29.toInt ≤ 99 := by first | exact nxp_use h38 (by omega) | exact nxp_use h88 (by omega) | exact nxp_use h138 (by omega) | exact nxp_use h141 (by omega)
              refine va_put (D := g.1) (ci := 4) (v := .int x142) (ty := .int) (C := RX4) (T := TX4) (N := 11) hx hb hg inG4 tyX4 tyX4_ok nmX4 hown hK hP hD hS kg (zw_at (by omega) hs21) rfl 9 (by decide) (hg _ mm_285) (fun _ h9 => h9) rfl (by decide +kernel) rfl rfl (Nat.le_of_ble_eq_true rfl) dX4_product_57 (fun H locs hP hD hS => ?_)
              have hP : zP g ((zw 126 ad ct19).set kg (ad kg, .inr (4, [.int tld22, .int ofb23, .int hol24, .int flt25, .int fla26, .int ofl27, .ref (ad (kg + 1)), .ref (ad (kg + 2)), .int len28, .int x142, .int ref30]))) H := hP
              have hD : va_D A ((zw 126 ad ct19).set kg (ad kg, .inr (4, [.int tld22, .int ofb23, .int hol24, .int flt25, .int fla26, .int ofl27, .ref (ad (kg + 1)), .ref (ad (kg + 2)), .int len28, .int x142, .int ref30]))) := hD
              rw [zw_set (by omega)] at hP hD
              obtain ⟨ct143, ec144⟩ : ∃ z : Nat → va_E, z = va_up ct19 kg (.inr (4, [.int tld22, .int ofb23, .int hol24, .int flt25, .int fla26, .int ofl27, .ref (ad (kg + 1)), .ref (ad (kg + 2)), .int len28, .int x142, .int ref30])) := ⟨_, rfl⟩
              rw [← ec144] at hP hD
              have hI : Inv8 g ad pe ct143 := by rw [ec144]; exact up8 hI (i8_44 (kc := kg) (by omega) ⟨(tld22 : Int32), (ofb23 : Int32), (hol24 : Int32), (flt25 : Int32), (fla26 : Int32), (ofl27 : Int32), (len28 : Int32), (x142 : Int32), (ref30 : Int32), hz31, (by first | omega | decide), (by first | omega | decide), (by first | omega | decide), (by first | omega | decide), hz36, rfl⟩)
              have hs145 : ct143 kg = .inr (4, [.int tld22, .int ofb23, .int hol24, .int flt25, .int fla26, .int ofl27, .ref (ad (kg + 1)), .ref (ad (kg + 2)), .int len28, .int x142, .int ref30]) := by rw [ec144]; exact va_up_self _ _ _
              refine lv_aload_n hx hb dX4_product_60 rfl (lv_at hl 3 rfl) ?_
              refine lv_iload_n hx hb dX4_product_61 rfl (lv_at hl 4 rfl) ?_
              refine lv_iload_n hx hb dX4_product_62 rfl (lv_at hl 5 rfl) ?_
              have hFc := zw_free hD hS hA
              refine va_calli (va_runV (As := [.int 3, .int ask]) (rest := []) ⟨hx, hb, hml, hown, hg⟩ (k_X4_factor_3 l g _ ad pe ct143 kg ask (by omega) hI) (cwV 2 hg (z_gV mm_499 mm_501 mm_14 mm_114 mm_502) rfl rfl rfl (by decide +kernel) ⟨Nat.le_of_ble_eq_true rfl, Nat.le_of_ble_eq_true rfl⟩) ⟨(zA.pre [.ref (ad kg), .int 3, .int ask] hP hK hD hN).1, va_recv hK hP (ci := 4) (q0 := kg) rfl (zw_at (by omega) hs145), (zA.pre [.ref (ad kg), .int 3, .int ask] hP hK hD hN).2⟩ rfl rfl hl.1 rfl (lv_room (Nat.le_of_ble_eq_true rfl)) dX4_product_63 ⟨Nat.le_of_ble_eq_true rfl, Nat.le_of_ble_eq_true rfl⟩) hS (fun q _ h => hFc q h) hFc (fun r146 _ t H1 locs ht hvm hr146 hB hz1 hk1 hS => ?_)
              obtain ⟨ct147, hP1, hD1, hI⟩ := hB
              rw [ht] at hP1
              have hD := hD1.weaken (fun _ _ _ h => hFc _ h)
              generalize H1 = H at hP1 hS ⊢
              have hP := hP1
              refine W.widen (k := 0) (n := 0) (Nat.le_refl _) (Nat.le_refl _) ?_
              refine lv_istore (lv' := [(6, .int r146), (5, .int r140), (4, .int v4_10), (3, .int v3_10), (0, .ref (ad kg)), (1, .int 3), (2, .int ask)]) hx hb dX4_product_66 hl (by decide) rfl (fun ls hl => ?_)
              refine lv_iload hx hb dX4_product_68 (lv_at hl 1 rfl) ?_
              refine lv_bipush (v := 42) hx hb dX4_product_70 (by decide) ?_
              refine lv_icmp_ne (tgt := 83) hx hb dX4_product_72 (by decide) (fun c148 => ?_) (fun c148 => ?_)
              · skip
                have c148 : ¬ (r140.toInt = 42) := fun q => c148 ((z_eq rfl (by decide : (42 : Int32).toInt = 42)).mpr q)
                refine lv_iload hx hb dX4_product_83 (lv_at hl 0 rfl) ?_
                refine lv_if_ne (tgt := 111) hx hb dX4_product_85 (by decide) (fun c149 => ?_) (fun c149 => ?_)
                · skip
                  have c149 : ¬ (r146.toInt = 0) := fun q => c149 ((z_eq rfl (by decide : (0 : Int32).toInt = 0)).mpr q)
                  refine lv_iload hx hb dX4_product_111 (lv_at hl 1 rfl) ?_
                  refine lv_bipush (v := 47) hx hb dX4_product_113 (by decide) ?_
                  refine lv_icmp_ne (tgt := 125) hx hb dX4_product_115 (by decide) (fun c150 => ?_) (fun c150 => ?_)
                  · skip
                    have c150 : ¬ (r140.toInt = 47) := fun q => c150 ((z_eq rfl (by decide : (47 : Int32).toInt = 47)).mpr q)
                    refine lv_iload_n hx hb dX4_product_125 rfl (lv_at hl 3 rfl) ?_
                    refine lv_iload hx hb dX4_product_126 (lv_at hl 0 rfl) ?_
                    refine lv_irem hx hb dX4_product_128 (z_nz (by omega)) ?_
                    refine lv_topi (fun x151 ex151 => ?_)
                    refine lv_istore_n (lv' := [(3, .int x151), (6, .int r146), (5, .int r140), (4, .int v4_10), (0, .ref (ad kg)), (1, .int 3), (2, .int ask)]) hx hb dX4_product_129 rfl hl (by decide) rfl (fun ls hl => ?_)
                    obtain ⟨x152, ex152⟩ : ∃ y : Int32, y = v4_10 + 1 := ⟨_, rfl⟩
                    have tx152 : x152.toInt = v4_10.toInt + 1 := by rw [ex152]; exact z_add rfl (by decide : (1 : Int32).toInt = 1) (by omega) (by omega)
                    refine lv_iinc (v := x152) (lv' := [(4, .int x152), (3, .int x151), (6, .int r146), (5, .int r140), (0, .ref (ad kg)), (1, .int 3), (2, .int ask)]) hx hb dX4_product_130 hl (k := 3) rfl (by rw [ex152]; rfl) (by decide) rfl (fun ls hl => ?_)
                    refine lv_goto (tgt := 10) hx hb dX4_product_133 (by decide) ?_
                    exact ih10 x152 x151 ct147 _ _ ls (by omega) (by first | omega | decide) hI hP hD hS (lv_sub hl [0, 1, 4, 5, 6] rfl)
                  · skip
                    have c150 : r140.toInt = 47 := (z_eq rfl (by decide : (47 : Int32).toInt = 47)).mp c150
                    refine lv_iload_n hx hb dX4_product_118 rfl (lv_at hl 3 rfl) ?_
                    refine lv_iload hx hb dX4_product_119 (lv_at hl 0 rfl) ?_
                    refine lv_idiv hx hb dX4_product_121 (z_nz (by omega)) ?_
                    refine lv_topi (fun x153 ex153 => ?_)
                    refine lv_goto (tgt := 129) hx hb dX4_product_122 (by decide) ?_
                    refine lv_istore_n (lv' := [(3, .int x153), (6, .int r146), (5, .int r140), (4, .int v4_10), (0, .ref (ad kg)), (1, .int 3), (2, .int ask)]) hx hb dX4_product_129 rfl hl (by decide) rfl (fun ls hl => ?_)
                    obtain ⟨x154, ex154⟩ : ∃ y : Int32, y = v4_10 + 1 := ⟨_, rfl⟩
                    have tx154 : x154.toInt = v4_10.toInt + 1 := by rw [ex154]; exact z_add rfl (by decide : (1 : Int32).toInt = 1) (by omega) (by omega)
                    refine lv_iinc (v := x154) (lv' := [(4, .int x154), (3, .int x153), (6, .int r146), (5, .int r140), (0, .ref (ad kg)), (1, .int 3), (2, .int ask)]) hx hb dX4_product_130 hl (k := 3) rfl (by rw [ex154]; rfl) (by decide) rfl (fun ls hl => ?_)
                    refine lv_goto (tgt := 10) hx hb dX4_product_133 (by decide) ?_
                    exact ih10 x154 x153 ct147 _ _ ls (by omega) (by first | omega | decide) hI hP hD hS (lv_sub hl [0, 1, 4, 5, 6] rfl)
                · skip
                  have c149 : r146.toInt = 0 := (z_eq rfl (by decide : (0 : Int32).toInt = 0)).mp c149
                  refine lv_aload_n hx hb dX4_product_88 rfl (lv_at hl 4 rfl) ?_
                  refine lv_aload_n hx hb dX4_product_89 rfl (lv_at hl 4 rfl) ?_
                  obtain ⟨tld156, ofb157, hol158, flt159, fla160, ofl161, len162, atx163, ref164, hz165, h166, h167, h168, h169, hz170, hs155⟩ := a8_44 (kc := kg) (by omega) hI
                  have bhz165 := z_b01 hz165
                  have bhz170 := z_b01 hz170
                  refine va_get (D := g.1) (ci := 4) (v := .int ref164) (C := RX4) (T := TX4) (N := 11) hx hb hg inG4 hown hK hP kg (zw_at (by omega) hs155) rfl 10 (by decide) (hg _ mm_286) (fun _ h9 => h9) rfl dX4_product_90 ?_
                  refine lv_if_ne (tgt := 100) hx hb dX4_product_93 (by decide) (fun c171 => ?_) (fun c171 => ?_)
                  · skip
                    have c171 : ¬ (ref164.toInt = 0) := fun q => c171 ((z_eq rfl (by decide : (0 : Int32).toInt = 0)).mpr q)
                    refine lv_iconst (v := 1) hx hb dX4_product_100 (by decide) ?_
                    refine lv_goto (tgt := 105) hx hb dX4_product_101 (by decide) ?_
                    refine va_put (D := g.1) (ci := 4) (v := .int 1) (ty := .boolean) (C := RX4) (T := TX4) (N := 11) hx hb hg inG4 tyX4 tyX4_ok nmX4 hown hK hP hD hS kg (zw_at (by omega) hs155) rfl 10 (by decide) (hg _ mm_286) (fun _ h9 => h9) rfl (by decide +kernel) rfl rfl (Nat.le_of_ble_eq_true rfl) dX4_product_105 (fun H locs hP hD hS => ?_)
                    have hP : zP g ((zw 126 ad ct147).set kg (ad kg, .inr (4, [.int tld156, .int ofb157, .int hol158, .int flt159, .int fla160, .int ofl161, .ref (ad (kg + 1)), .ref (ad (kg + 2)), .int len162, .int atx163, .int 1]))) H := hP
                    have hD : va_D A ((zw 126 ad ct147).set kg (ad kg, .inr (4, [.int tld156, .int ofb157, .int hol158, .int flt159, .int fla160, .int ofl161, .ref (ad (kg + 1)), .ref (ad (kg + 2)), .int len162, .int atx163, .int 1]))) := hD
                    rw [zw_set (by omega)] at hP hD
                    obtain ⟨ct172, ec173⟩ : ∃ z : Nat → va_E, z = va_up ct147 kg (.inr (4, [.int tld156, .int ofb157, .int hol158, .int flt159, .int fla160, .int ofl161, .ref (ad (kg + 1)), .ref (ad (kg + 2)), .int len162, .int atx163, .int 1])) := ⟨_, rfl⟩
                    rw [← ec173] at hP hD
                    have hI : Inv8 g ad pe ct172 := by rw [ec173]; exact up8 hI (i8_44 (kc := kg) (by omega) ⟨(tld156 : Int32), (ofb157 : Int32), (hol158 : Int32), (flt159 : Int32), (fla160 : Int32), (ofl161 : Int32), (len162 : Int32), (atx163 : Int32), (1 : Int32), hz165, (by first | omega | decide), (by first | omega | decide), (by first | omega | decide), (by first | omega | decide), (Or.inr rfl), rfl⟩)
                    have hs174 : ct172 kg = .inr (4, [.int tld156, .int ofb157, .int hol158, .int flt159, .int fla160, .int ofl161, .ref (ad (kg + 1)), .ref (ad (kg + 2)), .int len162, .int atx163, .int 1]) := by rw [ec173]; exact va_up_self _ _ _
                    refine lv_goto (tgt := 130) hx hb dX4_product_108 (by decide) ?_
                    obtain ⟨x175, ex175⟩ : ∃ y : Int32, y = v4_10 + 1 := ⟨_, rfl⟩
                    have tx175 : x175.toInt = v4_10.toInt + 1 := by rw [ex175]; exact z_add rfl (by decide : (1 : Int32).toInt = 1) (by omega) (by omega)
                    refine lv_iinc (v := x175) (lv' := [(4, .int x175), (6, .int r146), (5, .int r140), (3, .int v3_10), (0, .ref (ad kg)), (1, .int 3), (2, .int ask)]) hx hb dX4_product_130 hl (k := 2) rfl (by rw [ex175]; rfl) (by decide) rfl (fun ls hl => ?_)
                    refine lv_goto (tgt := 10) hx hb dX4_product_133 (by decide) ?_
                    exact ih10 x175 v3_10 ct172 _ _ ls (by omega) (by first | omega | decide) hI hP hD hS (lv_sub hl [0, 3, 4, 5, 6] rfl)
                  · skip
                    have c171 : ref164.toInt = 0 := (z_eq rfl (by decide : (0 : Int32).toInt = 0)).mp c171
                    refine lv_iload_n hx hb dX4_product_96 rfl (lv_at hl 6 rfl) ?_
                    refine lv_if_eq (tgt := 104) hx hb dX4_product_97 (by decide) (fun c176 => ?_) (fun c176 => ?_)
                    · skip
                      have c176 : ask.toInt = 0 := (z_eq rfl (by decide : (0 : Int32).toInt = 0)).mp c176
                      refine lv_iconst (v := 0) hx hb dX4_product_104 (by decide) ?_
                      refine va_put (D := g.1) (ci := 4) (v := .int 0) (ty := .boolean) (C := RX4) (T := TX4) (N := 11) hx hb hg inG4 tyX4 tyX4_ok nmX4 hown hK hP hD hS kg (zw_at (by omega) hs155) rfl 10 (by decide) (hg _ mm_286) (fun _ h9 => h9) rfl (by decide +kernel) rfl rfl (Nat.le_of_ble_eq_true rfl) dX4_product_105 (fun H locs hP hD hS => ?_)
                      have hP : zP g ((zw 126 ad ct147).set kg (ad kg, .inr (4, [.int tld156, .int ofb157, .int hol158, .int flt159, .int fla160, .int ofl161, .ref (ad (kg + 1)), .ref (ad (kg + 2)), .int len162, .int atx163, .int 0]))) H := hP
                      have hD : va_D A ((zw 126 ad ct147).set kg (ad kg, .inr (4, [.int tld156, .int ofb157, .int hol158, .int flt159, .int fla160, .int ofl161, .ref (ad (kg + 1)), .ref (ad (kg + 2)), .int len162, .int atx163, .int 0]))) := hD
                      rw [zw_set (by omega)] at hP hD
                      obtain ⟨ct177, ec178⟩ : ∃ z : Nat → va_E, z = va_up ct147 kg (.inr (4, [.int tld156, .int ofb157, .int hol158, .int flt159, .int fla160, .int ofl161, .ref (ad (kg + 1)), .ref (ad (kg + 2)), .int len162, .int atx163, .int 0])) := ⟨_, rfl⟩
                      rw [← ec178] at hP hD
                      have hI : Inv8 g ad pe ct177 := by rw [ec178]; exact up8 hI (i8_44 (kc := kg) (by omega) ⟨(tld156 : Int32), (ofb157 : Int32), (hol158 : Int32), (flt159 : Int32), (fla160 : Int32), (ofl161 : Int32), (len162 : Int32), (atx163 : Int32), (0 : Int32), hz165, (by first | omega | decide), (by first | omega | decide), (by first | omega | decide), (by first | omega | decide), (Or.inl rfl), rfl⟩)
                      have hs179 : ct177 kg = .inr (4, [.int tld156, .int ofb157, .int hol158, .int flt159, .int fla160, .int ofl161, .ref (ad (kg + 1)), .ref (ad (kg + 2)), .int len162, .int atx163, .int 0]) := by rw [ec178]; exact va_up_self _ _ _
                      refine lv_goto (tgt := 130) hx hb dX4_product_108 (by decide) ?_
                      obtain ⟨x180, ex180⟩ : ∃ y : Int32, y = v4_10 + 1 := ⟨_, rfl⟩
                      have tx180 : x180.toInt = v4_10.toInt + 1 := by rw [ex180]; exact z_add rfl (by decide : (1 : Int32).toInt = 1) (by omega) (by omega)
                      refine lv_iinc (v := x180) (lv' := [(4, .int x180), (6, .int r146), (5, .int r140), (3, .int v3_10), (0, .ref (ad kg)), (1, .int 3), (2, .int ask)]) hx hb dX4_product_130 hl (k := 2) rfl (by rw [ex180]; rfl) (by decide) rfl (fun ls hl => ?_)
                      refine lv_goto (tgt := 10) hx hb dX4_product_133 (by decide) ?_
                      exact ih10 x180 v3_10 ct177 _ _ ls (by omega) (by first | omega | decide) hI hP hD hS (lv_sub hl [0, 3, 4, 5, 6] rfl)
                    · skip
                      have c176 : ¬ (ask.toInt = 0) := fun q => c176 ((z_eq rfl (by decide : (0 : Int32).toInt = 0)).mpr q)
                      refine lv_iconst (v := 1) hx hb dX4_product_100 (by decide) ?_
                      refine lv_goto (tgt := 105) hx hb dX4_product_101 (by decide) ?_
                      refine va_put (D := g.1) (ci := 4) (v := .int 1) (ty := .boolean) (C := RX4) (T := TX4) (N := 11) hx hb hg inG4 tyX4 tyX4_ok nmX4 hown hK hP hD hS kg (zw_at (by omega) hs155) rfl 10 (by decide) (hg _ mm_286) (fun _ h9 => h9) rfl (by decide +kernel) rfl rfl (Nat.le_of_ble_eq_true rfl) dX4_product_105 (fun H locs hP hD hS => ?_)
                      have hP : zP g ((zw 126 ad ct147).set kg (ad kg, .inr (4, [.int tld156, .int ofb157, .int hol158, .int flt159, .int fla160, .int ofl161, .ref (ad (kg + 1)), .ref (ad (kg + 2)), .int len162, .int atx163, .int 1]))) H := hP
                      have hD : va_D A ((zw 126 ad ct147).set kg (ad kg, .inr (4, [.int tld156, .int ofb157, .int hol158, .int flt159, .int fla160, .int ofl161, .ref (ad (kg + 1)), .ref (ad (kg + 2)), .int len162, .int atx163, .int 1]))) := hD
                      rw [zw_set (by omega)] at hP hD
                      obtain ⟨ct181, ec182⟩ : ∃ z : Nat → va_E, z = va_up ct147 kg (.inr (4, [.int tld156, .int ofb157, .int hol158, .int flt159, .int fla160, .int ofl161, .ref (ad (kg + 1)), .ref (ad (kg + 2)), .int len162, .int atx163, .int 1])) := ⟨_, rfl⟩
                      rw [← ec182] at hP hD
                      have hI : Inv8 g ad pe ct181 := by rw [ec182]; exact up8 hI (i8_44 (kc := kg) (by omega) ⟨(tld156 : Int32), (ofb157 : Int32), (hol158 : Int32), (flt159 : Int32), (fla160 : Int32), (ofl161 : Int32), (len162 : Int32), (atx163 : Int32), (1 : Int32), hz165, (by first | omega | decide), (by first | omega | decide), (by first | omega | decide), (by first | omega | decide), (Or.inr rfl), rfl⟩)
                      have hs183 : ct181 kg = .inr (4, [.int tld156, .int ofb157, .int hol158, .int flt159, .int fla160, .int ofl161, .ref (ad (kg + 1)), .ref (ad (kg + 2)), .int len162, .int atx163, .int 1]) := by rw [ec182]; exact va_up_self _ _ _
                      refine lv_goto (tgt := 130) hx hb dX4_product_108 (by decide) ?_
                      obtain ⟨x184, ex184⟩ : ∃ y : Int32, y = v4_10 + 1 := ⟨_, rfl⟩
                      have tx184 : x184.toInt = v4_10.toInt + 1 := by rw [ex184]; exact z_add rfl (by decide : (1 : Int32).toInt = 1) (by omega) (by omega)
                      refine lv_iinc (v := x184) (lv' := [(4, .int x184), (6, .int r146), (5, .int r140), (3, .int v3_10), (0, .ref (ad kg)), (1, .int 3), (2, .int ask)]) hx hb dX4_product_130 hl (k := 2) rfl (by rw [ex184]; rfl) (by decide) rfl (fun ls hl => ?_)
                      refine lv_goto (tgt := 10) hx hb dX4_product_133 (by decide) ?_
                      exact ih10 x184 v3_10 ct181 _ _ ls (by omega) (by first | omega | decide) hI hP hD hS (lv_sub hl [0, 3, 4, 5, 6] rfl)
              · skip
                have c148 : r140.toInt = 42 := (z_eq rfl (by decide : (42 : Int32).toInt = 42)).mp c148
                refine lv_iload_n hx hb dX4_product_75 rfl (lv_at hl 3 rfl) ?_
                refine lv_iload hx hb dX4_product_76 (lv_at hl 0 rfl) ?_
                refine lv_imul hx hb dX4_product_78 ?_
                refine lv_topi (fun x185 ex185 => ?_)
                refine lv_istore_n (lv' := [(3, .int x185), (6, .int r146), (5, .int r140), (4, .int v4_10), (0, .ref (ad kg)), (1, .int 3), (2, .int ask)]) hx hb dX4_product_79 rfl hl (by decide) rfl (fun ls hl => ?_)
                refine lv_goto (tgt := 130) hx hb dX4_product_80 (by decide) ?_
                obtain ⟨x186, ex186⟩ : ∃ y : Int32, y = v4_10 + 1 := ⟨_, rfl⟩
                have tx186 : x186.toInt = v4_10.toInt + 1 := by rw [ex186]; exact z_add rfl (by decide : (1 : Int32).toInt = 1) (by omega) (by omega)
                refine lv_iinc (v := x186) (lv' := [(4, .int x186), (3, .int x185), (6, .int r146), (5, .int r140), (0, .ref (ad kg)), (1, .int 3), (2, .int ask)]) hx hb dX4_product_130 hl (k := 3) rfl (by rw [ex186]; rfl) (by decide) rfl (fun ls hl => ?_)
                refine lv_goto (tgt := 10) hx hb dX4_product_133 (by decide) ?_
                exact ih10 x186 x185 ct147 _ _ ls (by omega) (by first | omega | decide) hI hP hD hS (lv_sub hl [0, 1, 4, 5, 6] rfl)
  exact loop10 ((100 - (0 : Int32).toInt : Int).toNat + 1) (0 : Int32) r17 ct18 _ _ ls (by omega) (by first | omega | decide) hI hP hD hS (lv_sub hl [0, 1, 2, 3, 4] rfl)
