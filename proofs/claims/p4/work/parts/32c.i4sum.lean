set_option maxHeartbeats 4000000 in
set_option maxRecDepth 100000 in
theorem k_X4_sum_4 (l : Launch) (g : zG) (sz : Nat) (ad : Nat → Nat) (pe : Int32) (ct : Nat → va_E) (kg : Nat) (ask : Int32) (hf_kg : 99 ≤ kg ∧ kg < 126 ∧ (kg - 99) % 3 = 0) (hI : Inv8 g ad pe ct) : Met l yX4_sum (zW yX4_sum cX4_sum 7 (some .int)) ({ frames := 10, cells := 0, slots := 0, locals := 245 }) (va_Pc [.ref (ad kg), .int 4, .int ask] (zA g (zw 126 ad ct) sz)) (va_Qi (fun (r : Int32) (_ : Unit) => (True)) (fun _ t => ∃ ct2 : Nat → va_E, zP g (zw 126 ad ct2) t.heap ∧ va_D (va_A (zw 126 ad ct) sz) (zw 126 ad ct2) ∧ Inv8 g ad pe ct2) (va_A (zw 126 ad ct) sz)) 0 0 (va_A (zw 126 ad ct) sz) := by
  refine Met.ofW (cc := cX4_sum) (maxL := 7) (ret := (some .int)) (by decide) rfl ?_
  intro p e s m args below meth c s₁ B hml hv
  obtain ⟨rfl, hsz, hP, hK, hD0, hN⟩ := hv
  have hx := B.exec
  have hb := B.bytes
  have hr := B.returns
  have hg := zW.law (atoms_spec (ws := (zW yX4_sum cX4_sum 7 (some .int))) B.pre)
  have hown : s.vm.findClass RX4 = some m.cls := findClass_of_methodNamed B.named
  have hlocks := B.notSynchronized
  have hpe0 := hI.1
  subst hsz
  have hD := hD0.self (sz := s.heap.size)
  generalize hAe : va_A (zw 126 ad ct) s.heap.size = A at hD ⊢
  have hA : ∀ q : Nat, s.heap.size ≤ q → A q := fun q h => by rw [← hAe]; exact Or.inr h
  have hS : va_S A s.heap s.heap [] := va_S.rf
  have hl := lv_entry ([.ref (ad kg), .int 4, .int ask]) (n := 7) (Nat.le_of_ble_eq_true rfl)
  rw [lg_entry_eq]
  generalize (lg_sl ([.ref (ad kg), .int 4, .int ask]) ++ List.replicate (7 - (lg_sl ([.ref (ad kg), .int 4, .int ask])).length) Slot.unset).toArray = ls at hl ⊢
  have hl : lv_has ls 7 [(0, .ref (ad kg)), (1, .int 4), (2, .int ask)] := hl
  have rg_ask := z_rng ask
  refine lv_aload_n hx hb dX4_sum_0 rfl (lv_at hl 0 rfl) ?_
  refine lv_iload_n hx hb dX4_sum_1 rfl (lv_at hl 1 rfl) ?_
  refine lv_iload_n hx hb dX4_sum_2 rfl (lv_at hl 2 rfl) ?_
  obtain ⟨tld2, ofb3, hol4, flt5, fla6, ofl7, len8, atx9, ref10, hz11, h12, h13, h14, h15, hz16, hs1⟩ := a8_44 (kc := kg) (by omega) hI
  have bhz11 := z_b01 hz11
  have bhz16 := z_b01 hz16
  have hFc := zw_free hD hS hA
  refine va_calli (va_runV (As := [.int 4, .int ask]) (rest := []) ⟨hx, hb, hml, hown, hg⟩ (k_X4_product_4 l g _ ad pe ct kg ask (by omega) hI) (cwV 2 hg (z_gV mm_495 mm_497 mm_13 mm_114 mm_498) rfl rfl rfl (by decide +kernel) ⟨Nat.le_of_ble_eq_true rfl, Nat.le_of_ble_eq_true rfl⟩) ⟨(zA.pre [.ref (ad kg), .int 4, .int ask] hP hK hD hN).1, va_recv hK hP (ci := 4) (q0 := kg) rfl (zw_at (by omega) hs1), (zA.pre [.ref (ad kg), .int 4, .int ask] hP hK hD hN).2⟩ rfl rfl hl.1 rfl (lv_room (Nat.le_of_ble_eq_true rfl)) dX4_sum_3 ⟨Nat.le_of_ble_eq_true rfl, Nat.le_of_ble_eq_true rfl⟩) hS (fun q _ h => hFc q h) hFc (fun r17 _ t H1 locs ht hvm hr17 hB hz1 hk1 hS => ?_)
  obtain ⟨ct18, hP1, hD1, hI⟩ := hB
  rw [ht] at hP1
  have hD := hD1.weaken (fun _ _ _ h => hFc _ h)
  generalize H1 = H at hP1 hS ⊢
  have hP := hP1
  refine W.widen (k := 0) (n := 0) (Nat.le_refl _) (Nat.le_refl _) ?_
  refine lv_istore_n (lv' := [(3, .int r17), (0, .ref (ad kg)), (1, .int 4), (2, .int ask)]) hx hb dX4_sum_6 rfl hl (by decide) rfl (fun ls hl => ?_)
  refine lv_iconst (v := 0) hx hb dX4_sum_7 (by decide) ?_
  refine lv_istore (lv' := [(4, .int 0), (3, .int r17), (0, .ref (ad kg)), (1, .int 4), (2, .int ask)]) hx hb dX4_sum_8 hl (by decide) rfl (fun ls hl => ?_)
  have loop10 : ∀ (n10 : Nat) (v4_10 : Int32) (v3_10 : Int32) (ct19 : Nat → va_E) (H : Heap) (locs : List Loc) (ls : Array Slot), ((100 - v4_10.toInt : Int).toNat < n10) → (0 ≤ v4_10.toInt ∧ v4_10.toInt ≤ 100) → (Inv8 g ad pe ct19) → zP g (zw 126 ad ct19) H → va_D A (zw 126 ad ct19) → va_S A s.heap H locs → lv_has ls 7 [(4, .int v4_10), (3, .int v3_10), (0, .ref (ad kg)), (1, .int 4), (2, .int ask)] → W p l e (headSpec (zW yX4_sum cX4_sum 7 (some .int)) ({ frames := 10, cells := 0, slots := 0, locals := 245 })).room s m ([.ref (ad kg), .int 4, .int ask] : List Value).toArray below meth c H locs 0 0 (MQ below (va_Qi (fun (r : Int32) (_ : Unit) => (True)) (fun _ t => ∃ ct2 : Nat → va_E, zP g (zw 126 ad ct2) t.heap ∧ va_D A (zw 126 ad ct2) ∧ Inv8 g ad pe ct2) A) ([.ref (ad kg), .int 4, .int ask] : List Value).toArray s 0 0 A) (F0 m 10 ls []) := by
    intro n10
    induction n10 with
    | zero =>
      intro v4_10 v3_10 ct19 H locs ls hn10 b4_10 hI hP hD hS hl
      exact absurd hn10 (Nat.not_lt_zero _)
    | succ n10 ih10 =>
      intro v4_10 v3_10 ct19 H locs ls hn10 b4_10 hI hP hD hS hl
      refine lv_iload hx hb dX4_sum_10 (lv_at hl 0 rfl) ?_
      refine lv_bipush (v := 100) hx hb dX4_sum_12 (by decide) ?_
      refine lv_icmp_ge (tgt := 84) hx hb dX4_sum_14 (by decide) (fun c20 => ?_) (fun c20 => ?_)
      · skip
        have c20 : 100 ≤ v4_10.toInt := (z_le (by decide : (100 : Int32).toInt = 100) rfl).mp c20
        refine lv_iload_n hx hb dX4_sum_84 rfl (lv_at hl 1 rfl) ?_
        exact W.iret (v := v3_10) hx hb hr (fun t ht hW => ⟨⟨v3_10, (), rfl, trivial, ct19, by rw [ht]; exact hP, hD, hI⟩, hS.F ht⟩) hS.2.2 dX4_sum_85
      · skip
        have c20 : ¬ (100 ≤ v4_10.toInt) := fun q => c20 ((z_le (by decide : (100 : Int32).toInt = 100) rfl).mpr q)
        refine lv_aload_n hx hb dX4_sum_17 rfl (lv_at hl 2 rfl) ?_
        obtain ⟨tld22, ofb23, hol24, flt25, fla26, ofl27, len28, atx29, ref30, hz31, h32, h33, h34, h35, hz36, hs21⟩ := a8_44 (kc := kg) (by omega) hI
        have bhz31 := z_b01 hz31
        have bhz36 := z_b01 hz36
        refine zc_i (va_runV (As := []) (rest := []) ⟨hx, hb, hml, hown, hg⟩ (k_X4_nextp l g ad pe ct19 kg tld22 ofb23 hol24 flt25 fla26 ofl27 len28 atx29 ref30 (by omega) hI hs21) (cwV 0 hg (z_gV mm_475 mm_477 mm_8 mm_114 mm_478) rfl rfl rfl (by decide +kernel) ⟨Nat.le_of_ble_eq_true rfl, Nat.le_of_ble_eq_true rfl⟩) ⟨(zR.pre [.ref (ad kg)] hP hK hN).1, va_recv hK hP (ci := 4) (q0 := kg) rfl (zw_at (by omega) hs21), (zR.pre [.ref (ad kg)] hP hK hN).2⟩ rfl rfl hl.1 rfl (lv_room (Nat.le_of_ble_eq_true rfl)) dX4_sum_18 ⟨Nat.le_of_ble_eq_true rfl, Nat.le_of_ble_eq_true rfl⟩) (fun r37 hr37 => ?_)
        have h38 := hr37
        have h38 : nxp r37 atx29 := h38
        refine lv_bipush (v := 43) hx hb dX4_sum_21 (by decide) ?_
        refine lv_icmp_eq (tgt := 35) hx hb dX4_sum_23 (by decide) (fun c39 => ?_) (fun c39 => ?_)
        · skip
          have c39 : r37.toInt = 43 := (z_eq rfl (by decide : (43 : Int32).toInt = 43)).mp c39
          refine lv_aload_n hx hb dX4_sum_35 rfl (lv_at hl 2 rfl) ?_
          refine zc_i (va_runV (As := []) (rest := []) ⟨hx, hb, hml, hown, hg⟩ (k_X4_nextp l g ad pe ct19 kg tld22 ofb23 hol24 flt25 fla26 ofl27 len28 atx29 ref30 (by omega) hI hs21) (cwV 0 hg (z_gV mm_475 mm_477 mm_8 mm_114 mm_478) rfl rfl rfl (by decide +kernel) ⟨Nat.le_of_ble_eq_true rfl, Nat.le_of_ble_eq_true rfl⟩) ⟨(zR.pre [.ref (ad kg)] hP hK hN).1, va_recv hK hP (ci := 4) (q0 := kg) rfl (zw_at (by omega) hs21), (zR.pre [.ref (ad kg)] hP hK hN).2⟩ rfl rfl hl.1 rfl (lv_room (Nat.le_of_ble_eq_true rfl)) dX4_sum_36 ⟨Nat.le_of_ble_eq_true rfl, Nat.le_of_ble_eq_true rfl⟩) (fun r40 hr40 => ?_)
          have h41 := hr40
          have h41 : nxp r40 atx29 := h41
          refine lv_istore (lv' := [(5, .int r40), (4, .int v4_10), (3, .int v3_10), (0, .ref (ad kg)), (1, .int 4), (2, .int ask)]) hx hb dX4_sum_39 hl (by decide) rfl (fun ls hl => ?_)
          refine lv_aload_n hx hb dX4_sum_41 rfl (lv_at hl 3 rfl) ?_
          refine lv_dup hx hb dX4_sum_42 rfl ?_
          refine va_get (D := g.1) (ci := 4) (v := .int atx29) (C := RX4) (T := TX4) (N := 11) hx hb hg inG4 hown hK hP kg (zw_at (by omega) hs21) rfl 9 (by decide) (hg _ mm_285) (fun _ h9 => h9) rfl dX4_sum_43 ?_
          refine lv_iconst (v := 1) hx hb dX4_sum_46 (by decide) ?_
          refine lv_iadd hx hb dX4_sum_47 ?_
          refine lv_topi (fun x42 ex42 => ?_)
          have tx42 : x42.toInt = atx29.toInt + 1 := by rw [ex42]; exact z_add rfl (by decide : (1 : Int32).toInt = 1) (by omega) (by omega)
          have hat42 : atx29.toInt ≤ 99 := by first | exact nxp_use h38 (by omega) | exact nxp_use h41 (by omega)
          refine va_put (D := g.1) (ci := 4) (v := .int x42) (ty := .int) (C := RX4) (T := TX4) (N := 11) hx hb hg inG4 tyX4 tyX4_ok nmX4 hown hK hP hD hS kg (zw_at (by omega) hs21) rfl 9 (by decide) (hg _ mm_285) (fun _ h9 => h9) rfl (by decide +kernel) rfl rfl (Nat.le_of_ble_eq_true rfl) dX4_sum_48 (fun H locs hP hD hS => ?_)
          have hP : zP g ((zw 126 ad ct19).set kg (ad kg, .inr (4, [.int tld22, .int ofb23, .int hol24, .int flt25, .int fla26, .int ofl27, .ref (ad (kg + 1)), .ref (ad (kg + 2)), .int len28, .int x42, .int ref30]))) H := hP
          have hD : va_D A ((zw 126 ad ct19).set kg (ad kg, .inr (4, [.int tld22, .int ofb23, .int hol24, .int flt25, .int fla26, .int ofl27, .ref (ad (kg + 1)), .ref (ad (kg + 2)), .int len28, .int x42, .int ref30]))) := hD
          rw [zw_set (by omega)] at hP hD
          obtain ⟨ct43, ec44⟩ : ∃ z : Nat → va_E, z = va_up ct19 kg (.inr (4, [.int tld22, .int ofb23, .int hol24, .int flt25, .int fla26, .int ofl27, .ref (ad (kg + 1)), .ref (ad (kg + 2)), .int len28, .int x42, .int ref30])) := ⟨_, rfl⟩
          rw [← ec44] at hP hD
          have hI : Inv8 g ad pe ct43 := by rw [ec44]; exact up8 hI (i8_44 (kc := kg) (by omega) ⟨(tld22 : Int32), (ofb23 : Int32), (hol24 : Int32), (flt25 : Int32), (fla26 : Int32), (ofl27 : Int32), (len28 : Int32), (x42 : Int32), (ref30 : Int32), hz31, (by first | omega | decide), (by first | omega | decide), (by first | omega | decide), (by first | omega | decide), hz36, rfl⟩)
          have hs45 : ct43 kg = .inr (4, [.int tld22, .int ofb23, .int hol24, .int flt25, .int fla26, .int ofl27, .ref (ad (kg + 1)), .ref (ad (kg + 2)), .int len28, .int x42, .int ref30]) := by rw [ec44]; exact va_up_self _ _ _
          refine lv_aload_n hx hb dX4_sum_51 rfl (lv_at hl 3 rfl) ?_
          refine lv_iload_n hx hb dX4_sum_52 rfl (lv_at hl 4 rfl) ?_
          refine lv_iload_n hx hb dX4_sum_53 rfl (lv_at hl 5 rfl) ?_
          have hFc := zw_free hD hS hA
          refine va_calli (va_runV (As := [.int 4, .int ask]) (rest := []) ⟨hx, hb, hml, hown, hg⟩ (k_X4_product_4 l g _ ad pe ct43 kg ask (by omega) hI) (cwV 2 hg (z_gV mm_495 mm_497 mm_13 mm_114 mm_498) rfl rfl rfl (by decide +kernel) ⟨Nat.le_of_ble_eq_true rfl, Nat.le_of_ble_eq_true rfl⟩) ⟨(zA.pre [.ref (ad kg), .int 4, .int ask] hP hK hD hN).1, va_recv hK hP (ci := 4) (q0 := kg) rfl (zw_at (by omega) hs45), (zA.pre [.ref (ad kg), .int 4, .int ask] hP hK hD hN).2⟩ rfl rfl hl.1 rfl (lv_room (Nat.le_of_ble_eq_true rfl)) dX4_sum_54 ⟨Nat.le_of_ble_eq_true rfl, Nat.le_of_ble_eq_true rfl⟩) hS (fun q _ h => hFc q h) hFc (fun r46 _ t H1 locs ht hvm hr46 hB hz1 hk1 hS => ?_)
          obtain ⟨ct47, hP1, hD1, hI⟩ := hB
          rw [ht] at hP1
          have hD := hD1.weaken (fun _ _ _ h => hFc _ h)
          generalize H1 = H at hP1 hS ⊢
          have hP := hP1
          refine W.widen (k := 0) (n := 0) (Nat.le_refl _) (Nat.le_refl _) ?_
          refine lv_istore (lv' := [(6, .int r46), (5, .int r40), (4, .int v4_10), (3, .int v3_10), (0, .ref (ad kg)), (1, .int 4), (2, .int ask)]) hx hb dX4_sum_57 hl (by decide) rfl (fun ls hl => ?_)
          refine lv_iload hx hb dX4_sum_59 (lv_at hl 1 rfl) ?_
          refine lv_bipush (v := 43) hx hb dX4_sum_61 (by decide) ?_
          refine lv_icmp_ne (tgt := 73) hx hb dX4_sum_63 (by decide) (fun c48 => ?_) (fun c48 => ?_)
          · skip
            have c48 : ¬ (r40.toInt = 43) := fun q => c48 ((z_eq rfl (by decide : (43 : Int32).toInt = 43)).mpr q)
            refine lv_iload_n hx hb dX4_sum_73 rfl (lv_at hl 3 rfl) ?_
            refine lv_iload hx hb dX4_sum_74 (lv_at hl 0 rfl) ?_
            refine lv_isub hx hb dX4_sum_76 ?_
            refine lv_topi (fun x49 ex49 => ?_)
            refine lv_istore_n (lv' := [(3, .int x49), (6, .int r46), (5, .int r40), (4, .int v4_10), (0, .ref (ad kg)), (1, .int 4), (2, .int ask)]) hx hb dX4_sum_77 rfl hl (by decide) rfl (fun ls hl => ?_)
            obtain ⟨x50, ex50⟩ : ∃ y : Int32, y = v4_10 + 1 := ⟨_, rfl⟩
            have tx50 : x50.toInt = v4_10.toInt + 1 := by rw [ex50]; exact z_add rfl (by decide : (1 : Int32).toInt = 1) (by omega) (by omega)
            refine lv_iinc (v := x50) (lv' := [(4, .int x50), (3, .int x49), (6, .int r46), (5, .int r40), (0, .ref (ad kg)), (1, .int 4), (2, .int ask)]) hx hb dX4_sum_78 hl (k := 3) rfl (by rw [ex50]; rfl) (by decide) rfl (fun ls hl => ?_)
            refine lv_goto (tgt := 10) hx hb dX4_sum_81 (by decide) ?_
            exact ih10 x50 x49 ct47 _ _ ls (by omega) (by first | omega | decide) hI hP hD hS (lv_sub hl [0, 1, 4, 5, 6] rfl)
          · skip
            have c48 : r40.toInt = 43 := (z_eq rfl (by decide : (43 : Int32).toInt = 43)).mp c48
            refine lv_iload_n hx hb dX4_sum_66 rfl (lv_at hl 3 rfl) ?_
            refine lv_iload hx hb dX4_sum_67 (lv_at hl 0 rfl) ?_
            refine lv_iadd hx hb dX4_sum_69 ?_
            refine lv_topi (fun x51 ex51 => ?_)
            refine lv_goto (tgt := 77) hx hb dX4_sum_70 (by decide) ?_
            refine lv_istore_n (lv' := [(3, .int x51), (6, .int r46), (5, .int r40), (4, .int v4_10), (0, .ref (ad kg)), (1, .int 4), (2, .int ask)]) hx hb dX4_sum_77 rfl hl (by decide) rfl (fun ls hl => ?_)
            obtain ⟨x52, ex52⟩ : ∃ y : Int32, y = v4_10 + 1 := ⟨_, rfl⟩
            have tx52 : x52.toInt = v4_10.toInt + 1 := by rw [ex52]; exact z_add rfl (by decide : (1 : Int32).toInt = 1) (by omega) (by omega)
            refine lv_iinc (v := x52) (lv' := [(4, .int x52), (3, .int x51), (6, .int r46), (5, .int r40), (0, .ref (ad kg)), (1, .int 4), (2, .int ask)]) hx hb dX4_sum_78 hl (k := 3) rfl (by rw [ex52]; rfl) (by decide) rfl (fun ls hl => ?_)
            refine lv_goto (tgt := 10) hx hb dX4_sum_81 (by decide) ?_
            exact ih10 x52 x51 ct47 _ _ ls (by omega) (by first | omega | decide) hI hP hD hS (lv_sub hl [0, 1, 4, 5, 6] rfl)
        · skip
          have c39 : ¬ (r37.toInt = 43) := fun q => c39 ((z_eq rfl (by decide : (43 : Int32).toInt = 43)).mpr q)
          refine lv_aload_n hx hb dX4_sum_26 rfl (lv_at hl 2 rfl) ?_
          refine zc_i (va_runV (As := []) (rest := []) ⟨hx, hb, hml, hown, hg⟩ (k_X4_nextp l g ad pe ct19 kg tld22 ofb23 hol24 flt25 fla26 ofl27 len28 atx29 ref30 (by omega) hI hs21) (cwV 0 hg (z_gV mm_475 mm_477 mm_8 mm_114 mm_478) rfl rfl rfl (by decide +kernel) ⟨Nat.le_of_ble_eq_true rfl, Nat.le_of_ble_eq_true rfl⟩) ⟨(zR.pre [.ref (ad kg)] hP hK hN).1, va_recv hK hP (ci := 4) (q0 := kg) rfl (zw_at (by omega) hs21), (zR.pre [.ref (ad kg)] hP hK hN).2⟩ rfl rfl hl.1 rfl (lv_room (Nat.le_of_ble_eq_true rfl)) dX4_sum_27 ⟨Nat.le_of_ble_eq_true rfl, Nat.le_of_ble_eq_true rfl⟩) (fun r53 hr53 => ?_)
          have h54 := hr53
          have h54 : nxp r53 atx29 := h54
          refine lv_bipush (v := 45) hx hb dX4_sum_30 (by decide) ?_
          refine lv_icmp_ne (tgt := 84) hx hb dX4_sum_32 (by decide) (fun c55 => ?_) (fun c55 => ?_)
          · skip
            have c55 : ¬ (r53.toInt = 45) := fun q => c55 ((z_eq rfl (by decide : (45 : Int32).toInt = 45)).mpr q)
            refine lv_iload_n hx hb dX4_sum_84 rfl (lv_at hl 1 rfl) ?_
            exact W.iret (v := v3_10) hx hb hr (fun t ht hW => ⟨⟨v3_10, (), rfl, trivial, ct19, by rw [ht]; exact hP, hD, hI⟩, hS.F ht⟩) hS.2.2 dX4_sum_85
          · skip
            have c55 : r53.toInt = 45 := (z_eq rfl (by decide : (45 : Int32).toInt = 45)).mp c55
            refine lv_aload_n hx hb dX4_sum_35 rfl (lv_at hl 2 rfl) ?_
            refine zc_i (va_runV (As := []) (rest := []) ⟨hx, hb, hml, hown, hg⟩ (k_X4_nextp l g ad pe ct19 kg tld22 ofb23 hol24 flt25 fla26 ofl27 len28 atx29 ref30 (by omega) hI hs21) (cwV 0 hg (z_gV mm_475 mm_477 mm_8 mm_114 mm_478) rfl rfl rfl (by decide +kernel) ⟨Nat.le_of_ble_eq_true rfl, Nat.le_of_ble_eq_true rfl⟩) ⟨(zR.pre [.ref (ad kg)] hP hK hN).1, va_recv hK hP (ci := 4) (q0 := kg) rfl (zw_at (by omega) hs21), (zR.pre [.ref (ad kg)] hP hK hN).2⟩ rfl rfl hl.1 rfl (lv_room (Nat.le_of_ble_eq_true rfl)) dX4_sum_36 ⟨Nat.le_of_ble_eq_true rfl, Nat.le_of_ble_eq_true rfl⟩) (fun r56 hr56 => ?_)
            have h57 := hr56
            have h57 : nxp r56 atx29 := h57
            refine lv_istore (lv' := [(5, .int r56), (4, .int v4_10), (3, .int v3_10), (0, .ref (ad kg)), (1, .int 4), (2, .int ask)]) hx hb dX4_sum_39 hl (by decide) rfl (fun ls hl => ?_)
            refine lv_aload_n hx hb dX4_sum_41 rfl (lv_at hl 3 rfl) ?_
            refine lv_dup hx hb dX4_sum_42 rfl ?_
            refine va_get (D := g.1) (ci := 4) (v := .int atx29) (C := RX4) (T := TX4) (N := 11) hx hb hg inG4 hown hK hP kg (zw_at (by omega) hs21) rfl 9 (by decide) (hg _ mm_285) (fun _ h9 => h9) rfl dX4_sum_43 ?_
            refine lv_iconst (v := 1) hx hb dX4_sum_46 (by decide) ?_
            refine lv_iadd hx hb dX4_sum_47 ?_
            refine lv_topi (fun x58 ex58 => ?_)
            have tx58 : x58.toInt = atx29.toInt + 1 := by rw [ex58]; exact z_add rfl (by decide : (1 : Int32).toInt = 1) (by omega) (by omega)
            have hat58 : atx29.toInt ≤ 99 := by first | exact nxp_use h38 (by omega) | exact nxp_use h54 (by omega) | exact nxp_use h57 (by omega)
            refine va_put (D := g.1) (ci := 4) (v := .int x58) (ty := .int) (C := RX4) (T := TX4) (N := 11) hx hb hg inG4 tyX4 tyX4_ok nmX4 hown hK hP hD hS kg (zw_at (by omega) hs21) rfl 9 (by decide) (hg _ mm_285) (fun _ h9 => h9) rfl (by decide +kernel) rfl rfl (Nat.le_of_ble_eq_true rfl) dX4_sum_48 (fun H locs hP hD hS => ?_)
            have hP : zP g ((zw 126 ad ct19).set kg (ad kg, .inr (4, [.int tld22, .int ofb23, .int hol24, .int flt25, .int fla26, .int ofl27, .ref (ad (kg + 1)), .ref (ad (kg + 2)), .int len28, .int x58, .int ref30]))) H := hP
            have hD : va_D A ((zw 126 ad ct19).set kg (ad kg, .inr (4, [.int tld22, .int ofb23, .int hol24, .int flt25, .int fla26, .int ofl27, .ref (ad (kg + 1)), .ref (ad (kg + 2)), .int len28, .int x58, .int ref30]))) := hD
            rw [zw_set (by omega)] at hP hD
            obtain ⟨ct59, ec60⟩ : ∃ z : Nat → va_E, z = va_up ct19 kg (.inr (4, [.int tld22, .int ofb23, .int hol24, .int flt25, .int fla26, .int ofl27, .ref (ad (kg + 1)), .ref (ad (kg + 2)), .int len28, .int x58, .int ref30])) := ⟨_, rfl⟩
            rw [← ec60] at hP hD
            have hI : Inv8 g ad pe ct59 := by rw [ec60]; exact up8 hI (i8_44 (kc := kg) (by omega) ⟨(tld22 : Int32), (ofb23 : Int32), (hol24 : Int32), (flt25 : Int32), (fla26 : Int32), (ofl27 : Int32), (len28 : Int32), (x58 : Int32), (ref30 : Int32), hz31, (by first | omega | decide), (by first | omega | decide), (by first | omega | decide), (by first | omega | decide), hz36, rfl⟩)
            have hs61 : ct59 kg = .inr (4, [.int tld22, .int ofb23, .int hol24, .int flt25, .int fla26, .int ofl27, .ref (ad (kg + 1)), .ref (ad (kg + 2)), .int len28, .int x58, .int ref30]) := by rw [ec60]; exact va_up_self _ _ _
            refine lv_aload_n hx hb dX4_sum_51 rfl (lv_at hl 3 rfl) ?_
            refine lv_iload_n hx hb dX4_sum_52 rfl (lv_at hl 4 rfl) ?_
            refine lv_iload_n hx hb dX4_sum_53 rfl (lv_at hl 5 rfl) ?_
            have hFc := zw_free hD hS hA
            refine va_calli (va_runV (As := [.int 4, .int ask]) (rest := []) ⟨hx, hb, hml, hown, hg⟩ (k_X4_product_4 l g _ ad pe ct59 kg ask (by omega) hI) (cwV 2 hg (z_gV mm_495 mm_497 mm_13 mm_114 mm_498) rfl rfl rfl (by decide +kernel) ⟨Nat.le_of_ble_eq_true rfl, Nat.le_of_ble_eq_true rfl⟩) ⟨(zA.pre [.ref (ad kg), .int 4, .int ask] hP hK hD hN).1, va_recv hK hP (ci := 4) (q0 := kg) rfl (zw_at (by omega) hs61), (zA.pre [.ref (ad kg), .int 4, .int ask] hP hK hD hN).2⟩ rfl rfl hl.1 rfl (lv_room (Nat.le_of_ble_eq_true rfl)) dX4_sum_54 ⟨Nat.le_of_ble_eq_true rfl, Nat.le_of_ble_eq_true rfl⟩) hS (fun q _ h => hFc q h) hFc (fun r62 _ t H1 locs ht hvm hr62 hB hz1 hk1 hS => ?_)
            obtain ⟨ct63, hP1, hD1, hI⟩ := hB
            rw [ht] at hP1
            have hD := hD1.weaken (fun _ _ _ h => hFc _ h)
            generalize H1 = H at hP1 hS ⊢
            have hP := hP1
            refine W.widen (k := 0) (n := 0) (Nat.le_refl _) (Nat.le_refl _) ?_
            refine lv_istore (lv' := [(6, .int r62), (5, .int r56), (4, .int v4_10), (3, .int v3_10), (0, .ref (ad kg)), (1, .int 4), (2, .int ask)]) hx hb dX4_sum_57 hl (by decide) rfl (fun ls hl => ?_)
            refine lv_iload hx hb dX4_sum_59 (lv_at hl 1 rfl) ?_
            refine lv_bipush (v := 43) hx hb dX4_sum_61 (by decide) ?_
            refine lv_icmp_ne (tgt := 73) hx hb dX4_sum_63 (by decide) (fun c64 => ?_) (fun c64 => ?_)
            · skip
              have c64 : ¬ (r56.toInt = 43) := fun q => c64 ((z_eq rfl (by decide : (43 : Int32).toInt = 43)).mpr q)
              refine lv_iload_n hx hb dX4_sum_73 rfl (lv_at hl 3 rfl) ?_
              refine lv_iload hx hb dX4_sum_74 (lv_at hl 0 rfl) ?_
              refine lv_isub hx hb dX4_sum_76 ?_
              refine lv_topi (fun x65 ex65 => ?_)
              refine lv_istore_n (lv' := [(3, .int x65), (6, .int r62), (5, .int r56), (4, .int v4_10), (0, .ref (ad kg)), (1, .int 4), (2, .int ask)]) hx hb dX4_sum_77 rfl hl (by decide) rfl (fun ls hl => ?_)
              obtain ⟨x66, ex66⟩ : ∃ y : Int32, y = v4_10 + 1 := ⟨_, rfl⟩
              have tx66 : x66.toInt = v4_10.toInt + 1 := by rw [ex66]; exact z_add rfl (by decide : (1 : Int32).toInt = 1) (by omega) (by omega)
              refine lv_iinc (v := x66) (lv' := [(4, .int x66), (3, .int x65), (6, .int r62), (5, .int r56), (0, .ref (ad kg)), (1, .int 4), (2, .int ask)]) hx hb dX4_sum_78 hl (k := 3) rfl (by rw [ex66]; rfl) (by decide) rfl (fun ls hl => ?_)
              refine lv_goto (tgt := 10) hx hb dX4_sum_81 (by decide) ?_
              exact ih10 x66 x65 ct63 _ _ ls (by omega) (by first | omega | decide) hI hP hD hS (lv_sub hl [0, 1, 4, 5, 6] rfl)
            · skip
              have c64 : r56.toInt = 43 := (z_eq rfl (by decide : (43 : Int32).toInt = 43)).mp c64
              refine lv_iload_n hx hb dX4_sum_66 rfl (lv_at hl 3 rfl) ?_
              refine lv_iload hx hb dX4_sum_67 (lv_at hl 0 rfl) ?_
              refine lv_iadd hx hb dX4_sum_69 ?_
              refine lv_topi (fun x67 ex67 => ?_)
              refine lv_goto (tgt := 77) hx hb dX4_sum_70 (by decide) ?_
              refine lv_istore_n (lv' := [(3, .int x67), (6, .int r62), (5, .int r56), (4, .int v4_10), (0, .ref (ad kg)), (1, .int 4), (2, .int ask)]) hx hb dX4_sum_77 rfl hl (by decide) rfl (fun ls hl => ?_)
              obtain ⟨x68, ex68⟩ : ∃ y : Int32, y = v4_10 + 1 := ⟨_, rfl⟩
              have tx68 : x68.toInt = v4_10.toInt + 1 := by rw [ex68]; exact z_add rfl (by decide : (1 : Int32).toInt = 1) (by omega) (by omega)
              refine lv_iinc (v := x68) (lv' := [(4, .int x68), (3, .int x67), (6, .int r62), (5, .int r56), (0, .ref (ad kg)), (1, .int 4), (2, .int ask)]) hx hb dX4_sum_78 hl (k := 3) rfl (by rw [ex68]; rfl) (by decide) rfl (fun ls hl => ?_)
              refine lv_goto (tgt := 10) hx hb dX4_sum_81 (by decide) ?_
              exact ih10 x68 x67 ct63 _ _ ls (by omega) (by first | omega | decide) hI hP hD hS (lv_sub hl [0, 1, 4, 5, 6] rfl)
  exact loop10 ((100 - (0 : Int32).toInt : Int).toNat + 1) (0 : Int32) r17 ct18 _ _ ls (by omega) (by first | omega | decide) hI hP hD hS (lv_sub hl [0, 1, 2, 3, 4] rfl)
