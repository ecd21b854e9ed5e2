set_option maxHeartbeats 4000000 in
set_option maxRecDepth 100000 in
theorem k_X4_anyOf_0 (l : Launch) (g : zG) (sz : Nat) (ad : Nat → Nat) (pe : Int32) (ct : Nat → va_E) (kg : Nat) (ask : Int32) (hf_kg : 99 ≤ kg ∧ kg < 126 ∧ (kg - 99) % 3 = 0) (hI : Inv8 g ad pe ct) : Met l yX4_anyOf (zW yX4_anyOf cX4_anyOf 6 (some .boolean)) ({ frames := 25, cells := 0, slots := 0, locals := 625 }) (va_Pc [.ref (ad kg), .int 0, .int ask] (zA g (zw 126 ad ct) sz)) (va_Qi (fun (r : Int32) (_ : Unit) => (r = 1) ∨ (r = 0)) (fun _ t => ∃ ct2 : Nat → va_E, zP g (zw 126 ad ct2) t.heap ∧ va_D (va_A (zw 126 ad ct) sz) (zw 126 ad ct2) ∧ Inv8 g ad pe ct2) (va_A (zw 126 ad ct) sz)) 0 0 (va_A (zw 126 ad ct) sz) := by
  refine Met.ofW (cc := cX4_anyOf) (maxL := 6) (ret := (some .boolean)) (by decide) rfl ?_
  intro p e s m args below meth c s₁ B hml hv
  obtain ⟨rfl, hsz, hP, hK, hD0, hN⟩ := hv
  have hx := B.exec
  have hb := B.bytes
  have hr := B.returns
  have hg := zW.law (atoms_spec (ws := (zW yX4_anyOf cX4_anyOf 6 (some .boolean))) B.pre)
  have hown : s.vm.findClass RX4 = some m.cls := findClass_of_methodNamed B.named
  have hlocks := B.notSynchronized
  have hpe0 := hI.1
  subst hsz
  have hD := hD0.self (sz := s.heap.size)
  generalize hAe : va_A (zw 126 ad ct) s.heap.size = A at hD ⊢
  have hA : ∀ q : Nat, s.heap.size ≤ q → A q := fun q h => by rw [← hAe]; exact Or.inr h
  have hS : va_S A s.heap s.heap [] := va_S.rf
  have hl := lv_entry ([.ref (ad kg), .int 0, .int ask]) (n := 6) (Nat.le_of_ble_eq_true rfl)
  rw [lg_entry_eq]
  generalize (lg_sl ([.ref (ad kg), .int 0, .int ask]) ++ List.replicate (6 - (lg_sl ([.ref (ad kg), .int 0, .int ask])).length) Slot.unset).toArray = ls at hl ⊢
  have hl : lv_has ls 6 [(0, .ref (ad kg)), (1, .int 0), (2, .int ask)] := hl
  have rg_ask := z_rng ask
  refine lv_aload_n hx hb dX4_anyOf_0 rfl (lv_at hl 0 rfl) ?_
  refine lv_iload_n hx hb dX4_anyOf_1 rfl (lv_at hl 1 rfl) ?_
  refine lv_iload_n hx hb dX4_anyOf_2 rfl (lv_at hl 2 rfl) ?_
  obtain ⟨tld2, ofb3, hol4, flt5, fla6, ofl7, len8, atx9, ref10, hz11, h12, h13, h14, h15, hz16, hs1⟩ := a8_44 (kc := kg) (by omega) hI
  have bhz11 := z_b01 hz11
  have bhz16 := z_b01 hz16
  have hFc := zw_free hD hS hA
  refine va_calli (va_runV (As := [.int 0, .int ask]) (rest := []) ⟨hx, hb, hml, hown, hg⟩ (k_X4_allOf_0 l g _ ad pe ct kg ask (by omega) hI) (cwV 2 hg (z_gV mm_467 mm_469 mm_6 mm_114 mm_470) rfl rfl rfl (by decide +kernel) ⟨Nat.le_of_ble_eq_true rfl, Nat.le_of_ble_eq_true rfl⟩) ⟨(zA.pre [.ref (ad kg), .int 0, .int ask] hP hK hD hN).1, va_recv hK hP (ci := 4) (q0 := kg) rfl (zw_at (by omega) hs1), (zA.pre [.ref (ad kg), .int 0, .int ask] hP hK hD hN).2⟩ rfl rfl hl.1 rfl (lv_room (Nat.le_of_ble_eq_true rfl)) dX4_anyOf_3 ⟨Nat.le_of_ble_eq_true rfl, Nat.le_of_ble_eq_true rfl⟩) hS (fun q _ h => hFc q h) hFc (fun r17 _ t H1 locs ht hvm hr17 hB hz1 hk1 hS => ?_)
  obtain ⟨ct18, hP1, hD1, hI⟩ := hB
  rw [ht] at hP1
  have hD := hD1.weaken (fun _ _ _ h => hFc _ h)
  generalize H1 = H at hP1 hS ⊢
  have hP := hP1
  refine W.widen (k := 0) (n := 0) (Nat.le_refl _) (Nat.le_refl _) ?_
  rcases hr17 with hr17 | hr17
  · skip
    obtain rfl := hr17
    refine lv_istore_n (lv' := [(3, .int 1), (0, .ref (ad kg)), (1, .int 0), (2, .int ask)]) hx hb dX4_anyOf_6 rfl hl (by decide) rfl (fun ls hl => ?_)
    refine lv_iconst (v := 0) hx hb dX4_anyOf_7 (by decide) ?_
    refine lv_istore (lv' := [(4, .int 0), (3, .int 1), (0, .ref (ad kg)), (1, .int 0), (2, .int ask)]) hx hb dX4_anyOf_8 hl (by decide) rfl (fun ls hl => ?_)
    have loop10 : ∀ (n10 : Nat) (v4_10 : Int32) (v3_10 : Int32) (ct19 : Nat → va_E) (H : Heap) (locs : List Loc) (ls : Array Slot), ((100 - v4_10.toInt : Int).toNat < n10) → (0 ≤ v4_10.toInt ∧ v4_10.toInt ≤ 100) → (0 ≤ v3_10.toInt ∧ v3_10.toInt ≤ 1) → (Inv8 g ad pe ct19) → zP g (zw 126 ad ct19) H → va_D A (zw 126 ad ct19) → va_S A s.heap H locs → lv_has ls 6 [(4, .int v4_10), (3, .int v3_10), (0, .ref (ad kg)), (1, .int 0), (2, .int ask)] → W p l e (headSpec (zW yX4_anyOf cX4_anyOf 6 (some .boolean)) ({ frames := 25, cells := 0, slots := 0, locals := 625 })).room s m ([.ref (ad kg), .int 0, .int ask] : List Value).toArray below meth c H locs 0 0 (MQ below (va_Qi (fun (r : Int32) (_ : Unit) => (r = 1) ∨ (r = 0)) (fun _ t => ∃ ct2 : Nat → va_E, zP g (zw 126 ad ct2) t.heap ∧ va_D A (zw 126 ad ct2) ∧ Inv8 g ad pe ct2) A) ([.ref (ad kg), .int 0, .int ask] : List Value).toArray s 0 0 A) (F0 m 10 ls []) := by
      intro n10
      induction n10 with
      | zero =>
        intro v4_10 v3_10 ct19 H locs ls hn10 b4_10 b3_10 hI hP hD hS hl
        exact absurd hn10 (Nat.not_lt_zero _)
      | succ n10 ih10 =>
        intro v4_10 v3_10 ct19 H locs ls hn10 b4_10 b3_10 hI hP hD hS hl
        refine lv_iload hx hb dX4_anyOf_10 (lv_at hl 0 rfl) ?_
        refine lv_bipush (v := 100) hx hb dX4_anyOf_12 (by decide) ?_
        refine lv_icmp_ge (tgt := 77) hx hb dX4_anyOf_14 (by decide) (fun c20 => ?_) (fun c20 => ?_)
        · skip
          have c20 : 100 ≤ v4_10.toInt := (z_le (by decide : (100 : Int32).toInt = 100) rfl).mp c20
          refine lv_iload_n hx hb dX4_anyOf_77 rfl (lv_at hl 1 rfl) ?_
          exact W.zret (v := v3_10) hx hb hr (by rcases (z_01 (x := v3_10) (by omega) (by omega)) with q | q <;> rw [q] <;> rfl) (fun t ht hW => ⟨⟨v3_10, (), rfl, by first | exact Or.inl ⟨rfl, by omega⟩ | exact Or.inr ⟨rfl, by omega⟩ | exact Or.inl rfl | exact Or.inr rfl | exact Or.inl ⟨rfl, by omega, by omega⟩ | exact (z_01 (by omega) (by omega)).symm, ct19, by rw [ht]; exact hP, hD, hI⟩, hS.F ht⟩) hS.2.2 dX4_anyOf_78
        · skip
          have c20 : ¬ (100 ≤ v4_10.toInt) := fun q => c20 ((z_le (by decide : (100 : Int32).toInt = 100) rfl).mpr q)
          refine lv_aload_n hx hb dX4_anyOf_17 rfl (lv_at hl 2 rfl) ?_
          obtain ⟨tld22, ofb23, hol24, flt25, fla26, ofl27, len28, atx29, ref30, hz31, h32, h33, h34, h35, hz36, hs21⟩ := a8_44 (kc := kg) (by omega) hI
          have bhz31 := z_b01 hz31
          have bhz36 := z_b01 hz36
          refine zc_i (va_runV (As := []) (rest := []) ⟨hx, hb, hml, hown, hg⟩ (k_X4_nextp l g ad pe ct19 kg tld22 ofb23 hol24 flt25 fla26 ofl27 len28 atx29 ref30 (by omega) hI hs21) (cwV 0 hg (z_gV mm_475 mm_477 mm_8 mm_114 mm_478) rfl rfl rfl (by decide +kernel) ⟨Nat.le_of_ble_eq_true rfl, Nat.le_of_ble_eq_true rfl⟩) ⟨(zR.pre [.ref (ad kg)] hP hK hN).1, va_recv hK hP (ci := 4) (q0 := kg) rfl (zw_at (by omega) hs21), (zR.pre [.ref (ad kg)] hP hK hN).2⟩ rfl rfl hl.1 rfl (lv_room (Nat.le_of_ble_eq_true rfl)) dX4_anyOf_18 ⟨Nat.le_of_ble_eq_true rfl, Nat.le_of_ble_eq_true rfl⟩) (fun r37 hr37 => ?_)
          have h38 := hr37
          have h38 : nxp r37 atx29 := h38
          refine lv_bipush (v := 124) hx hb dX4_anyOf_21 (by decide) ?_
          refine lv_icmp_ne (tgt := 77) hx hb dX4_anyOf_23 (by decide) (fun c39 => ?_) (fun c39 => ?_)
          · skip
            have c39 : ¬ (r37.toInt = 124) := fun q => c39 ((z_eq rfl (by decide : (124 : Int32).toInt = 124)).mpr q)
            refine lv_iload_n hx hb dX4_anyOf_77 rfl (lv_at hl 1 rfl) ?_
            exact W.zret (v := v3_10) hx hb hr (by rcases (z_01 (x := v3_10) (by omega) (by omega)) with q | q <;> rw [q] <;> rfl) (fun t ht hW => ⟨⟨v3_10, (), rfl, by first | exact Or.inl ⟨rfl, by omega⟩ | exact Or.inr ⟨rfl, by omega⟩ | exact Or.inl rfl | exact Or.inr rfl | exact Or.inl ⟨rfl, by omega, by omega⟩ | exact (z_01 (by omega) (by omega)).symm, ct19, by rw [ht]; exact hP, hD, hI⟩, hS.F ht⟩) hS.2.2 dX4_anyOf_78
          · skip
            have c39 : r37.toInt = 124 := (z_eq rfl (by decide : (124 : Int32).toInt = 124)).mp c39
            refine lv_aload_n hx hb dX4_anyOf_26 rfl (lv_at hl 2 rfl) ?_
            refine lv_dup hx hb dX4_anyOf_27 rfl ?_
            refine va_get (D := g.1) (ci := 4) (v := .int atx29) (C := RX4) (T := TX4) (N := 11) hx hb hg inG4 hown hK hP kg (zw_at (by omega) hs21) rfl 9 (by decide) (hg _ mm_285) (fun _ h9 => h9) rfl dX4_anyOf_28 ?_
            refine lv_iconst (v := 1) hx hb dX4_anyOf_31 (by decide) ?_
            refine lv_iadd hx hb dX4_anyOf_32 ?_
            refine lv_topi (fun x40 ex40 => ?_)
            have tx40 : x40.toInt = atx29.toInt + 1 := by rw [ex40]; exact z_add rfl (by decide : (1 : Int32).toInt = 1) (by omega) (by omega)
            have hat40 : atx29.toInt ≤ 99 := by first | exact nxp_use h38 (by omega)
            refine va_put (D := g.1) (ci := 4) (v := .int x40) (ty := .int) (C := RX4) (T := TX4) (N := 11) hx hb hg inG4 tyX4 tyX4_ok nmX4 hown hK hP hD hS kg (zw_at (by omega) hs21) rfl 9 (by decide) (hg _ mm_285) (fun _ h9 => h9) rfl (by decide +kernel) rfl rfl (Nat.le_of_ble_eq_true rfl) dX4_anyOf_33 (fun H locs hP hD hS => ?_)
            have hP : zP g ((zw 126 ad ct19).set kg (ad kg, .inr (4, [.int tld22, .int ofb23, .int hol24, .int flt25, .int fla26, .int ofl27, .ref (ad (kg + 1)), .ref (ad (kg + 2)), .int len28, .int x40, .int ref30]))) H := hP
            have hD : va_D A ((zw 126 ad ct19).set kg (ad kg, .inr (4, [.int tld22, .int ofb23, .int hol24, .int flt25, .int fla26, .int ofl27, .ref (ad (kg + 1)), .ref (ad (kg + 2)), .int len28, .int x40, .int ref30]))) := hD
            rw [zw_set (by omega)] at hP hD
            obtain ⟨ct41, ec42⟩ : ∃ z : Nat → va_E, z = va_up ct19 kg (.inr (4, [.int tld22, .int ofb23, .int hol24, .int flt25, .int fla26, .int ofl27, .ref (ad (kg + 1)), .ref (ad (kg + 2)), .int len28, .int x40, .int ref30])) := ⟨_, rfl⟩
            rw [← ec42] at hP hD
            have hI : Inv8 g ad pe ct41 := by rw [ec42]; exact up8 hI (i8_44 (kc := kg) (by omega) ⟨(tld22 : Int32), (ofb23 : Int32), (hol24 : Int32), (flt25 : Int32), (fla26 : Int32), (ofl27 : Int32), (len28 : Int32), (x40 : Int32), (ref30 : Int32), hz31, (by first | omega | decide), (by first | omega | decide), (by first | omega | decide), (by first | omega | decide), hz36, rfl⟩)
            have hs43 : ct41 kg = .inr (4, [.int tld22, .int ofb23, .int hol24, .int flt25, .int fla26, .int ofl27, .ref (ad (kg + 1)), .ref (ad (kg + 2)), .int len28, .int x40, .int ref30]) := by rw [ec42]; exact va_up_self _ _ _
            refine lv_aload_n hx hb dX4_anyOf_36 rfl (lv_at hl 2 rfl) ?_
            refine lv_iload_n hx hb dX4_anyOf_37 rfl (lv_at hl 3 rfl) ?_
            refine lv_iload_n hx hb dX4_anyOf_38 rfl (lv_at hl 4 rfl) ?_
            refine lv_if_eq (tgt := 50) hx hb dX4_anyOf_39 (by decide) (fun c44 => ?_) (fun c44 => ?_)
            · skip
              have c44 : ask.toInt = 0 := (z_eq rfl (by decide : (0 : Int32).toInt = 0)).mp c44
              refine lv_iconst (v := 0) hx hb dX4_anyOf_50 (by decide) ?_
              have hFc := zw_free hD hS hA
              refine va_calli (va_runV (As := [.int 0, .int 0]) (rest := []) ⟨hx, hb, hml, hown, hg⟩ (k_X4_allOf_0 l g _ ad pe ct41 kg (0 : Int32) (by omega) hI) (cwV 2 hg (z_gV mm_467 mm_469 mm_6 mm_114 mm_470) rfl rfl rfl (by decide +kernel) ⟨Nat.le_of_ble_eq_true rfl, Nat.le_of_ble_eq_true rfl⟩) ⟨(zA.pre [.ref (ad kg), .int 0, .int 0] hP hK hD hN).1, va_recv hK hP (ci := 4) (q0 := kg) rfl (zw_at (by omega) hs43), (zA.pre [.ref (ad kg), .int 0, .int 0] hP hK hD hN).2⟩ rfl rfl hl.1 rfl (lv_room (Nat.le_of_ble_eq_true rfl)) dX4_anyOf_51 ⟨Nat.le_of_ble_eq_true rfl, Nat.le_of_ble_eq_true rfl⟩) hS (fun q _ h => hFc q h) hFc (fun r45 _ t H1 locs ht hvm hr45 hB hz1 hk1 hS => ?_)
              obtain ⟨ct46, hP1, hD1, hI⟩ := hB
              rw [ht] at hP1
              have hD := hD1.weaken (fun _ _ _ h => hFc _ h)
              generalize H1 = H at hP1 hS ⊢
              have hP := hP1
              refine W.widen (k := 0) (n := 0) (Nat.le_refl _) (Nat.le_refl _) ?_
              rcases hr45 with hr45 | hr45
              · skip
                obtain rfl := hr45
                refine lv_istore (lv' := [(5, .int 1), (4, .int v4_10), (3, .int v3_10), (0, .ref (ad kg)), (1, .int 0), (2, .int ask)]) hx hb dX4_anyOf_54 hl (by decide) rfl (fun ls hl => ?_)
                refine lv_iload_n hx hb dX4_anyOf_56 rfl (lv_at hl 2 rfl) ?_
                refine lv_if_ne (tgt := 65) hx hb dX4_anyOf_57 (by decide) (fun c47 => ?_) (fun c47 => ?_)
                · skip
                  have c47 : ¬ (v3_10.toInt = 0) := fun q => c47 ((z_eq rfl (by decide : (0 : Int32).toInt = 0)).mpr q)
                  refine lv_iconst (v := 1) hx hb dX4_anyOf_65 (by decide) ?_
                  refine lv_goto (tgt := 70) hx hb dX4_anyOf_66 (by decide) ?_
                  refine lv_istore_n (lv' := [(3, .int 1), (5, .int 1), (4, .int v4_10), (0, .ref (ad kg)), (1, .int 0), (2, .int ask)]) hx hb dX4_anyOf_70 rfl hl (by decide) rfl (fun ls hl => ?_)
                  obtain ⟨x48, ex48⟩ : ∃ y : Int32, y = v4_10 + 1 := ⟨_, rfl⟩
                  have tx48 : x48.toInt = v4_10.toInt + 1 := by rw [ex48]; exact z_add rfl (by decide : (1 : Int32).toInt = 1) (by omega) (by omega)
                  refine lv_iinc (v := x48) (lv' := [(4, .int x48), (3, .int 1), (5, .int 1), (0, .ref (ad kg)), (1, .int 0), (2, .int ask)]) hx hb dX4_anyOf_71 hl (k := 2) rfl (by rw [ex48]; rfl) (by decide) rfl (fun ls hl => ?_)
                  refine lv_goto (tgt := 10) hx hb dX4_anyOf_74 (by decide) ?_
                  exact ih10 x48 (1 : Int32) ct46 _ _ ls (by omega) (by first | omega | decide) (by first | omega | decide) hI hP hD hS (lv_sub hl [0, 1, 3, 4, 5] rfl)
                · skip
                  have c47 : v3_10.toInt = 0 := (z_eq rfl (by decide : (0 : Int32).toInt = 0)).mp c47
                  refine lv_iload hx hb dX4_anyOf_60 (lv_at hl 0 rfl) ?_
                  refine lv_if_eq (tgt := 69) hx hb dX4_anyOf_62 (by decide) (fun c49 => ?_) (fun c49 => ?_)
                  · skip
                    exact absurd c49 (by decide)
                  · skip
                    refine lv_iconst (v := 1) hx hb dX4_anyOf_65 (by decide) ?_
                    refine lv_goto (tgt := 70) hx hb dX4_anyOf_66 (by decide) ?_
                    refine lv_istore_n (lv' := [(3, .int 1), (5, .int 1), (4, .int v4_10), (0, .ref (ad kg)), (1, .int 0), (2, .int ask)]) hx hb dX4_anyOf_70 rfl hl (by decide) rfl (fun ls hl => ?_)
                    obtain ⟨x50, ex50⟩ : ∃ y : Int32, y = v4_10 + 1 := ⟨_, rfl⟩
                    have tx50 : x50.toInt = v4_10.toInt + 1 := by rw [ex50]; exact z_add rfl (by decide : (1 : Int32).toInt = 1) (by omega) (by omega)
                    refine lv_iinc (v := x50) (lv' := [(4, .int x50), (3, .int 1), (5, .int 1), (0, .ref (ad kg)), (1, .int 0), (2, .int ask)]) hx hb dX4_anyOf_71 hl (k := 2) rfl (by rw [ex50]; rfl) (by decide) rfl (fun ls hl => ?_)
                    refine lv_goto (tgt := 10) hx hb dX4_anyOf_74 (by decide) ?_
                    exact ih10 x50 (1 : Int32) ct46 _ _ ls (by omega) (by first | omega | decide) (by first | omega | decide) hI hP hD hS (lv_sub hl [0, 1, 3, 4, 5] rfl)
              · skip
                obtain rfl := hr45
                refine lv_istore (lv' := [(5, .int 0), (4, .int v4_10), (3, .int v3_10), (0, .ref (ad kg)), (1, .int 0), (2, .int ask)]) hx hb dX4_anyOf_54 hl (by decide) rfl (fun ls hl => ?_)
                refine lv_iload_n hx hb dX4_anyOf_56 rfl (lv_at hl 2 rfl) ?_
                refine lv_if_ne (tgt := 65) hx hb dX4_anyOf_57 (by decide) (fun c51 => ?_) (fun c51 => ?_)
                · skip
                  have c51 : ¬ (v3_10.toInt = 0) := fun q => c51 ((z_eq rfl (by decide : (0 : Int32).toInt = 0)).mpr q)
                  refine lv_iconst (v := 1) hx hb dX4_anyOf_65 (by decide) ?_
                  refine lv_goto (tgt := 70) hx hb dX4_anyOf_66 (by decide) ?_
                  refine lv_istore_n (lv' := [(3, .int 1), (5, .int 0), (4, .int v4_10), (0, .ref (ad kg)), (1, .int 0), (2, .int ask)]) hx hb dX4_anyOf_70 rfl hl (by decide) rfl (fun ls hl => ?_)
                  obtain ⟨x52, ex52⟩ : ∃ y : Int32, y = v4_10 + 1 := ⟨_, rfl⟩
                  have tx52 : x52.toInt = v4_10.toInt + 1 := by rw [ex52]; exact z_add rfl (by decide : (1 : Int32).toInt = 1) (by omega) (by omega)
                  refine lv_iinc (v := x52) (lv' := [(4, .int x52), (3, .int 1), (5, .int 0), (0, .ref (ad kg)), (1, .int 0), (2, .int ask)]) hx hb dX4_anyOf_71 hl (k := 2) rfl (by rw [ex52]; rfl) (by decide) rfl (fun ls hl => ?_)
                  refine lv_goto (tgt := 10) hx hb dX4_anyOf_74 (by decide) ?_
                  exact ih10 x52 (1 : Int32) ct46 _ _ ls (by omega) (by first | omega | decide) (by first | omega | decide) hI hP hD hS (lv_sub hl [0, 1, 3, 4, 5] rfl)
                · skip
                  have c51 : v3_10.toInt = 0 := (z_eq rfl (by decide : (0 : Int32).toInt = 0)).mp c51
                  refine lv_iload hx hb dX4_anyOf_60 (lv_at hl 0 rfl) ?_
                  refine lv_if_eq (tgt := 69) hx hb dX4_anyOf_62 (by decide) (fun c53 => ?_) (fun c53 => ?_)
                  · skip
                    refine lv_iconst (v := 0) hx hb dX4_anyOf_69 (by decide) ?_
                    refine lv_istore_n (lv' := [(3, .int 0), (5, .int 0), (4, .int v4_10), (0, .ref (ad kg)), (1, .int 0), (2, .int ask)]) hx hb dX4_anyOf_70 rfl hl (by decide) rfl (fun ls hl => ?_)
                    obtain ⟨x54, ex54⟩ : ∃ y : Int32, y = v4_10 + 1 := ⟨_, rfl⟩
                    have tx54 : x54.toInt = v4_10.toInt + 1 := by rw [ex54]; exact z_add rfl (by decide : (1 : Int32).toInt = 1) (by omega) (by omega)
                    refine lv_iinc (v := x54) (lv' := [(4, .int x54), (3, .int 0), (5, .int 0), (0, .ref (ad kg)), (1, .int 0), (2, .int ask)]) hx hb dX4_anyOf_71 hl (k := 2) rfl (by rw [ex54]; rfl) (by decide) rfl (fun ls hl => ?_)
                    refine lv_goto (tgt := 10) hx hb dX4_anyOf_74 (by decide) ?_
                    exact ih10 x54 (0 : Int32) ct46 _ _ ls (by omega) (by first | omega | decide) (by first | omega | decide) hI hP hD hS (lv_sub hl [0, 1, 3, 4, 5] rfl)
                  · skip
                    exact absurd c53 (by decide)
            · skip
              have c44 : ¬ (ask.toInt = 0) := fun q => c44 ((z_eq rfl (by decide : (0 : Int32).toInt = 0)).mpr q)
              refine lv_iload_n hx hb dX4_anyOf_42 rfl (lv_at hl 1 rfl) ?_
              refine lv_if_ne (tgt := 50) hx hb dX4_anyOf_43 (by decide) (fun c55 => ?_) (fun c55 => ?_)
              · skip
                have c55 : ¬ (v3_10.toInt = 0) := fun q => c55 ((z_eq rfl (by decide : (0 : Int32).toInt = 0)).mpr q)
                refine lv_iconst (v := 0) hx hb dX4_anyOf_50 (by decide) ?_
                have hFc := zw_free hD hS hA
                refine va_calli (va_runV (As := [.int 0, .int 0]) (rest := []) ⟨hx, hb, hml, hown, hg⟩ (k_X4_allOf_0 l g _ ad pe ct41 kg (0 : Int32) (by omega) hI) (cwV 2 hg (z_gV mm_467 mm_469 mm_6 mm_114 mm_470) rfl rfl rfl (by decide +kernel) ⟨Nat.le_of_ble_eq_true rfl, Nat.le_of_ble_eq_true rfl⟩) ⟨(zA.pre [.ref (ad kg), .int 0, .int 0] hP hK hD hN).1, va_recv hK hP (ci := 4) (q0 := kg) rfl (zw_at (by omega) hs43), (zA.pre [.ref (ad kg), .int 0, .int 0] hP hK hD hN).2⟩ rfl rfl hl.1 rfl (lv_room (Nat.le_of_ble_eq_true rfl)) dX4_anyOf_51 ⟨Nat.le_of_ble_eq_true rfl, Nat.le_of_ble_eq_true rfl⟩) hS (fun q _ h => hFc q h) hFc (fun r56 _ t H1 locs ht hvm hr56 hB hz1 hk1 hS => ?_)
                obtain ⟨ct57, hP1, hD1, hI⟩ := hB
                rw [ht] at hP1
                have hD := hD1.weaken (fun _ _ _ h => hFc _ h)
                generalize H1 = H at hP1 hS ⊢
                have hP := hP1
                refine W.widen (k := 0) (n := 0) (Nat.le_refl _) (Nat.le_refl _) ?_
                rcases hr56 with hr56 | hr56
                · skip
                  obtain rfl := hr56
                  refine lv_istore (lv' := [(5, .int 1), (4, .int v4_10), (3, .int v3_10), (0, .ref (ad kg)), (1, .int 0), (2, .int ask)]) hx hb dX4_anyOf_54 hl (by decide) rfl (fun ls hl => ?_)
                  refine lv_iload_n hx hb dX4_anyOf_56 rfl (lv_at hl 2 rfl) ?_
                  refine lv_if_ne (tgt := 65) hx hb dX4_anyOf_57 (by decide) (fun c58 => ?_) (fun c58 => ?_)
                  · skip
                    have c58 : ¬ (v3_10.toInt = 0) := fun q => c58 ((z_eq rfl (by decide : (0 : Int32).toInt = 0)).mpr q)
                    refine lv_iconst (v := 1) hx hb dX4_anyOf_65 (by decide) ?_
                    refine lv_goto (tgt := 70) hx hb dX4_anyOf_66 (by decide) ?_
                    refine lv_istore_n (lv' := [(3, .int 1), (5, .int 1), (4, .int v4_10), (0, .ref (ad kg)), (1, .int 0), (2, .int ask)]) hx hb dX4_anyOf_70 rfl hl (by decide) rfl (fun ls hl => ?_)
                    obtain ⟨x59, ex59⟩ : ∃ y : Int32, y = v4_10 + 1 := ⟨_, rfl⟩
                    have tx59 : x59.toInt = v4_10.toInt + 1 := by rw [ex59]; exact z_add rfl (by decide : (1 : Int32).toInt = 1) (by omega) (by omega)
                    refine lv_iinc (v := x59) (lv' := [(4, .int x59), (3, .int 1), (5, .int 1), (0, .ref (ad kg)), (1, .int 0), (2, .int ask)]) hx hb dX4_anyOf_71 hl (k := 2) rfl (by rw [ex59]; rfl) (by decide) rfl (fun ls hl => ?_)
                    refine lv_goto (tgt := 10) hx hb dX4_anyOf_74 (by decide) ?_
                    exact ih10 x59 (1 : Int32) ct57 _ _ ls (by omega) (by first | omega | decide) (by first | omega | decide) hI hP hD hS (lv_sub hl [0, 1, 3, 4, 5] rfl)
                  · skip
                    have c58 : v3_10.toInt = 0 := (z_eq rfl (by decide : (0 : Int32).toInt = 0)).mp c58
                    exfalso
                    omega
                · skip
                  obtain rfl := hr56
                  refine lv_istore (lv' := [(5, .int 0), (4, .int v4_10), (3, .int v3_10), (0, .ref (ad kg)), (1, .int 0), (2, .int ask)]) hx hb dX4_anyOf_54 hl (by decide) rfl (fun ls hl => ?_)
                  refine lv_iload_n hx hb dX4_anyOf_56 rfl (lv_at hl 2 rfl) ?_
                  refine lv_if_ne (tgt := 65) hx hb dX4_anyOf_57 (by decide) (fun c60 => ?_) (fun c60 => ?_)
                  · skip
                    have c60 : ¬ (v3_10.toInt = 0) := fun q => c60 ((z_eq rfl (by decide : (0 : Int32).toInt = 0)).mpr q)
                    refine lv_iconst (v := 1) hx hb dX4_anyOf_65 (by decide) ?_
                    refine lv_goto (tgt := 70) hx hb dX4_anyOf_66 (by decide) ?_
                    refine lv_istore_n (lv' := [(3, .int 1), (5, .int 0), (4, .int v4_10), (0, .ref (ad kg)), (1, .int 0), (2, .int ask)]) hx hb dX4_anyOf_70 rfl hl (by decide) rfl (fun ls hl => ?_)
                    obtain ⟨x61, ex61⟩ : ∃ y : Int32, y = v4_10 + 1 := ⟨_, rfl⟩
                    have tx61 : x61.toInt = v4_10.toInt + 1 := by rw [ex61]; exact z_add rfl (by decide : (1 : Int32).toInt = 1) (by omega) (by omega)
                    refine lv_iinc (v := x61) (lv' := [(4, .int x61), (3, .int 1), (5, .int 0), (0, .ref (ad kg)), (1, .int 0), (2, .int ask)]) hx hb dX4_anyOf_71 hl (k := 2) rfl (by rw [ex61]; rfl) (by decide) rfl (fun ls hl => ?_)
                    refine lv_goto (tgt := 10) hx hb dX4_anyOf_74 (by decide) ?_
                    exact ih10 x61 (1 : Int32) ct57 _ _ ls (by omega) (by first | omega | decide) (by first | omega | decide) hI hP hD hS (lv_sub hl [0, 1, 3, 4, 5] rfl)
                  · skip
                    have c60 : v3_10.toInt = 0 := (z_eq rfl (by decide : (0 : Int32).toInt = 0)).mp c60
                    exfalso
                    omega
              · skip
                have c55 : v3_10.toInt = 0 := (z_eq rfl (by decide : (0 : Int32).toInt = 0)).mp c55
                refine lv_iconst (v := 1) hx hb dX4_anyOf_46 (by decide) ?_
                refine lv_goto (tgt := 51) hx hb dX4_anyOf_47 (by decide) ?_
                have hFc := zw_free hD hS hA
                refine va_calli (va_runV (As := [.int 0, .int 1]) (rest := []) ⟨hx, hb, hml, hown, hg⟩ (k_X4_allOf_0 l g _ ad pe ct41 kg (1 : Int32) (by omega) hI) (cwV 2 hg (z_gV mm_467 mm_469 mm_6 mm_114 mm_470) rfl rfl rfl (by decide +kernel) ⟨Nat.le_of_ble_eq_true rfl, Nat.le_of_ble_eq_true rfl⟩) ⟨(zA.pre [.ref (ad kg), .int 0, .int 1] hP hK hD hN).1, va_recv hK hP (ci := 4) (q0 := kg) rfl (zw_at (by omega) hs43), (zA.pre [.ref (ad kg), .int 0, .int 1] hP hK hD hN).2⟩ rfl rfl hl.1 rfl (lv_room (Nat.le_of_ble_eq_true rfl)) dX4_anyOf_51 ⟨Nat.le_of_ble_eq_true rfl, Nat.le_of_ble_eq_true rfl⟩) hS (fun q _ h => hFc q h) hFc (fun r62 _ t H1 locs ht hvm hr62 hB hz1 hk1 hS => ?_)
                obtain ⟨ct63, hP1, hD1, hI⟩ := hB
                rw [ht] at hP1
                have hD := hD1.weaken (fun _ _ _ h => hFc _ h)
                generalize H1 = H at hP1 hS ⊢
                have hP := hP1
                refine W.widen (k := 0) (n := 0) (Nat.le_refl _) (Nat.le_refl _) ?_
                rcases hr62 with hr62 | hr62
                · skip
                  obtain rfl := hr62
                  refine lv_istore (lv' := [(5, .int 1), (4, .int v4_10), (3, .int v3_10), (0, .ref (ad kg)), (1, .int 0), (2, .int ask)]) hx hb dX4_anyOf_54 hl (by decide) rfl (fun ls hl => ?_)
                  refine lv_iload_n hx hb dX4_anyOf_56 rfl (lv_at hl 2 rfl) ?_
                  refine lv_if_ne (tgt := 65) hx hb dX4_anyOf_57 (by decide) (fun c64 => ?_) (fun c64 => ?_)
                  · skip
                    have c64 : ¬ (v3_10.toInt = 0) := fun q => c64 ((z_eq rfl (by decide : (0 : Int32).toInt = 0)).mpr q)
                    refine lv_iconst (v := 1) hx hb dX4_anyOf_65 (by decide) ?_
                    refine lv_goto (tgt := 70) hx hb dX4_anyOf_66 (by decide) ?_
                    refine lv_istore_n (lv' := [(3, .int 1), (5, .int 1), (4, .int v4_10), (0, .ref (ad kg)), (1, .int 0), (2, .int ask)]) hx hb dX4_anyOf_70 rfl hl (by decide) rfl (fun ls hl => ?_)
                    obtain ⟨x65, ex65⟩ : ∃ y : Int32, y = v4_10 + 1 := ⟨_, rfl⟩
                    have tx65 : x65.toInt = v4_10.toInt + 1 := by rw [ex65]; exact z_add rfl (by decide : (1 : Int32).toInt = 1) (by omega) (by omega)
                    refine lv_iinc (v := x65) (lv' := [(4, .int x65), (3, .int 1), (5, .int 1), (0, .ref (ad kg)), (1, .int 0), (2, .int ask)]) hx hb dX4_anyOf_71 hl (k := 2) rfl (by rw [ex65]; rfl) (by decide) rfl (fun ls hl => ?_)
                    refine lv_goto (tgt := 10) hx hb dX4_anyOf_74 (by decide) ?_
                    exact ih10 x65 (1 : Int32) ct63 _ _ ls (by omega) (by first | omega | decide) (by first | omega | decide) hI hP hD hS (lv_sub hl [0, 1, 3, 4, 5] rfl)
                  · skip
                    have c64 : v3_10.toInt = 0 := (z_eq rfl (by decide : (0 : Int32).toInt = 0)).mp c64
                    refine lv_iload hx hb dX4_anyOf_60 (lv_at hl 0 rfl) ?_
                    refine lv_if_eq (tgt := 69) hx hb dX4_anyOf_62 (by decide) (fun c66 => ?_) (fun c66 => ?_)
                    · skip
                      exact absurd c66 (by decide)
                    · skip
                      refine lv_iconst (v := 1) hx hb dX4_anyOf_65 (by decide) ?_
                      refine lv_goto (tgt := 70) hx hb dX4_anyOf_66 (by decide) ?_
                      refine lv_istore_n (lv' := [(3, .int 1), (5, .int 1), (4, .int v4_10), (0, .ref (ad kg)), (1, .int 0), (2, .int ask)]) hx hb dX4_anyOf_70 rfl hl (by decide) rfl (fun ls hl => ?_)
                      obtain ⟨x67, ex67⟩ : ∃ y : Int32, y = v4_10 + 1 := ⟨_, rfl⟩
                      have tx67 : x67.toInt = v4_10.toInt + 1 := by rw [ex67]; exact z_add rfl (by decide : (1 : Int32).toInt = 1) (by omega) (by omega)
                      refine lv_iinc (v := x67) (lv' := [(4, .int x67), (3, .int 1), (5, .int 1), (0, .ref (ad kg)), (1, .int 0), (2, .int ask)]) hx hb dX4_anyOf_71 hl (k := 2) rfl (by rw [ex67]; rfl) (by decide) rfl (fun ls hl => ?_)
                      refine lv_goto (tgt := 10) hx hb dX4_anyOf_74 (by decide) ?_
                      exact ih10 x67 (1 : Int32) ct63 _ _ ls (by omega) (by first | omega | decide) (by first | omega | decide) hI hP hD hS (lv_sub hl [0, 1, 3, 4, 5] rfl)
                · skip
                  obtain rfl := hr62
                  refine lv_istore (lv' := [(5, .int 0), (4, .int v4_10), (3, .int v3_10), (0, .ref (ad kg)), (1, .int 0), (2, .int ask)]) hx hb dX4_anyOf_54 hl (by decide) rfl (fun ls hl => ?_)
                  refine lv_iload_n hx hb dX4_anyOf_56 rfl (lv_at hl 2 rfl) ?_
                  refine lv_if_ne (tgt := 65) hx hb dX4_anyOf_57 (by decide) (fun c68 => ?_) (fun c68 => ?_)
                  · skip
                    have c68 : ¬ (v3_10.toInt = 0) := fun q => c68 ((z_eq rfl (by decide : (0 : Int32).toInt = 0)).mpr q)
                    refine lv_iconst (v := 1) hx hb dX4_anyOf_65 (by decide) ?_
                    refine lv_goto (tgt := 70) hx hb dX4_anyOf_66 (by decide) ?_
                    refine lv_istore_n (lv' := [(3, .int 1), (5, .int 0), (4, .int v4_10), (0, .ref (ad kg)), (1, .int 0), (2, .int ask)]) hx hb dX4_anyOf_70 rfl hl (by decide) rfl (fun ls hl => ?_)
                    obtain ⟨x69, ex69⟩ : ∃ y : Int32, y = v4_10 + 1 := ⟨_, rfl⟩
                    have tx69 : x69.toInt = v4_10.toInt + 1 := by rw [ex69]; exact z_add rfl (by decide : (1 : Int32).toInt = 1) (by omega) (by omega)
                    refine lv_iinc (v := x69) (lv' := [(4, .int x69), (3, .int 1), (5, .int 0), (0, .ref (ad kg)), (1, .int 0), (2, .int ask)]) hx hb dX4_anyOf_71 hl (k := 2) rfl (by rw [ex69]; rfl) (by decide) rfl (fun ls hl => ?_)
                    refine lv_goto (tgt := 10) hx hb dX4_anyOf_74 (by decide) ?_
                    exact ih10 x69 (1 : Int32) ct63 _ _ ls (by omega) (by first | omega | decide) (by first | omega | decide) hI hP hD hS (lv_sub hl [0, 1, 3, 4, 5] rfl)
                  · skip
                    have c68 : v3_10.toInt = 0 := (z_eq rfl (by decide : (0 : Int32).toInt = 0)).mp c68
                    refine lv_iload hx hb dX4_anyOf_60 (lv_at hl 0 rfl) ?_
                    refine lv_if_eq (tgt := 69) hx hb dX4_anyOf_62 (by decide) (fun c70 => ?_) (fun c70 => ?_)
                    · skip
                      refine lv_iconst (v := 0) hx hb dX4_anyOf_69 (by decide) ?_
                      refine lv_istore_n (lv' := [(3, .int 0), (5, .int 0), (4, .int v4_10), (0, .ref (ad kg)), (1, .int 0), (2, .int ask)]) hx hb dX4_anyOf_70 rfl hl (by decide) rfl (fun ls hl => ?_)
                      obtain ⟨x71, ex71⟩ : ∃ y : Int32, y = v4_10 + 1 := ⟨_, rfl⟩
                      have tx71 : x71.toInt = v4_10.toInt + 1 := by rw [ex71]; exact z_add rfl (by decide : (1 : Int32).toInt = 1) (by omega) (by omega)
                      refine lv_iinc (v := x71) (lv' := [(4, .int x71), (3, .int 0), (5, .int 0), (0, .ref (ad kg)), (1, .int 0), (2, .int ask)]) hx hb dX4_anyOf_71 hl (k := 2) rfl (by rw [ex71]; rfl) (by decide) rfl (fun ls hl => ?_)
                      refine lv_goto (tgt := 10) hx hb dX4_anyOf_74 (by decide) ?_
                      exact ih10 x71 (0 : Int32) ct63 _ _ ls (by omega) (by first | omega | decide) (by first | omega | decide) hI hP hD hS (lv_sub hl [0, 1, 3, 4, 5] rfl)
                    · skip
                      exact absurd c70 (by decide)
    exact loop10 ((100 - (0 : Int32).toInt : Int).toNat + 1) (0 : Int32) (1 : Int32) ct18 _ _ ls (by omega) (by first | omega | decide) (by first | omega | decide) hI hP hD hS (lv_sub hl [0, 1, 2, 3, 4] rfl)
  · skip
    obtain rfl := hr17
    refine lv_istore_n (lv' := [(3, .int 0), (0, .ref (ad kg)), (1, .int 0), (2, .int ask)]) hx hb dX4_anyOf_6 rfl hl (by decide) rfl (fun ls hl => ?_)
    refine lv_iconst (v := 0) hx hb dX4_anyOf_7 (by decide) ?_
    refine lv_istore (lv' := [(4, .int 0), (3, .int 0), (0, .ref (ad kg)), (1, .int 0), (2, .int ask)]) hx hb dX4_anyOf_8 hl (by decide) rfl (fun ls hl => ?_)
    have loop10 : ∀ (n10 : Nat) (v4_10 : Int32) (v3_10 : Int32) (ct72 : Nat → va_E) (H : Heap) (locs : List Loc) (ls : Array Slot), ((100 - v4_10.toInt : Int).toNat < n10) → (0 ≤ v4_10.toInt ∧ v4_10.toInt ≤ 100) → (0 ≤ v3_10.toInt ∧ v3_10.toInt ≤ 1) → (Inv8 g ad pe ct72) → zP g (zw 126 ad ct72) H → va_D A (zw 126 ad ct72) → va_S A s.heap H locs → lv_has ls 6 [(4, .int v4_10), (3, .int v3_10), (0, .ref (ad kg)), (1, .int 0), (2, .int ask)] → W p l e (headSpec (zW yX4_anyOf cX4_anyOf 6 (some .boolean)) ({ frames := 25, cells := 0, slots := 0, locals := 625 })).room s m ([.ref (ad kg), .int 0, .int ask] : List Value).toArray below meth c H locs 0 0 (MQ below (va_Qi (fun (r : Int32) (_ : Unit) => (r = 1) ∨ (r = 0)) (fun _ t => ∃ ct2 : Nat → va_E, zP g (zw 126 ad ct2) t.heap ∧ va_D A (zw 126 ad ct2) ∧ Inv8 g ad pe ct2) A) ([.ref (ad kg), .int 0, .int ask] : List Value).toArray s 0 0 A) (F0 m 10 ls []) := by
      intro n10
      induction n10 with
      | zero =>
        intro v4_10 v3_10 ct72 H locs ls hn10 b4_10 b3_10 hI hP hD hS hl
        exact absurd hn10 (Nat.not_lt_zero _)
      | succ n10 ih10 =>
        intro v4_10 v3_10 ct72 H locs ls hn10 b4_10 b3_10 hI hP hD hS hl
        refine lv_iload hx hb dX4_anyOf_10 (lv_at hl 0 rfl) ?_
        refine lv_bipush (v := 100) hx hb dX4_anyOf_12 (by decide) ?_
        refine lv_icmp_ge (tgt := 77) hx hb dX4_anyOf_14 (by decide) (fun c73 => ?_) (fun c73 => ?_)
        · skip
          have c73 : 100 ≤ v4_10.toInt := (z_le (by decide : (100 : Int32).toInt = 100) rfl).mp c73
          refine lv_iload_n hx hb dX4_anyOf_77 rfl (lv_at hl 1 rfl) ?_
          exact W.zret (v := v3_10) hx hb hr (by rcases (z_01 (x := v3_10) (by omega) (by omega)) with q | q <;> rw [q] <;> rfl) (fun t ht hW => ⟨⟨v3_10, (), rfl, by first | exact Or.inl ⟨rfl, by omega⟩ | exact Or.inr ⟨rfl, by omega⟩ | exact Or.inl rfl | exact Or.inr rfl | exact Or.inl ⟨rfl, by omega, by omega⟩ | exact (z_01 (by omega) (by omega)).symm, ct72, by rw [ht]; exact hP, hD, hI⟩, hS.F ht⟩) hS.2.2 dX4_anyOf_78
        · skip
          have c73 : ¬ (100 ≤ v4_10.toInt) := fun q => c73 ((z_le (by decide : (100 : Int32).toInt = 100) rfl).mpr q)
          refine lv_aload_n hx hb dX4_anyOf_17 rfl (lv_at hl 2 rfl) ?_
          obtain ⟨tld75, ofb76, hol77, flt78, fla79, ofl80, len81, atx82, ref83, hz84, h85, h86, h87, h88, hz89, hs74⟩ := a8_44 (kc := kg) (by omega) hI
          have bhz84 := z_b01 hz84
          have bhz89 := z_b01 hz89
          refine zc_i (va_runV (As := []) (rest := []) ⟨hx, hb, hml, hown, hg⟩ (k_X4_nextp l g ad pe ct72 kg tld75 ofb76 hol77 flt78 fla79 ofl80 len81 atx82 ref83 (by omega) hI hs74) (cwV 0 hg (z_gV mm_475 mm_477 mm_8 mm_114 mm_478) rfl rfl rfl (by decide +kernel) ⟨Nat.le_of_ble_eq_true rfl, Nat.le_of_ble_eq_true rfl⟩) ⟨(zR.pre [.ref (ad kg)] hP hK hN).1, va_recv hK hP (ci := 4) (q0 := kg) rfl (zw_at (by omega) hs74), (zR.pre [.ref (ad kg)] hP hK hN).2⟩ rfl rfl hl.1 rfl (lv_room (Nat.le_of_ble_eq_true rfl)) dX4_anyOf_18 ⟨Nat.le_of_ble_eq_true rfl, Nat.le_of_ble_eq_true rfl⟩) (fun r90 hr90 => ?_)
          have h91 := hr90
          have h91 : nxp r90 atx82 := h91
          refine lv_bipush (v := 124) hx hb dX4_anyOf_21 (by decide) ?_
          refine lv_icmp_ne (tgt := 77) hx hb dX4_anyOf_23 (by decide) (fun c92 => ?_) (fun c92 => ?_)
          · skip
            have c92 : ¬ (r90.toInt = 124) := fun q => c92 ((z_eq rfl (by decide : (124 : Int32).toInt = 124)).mpr q)
            refine lv_iload_n hx hb dX4_anyOf_77 rfl (lv_at hl 1 rfl) ?_
            exact W.zret (v := v3_10) hx hb hr (by rcases (z_01 (x := v3_10) (by omega) (by omega)) with q | q <;> rw [q] <;> rfl) (fun t ht hW => ⟨⟨v3_10, (), rfl, by first | exact Or.inl ⟨rfl, by omega⟩ | exact Or.inr ⟨rfl, by omega⟩ | exact Or.inl rfl | exact Or.inr rfl | exact Or.inl ⟨rfl, by omega, by omega⟩ | exact (z_01 (by omega) (by omega)).symm, ct72, by rw [ht]; exact hP, hD, hI⟩, hS.F ht⟩) hS.2.2 dX4_anyOf_78
          · skip
            have c92 : r90.toInt = 124 := (z_eq rfl (by decide : (124 : Int32).toInt = 124)).mp c92
            refine lv_aload_n hx hb dX4_anyOf_26 rfl (lv_at hl 2 rfl) ?_
            refine lv_dup hx hb dX4_anyOf_27 rfl ?_
            refine va_get (D := g.1) (ci := 4) (v := .int atx82) (C := RX4) (T := TX4) (N := 11) hx hb hg inG4 hown hK hP kg (zw_at (by omega) hs74) rfl 9 (by decide) (hg _ mm_285) (fun _ h9 => h9) rfl dX4_anyOf_28 ?_
            refine lv_iconst (v := 1) hx hb dX4_anyOf_31 (by decide) ?_
            refine lv_iadd hx hb dX4_anyOf_32 ?_
            refine lv_topi (fun x93 ex93 => ?_)
            have tx93 : x93.toInt = atx82.toInt + 1 := by rw [ex93]; exact z_add rfl (by decide : (1 : Int32).toInt = 1) (by omega) (by omega)
            have hat93 : atx82.toInt ≤ 99 := by first | exact nxp_use h91 (by omega)
            refine va_put (D := g.1) (ci := 4) (v := .int x93) (ty := .int) (C := RX4) (T := TX4) (N := 11) hx hb hg inG4 tyX4 tyX4_ok nmX4 hown hK hP hD hS kg (zw_at (by omega) hs74) rfl 9 (by decide) (hg _ mm_285) (fun _ h9 => h9) rfl (by decide +kernel) rfl rfl (Nat.le_of_ble_eq_true rfl) dX4_anyOf_33 (fun H locs hP hD hS => ?_)
            have hP : zP g ((zw 126 ad ct72).set kg (ad kg, .inr (4, [.int tld75, .int ofb76, .int hol77, .int flt78, .int fla79, .int ofl80, .ref (ad (kg + 1)), .ref (ad (kg + 2)), .int len81, .int x93, .int ref83]))) H := hP
            have hD : va_D A ((zw 126 ad ct72).set kg (ad kg, .inr (4, [.int tld75, .int ofb76, .int hol77, .int flt78, .int fla79, .int ofl80, .ref (ad (kg + 1)), .ref (ad (kg + 2)), .int len81, .int x93, .int ref83]))) := hD
            rw [zw_set (by omega)] at hP hD
            obtain ⟨ct94, ec95⟩ : ∃ z : Nat → va_E, z = va_up ct72 kg (.inr (4, [.int tld75, .int ofb76, .int hol77, .int flt78, .int fla79, .int ofl80, .ref (ad (kg + 1)), .ref (ad (kg + 2)), .int len81, .int x93, .int ref83])) := ⟨_, rfl⟩
            rw [← ec95] at hP hD
            have hI : Inv8 g ad pe ct94 := by rw [ec95]; exact up8 hI (i8_44 (kc := kg) (by omega) ⟨(tld75 : Int32), (ofb76 : Int32), (hol77 : Int32), (flt78 : Int32), (fla79 : Int32), (ofl80 : Int32), (len81 : Int32), (x93 : Int32), (ref83 : Int32), hz84, (by first | omega | decide), (by first | omega | decide), (by first | omega | decide), (by first | omega | decide), hz89, rfl⟩)
            have hs96 : ct94 kg = .inr (4, [.int tld75, .int ofb76, .int hol77, .int flt78, .int fla79, .int ofl80, .ref (ad (kg + 1)), .ref (ad (kg + 2)), .int len81, .int x93, .int ref83]) := by rw [ec95]; exact va_up_self _ _ _
            refine lv_aload_n hx hb dX4_anyOf_36 rfl (lv_at hl 2 rfl) ?_
            refine lv_iload_n hx hb dX4_anyOf_37 rfl (lv_at hl 3 rfl) ?_
            refine lv_iload_n hx hb dX4_anyOf_38 rfl (lv_at hl 4 rfl) ?_
            refine lv_if_eq (tgt := 50) hx hb dX4_anyOf_39 (by decide) (fun c97 => ?_) (fun c97 => ?_)
            · skip
              have c97 : ask.toInt = 0 := (z_eq rfl (by decide : (0 : Int32).toInt = 0)).mp c97
              refine lv_iconst (v := 0) hx hb dX4_anyOf_50 (by decide) ?_
              have hFc := zw_free hD hS hA
              refine va_calli (va_runV (As := [.int 0, .int 0]) (rest := []) ⟨hx, hb, hml, hown, hg⟩ (k_X4_allOf_0 l g _ ad pe ct94 kg (0 : Int32) (by omega) hI) (cwV 2 hg (z_gV mm_467 mm_469 mm_6 mm_114 mm_470) rfl rfl rfl (by decide +kernel) ⟨Nat.le_of_ble_eq_true rfl, Nat.le_of_ble_eq_true rfl⟩) ⟨(zA.pre [.ref (ad kg), .int 0, .int 0] hP hK hD hN).1, va_recv hK hP (ci := 4) (q0 := kg) rfl (zw_at (by omega) hs96), (zA.pre [.ref (ad kg), .int 0, .int 0] hP hK hD hN).2⟩ rfl rfl hl.1 rfl (lv_room (Nat.le_of_ble_eq_true rfl)) dX4_anyOf_51 ⟨Nat.le_of_ble_eq_true rfl, Nat.le_of_ble_eq_true rfl⟩) hS (fun q _ h => hFc q h) hFc (fun r98 _ t H1 locs ht hvm hr98 hB hz1 hk1 hS => ?_)
              obtain ⟨ct99, hP1, hD1, hI⟩ := hB
              rw [ht] at hP1
              have hD := hD1.weaken (fun _ _ _ h => hFc _ h)
              generalize H1 = H at hP1 hS ⊢
              have hP := hP1
              refine W.widen (k := 0) (n := 0) (Nat.le_refl _) (Nat.le_refl _) ?_
              rcases hr98 with hr98 | hr98
              · skip
                obtain rfl := hr98
                refine lv_istore (lv' := [(5, .int 1), (4, .int v4_10), (3, .int v3_10), (0, .ref (ad kg)), (1, .int 0), (2, .int ask)]) hx hb dX4_anyOf_54 hl (by decide) rfl (fun ls hl => ?_)
                refine lv_iload_n hx hb dX4_anyOf_56 rfl (lv_at hl 2 rfl) ?_
                refine lv_if_ne (tgt := 65) hx hb dX4_anyOf_57 (by decide) (fun c100 => ?_) (fun c100 => ?_)
                · skip
                  have c100 : ¬ (v3_10.toInt = 0) := fun q => c100 ((z_eq rfl (by decide : (0 : Int32).toInt = 0)).mpr q)
                  refine lv_iconst (v := 1) hx hb dX4_anyOf_65 (by decide) ?_
                  refine lv_goto (tgt := 70) hx hb dX4_anyOf_66 (by decide) ?_
                  refine lv_istore_n (lv' := [(3, .int 1), (5, .int 1), (4, .int v4_10), (0, .ref (ad kg)), (1, .int 0), (2, .int ask)]) hx hb dX4_anyOf_70 rfl hl (by decide) rfl (fun ls hl => ?_)
                  obtain ⟨x101, ex101⟩ : ∃ y : Int32, y = v4_10 + 1 := ⟨_, rfl⟩
                  have tx101 : x101.toInt = v4_10.toInt + 1 := by rw [ex101]; exact z_add rfl (by decide : (1 : Int32).toInt = 1) (by omega) (by omega)
                  refine lv_iinc (v := x101) (lv' := [(4, .int x101), (3, .int 1), (5, .int 1), (0, .ref (ad kg)), (1, .int 0), (2, .int ask)]) hx hb dX4_anyOf_71 hl (k := 2) rfl (by rw [ex101]; rfl) (by decide) rfl (fun ls hl => ?_)
                  refine lv_goto (tgt := 10) hx hb dX4_anyOf_74 (by decide) ?_
                  exact ih10 x101 (1 : Int32) ct99 _ _ ls (by omega) (by first | omega | decide) (by first | omega | decide) hI hP hD hS (lv_sub hl [0, 1, 3, 4, 5] rfl)
                · skip
                  have c100 : v3_10.toInt = 0 := (z_eq rfl (by decide : (0 : Int32).toInt = 0)).mp c100
                  refine lv_iload hx hb dX4_anyOf_60 (lv_at hl 0 rfl) ?_
                  refine lv_if_eq (tgt := 69) hx hb dX4_anyOf_62 (by decide) (fun c102 => ?_) (fun c102 => ?_)
                  · skip
                    exact absurd c102 (by decide)
                  · skip
                    refine lv_iconst (v := 1) hx hb dX4_anyOf_65 (by decide) ?_
                    refine lv_goto (tgt := 70) hx hb dX4_anyOf_66 (by decide) ?_
                    refine lv_istore_n (lv' := [(3, .int 1), (5, .int 1), (4, .int v4_10), (0, .ref (ad kg)), (1, .int 0), (2, .int ask)]) hx hb dX4_anyOf_70 rfl hl (by decide) rfl (fun ls hl => ?_)
                    obtain ⟨x103, ex103⟩ : ∃ y : Int32, y = v4_10 + 1 := ⟨_, rfl⟩
                    have tx103 : x103.toInt = v4_10.toInt + 1 := by rw [ex103]; exact z_add rfl (by decide : (1 : Int32).toInt = 1) (by omega) (by omega)
                    refine lv_iinc (v := x103) (lv' := [(4, .int x103), (3, .int 1), (5, .int 1), (0, .ref (ad kg)), (1, .int 0), (2, .int ask)]) hx hb dX4_anyOf_71 hl (k := 2) rfl (by rw [ex103]; rfl) (by decide) rfl (fun ls hl => ?_)
                    refine lv_goto (tgt := 10) hx hb dX4_anyOf_74 (by decide) ?_
                    exact ih10 x103 (1 : Int32) ct99 _ _ ls (by omega) (by first | omega | decide) (by first | omega | decide) hI hP hD hS (lv_sub hl [0, 1, 3, 4, 5] rfl)
              · skip
                obtain rfl := hr98
                refine lv_istore (lv' := [(5, .int 0), (4, .int v4_10), (3, .int v3_10), (0, .ref (ad kg)), (1, .int 0), (2, .int ask)]) hx hb dX4_anyOf_54 hl (by decide) rfl (fun ls hl => ?_)
                refine lv_iload_n hx hb dX4_anyOf_56 rfl (lv_at hl 2 rfl) ?_
                refine lv_if_ne (tgt := 65) hx hb dX4_anyOf_57 (by decide) (fun c104 => ?_) (fun c104 => ?_)
                · skip
                  have c104 : ¬ (v3_10.toInt = 0) := fun q => c104 ((z_eq rfl (by decide : (0 : Int32).toInt = 0)).mpr q)
                  refine lv_iconst (v := 1) hx hb dX4_anyOf_65 (by decide) ?_
                  refine lv_goto (tgt := 70) hx hb dX4_anyOf_66 (by decide) ?_
                  refine lv_istore_n (lv' := [(3, .int 1), (5, .int 0), (4, .int v4_10), (0, .ref (ad kg)), (1, .int 0), (2, .int ask)]) hx hb dX4_anyOf_70 rfl hl (by decide) rfl (fun ls hl => ?_)
                  obtain ⟨x105, ex105⟩ : ∃ y : Int32, y = v4_10 + 1 := ⟨_, rfl⟩
                  have tx105 : x105.toInt = v4_10.toInt + 1 := by rw [ex105]; exact z_add rfl (by decide : (1 : Int32).toInt = 1) (by omega) (by omega)
                  refine lv_iinc (v := x105) (lv' := [(4, .int x105), (3, .int 1), (5, .int 0), (0, .ref (ad kg)), (1, .int 0), (2, .int ask)]) hx hb dX4_anyOf_71 hl (k := 2) rfl (by rw [ex105]; rfl) (by decide) rfl (fun ls hl => ?_)
                  refine lv_goto (tgt := 10) hx hb dX4_anyOf_74 (by decide) ?_
                  exact ih10 x105 (1 : Int32) ct99 _ _ ls (by omega) (by first | omega | decide) (by first | omega | decide) hI hP hD hS (lv_sub hl [0, 1, 3, 4, 5] rfl)
                · skip
                  have c104 : v3_10.toInt = 0 := (z_eq rfl (by decide : (0 : Int32).toInt = 0)).mp c104
                  refine lv_iload hx hb dX4_anyOf_60 (lv_at hl 0 rfl) ?_
                  refine lv_if_eq (tgt := 69) hx hb dX4_anyOf_62 (by decide) (fun c106 => ?_) (fun c106 => ?_)
                  · skip
                    refine lv_iconst (v := 0) hx hb dX4_anyOf_69 (by decide) ?_
                    refine lv_istore_n (lv' := [(3, .int 0), (5, .int 0), (4, .int v4_10), (0, .ref (ad kg)), (1, .int 0), (2, .int ask)]) hx hb dX4_anyOf_70 rfl hl (by decide) rfl (fun ls hl => ?_)
                    obtain ⟨x107, ex107⟩ : ∃ y : Int32, y = v4_10 + 1 := ⟨_, rfl⟩
                    have tx107 : x107.toInt = v4_10.toInt + 1 := by rw [ex107]; exact z_add rfl (by decide : (1 : Int32).toInt = 1) (by omega) (by omega)
                    refine lv_iinc (v := x107) (lv' := [(4, .int x107), (3, .int 0), (5, .int 0), (0, .ref (ad kg)), (1, .int 0), (2, .int ask)]) hx hb dX4_anyOf_71 hl (k := 2) rfl (by rw [ex107]; rfl) (by decide) rfl (fun ls hl => ?_)
                    refine lv_goto (tgt := 10) hx hb dX4_anyOf_74 (by decide) ?_
                    exact ih10 x107 (0 : Int32) ct99 _ _ ls (by omega) (by first | omega | decide) (by first | omega | decide) hI hP hD hS (lv_sub hl [0, 1, 3, 4, 5] rfl)
                  · skip
                    exact absurd c106 (by decide)
            · skip
              have c97 : ¬ (ask.toInt = 0) := fun q => c97 ((z_eq rfl (by decide : (0 : Int32).toInt = 0)).mpr q)
              refine lv_iload_n hx hb dX4_anyOf_42 rfl (lv_at hl 1 rfl) ?_
              refine lv_if_ne (tgt := 50) hx hb dX4_anyOf_43 (by decide) (fun c108 => ?_) (fun c108 => ?_)
              · skip
                have c108 : ¬ (v3_10.toInt = 0) := fun q => c108 ((z_eq rfl (by decide : (0 : Int32).toInt = 0)).mpr q)
                refine lv_iconst (v := 0) hx hb dX4_anyOf_50 (by decide) ?_
                have hFc := zw_free hD hS hA
                refine va_calli (va_runV (As := [.int 0, .int 0]) (rest := []) ⟨hx, hb, hml, hown, hg⟩ (k_X4_allOf_0 l g _ ad pe ct94 kg (0 : Int32) (by omega) hI) (cwV 2 hg (z_gV mm_467 mm_469 mm_6 mm_114 mm_470) rfl rfl rfl (by decide +kernel) ⟨Nat.le_of_ble_eq_true rfl, Nat.le_of_ble_eq_true rfl⟩) ⟨(zA.pre [.ref (ad kg), .int 0, .int 0] hP hK hD hN).1, va_recv hK hP (ci := 4) (q0 := kg) rfl (zw_at (by omega) hs96), (zA.pre [.ref (ad kg), .int 0, .int 0] hP hK hD hN).2⟩ rfl rfl hl.1 rfl (lv_room (Nat.le_of_ble_eq_true rfl)) dX4_anyOf_51 ⟨Nat.le_of_ble_eq_true rfl, Nat.le_of_ble_eq_true rfl⟩) hS (fun q _ h => hFc q h) hFc (fun r109 _ t H1 locs ht hvm hr109 hB hz1 hk1 hS => ?_)
                obtain ⟨ct110, hP1, hD1, hI⟩ := hB
                rw [ht] at hP1
                have hD := hD1.weaken (fun _ _ _ h => hFc _ h)
                generalize H1 = H at hP1 hS ⊢
                have hP := hP1
                refine W.widen (k := 0) (n := 0) (Nat.le_refl _) (Nat.le_refl _) ?_
                rcases hr109 with hr109 | hr109
                · skip
                  obtain rfl := hr109
                  refine lv_istore (lv' := [(5, .int 1), (4, .int v4_10), (3, .int v3_10), (0, .ref (ad kg)), (1, .int 0), (2, .int ask)]) hx hb dX4_anyOf_54 hl (by decide) rfl (fun ls hl => ?_)
                  refine lv_iload_n hx hb dX4_anyOf_56 rfl (lv_at hl 2 rfl) ?_
                  refine lv_if_ne (tgt := 65) hx hb dX4_anyOf_57 (by decide) (fun c111 => ?_) (fun c111 => ?_)
                  · skip
                    have c111 : ¬ (v3_10.toInt = 0) := fun q => c111 ((z_eq rfl (by decide : (0 : Int32).toInt = 0)).mpr q)
                    refine lv_iconst (v := 1) hx hb dX4_anyOf_65 (by decide) ?_
                    refine lv_goto (tgt := 70) hx hb dX4_anyOf_66 (by decide) ?_
                    refine lv_istore_n (lv' := [(3, .int 1), (5, .int 1), (4, .int v4_10), (0, .ref (ad kg)), (1, .int 0), (2, .int ask)]) hx hb dX4_anyOf_70 rfl hl (by decide) rfl (fun ls hl => ?_)
                    obtain ⟨x112, ex112⟩ : ∃ y : Int32, y = v4_10 + 1 := ⟨_, rfl⟩
                    have tx112 : x112.toInt = v4_10.toInt + 1 := by rw [ex112]; exact z_add rfl (by decide : (1 : Int32).toInt = 1) (by omega) (by omega)
                    refine lv_iinc (v := x112) (lv' := [(4, .int x112), (3, .int 1), (5, .int 1), (0, .ref (ad kg)), (1, .int 0), (2, .int ask)]) hx hb dX4_anyOf_71 hl (k := 2) rfl (by rw [ex112]; rfl) (by decide) rfl (fun ls hl => ?_)
                    refine lv_goto (tgt := 10) hx hb dX4_anyOf_74 (by decide) ?_
                    exact ih10 x112 (1 : Int32) ct110 _ _ ls (by omega) (by first | omega | decide) (by first | omega | decide) hI hP hD hS (lv_sub hl [0, 1, 3, 4, 5] rfl)
                  · skip
                    have c111 : v3_10.toInt = 0 := (z_eq rfl (by decide : (0 : Int32).toInt = 0)).mp c111
                    exfalso
                    omega
                · skip
                  obtain rfl := hr109
                  refine lv_istore (lv' := [(5, .int 0), (4, .int v4_10), (3, .int v3_10), (0, .ref (ad kg)), (1, .int 0), (2, .int ask)]) hx hb dX4_anyOf_54 hl (by decide) rfl (fun ls hl => ?_)
                  refine lv_iload_n hx hb dX4_anyOf_56 rfl (lv_at hl 2 rfl) ?_
                  refine lv_if_ne (tgt := 65) hx hb dX4_anyOf_57 (by decide) (fun c113 => ?_) (fun c113 => ?_)
                  · skip
                    have c113 : ¬ (v3_10.toInt = 0) := fun q => c113 ((z_eq rfl (by decide : (0 : Int32).toInt = 0)).mpr q)
                    refine lv_iconst (v := 1) hx hb dX4_anyOf_65 (by decide) ?_
                    refine lv_goto (tgt := 70) hx hb dX4_anyOf_66 (by decide) ?_
                    refine lv_istore_n (lv' := [(3, .int 1), (5, .int 0), (4, .int v4_10), (0, .ref (ad kg)), (1, .int 0), (2, .int ask)]) hx hb dX4_anyOf_70 rfl hl (by decide) rfl (fun ls hl => ?_)
                    obtain ⟨x114, ex114⟩ : ∃ y : Int32, y = v4_10 + 1 := ⟨_, rfl⟩
                    have tx114 : x114.toInt = v4_10.toInt + 1 := by rw [ex114]; exact z_add rfl (by decide : (1 : Int32).toInt = 1) (by omega) (by omega)
                    refine lv_iinc (v := x114) (lv' := [(4, .int x114), (3, .int 1), (5, .int 0), (0, .ref (ad kg)), (1, .int 0), (2, .int ask)]) hx hb dX4_anyOf_71 hl (k := 2) rfl (by rw [ex114]; rfl) (by decide) rfl (fun ls hl => ?_)
                    refine lv_goto (tgt := 10) hx hb dX4_anyOf_74 (by decide) ?_
                    exact ih10 x114 (1 : Int32) ct110 _ _ ls (by omega) (by first | omega | decide) (by first | omega | decide) hI hP hD hS (lv_sub hl [0, 1, 3, 4, 5] rfl)
                  · skip
                    have c113 : v3_10.toInt = 0 := (z_eq rfl (by decide : (0 : Int32).toInt = 0)).mp c113
                    exfalso
                    omega
              · skip
                have c108 : v3_10.toInt = 0 := (z_eq rfl (by decide : (0 : Int32).toInt = 0)).mp c108
                refine lv_iconst (v := 1) hx hb dX4_anyOf_46 (by decide) ?_
                refine lv_goto (tgt := 51) hx hb dX4_anyOf_47 (by decide) ?_
                have hFc := zw_free hD hS hA
                refine va_calli (va_runV (As := [.int 0, .int 1]) (rest := []) ⟨hx, hb, hml, hown, hg⟩ (k_X4_allOf_0 l g _ ad pe ct94 kg (1 : Int32) (by omega) hI) (cwV 2 hg (z_gV mm_467 mm_469 mm_6 mm_114 mm_470) rfl rfl rfl (by decide +kernel) ⟨Nat.le_of_ble_eq_true rfl, Nat.le_of_ble_eq_true rfl⟩) ⟨(zA.pre [.ref (ad kg), .int 0, .int 1] hP hK hD hN).1, va_recv hK hP (ci := 4) (q0 := kg) rfl (zw_at (by omega) hs96), (zA.pre [.ref (ad kg), .int 0, .int 1] hP hK hD hN).2⟩ rfl rfl hl.1 rfl (lv_room (Nat.le_of_ble_eq_true rfl)) dX4_anyOf_51 ⟨Nat.le_of_ble_eq_true rfl, Nat.le_of_ble_eq_true rfl⟩) hS (fun q _ h => hFc q h) hFc (fun r115 _ t H1 locs ht hvm hr115 hB hz1 hk1 hS => ?_)
                obtain ⟨ct116, hP1, hD1, hI⟩ := hB
                rw [ht] at hP1
                have hD := hD1.weaken (fun _ _ _ h => hFc _ h)
                generalize H1 = H at hP1 hS ⊢
                have hP := hP1
                refine W.widen (k := 0) (n := 0) (Nat.le_refl _) (Nat.le_refl _) ?_
                rcases hr115 with hr115 | hr115
                · skip
                  obtain rfl := hr115
                  refine lv_istore (lv' := [(5, .int 1), (4, .int v4_10), (3, .int v3_10), (0, .ref (ad kg)), (1, .int 0), (2, .int ask)]) hx hb dX4_anyOf_54 hl (by decide) rfl (fun ls hl => ?_)
                  refine lv_iload_n hx hb dX4_anyOf_56 rfl (lv_at hl 2 rfl) ?_
                  refine lv_if_ne (tgt := 65) hx hb dX4_anyOf_57 (by decide) (fun c117 => ?_) (fun c117 => ?_)
                  · skip
                    have c117 : ¬ (v3_10.toInt = 0) := fun q => c117 ((z_eq rfl (by decide : (0 : Int32).toInt = 0)).mpr q)
                    refine lv_iconst (v := 1) hx hb dX4_anyOf_65 (by decide) ?_
                    refine lv_goto (tgt := 70) hx hb dX4_anyOf_66 (by decide) ?_
                    refine lv_istore_n (lv' := [(3, .int 1), (5, .int 1), (4, .int v4_10), (0, .ref (ad kg)), (1, .int 0), (2, .int ask)]) hx hb dX4_anyOf_70 rfl hl (by decide) rfl (fun ls hl => ?_)
                    obtain ⟨x118, ex118⟩ : ∃ y : Int32, y = v4_10 + 1 := ⟨_, rfl⟩
                    have tx118 : x118.toInt = v4_10.toInt + 1 := by rw [ex118]; exact z_add rfl (by decide : (1 : Int32).toInt = 1) (by omega) (by omega)
                    refine lv_iinc (v := x118) (lv' := [(4, .int x118), (3, .int 1), (5, .int 1), (0, .ref (ad kg)), (1, .int 0), (2, .int ask)]) hx hb dX4_anyOf_71 hl (k := 2) rfl (by rw [ex118]; rfl) (by decide) rfl (fun ls hl => ?_)
                    refine lv_goto (tgt := 10) hx hb dX4_anyOf_74 (by decide) ?_
                    exact ih10 x118 (1 : Int32) ct116 _ _ ls (by omega) (by first | omega | decide) (by first | omega | decide) hI hP hD hS (lv_sub hl [0, 1, 3, 4, 5] rfl)
                  · skip
                    have c117 : v3_10.toInt = 0 := (z_eq rfl (by decide : (0 : Int32).toInt = 0)).mp c117
                    refine lv_iload hx hb dX4_anyOf_60 (lv_at hl 0 rfl) ?_
                    refine lv_if_eq (tgt := 69) hx hb dX4_anyOf_62 (by decide) (fun c119 => ?_) (fun c119 => ?_)
                    · skip
                      exact absurd c119 (by decide)
                    · skip
                      refine lv_iconst (v := 1) hx hb dX4_anyOf_65 (by decide) ?_
                      refine lv_goto (tgt := 70) hx hb dX4_anyOf_66 (by decide) ?_
                      refine lv_istore_n (lv' := [(3, .int 1), (5, .int 1), (4, .int v4_10), (0, .ref (ad kg)), (1, .int 0), (2, .int ask)]) hx hb dX4_anyOf_70 rfl hl (by decide) rfl (fun ls hl => ?_)
                      obtain ⟨x120, ex120⟩ : ∃ y : Int32, y = v4_10 + 1 := ⟨_, rfl⟩
                      have tx120 : x120.toInt = v4_10.toInt + 1 := by rw [ex120]; exact z_add rfl (by decide : (1 : Int32).toInt = 1) (by omega) (by omega)
                      refine lv_iinc (v := x120) (lv' := [(4, .int x120), (3, .int 1), (5, .int 1), (0, .ref (ad kg)), (1, .int 0), (2, .int ask)]) hx hb dX4_anyOf_71 hl (k := 2) rfl (by rw [ex120]; rfl) (by decide) rfl (fun ls hl => ?_)
                      refine lv_goto (tgt := 10) hx hb dX4_anyOf_74 (by decide) ?_
                      exact ih10 x120 (1 : Int32) ct116 _ _ ls (by omega) (by first | omega | decide) (by first | omega | decide) hI hP hD hS (lv_sub hl [0, 1, 3, 4, 5] rfl)
                · skip
                  obtain rfl := hr115
                  refine lv_istore (lv' := [(5, .int 0), (4, .int v4_10), (3, .int v3_10), (0, .ref (ad kg)), (1, .int 0), (2, .int ask)]) hx hb dX4_anyOf_54 hl (by decide) rfl (fun ls hl => ?_)
                  refine lv_iload_n hx hb dX4_anyOf_56 rfl (lv_at hl 2 rfl) ?_
                  refine lv_if_ne (tgt := 65) hx hb dX4_anyOf_57 (by decide) (fun c121 => ?_) (fun c121 => ?_)
                  · skip
                    have c121 : ¬ (v3_10.toInt = 0) := fun q => c121 ((z_eq rfl (by decide : (0 : Int32).toInt = 0)).mpr q)
                    refine lv_iconst (v := 1) hx hb dX4_anyOf_65 (by decide) ?_
                    refine lv_goto (tgt := 70) hx hb dX4_anyOf_66 (by decide) ?_
                    refine lv_istore_n (lv' := [(3, .int 1), (5, .int 0), (4, .int v4_10), (0, .ref (ad kg)), (1, .int 0), (2, .int ask)]) hx hb dX4_anyOf_70 rfl hl (by decide) rfl (fun ls hl => ?_)
                    obtain ⟨x122, ex122⟩ : ∃ y : Int32, y = v4_10 + 1 := ⟨_, rfl⟩
                    have tx122 : x122.toInt = v4_10.toInt + 1 := by rw [ex122]; exact z_add rfl (by decide : (1 : Int32).toInt = 1) (by omega) (by omega)
                    refine lv_iinc (v := x122) (lv' := [(4, .int x122), (3, .int 1), (5, .int 0), (0, .ref (ad kg)), (1, .int 0), (2, .int ask)]) hx hb dX4_anyOf_71 hl (k := 2) rfl (by rw [ex122]; rfl) (by decide) rfl (fun ls hl => ?_)
                    refine lv_goto (tgt := 10) hx hb dX4_anyOf_74 (by decide) ?_
                    exact ih10 x122 (1 : Int32) ct116 _ _ ls (by omega) (by first | omega | decide) (by first | omega | decide) hI hP hD hS (lv_sub hl [0, 1, 3, 4, 5] rfl)
                  · skip
                    have c121 : v3_10.toInt = 0 := (z_eq rfl (by decide : (0 : Int32).toInt = 0)).mp c121
                    refine lv_iload hx hb dX4_anyOf_60 (lv_at hl 0 rfl) ?_
                    refine lv_if_eq (tgt := 69) hx hb dX4_anyOf_62 (by decide) (fun c123 => ?_) (fun c123 => ?_)
                    · skip
                      refine lv_iconst (v := 0) hx hb dX4_anyOf_69 (by decide) ?_
                      refine lv_istore_n (lv' := [(3, .int 0), (5, .int 0), (4, .int v4_10), (0, .ref (ad kg)), (1, .int 0), (2, .int ask)]) hx hb dX4_anyOf_70 rfl hl (by decide) rfl (fun ls hl => ?_)
                      obtain ⟨x124, ex124⟩ : ∃ y : Int32, y = v4_10 + 1 := ⟨_, rfl⟩
                      have tx124 : x124.toInt = v4_10.toInt + 1 := by rw [ex124]; exact z_add rfl (by decide : (1 : Int32).toInt = 1) (by omega) (by omega)
                      refine lv_iinc (v := x124) (lv' := [(4, .int x124), (3, .int 0), (5, .int 0), (0, .ref (ad kg)), (1, .int 0), (2, .int ask)]) hx hb dX4_anyOf_71 hl (k := 2) rfl (by rw [ex124]; rfl) (by decide) rfl (fun ls hl => ?_)
                      refine lv_goto (tgt := 10) hx hb dX4_anyOf_74 (by decide) ?_
                      exact ih10 x124 (0 : Int32) ct116 _ _ ls (by omega) (by first | omega | decide) (by first | omega | decide) hI hP hD hS (lv_sub hl [0, 1, 3, 4, 5] rfl)
                    · skip
                      exact absurd c123 (by decide)
    exact loop10 ((100 - (0 : Int32).toInt : Int).toNat + 1) (0 : Int32) (0 : Int32) ct18 _ _ ls (by omega) (by first | omega | decide) (by first | omega | decide) hI hP hD hS (lv_sub hl [0, 1, 2, 3, 4] rfl)
