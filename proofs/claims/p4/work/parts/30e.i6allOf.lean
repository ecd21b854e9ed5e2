set_option maxHeartbeats 4000000 in
set_option maxRecDepth 100000 in
theorem k_X4_allOf_6 (l : Launch) (g : zG) (sz : Nat) (ad : Nat → Nat) (pe : Int32) (ct : Nat → va_E) (kg : Nat) (ask : Int32) (hf_kg : 99 ≤ kg ∧ kg < 126 ∧ (kg - 99) % 3 = 0) (hI : Inv8 g ad pe ct) : Met l yX4_allOf (zW yX4_allOf cX4_allOf 6 (some .boolean)) ({ frames := 6, cells := 0, slots := 0, locals := 144 }) (va_Pc [.ref (ad kg), .int 6, .int ask] (zA g (zw 126 ad ct) sz)) (va_Qi (fun (r : Int32) (_ : Unit) => (r = 1) ∨ (r = 0)) (fun _ t => ∃ ct2 : Nat → va_E, zP g (zw 126 ad ct2) t.heap ∧ va_D (va_A (zw 126 ad ct) sz) (zw 126 ad ct2) ∧ Inv8 g ad pe ct2) (va_A (zw 126 ad ct) sz)) 0 0 (va_A (zw 126 ad ct) sz) := by
  refine Met.ofW (cc := cX4_allOf) (maxL := 6) (ret := (some .boolean)) (by decide) rfl ?_
  intro p e s m args below meth c s₁ B hml hv
  obtain ⟨rfl, hsz, hP, hK, hD0, hN⟩ := hv
  have hx := B.exec
  have hb := B.bytes
  have hr := B.returns
  have hg := zW.law (atoms_spec (ws := (zW yX4_allOf cX4_allOf 6 (some .boolean))) B.pre)
  have hown : s.vm.findClass RX4 = some m.cls := findClass_of_methodNamed B.named
  have hlocks := B.notSynchronized
  have hpe0 := hI.1
  subst hsz
  have hD := hD0.self (sz := s.heap.size)
  generalize hAe : va_A (zw 126 ad ct) s.heap.size = A at hD ⊢
  have hA : ∀ q : Nat, s.heap.size ≤ q → A q := fun q h => by rw [← hAe]; exact Or.inr h
  have hS : va_S A s.heap s.heap [] := va_S.rf
  have hl := lv_entry ([.ref (ad kg), .int 6, .int ask]) (n := 6) (Nat.le_of_ble_eq_true rfl)
  rw [lg_entry_eq]
  generalize (lg_sl ([.ref (ad kg), .int 6, .int ask]) ++ List.replicate (6 - (lg_sl ([.ref (ad kg), .int 6, .int ask])).length) Slot.unset).toArray = ls at hl ⊢
  have hl : lv_has ls 6 [(0, .ref (ad kg)), (1, .int 6), (2, .int ask)] := hl
  have rg_ask := z_rng ask
  refine lv_aload_n hx hb dX4_allOf_0 rfl (lv_at hl 0 rfl) ?_
  refine lv_iload_n hx hb dX4_allOf_1 rfl (lv_at hl 1 rfl) ?_
  refine lv_iload_n hx hb dX4_allOf_2 rfl (lv_at hl 2 rfl) ?_
  obtain ⟨tld2, ofb3, hol4, flt5, fla6, ofl7, len8, atx9, ref10, hz11, h12, h13, h14, h15, hz16, hs1⟩ := a8_44 (kc := kg) (by omega) hI
  have bhz11 := z_b01 hz11
  have bhz16 := z_b01 hz16
  have hFc := zw_free hD hS hA
  refine va_calli (va_runV (As := [.int 6, .int ask]) (rest := []) ⟨hx, hb, hml, hown, hg⟩ (k_X4_piece_6 l g _ ad pe ct kg ask (by omega) hI) (cwV 2 hg (z_gV mm_471 mm_473 mm_7 mm_114 mm_474) rfl rfl rfl (by decide +kernel) ⟨Nat.le_of_ble_eq_true rfl, Nat.le_of_ble_eq_true rfl⟩) ⟨(zA.pre [.ref (ad kg), .int 6, .int ask] hP hK hD hN).1, va_recv hK hP (ci := 4) (q0 := kg) rfl (zw_at (by omega) hs1), (zA.pre [.ref (ad kg), .int 6, .int ask] hP hK hD hN).2⟩ rfl rfl hl.1 rfl (lv_room (Nat.le_of_ble_eq_true rfl)) dX4_allOf_3 ⟨Nat.le_of_ble_eq_true rfl, Nat.le_of_ble_eq_true rfl⟩) hS (fun q _ h => hFc q h) hFc (fun r17 _ t H1 locs ht hvm hr17 hB hz1 hk1 hS => ?_)
  obtain ⟨ct18, hP1, hD1, hI⟩ := hB
  rw [ht] at hP1
  have hD := hD1.weaken (fun _ _ _ h => hFc _ h)
  generalize H1 = H at hP1 hS ⊢
  have hP := hP1
  refine W.widen (k := 0) (n := 0) (Nat.le_refl _) (Nat.le_refl _) ?_
  rcases hr17 with hr17 | hr17
  · skip
    obtain rfl := hr17
    refine lv_istore_n (lv' := [(3, .int 1), (0, .ref (ad kg)), (1, .int 6), (2, .int ask)]) hx hb dX4_allOf_6 rfl hl (by decide) rfl (fun ls hl => ?_)
    refine lv_iconst (v := 0) hx hb dX4_allOf_7 (by decide) ?_
    refine lv_istore (lv' := [(4, .int 0), (3, .int 1), (0, .ref (ad kg)), (1, .int 6), (2, .int ask)]) hx hb dX4_allOf_8 hl (by decide) rfl (fun ls hl => ?_)
    have loop10 : ∀ (n10 : Nat) (v4_10 : Int32) (v3_10 : Int32) (ct19 : Nat → va_E) (H : Heap) (locs : List Loc) (ls : Array Slot), ((100 - v4_10.toInt : Int).toNat < n10) → (0 ≤ v4_10.toInt ∧ v4_10.toInt ≤ 100) → (0 ≤ v3_10.toInt ∧ v3_10.toInt ≤ 1) → (Inv8 g ad pe ct19) → zP g (zw 126 ad ct19) H → va_D A (zw 126 ad ct19) → va_S A s.heap H locs → lv_has ls 6 [(4, .int v4_10), (3, .int v3_10), (0, .ref (ad kg)), (1, .int 6), (2, .int ask)] → W p l e (headSpec (zW yX4_allOf cX4_allOf 6 (some .boolean)) ({ frames := 6, cells := 0, slots := 0, locals := 144 })).room s m ([.ref (ad kg), .int 6, .int ask] : List Value).toArray below meth c H locs 0 0 (MQ below (va_Qi (fun (r : Int32) (_ : Unit) => (r = 1) ∨ (r = 0)) (fun _ t => ∃ ct2 : Nat → va_E, zP g (zw 126 ad ct2) t.heap ∧ va_D A (zw 126 ad ct2) ∧ Inv8 g ad pe ct2) A) ([.ref (ad kg), .int 6, .int ask] : List Value).toArray s 0 0 A) (F0 m 10 ls []) := by
      intro n10
      induction n10 with
      | zero =>
        intro v4_10 v3_10 ct19 H locs ls hn10 b4_10 b3_10 hI hP hD hS hl
        exact absurd hn10 (Nat.not_lt_zero _)
      | succ n10 ih10 =>
        intro v4_10 v3_10 ct19 H locs ls hn10 b4_10 b3_10 hI hP hD hS hl
        refine lv_iload hx hb dX4_allOf_10 (lv_at hl 0 rfl) ?_
        refine lv_bipush (v := 100) hx hb dX4_allOf_12 (by decide) ?_
        refine lv_icmp_ge (tgt := 77) hx hb dX4_allOf_14 (by decide) (fun c20 => ?_) (fun c20 => ?_)
        · skip
          have c20 : 100 ≤ v4_10.toInt := (z_le (by decide : (100 : Int32).toInt = 100) rfl).mp c20
          refine lv_iload_n hx hb dX4_allOf_77 rfl (lv_at hl 1 rfl) ?_
          exact W.zret (v := v3_10) hx hb hr (by rcases (z_01 (x := v3_10) (by omega) (by omega)) with q | q <;> rw [q] <;> rfl) (fun t ht hW => ⟨⟨v3_10, (), rfl, by first | exact Or.inl ⟨rfl, by omega⟩ | exact Or.inr ⟨rfl, by omega⟩ | exact Or.inl rfl | exact Or.inr rfl | exact Or.inl ⟨rfl, by omega, by omega⟩ | exact (z_01 (by omega) (by omega)).symm, ct19, by rw [ht]; exact hP, hD, hI⟩, hS.F ht⟩) hS.2.2 dX4_allOf_78
        · skip
          have c20 : ¬ (100 ≤ v4_10.toInt) := fun q => c20 ((z_le (by decide : (100 : Int32).toInt = 100) rfl).mpr q)
          refine lv_aload_n hx hb dX4_allOf_17 rfl (lv_at hl 2 rfl) ?_
          obtain ⟨tld22, ofb23, hol24, flt25, fla26, ofl27, len28, atx29, ref30, hz31, h32, h33, h34, h35, hz36, hs21⟩ := a8_44 (kc := kg) (by omega) hI
          have bhz31 := z_b01 hz31
          have bhz36 := z_b01 hz36
          refine zc_i (va_runV (As := []) (rest := []) ⟨hx, hb, hml, hown, hg⟩ (k_X4_nextp l g ad pe ct19 kg tld22 ofb23 hol24 flt25 fla26 ofl27 len28 atx29 ref30 (by omega) hI hs21) (cwV 0 hg (z_gV mm_475 mm_477 mm_8 mm_114 mm_478) rfl rfl rfl (by decide +kernel) ⟨Nat.le_of_ble_eq_true rfl, Nat.le_of_ble_eq_true rfl⟩) ⟨(zR.pre [.ref (ad kg)] hP hK hN).1, va_recv hK hP (ci := 4) (q0 := kg) rfl (zw_at (by omega) hs21), (zR.pre [.ref (ad kg)] hP hK hN).2⟩ rfl rfl hl.1 rfl (lv_room (Nat.le_of_ble_eq_true rfl)) dX4_allOf_18 ⟨Nat.le_of_ble_eq_true rfl, Nat.le_of_ble_eq_true rfl⟩) (fun r37 hr37 => ?_)
          have h38 := hr37
          have h38 : nxp r37 atx29 := h38
          refine lv_bipush (v := 38) hx hb dX4_allOf_21 (by decide) ?_
          refine lv_icmp_ne (tgt := 77) hx hb dX4_allOf_23 (by decide) (fun c39 => ?_) (fun c39 => ?_)
          · skip
            have c39 : ¬ (r37.toInt = 38) := fun q => c39 ((z_eq rfl (by decide : (38 : Int32).toInt = 38)).mpr q)
            refine lv_iload_n hx hb dX4_allOf_77 rfl (lv_at hl 1 rfl) ?_
            exact W.zret (v := v3_10) hx hb hr (by rcases (z_01 (x := v3_10) (by omega) (by omega)) with q | q <;> rw [q] <;> rfl) (fun t ht hW => ⟨⟨v3_10, (), rfl, by first | exact Or.inl ⟨rfl, by omega⟩ | exact Or.inr ⟨rfl, by omega⟩ | exact Or.inl rfl | exact Or.inr rfl | exact Or.inl ⟨rfl, by omega, by omega⟩ | exact (z_01 (by omega) (by omega)).symm, ct19, by rw [ht]; exact hP, hD, hI⟩, hS.F ht⟩) hS.2.2 dX4_allOf_78
          · skip
            have c39 : r37.toInt = 38 := (z_eq rfl (by decide : (38 : Int32).toInt = 38)).mp c39
            refine lv_aload_n hx hb dX4_allOf_26 rfl (lv_at hl 2 rfl) ?_
            refine lv_dup hx hb dX4_allOf_27 rfl ?_
            refine va_get (D := g.1) (ci := 4) (v := .int atx29) (C := RX4) (T := TX4) (N := 11) hx hb hg inG4 hown hK hP kg (zw_at (by omega) hs21) rfl 9 (by decide) (hg _ mm_285) (fun _ h9 => h9) rfl dX4_allOf_28 ?_
            refine lv_iconst (v := 1) hx hb dX4_allOf_31 (by decide) ?_
            refine lv_iadd hx hb dX4_allOf_32 ?_
            refine lv_topi (fun x40 ex40 => ?_)
            have tx40 : x40.toInt = atx29.toInt + 1 := by rw [ex40]; exact z_add rfl (by decide : (1 : Int32).toInt = 1) (by omega) (by omega)
            have hat40 : atx29.toInt ≤ 99 := by first | exact nxp_use h38 (by omega)
            refine va_put (D := g.1) (ci := 4) (v := .int x40) (ty := .int) (C := RX4) (T := TX4) (N := 11) hx hb hg inG4 tyX4 tyX4_ok nmX4 hown hK hP hD hS kg (zw_at (by omega) hs21) rfl 9 (by decide) (hg _ mm_285) (fun _ h9 => h9) rfl (by decide +kernel) rfl rfl (Nat.le_of_ble_eq_true rfl) dX4_allOf_33 (fun H locs hP hD hS => ?_)
            have hP : zP g ((zw 126 ad ct19).set kg (ad kg, .inr (4, [.int tld22, .int ofb23, .int hol24, .int flt25, .int fla26, .int ofl27, .ref (ad (kg + 1)), .ref (ad (kg + 2)), .int len28, .int x40, .int ref30]))) H := hP
            have hD : va_D A ((zw 126 ad ct19).set kg (ad kg, .inr (4, [.int tld22, .int ofb23, .int hol24, .int flt25, .int fla26, .int ofl27, .ref (ad (kg + 1)), .ref (ad (kg + 2)), .int len28, .int x40, .int ref30]))) := hD
            rw [zw_set (by omega)] at hP hD
            obtain ⟨ct41, ec42⟩ : ∃ z : Nat → va_E, z = va_up ct19 kg (.inr (4, [.int tld22, .int ofb23, .int hol24, .int flt25, .int fla26, .int ofl27, .ref (ad (kg + 1)), .ref (ad (kg + 2)), .int len28, .int x40, .int ref30])) := ⟨_, rfl⟩
            rw [← ec42] at hP hD
            have hI : Inv8 g ad pe ct41 := by rw [ec42]; exact up8 hI (i8_44 (kc := kg) (by omega) ⟨(tld22 : Int32), (ofb23 : Int32), (hol24 : Int32), (flt25 : Int32), (fla26 : Int32), (ofl27 : Int32), (len28 : Int32), (x40 : Int32), (ref30 : Int32), hz31, (by first | omega | decide), (by first | omega | decide), (by first | omega | decide), (by first | omega | decide), hz36, rfl⟩)
            have hs43 : ct41 kg = .inr (4, [.int tld22, .int ofb23, .int hol24, .int flt25, .int fla26, .int ofl27, .ref (ad (kg + 1)), .ref (ad (kg + 2)), .int len28, .int x40, .int ref30]) := by rw [ec42]; exact va_up_self _ _ _
            refine lv_aload_n hx hb dX4_allOf_36 rfl (lv_at hl 2 rfl) ?_
            refine lv_iload_n hx hb dX4_allOf_37 rfl (lv_at hl 3 rfl) ?_
            refine lv_iload_n hx hb dX4_allOf_38 rfl (lv_at hl 4 rfl) ?_
            refine lv_if_eq (tgt := 50) hx hb dX4_allOf_39 (by decide) (fun c44 => ?_) (fun c44 => ?_)
            · skip
              have c44 : ask.toInt = 0 := (z_eq rfl (by decide : (0 : Int32).toInt = 0)).mp c44
              refine lv_iconst (v := 0) hx hb dX4_allOf_50 (by decide) ?_
              have hFc := zw_free hD hS hA
              refine va_calli (va_runV (As := [.int 6, .int 0]) (rest := []) ⟨hx, hb, hml, hown, hg⟩ (k_X4_piece_6 l g _ ad pe ct41 kg (0 : Int32) (by omega) hI) (cwV 2 hg (z_gV mm_471 mm_473 mm_7 mm_114 mm_474) rfl rfl rfl (by decide +kernel) ⟨Nat.le_of_ble_eq_true rfl, Nat.le_of_ble_eq_true rfl⟩) ⟨(zA.pre [.ref (ad kg), .int 6, .int 0] hP hK hD hN).1, va_recv hK hP (ci := 4) (q0 := kg) rfl (zw_at (by omega) hs43), (zA.pre [.ref (ad kg), .int 6, .int 0] hP hK hD hN).2⟩ rfl rfl hl.1 rfl (lv_room (Nat.le_of_ble_eq_true rfl)) dX4_allOf_51 ⟨Nat.le_of_ble_eq_true rfl, Nat.le_of_ble_eq_true rfl⟩) hS (fun q _ h => hFc q h) hFc (fun r45 _ t H1 locs ht hvm hr45 hB hz1 hk1 hS => ?_)
              obtain ⟨ct46, hP1, hD1, hI⟩ := hB
              rw [ht] at hP1
              have hD := hD1.weaken (fun _ _ _ h => hFc _ h)
              generalize H1 = H at hP1 hS ⊢
              have hP := hP1
              refine W.widen (k := 0) (n := 0) (Nat.le_refl _) (Nat.le_refl _) ?_
              rcases hr45 with hr45 | hr45
              · skip
                obtain rfl := hr45
                refine lv_istore (lv' := [(5, .int 1), (4, .int v4_10), (3, .int v3_10), (0, .ref (ad kg)), (1, .int 6), (2, .int ask)]) hx hb dX4_allOf_54 hl (by decide) rfl (fun ls hl => ?_)
                refine lv_iload_n hx hb dX4_allOf_56 rfl (lv_at hl 2 rfl) ?_
                refine lv_if_eq (tgt := 69) hx hb dX4_allOf_57 (by decide) (fun c47 => ?_) (fun c47 => ?_)
                · skip
                  have c47 : v3_10.toInt = 0 := (z_eq rfl (by decide : (0 : Int32).toInt = 0)).mp c47
                  refine lv_iconst (v := 0) hx hb dX4_allOf_69 (by decide) ?_
                  refine lv_istore_n (lv' := [(3, .int 0), (5, .int 1), (4, .int v4_10), (0, .ref (ad kg)), (1, .int 6), (2, .int ask)]) hx hb dX4_allOf_70 rfl hl (by decide) rfl (fun ls hl => ?_)
                  obtain ⟨x48, ex48⟩ : ∃ y : Int32, y = v4_10 + 1 := ⟨_, rfl⟩
                  have tx48 : x48.toInt = v4_10.toInt + 1 := by rw [ex48]; exact z_add rfl (by decide : (1 : Int32).toInt = 1) (by omega) (by omega)
                  refine lv_iinc (v := x48) (lv' := [(4, .int x48), (3, .int 0), (5, .int 1), (0, .ref (ad kg)), (1, .int 6), (2, .int ask)]) hx hb dX4_allOf_71 hl (k := 2) rfl (by rw [ex48]; rfl) (by decide) rfl (fun ls hl => ?_)
                  refine lv_goto (tgt := 10) hx hb dX4_allOf_74 (by decide) ?_
                  exact ih10 x48 (0 : Int32) ct46 _ _ ls (by omega) (by first | omega | decide) (by first | omega | decide) hI hP hD hS (lv_sub hl [0, 1, 3, 4, 5] rfl)
                · skip
                  have c47 : ¬ (v3_10.toInt = 0) := fun q => c47 ((z_eq rfl (by decide : (0 : Int32).toInt = 0)).mpr q)
                  refine lv_iload hx hb dX4_allOf_60 (lv_at hl 0 rfl) ?_
                  refine lv_if_eq (tgt := 69) hx hb dX4_allOf_62 (by decide) (fun c49 => ?_) (fun c49 => ?_)
                  · skip
                    exact absurd c49 (by decide)
                  · skip
                    refine lv_iconst (v := 1) hx hb dX4_allOf_65 (by decide) ?_
                    refine lv_goto (tgt := 70) hx hb dX4_allOf_66 (by decide) ?_
                    refine lv_istore_n (lv' := [(3, .int 1), (5, .int 1), (4, .int v4_10), (0, .ref (ad kg)), (1, .int 6), (2, .int ask)]) hx hb dX4_allOf_70 rfl hl (by decide) rfl (fun ls hl => ?_)
                    obtain ⟨x50, ex50⟩ : ∃ y : Int32, y = v4_10 + 1 := ⟨_, rfl⟩
                    have tx50 : x50.toInt = v4_10.toInt + 1 := by rw [ex50]; exact z_add rfl (by decide : (1 : Int32).toInt = 1) (by omega) (by omega)
                    refine lv_iinc (v := x50) (lv' := [(4, .int x50), (3, .int 1), (5, .int 1), (0, .ref (ad kg)), (1, .int 6), (2, .int ask)]) hx hb dX4_allOf_71 hl (k := 2) rfl (by rw [ex50]; rfl) (by decide) rfl (fun ls hl => ?_)
                    refine lv_goto (tgt := 10) hx hb dX4_allOf_74 (by decide) ?_
                    exact ih10 x50 (1 : Int32) ct46 _ _ ls (by omega) (by first | omega | decide) (by first | omega | decide) hI hP hD hS (lv_sub hl [0, 1, 3, 4, 5] rfl)
              · skip
                obtain rfl := hr45
                refine lv_istore (lv' := [(5, .int 0), (4, .int v4_10), (3, .int v3_10), (0, .ref (ad kg)), (1, .int 6), (2, .int ask)]) hx hb dX4_allOf_54 hl (by decide) rfl (fun ls hl => ?_)
                refine lv_iload_n hx hb dX4_allOf_56 rfl (lv_at hl 2 rfl) ?_
                refine lv_if_eq (tgt := 69) hx hb dX4_allOf_57 (by decide) (fun c51 => ?_) (fun c51 => ?_)
                · skip
                  have c51 : v3_10.toInt = 0 := (z_eq rfl (by decide : (0 : Int32).toInt = 0)).mp c51
                  refine lv_iconst (v := 0) hx hb dX4_allOf_69 (by decide) ?_
                  refine lv_istore_n (lv' := [(3, .int 0), (5, .int 0), (4, .int v4_10), (0, .ref (ad kg)), (1, .int 6), (2, .int ask)]) hx hb dX4_allOf_70 rfl hl (by decide) rfl (fun ls hl => ?_)
                  obtain ⟨x52, ex52⟩ : ∃ y : Int32, y = v4_10 + 1 := ⟨_, rfl⟩
                  have tx52 : x52.toInt = v4_10.toInt + 1 := by rw [ex52]; exact z_add rfl (by decide : (1 : Int32).toInt = 1) (by omega) (by omega)
                  refine lv_iinc (v := x52) (lv' := [(4, .int x52), (3, .int 0), (5, .int 0), (0, .ref (ad kg)), (1, .int 6), (2, .int ask)]) hx hb dX4_allOf_71 hl (k := 2) rfl (by rw [ex52]; rfl) (by decide) rfl (fun ls hl => ?_)
                  refine lv_goto (tgt := 10) hx hb dX4_allOf_74 (by decide) ?_
                  exact ih10 x52 (0 : Int32) ct46 _ _ ls (by omega) (by first | omega | decide) (by first | omega | decide) hI hP hD hS (lv_sub hl [0, 1, 3, 4, 5] rfl)
                · skip
                  have c51 : ¬ (v3_10.toInt = 0) := fun q => c51 ((z_eq rfl (by decide : (0 : Int32).toInt = 0)).mpr q)
                  refine lv_iload hx hb dX4_allOf_60 (lv_at hl 0 rfl) ?_
                  refine lv_if_eq (tgt := 69) hx hb dX4_allOf_62 (by decide) (fun c53 => ?_) (fun c53 => ?_)
                  · skip
                    refine lv_iconst (v := 0) hx hb dX4_allOf_69 (by decide) ?_
                    refine lv_istore_n (lv' := [(3, .int 0), (5, .int 0), (4, .int v4_10), (0, .ref (ad kg)), (1, .int 6), (2, .int ask)]) hx hb dX4_allOf_70 rfl hl (by decide) rfl (fun ls hl => ?_)
                    obtain ⟨x54, ex54⟩ : ∃ y : Int32, y = v4_10 + 1 := ⟨_, rfl⟩
                    have tx54 : x54.toInt = v4_10.toInt + 1 := by rw [ex54]; exact z_add rfl (by decide : (1 : Int32).toInt = 1) (by omega) (by omega)
                    refine lv_iinc (v := x54) (lv' := [(4, .int x54), (3, .int 0), (5, .int 0), (0, .ref (ad kg)), (1, .int 6), (2, .int ask)]) hx hb dX4_allOf_71 hl (k := 2) rfl (by rw [ex54]; rfl) (by decide) rfl (fun ls hl => ?_)
                    refine lv_goto (tgt := 10) hx hb dX4_allOf_74 (by decide) ?_
                    exact ih10 x54 (0 : Int32) ct46 _ _ ls (by omega) (by first | omega | decide) (by first | omega | decide) hI hP hD hS (lv_sub hl [0, 1, 3, 4, 5] rfl)
                  · skip
                    exact absurd c53 (by decide)
            · skip
              have c44 : ¬ (ask.toInt = 0) := fun q => c44 ((z_eq rfl (by decide : (0 : Int32).toInt = 0)).mpr q)
              refine lv_iload_n hx hb dX4_allOf_42 rfl (lv_at hl 1 rfl) ?_
              refine lv_if_eq (tgt := 50) hx hb dX4_allOf_43 (by decide) (fun c55 => ?_) (fun c55 => ?_)
              · skip
                have c55 : v3_10.toInt = 0 := (z_eq rfl (by decide : (0 : Int32).toInt = 0)).mp c55
                refine lv_iconst (v := 0) hx hb dX4_allOf_50 (by decide) ?_
                have hFc := zw_free hD hS hA
                refine va_calli (va_runV (As := [.int 6, .int 0]) (rest := []) ⟨hx, hb, hml, hown, hg⟩ (k_X4_piece_6 l g _ ad pe ct41 kg (0 : Int32) (by omega) hI) (cwV 2 hg (z_gV mm_471 mm_473 mm_7 mm_114 mm_474) rfl rfl rfl (by decide +kernel) ⟨Nat.le_of_ble_eq_true rfl, Nat.le_of_ble_eq_true rfl⟩) ⟨(zA.pre [.ref (ad kg), .int 6, .int 0] hP hK hD hN).1, va_recv hK hP (ci := 4) (q0 := kg) rfl (zw_at (by omega) hs43), (zA.pre [.ref (ad kg), .int 6, .int 0] hP hK hD hN).2⟩ rfl rfl hl.1 rfl (lv_room (Nat.le_of_ble_eq_true rfl)) dX4_allOf_51 ⟨Nat.le_of_ble_eq_true rfl, Nat.le_of_ble_eq_true rfl⟩) hS (fun q _ h => hFc q h) hFc (fun r56 _ t H1 locs ht hvm hr56 hB hz1 hk1 hS => ?_)
                obtain ⟨ct57, hP1, hD1, hI⟩ := hB
                rw [ht] at hP1
                have hD := hD1.weaken (fun _ _ _ h => hFc _ h)
                generalize H1 = H at hP1 hS ⊢
                have hP := hP1
                refine W.widen (k := 0) (n := 0) (Nat.le_refl _) (Nat.le_refl _) ?_
                rcases hr56 with hr56 | hr56
                · skip
                  obtain rfl := hr56
                  refine lv_istore (lv' := [(5, .int 1), (4, .int v4_10), (3, .int v3_10), (0, .ref (ad kg)), (1, .int 6), (2, .int ask)]) hx hb dX4_allOf_54 hl (by decide) rfl (fun ls hl => ?_)
                  refine lv_iload_n hx hb dX4_allOf_56 rfl (lv_at hl 2 rfl) ?_
                  refine lv_if_eq (tgt := 69) hx hb dX4_allOf_57 (by decide) (fun c58 => ?_) (fun c58 => ?_)
                  · skip
                    have c58 : v3_10.toInt = 0 := (z_eq rfl (by decide : (0 : Int32).toInt = 0)).mp c58
                    refine lv_iconst (v := 0) hx hb dX4_allOf_69 (by decide) ?_
                    refine lv_istore_n (lv' := [(3, .int 0), (5, .int 1), (4, .int v4_10), (0, .ref (ad kg)), (1, .int 6), (2, .int ask)]) hx hb dX4_allOf_70 rfl hl (by decide) rfl (fun ls hl => ?_)
                    obtain ⟨x59, ex59⟩ : ∃ y : Int32, y = v4_10 + 1 := ⟨_, rfl⟩
                    have tx59 : x59.toInt = v4_10.toInt + 1 := by rw [ex59]; exact z_add rfl (by decide : (1 : Int32).toInt = 1) (by omega) (by omega)
                    refine lv_iinc (v := x59) (lv' := [(4, .int x59), (3, .int 0), (5, .int 1), (0, .ref (ad kg)), (1, .int 6), (2, .int ask)]) hx hb dX4_allOf_71 hl (k := 2) rfl (by rw [ex59]; rfl) (by decide) rfl (fun ls hl => ?_)
                    refine lv_goto (tgt := 10) hx hb dX4_allOf_74 (by decide) ?_
                    exact ih10 x59 (0 : Int32) ct57 _ _ ls (by omega) (by first | omega | decide) (by first | omega | decide) hI hP hD hS (lv_sub hl [0, 1, 3, 4, 5] rfl)
                  · skip
                    have c58 : ¬ (v3_10.toInt = 0) := fun q => c58 ((z_eq rfl (by decide : (0 : Int32).toInt = 0)).mpr q)
                    refine lv_iload hx hb dX4_allOf_60 (lv_at hl 0 rfl) ?_
                    refine lv_if_eq (tgt := 69) hx hb dX4_allOf_62 (by decide) (fun c60 => ?_) (fun c60 => ?_)
                    · skip
                      exact absurd c60 (by decide)
                    · skip
                      refine lv_iconst (v := 1) hx hb dX4_allOf_65 (by decide) ?_
                      refine lv_goto (tgt := 70) hx hb dX4_allOf_66 (by decide) ?_
                      refine lv_istore_n (lv' := [(3, .int 1), (5, .int 1), (4, .int v4_10), (0, .ref (ad kg)), (1, .int 6), (2, .int ask)]) hx hb dX4_allOf_70 rfl hl (by decide) rfl (fun ls hl => ?_)
                      obtain ⟨x61, ex61⟩ : ∃ y : Int32, y = v4_10 + 1 := ⟨_, rfl⟩
                      have tx61 : x61.toInt = v4_10.toInt + 1 := by rw [ex61]; exact z_add rfl (by decide : (1 : Int32).toInt = 1) (by omega) (by omega)
                      refine lv_iinc (v := x61) (lv' := [(4, .int x61), (3, .int 1), (5, .int 1), (0, .ref (ad kg)), (1, .int 6), (2, .int ask)]) hx hb dX4_allOf_71 hl (k := 2) rfl (by rw [ex61]; rfl) (by decide) rfl (fun ls hl => ?_)
                      refine lv_goto (tgt := 10) hx hb dX4_allOf_74 (by decide) ?_
                      exact ih10 x61 (1 : Int32) ct57 _ _ ls (by omega) (by first | omega | decide) (by first | omega | decide) hI hP hD hS (lv_sub hl [0, 1, 3, 4, 5] rfl)
                · skip
                  obtain rfl := hr56
                  refine lv_istore (lv' := [(5, .int 0), (4, .int v4_10), (3, .int v3_10), (0, .ref (ad kg)), (1, .int 6), (2, .int ask)]) hx hb dX4_allOf_54 hl (by decide) rfl (fun ls hl => ?_)
                  refine lv_iload_n hx hb dX4_allOf_56 rfl (lv_at hl 2 rfl) ?_
                  refine lv_if_eq (tgt := 69) hx hb dX4_allOf_57 (by decide) (fun c62 => ?_) (fun c62 => ?_)
                  · skip
                    have c62 : v3_10.toInt = 0 := (z_eq rfl (by decide : (0 : Int32).toInt = 0)).mp c62
                    refine lv_iconst (v := 0) hx hb dX4_allOf_69 (by decide) ?_
                    refine lv_istore_n (lv' := [(3, .int 0), (5, .int 0), (4, .int v4_10), (0, .ref (ad kg)), (1, .int 6), (2, .int ask)]) hx hb dX4_allOf_70 rfl hl (by decide) rfl (fun ls hl => ?_)
                    obtain ⟨x63, ex63⟩ : ∃ y : Int32, y = v4_10 + 1 := ⟨_, rfl⟩
                    have tx63 : x63.toInt = v4_10.toInt + 1 := by rw [ex63]; exact z_add rfl (by decide : (1 : Int32).toInt = 1) (by omega) (by omega)
                    refine lv_iinc (v := x63) (lv' := [(4, .int x63), (3, .int 0), (5, .int 0), (0, .ref (ad kg)), (1, .int 6), (2, .int ask)]) hx hb dX4_allOf_71 hl (k := 2) rfl (by rw [ex63]; rfl) (by decide) rfl (fun ls hl => ?_)
                    refine lv_goto (tgt := 10) hx hb dX4_allOf_74 (by decide) ?_
                    exact ih10 x63 (0 : Int32) ct57 _ _ ls (by omega) (by first | omega | decide) (by first | omega | decide) hI hP hD hS (lv_sub hl [0, 1, 3, 4, 5] rfl)
                  · skip
                    have c62 : ¬ (v3_10.toInt = 0) := fun q => c62 ((z_eq rfl (by decide : (0 : Int32).toInt = 0)).mpr q)
                    refine lv_iload hx hb dX4_allOf_60 (lv_at hl 0 rfl) ?_
                    refine lv_if_eq (tgt := 69) hx hb dX4_allOf_62 (by decide) (fun c64 => ?_) (fun c64 => ?_)
                    · skip
                      refine lv_iconst (v := 0) hx hb dX4_allOf_69 (by decide) ?_
                      refine lv_istore_n (lv' := [(3, .int 0), (5, .int 0), (4, .int v4_10), (0, .ref (ad kg)), (1, .int 6), (2, .int ask)]) hx hb dX4_allOf_70 rfl hl (by decide) rfl (fun ls hl => ?_)
                      obtain ⟨x65, ex65⟩ : ∃ y : Int32, y = v4_10 + 1 := ⟨_, rfl⟩
                      have tx65 : x65.toInt = v4_10.toInt + 1 := by rw [ex65]; exact z_add rfl (by decide : (1 : Int32).toInt = 1) (by omega) (by omega)
                      refine lv_iinc (v := x65) (lv' := [(4, .int x65), (3, .int 0), (5, .int 0), (0, .ref (ad kg)), (1, .int 6), (2, .int ask)]) hx hb dX4_allOf_71 hl (k := 2) rfl (by rw [ex65]; rfl) (by decide) rfl (fun ls hl => ?_)
                      refine lv_goto (tgt := 10) hx hb dX4_allOf_74 (by decide) ?_
                      exact ih10 x65 (0 : Int32) ct57 _ _ ls (by omega) (by first | omega | decide) (by first | omega | decide) hI hP hD hS (lv_sub hl [0, 1, 3, 4, 5] rfl)
                    · skip
                      exact absurd c64 (by decide)
              · skip
                have c55 : ¬ (v3_10.toInt = 0) := fun q => c55 ((z_eq rfl (by decide : (0 : Int32).toInt = 0)).mpr q)
                refine lv_iconst (v := 1) hx hb dX4_allOf_46 (by decide) ?_
                refine lv_goto (tgt := 51) hx hb dX4_allOf_47 (by decide) ?_
                have hFc := zw_free hD hS hA
                refine va_calli (va_runV (As := [.int 6, .int 1]) (rest := []) ⟨hx, hb, hml, hown, hg⟩ (k_X4_piece_6 l g _ ad pe ct41 kg (1 : Int32) (by omega) hI) (cwV 2 hg (z_gV mm_471 mm_473 mm_7 mm_114 mm_474) rfl rfl rfl (by decide +kernel) ⟨Nat.le_of_ble_eq_true rfl, Nat.le_of_ble_eq_true rfl⟩) ⟨(zA.pre [.ref (ad kg), .int 6, .int 1] hP hK hD hN).1, va_recv hK hP (ci := 4) (q0 := kg) rfl (zw_at (by omega) hs43), (zA.pre [.ref (ad kg), .int 6, .int 1] hP hK hD hN).2⟩ rfl rfl hl.1 rfl (lv_room (Nat.le_of_ble_eq_true rfl)) dX4_allOf_51 ⟨Nat.le_of_ble_eq_true rfl, Nat.le_of_ble_eq_true rfl⟩) hS (fun q _ h => hFc q h) hFc (fun r66 _ t H1 locs ht hvm hr66 hB hz1 hk1 hS => ?_)
                obtain ⟨ct67, hP1, hD1, hI⟩ := hB
                rw [ht] at hP1
                have hD := hD1.weaken (fun _ _ _ h => hFc _ h)
                generalize H1 = H at hP1 hS ⊢
                have hP := hP1
                refine W.widen (k := 0) (n := 0) (Nat.le_refl _) (Nat.le_refl _) ?_
                rcases hr66 with hr66 | hr66
                · skip
                  obtain rfl := hr66
                  refine lv_istore (lv' := [(5, .int 1), (4, .int v4_10), (3, .int v3_10), (0, .ref (ad kg)), (1, .int 6), (2, .int ask)]) hx hb dX4_allOf_54 hl (by decide) rfl (fun ls hl => ?_)
                  refine lv_iload_n hx hb dX4_allOf_56 rfl (lv_at hl 2 rfl) ?_
                  refine lv_if_eq (tgt := 69) hx hb dX4_allOf_57 (by decide) (fun c68 => ?_) (fun c68 => ?_)
                  · skip
                    have c68 : v3_10.toInt = 0 := (z_eq rfl (by decide : (0 : Int32).toInt = 0)).mp c68
                    exfalso
                    omega
                  · skip
                    have c68 : ¬ (v3_10.toInt = 0) := fun q => c68 ((z_eq rfl (by decide : (0 : Int32).toInt = 0)).mpr q)
                    refine lv_iload hx hb dX4_allOf_60 (lv_at hl 0 rfl) ?_
                    refine lv_if_eq (tgt := 69) hx hb dX4_allOf_62 (by decide) (fun c69 => ?_) (fun c69 => ?_)
                    · skip
                      exact absurd c69 (by decide)
                    · skip
                      refine lv_iconst (v := 1) hx hb dX4_allOf_65 (by decide) ?_
                      refine lv_goto (tgt := 70) hx hb dX4_allOf_66 (by decide) ?_
                      refine lv_istore_n (lv' := [(3, .int 1), (5, .int 1), (4, .int v4_10), (0, .ref (ad kg)), (1, .int 6), (2, .int ask)]) hx hb dX4_allOf_70 rfl hl (by decide) rfl (fun ls hl => ?_)
                      obtain ⟨x70, ex70⟩ : ∃ y : Int32, y = v4_10 + 1 := ⟨_, rfl⟩
                      have tx70 : x70.toInt = v4_10.toInt + 1 := by rw [ex70]; exact z_add rfl (by decide : (1 : Int32).toInt = 1) (by omega) (by omega)
                      refine lv_iinc (v := x70) (lv' := [(4, .int x70), (3, .int 1), (5, .int 1), (0, .ref (ad kg)), (1, .int 6), (2, .int ask)]) hx hb dX4_allOf_71 hl (k := 2) rfl (by rw [ex70]; rfl) (by decide) rfl (fun ls hl => ?_)
                      refine lv_goto (tgt := 10) hx hb dX4_allOf_74 (by decide) ?_
                      exact ih10 x70 (1 : Int32) ct67 _ _ ls (by omega) (by first | omega | decide) (by first | omega | decide) hI hP hD hS (lv_sub hl [0, 1, 3, 4, 5] rfl)
                · skip
                  obtain rfl := hr66
                  refine lv_istore (lv' := [(5, .int 0), (4, .int v4_10), (3, .int v3_10), (0, .ref (ad kg)), (1, .int 6), (2, .int ask)]) hx hb dX4_allOf_54 hl (by decide) rfl (fun ls hl => ?_)
                  refine lv_iload_n hx hb dX4_allOf_56 rfl (lv_at hl 2 rfl) ?_
                  refine lv_if_eq (tgt := 69) hx hb dX4_allOf_57 (by decide) (fun c71 => ?_) (fun c71 => ?_)
                  · skip
                    have c71 : v3_10.toInt = 0 := (z_eq rfl (by decide : (0 : Int32).toInt = 0)).mp c71
                    exfalso
                    omega
                  · skip
                    have c71 : ¬ (v3_10.toInt = 0) := fun q => c71 ((z_eq rfl (by decide : (0 : Int32).toInt = 0)).mpr q)
                    refine lv_iload hx hb dX4_allOf_60 (lv_at hl 0 rfl) ?_
                    refine lv_if_eq (tgt := 69) hx hb dX4_allOf_62 (by decide) (fun c72 => ?_) (fun c72 => ?_)
                    · skip
                      refine lv_iconst (v := 0) hx hb dX4_allOf_69 (by decide) ?_
                      refine lv_istore_n (lv' := [(3, .int 0), (5, .int 0), (4, .int v4_10), (0, .ref (ad kg)), (1, .int 6), (2, .int ask)]) hx hb dX4_allOf_70 rfl hl (by decide) rfl (fun ls hl => ?_)
                      obtain ⟨x73, ex73⟩ : ∃ y : Int32, y = v4_10 + 1 := ⟨_, rfl⟩
                      have tx73 : x73.toInt = v4_10.toInt + 1 := by rw [ex73]; exact z_add rfl (by decide : (1 : Int32).toInt = 1) (by omega) (by omega)
                      refine lv_iinc (v := x73) (lv' := [(4, .int x73), (3, .int 0), (5, .int 0), (0, .ref (ad kg)), (1, .int 6), (2, .int ask)]) hx hb dX4_allOf_71 hl (k := 2) rfl (by rw [ex73]; rfl) (by decide) rfl (fun ls hl => ?_)
                      refine lv_goto (tgt := 10) hx hb dX4_allOf_74 (by decide) ?_
                      exact ih10 x73 (0 : Int32) ct67 _ _ ls (by omega) (by first | omega | decide) (by first | omega | decide) hI hP hD hS (lv_sub hl [0, 1, 3, 4, 5] rfl)
                    · skip
                      exact absurd c72 (by decide)
    exact loop10 ((100 - (0 : Int32).toInt : Int).toNat + 1) (0 : Int32) (1 : Int32) ct18 _ _ ls (by omega) (by first | omega | decide) (by first | omega | decide) hI hP hD hS (lv_sub hl [0, 1, 2, 3, 4] rfl)
  · skip
    obtain rfl := hr17
    refine lv_istore_n (lv' := [(3, .int 0), (0, .ref (ad kg)), (1, .int 6), (2, .int ask)]) hx hb dX4_allOf_6 rfl hl (by decide) rfl (fun ls hl => ?_)
    refine lv_iconst (v := 0) hx hb dX4_allOf_7 (by decide) ?_
    refine lv_istore (lv' := [(4, .int 0), (3, .int 0), (0, .ref (ad kg)), (1, .int 6), (2, .int ask)]) hx hb dX4_allOf_8 hl (by decide) rfl (fun ls hl => ?_)
    have loop10 : ∀ (n10 : Nat) (v4_10 : Int32) (v3_10 : Int32) (ct74 : Nat → va_E) (H : Heap) (locs : List Loc) (ls : Array Slot), ((100 - v4_10.toInt : Int).toNat < n10) → (0 ≤ v4_10.toInt ∧ v4_10.toInt ≤ 100) → (0 ≤ v3_10.toInt ∧ v3_10.toInt ≤ 1) → (Inv8 g ad pe ct74) → zP g (zw 126 ad ct74) H → va_D A (zw 126 ad ct74) → va_S A s.heap H locs → lv_has ls 6 [(4, .int v4_10), (3, .int v3_10), (0, .ref (ad kg)), (1, .int 6), (2, .int ask)] → W p l e (headSpec (zW yX4_allOf cX4_allOf 6 (some .boolean)) ({ frames := 6, cells := 0, slots := 0, locals := 144 })).room s m ([.ref (ad kg), .int 6, .int ask] : List Value).toArray below meth c H locs 0 0 (MQ below (va_Qi (fun (r : Int32) (_ : Unit) => (r = 1) ∨ (r = 0)) (fun _ t => ∃ ct2 : Nat → va_E, zP g (zw 126 ad ct2) t.heap ∧ va_D A (zw 126 ad ct2) ∧ Inv8 g ad pe ct2) A) ([.ref (ad kg), .int 6, .int ask] : List Value).toArray s 0 0 A) (F0 m 10 ls []) := by
      intro n10
      induction n10 with
      | zero =>
        intro v4_10 v3_10 ct74 H locs ls hn10 b4_10 b3_10 hI hP hD hS hl
        exact absurd hn10 (Nat.not_lt_zero _)
      | succ n10 ih10 =>
        intro v4_10 v3_10 ct74 H locs ls hn10 b4_10 b3_10 hI hP hD hS hl
        refine lv_iload hx hb dX4_allOf_10 (lv_at hl 0 rfl) ?_
        refine lv_bipush (v := 100) hx hb dX4_allOf_12 (by decide) ?_
        refine lv_icmp_ge (tgt := 77) hx hb dX4_allOf_14 (by decide) (fun c75 => ?_) (fun c75 => ?_)
        · skip
          have c75 : 100 ≤ v4_10.toInt := (z_le (by decide : (100 : Int32).toInt = 100) rfl).mp c75
          refine lv_iload_n hx hb dX4_allOf_77 rfl (lv_at hl 1 rfl) ?_
          exact W.zret (v := v3_10) hx hb hr (by rcases (z_01 (x := v3_10) (by omega) (by omega)) with q | q <;> rw [q] <;> rfl) (fun t ht hW => ⟨⟨v3_10, (), rfl, by first | exact Or.inl ⟨rfl, by omega⟩ | exact Or.inr ⟨rfl, by omega⟩ | exact Or.inl rfl | exact Or.inr rfl | exact Or.inl ⟨rfl, by omega, by omega⟩ | exact (z_01 (by omega) (by omega)).symm, ct74, by rw [ht]; exact hP, hD, hI⟩, hS.F ht⟩) hS.2.2 dX4_allOf_78
        · skip
          have c75 : ¬ (100 ≤ v4_10.toInt) := fun q => c75 ((z_le (by decide : (100 : Int32).toInt = 100) rfl).mpr q)
          refine lv_aload_n hx hb dX4_allOf_17 rfl (lv_at hl 2 rfl) ?_
          obtain ⟨tld77, ofb78, hol79, flt80, fla81, ofl82, len83, atx84, ref85, hz86, h87, h88, h89, h90, hz91, hs76⟩ := a8_44 (kc := kg) (by omega) hI
          have bhz86 := z_b01 hz86
          have bhz91 := z_b01 hz91
          refine zc_i (va_runV (As := []) (rest := []) ⟨hx, hb, hml, hown, hg⟩ (k_X4_nextp l g ad pe ct74 kg tld77 ofb78 hol79 flt80 fla81 ofl82 len83 atx84 ref85 (by omega) hI hs76) (cwV 0 hg (z_gV mm_475 mm_477 mm_8 mm_114 mm_478) rfl rfl rfl (by decide +kernel) ⟨Nat.le_of_ble_eq_true rfl, Nat.le_of_ble_eq_true rfl⟩) ⟨(zR.pre [.ref (ad kg)] hP hK hN).1, va_recv hK hP (ci := 4) (q0 := kg) rfl (zw_at (by omega) hs76), (zR.pre [.ref (ad kg)] hP hK hN).2⟩ rfl rfl hl.1 rfl (lv_room (Nat.le_of_ble_eq_true rfl)) dX4_allOf_18 ⟨Nat.le_of_ble_eq_true rfl, Nat.le_of_ble_eq_true rfl⟩) (fun r92 hr92 => ?_)
          have h93 := hr92
          have h93 : nxp r92 atx84 := h93
          refine lv_bipush (v := 38) hx hb dX4_allOf_21 (by decide) ?_
          refine lv_icmp_ne (tgt := 77) hx hb dX4_allOf_23 (by decide) (fun c94 => ?_) (fun c94 => ?_)
          · skip
            have c94 : ¬ (r92.toInt = 38) := fun q => c94 ((z_eq rfl (by decide : (38 : Int32).toInt = 38)).mpr q)
            refine lv_iload_n hx hb dX4_allOf_77 rfl (lv_at hl 1 rfl) ?_
            exact W.zret (v := v3_10) hx hb hr (by rcases (z_01 (x := v3_10) (by omega) (by omega)) with q | q <;> rw [q] <;> rfl) (fun t ht hW => ⟨⟨v3_10, (), rfl, by first | exact Or.inl ⟨rfl, by omega⟩ | exact Or.inr ⟨rfl, by omega⟩ | exact Or.inl rfl | exact Or.inr rfl | exact Or.inl ⟨rfl, by omega, by omega⟩ | exact (z_01 (by omega) (by omega)).symm, ct74, by rw [ht]; exact hP, hD, hI⟩, hS.F ht⟩) hS.2.2 dX4_allOf_78
          · skip
            have c94 : r92.toInt = 38 := (z_eq rfl (by decide : (38 : Int32).toInt = 38)).mp c94
            refine lv_aload_n hx hb dX4_allOf_26 rfl (lv_at hl 2 rfl) ?_
            refine lv_dup hx hb dX4_allOf_27 rfl ?_
            refine va_get (D := g.1) (ci := 4) (v := .int atx84) (C := RX4) (T := TX4) (N := 11) hx hb hg inG4 hown hK hP kg (zw_at (by omega) hs76) rfl 9 (by decide) (hg _ mm_285) (fun _ h9 => h9) rfl dX4_allOf_28 ?_
            refine lv_iconst (v := 1) hx hb dX4_allOf_31 (by decide) ?_
            refine lv_iadd hx hb dX4_allOf_32 ?_
            refine lv_topi (fun x95 ex95 => ?_)
            have tx95 : x95.toInt = atx84.toInt + 1 := by rw [ex95]; exact z_add rfl (by decide : (1 : Int32).toInt = 1) (by omega) (by omega)
            have hat95 : atx84.toInt ≤ 99 := by first | exact nxp_use h93 (by omega)
            refine va_put (D := g.1) (ci := 4) (v := .int x95) (ty := .int) (C := RX4) (T := TX4) (N := 11) hx hb hg inG4 tyX4 tyX4_ok nmX4 hown hK hP hD hS kg (zw_at (by omega) hs76) rfl 9 (by decide) (hg _ mm_285) (fun _ h9 => h9) rfl (by decide +kernel) rfl rfl (Nat.le_of_ble_eq_true rfl) dX4_allOf_33 (fun H locs hP hD hS => ?_)
            have hP : zP g ((zw 126 ad ct74).set kg (ad kg, .inr (4, [.int tld77, .int ofb78, .int hol79, .int flt80, .int fla81, .int ofl82, .ref (ad (kg + 1)), .ref (ad (kg + 2)), .int len83, .int x95, .int ref85]))) H := hP
            have hD : va_D A ((zw 126 ad ct74).set kg (ad kg, .inr (4, [.int tld77, .int ofb78, .int hol79, .int flt80, .int fla81, .int ofl82, .ref (ad (kg + 1)), .ref (ad (kg + 2)), .int len83, .int x95, .int ref85]))) := hD
            rw [zw_set (by omega)] at hP hD
            obtain ⟨ct96, ec97⟩ : ∃ z : Nat → va_E, z = va_up ct74 kg (.inr (4, [.int tld77, .int ofb78, .int hol79, .int flt80, .int fla81, .int ofl82, .ref (ad (kg + 1)), .ref (ad (kg + 2)), .int len83, .int x95, .int ref85])) := ⟨_, rfl⟩
            rw [← ec97] at hP hD
            have hI : Inv8 g ad pe ct96 := by rw [ec97]; exact up8 hI (i8_44 (kc := kg) (by omega) ⟨(tld77 : Int32), (ofb78 : Int32), (hol79 : Int32), (flt80 : Int32), (fla81 : Int32), (ofl82 : Int32), (len83 : Int32), (x95 : Int32), (ref85 : Int32), hz86, (by first | omega | decide), (by first | omega | decide), (by first | omega | decide), (by first | omega | decide), hz91, rfl⟩)
            have hs98 : ct96 kg = .inr (4, [.int tld77, .int ofb78, .int hol79, .int flt80, .int fla81, .int ofl82, .ref (ad (kg + 1)), .ref (ad (kg + 2)), .int len83, .int x95, .int ref85]) := by rw [ec97]; exact va_up_self _ _ _
            refine lv_aload_n hx hb dX4_allOf_36 rfl (lv_at hl 2 rfl) ?_
            refine lv_iload_n hx hb dX4_allOf_37 rfl (lv_at hl 3 rfl) ?_
            refine lv_iload_n hx hb dX4_allOf_38 rfl (lv_at hl 4 rfl) ?_
            refine lv_if_eq (tgt := 50) hx hb dX4_allOf_39 (by decide) (fun c99 => ?_) (fun c99 => ?_)
            · skip
              have c99 : ask.toInt = 0 := (z_eq rfl (by decide : (0 : Int32).toInt = 0)).mp c99
              refine lv_iconst (v := 0) hx hb dX4_allOf_50 (by decide) ?_
              have hFc := zw_free hD hS hA
              refine va_calli (va_runV (As := [.int 6, .int 0]) (rest := []) ⟨hx, hb, hml, hown, hg⟩ (k_X4_piece_6 l g _ ad pe ct96 kg (0 : Int32) (by omega) hI) (cwV 2 hg (z_gV mm_471 mm_473 mm_7 mm_114 mm_474) rfl rfl rfl (by decide +kernel) ⟨Nat.le_of_ble_eq_true rfl, Nat.le_of_ble_eq_true rfl⟩) ⟨(zA.pre [.ref (ad kg), .int 6, .int 0] hP hK hD hN).1, va_recv hK hP (ci := 4) (q0 := kg) rfl (zw_at (by omega) hs98), (zA.pre [.ref (ad kg), .int 6, .int 0] hP hK hD hN).2⟩ rfl rfl hl.1 rfl (lv_room (Nat.le_of_ble_eq_true rfl)) dX4_allOf_51 ⟨Nat.le_of_ble_eq_true rfl, Nat.le_of_ble_eq_true rfl⟩) hS (fun q _ h => hFc q h) hFc (fun r100 _ t H1 locs ht hvm hr100 hB hz1 hk1 hS => ?_)
              obtain ⟨ct101, hP1, hD1, hI⟩ := hB
              rw [ht] at hP1
              have hD := hD1.weaken (fun _ _ _ h => hFc _ h)
              generalize H1 = H at hP1 hS ⊢
              have hP := hP1
              refine W.widen (k := 0) (n := 0) (Nat.le_refl _) (Nat.le_refl _) ?_
              rcases hr100 with hr100 | hr100
              · skip
                obtain rfl := hr100
                refine lv_istore (lv' := [(5, .int 1), (4, .int v4_10), (3, .int v3_10), (0, .ref (ad kg)), (1, .int 6), (2, .int ask)]) hx hb dX4_allOf_54 hl (by decide) rfl (fun ls hl => ?_)
                refine lv_iload_n hx hb dX4_allOf_56 rfl (lv_at hl 2 rfl) ?_
                refine lv_if_eq (tgt := 69) hx hb dX4_allOf_57 (by decide) (fun c102 => ?_) (fun c102 => ?_)
                · skip
                  have c102 : v3_10.toInt = 0 := (z_eq rfl (by decide : (0 : Int32).toInt = 0)).mp c102
                  refine lv_iconst (v := 0) hx hb dX4_allOf_69 (by decide) ?_
                  refine lv_istore_n (lv' := [(3, .int 0), (5, .int 1), (4, .int v4_10), (0, .ref (ad kg)), (1, .int 6), (2, .int ask)]) hx hb dX4_allOf_70 rfl hl (by decide) rfl (fun ls hl => ?_)
                  obtain ⟨x103, ex103⟩ : ∃ y : Int32, y = v4_10 + 1 := ⟨_, rfl⟩
                  have tx103 : x103.toInt = v4_10.toInt + 1 := by rw [ex103]; exact z_add rfl (by decide : (1 : Int32).toInt = 1) (by omega) (by omega)
                  refine lv_iinc (v := x103) (lv' := [(4, .int x103), (3, .int 0), (5, .int 1), (0, .ref (ad kg)), (1, .int 6), (2, .int ask)]) hx hb dX4_allOf_71 hl (k := 2) rfl (by rw [ex103]; rfl) (by decide) rfl (fun ls hl => ?_)
                  refine lv_goto (tgt := 10) hx hb dX4_allOf_74 (by decide) ?_
                  exact ih10 x103 (0 : Int32) ct101 _ _ ls (by omega) (by first | omega | decide) (by first | omega | decide) hI hP hD hS (lv_sub hl [0, 1, 3, 4, 5] rfl)
                · skip
                  have c102 : ¬ (v3_10.toInt = 0) := fun q => c102 ((z_eq rfl (by decide : (0 : Int32).toInt = 0)).mpr q)
                  refine lv_iload hx hb dX4_allOf_60 (lv_at hl 0 rfl) ?_
                  refine lv_if_eq (tgt := 69) hx hb dX4_allOf_62 (by decide) (fun c104 => ?_) (fun c104 => ?_)
                  · skip
                    exact absurd c104 (by decide)
                  · skip
                    refine lv_iconst (v := 1) hx hb dX4_allOf_65 (by decide) ?_
                    refine lv_goto (tgt := 70) hx hb dX4_allOf_66 (by decide) ?_
                    refine lv_istore_n (lv' := [(3, .int 1), (5, .int 1), (4, .int v4_10), (0, .ref (ad kg)), (1, .int 6), (2, .int ask)]) hx hb dX4_allOf_70 rfl hl (by decide) rfl (fun ls hl => ?_)
                    obtain ⟨x105, ex105⟩ : ∃ y : Int32, y = v4_10 + 1 := ⟨_, rfl⟩
                    have tx105 : x105.toInt = v4_10.toInt + 1 := by rw [ex105]; exact z_add rfl (by decide : (1 : Int32).toInt = 1) (by omega) (by omega)
                    refine lv_iinc (v := x105) (lv' := [(4, .int x105), (3, .int 1), (5, .int 1), (0, .ref (ad kg)), (1, .int 6), (2, .int ask)]) hx hb dX4_allOf_71 hl (k := 2) rfl (by rw [ex105]; rfl) (by decide) rfl (fun ls hl => ?_)
                    refine lv_goto (tgt := 10) hx hb dX4_allOf_74 (by decide) ?_
                    exact ih10 x105 (1 : Int32) ct101 _ _ ls (by omega) (by first | omega | decide) (by first | omega | decide) hI hP hD hS (lv_sub hl [0, 1, 3, 4, 5] rfl)
              · skip
                obtain rfl := hr100
                refine lv_istore (lv' := [(5, .int 0), (4, .int v4_10), (3, .int v3_10), (0, .ref (ad kg)), (1, .int 6), (2, .int ask)]) hx hb dX4_allOf_54 hl (by decide) rfl (fun ls hl => ?_)
                refine lv_iload_n hx hb dX4_allOf_56 rfl (lv_at hl 2 rfl) ?_
                refine lv_if_eq (tgt := 69) hx hb dX4_allOf_57 (by decide) (fun c106 => ?_) (fun c106 => ?_)
                · skip
                  have c106 : v3_10.toInt = 0 := (z_eq rfl (by decide : (0 : Int32).toInt = 0)).mp c106
                  refine lv_iconst (v := 0) hx hb dX4_allOf_69 (by decide) ?_
                  refine lv_istore_n (lv' := [(3, .int 0), (5, .int 0), (4, .int v4_10), (0, .ref (ad kg)), (1, .int 6), (2, .int ask)]) hx hb dX4_allOf_70 rfl hl (by decide) rfl (fun ls hl => ?_)
                  obtain ⟨x107, ex107⟩ : ∃ y : Int32, y = v4_10 + 1 := ⟨_, rfl⟩
                  have tx107 : x107.toInt = v4_10.toInt + 1 := by rw [ex107]; exact z_add rfl (by decide : (1 : Int32).toInt = 1) (by omega) (by omega)
                  refine lv_iinc (v := x107) (lv' := [(4, .int x107), (3, .int 0), (5, .int 0), (0, .ref (ad kg)), (1, .int 6), (2, .int ask)]) hx hb dX4_allOf_71 hl (k := 2) rfl (by rw [ex107]; rfl) (by decide) rfl (fun ls hl => ?_)
                  refine lv_goto (tgt := 10) hx hb dX4_allOf_74 (by decide) ?_
                  exact ih10 x107 (0 : Int32) ct101 _ _ ls (by omega) (by first | omega | decide) (by first | omega | decide) hI hP hD hS (lv_sub hl [0, 1, 3, 4, 5] rfl)
                · skip
                  have c106 : ¬ (v3_10.toInt = 0) := fun q => c106 ((z_eq rfl (by decide : (0 : Int32).toInt = 0)).mpr q)
                  refine lv_iload hx hb dX4_allOf_60 (lv_at hl 0 rfl) ?_
                  refine lv_if_eq (tgt := 69) hx hb dX4_allOf_62 (by decide) (fun c108 => ?_) (fun c108 => ?_)
                  · skip
                    refine lv_iconst (v := 0) hx hb dX4_allOf_69 (by decide) ?_
                    refine lv_istore_n (lv' := [(3, .int 0), (5, .int 0), (4, .int v4_10), (0, .ref (ad kg)), (1, .int 6), (2, .int ask)]) hx hb dX4_allOf_70 rfl hl (by decide) rfl (fun ls hl => ?_)
                    obtain ⟨x109, ex109⟩ : ∃ y : Int32, y = v4_10 + 1 := ⟨_, rfl⟩
                    have tx109 : x109.toInt = v4_10.toInt + 1 := by rw [ex109]; exact z_add rfl (by decide : (1 : Int32).toInt = 1) (by omega) (by omega)
                    refine lv_iinc (v := x109) (lv' := [(4, .int x109), (3, .int 0), (5, .int 0), (0, .ref (ad kg)), (1, .int 6), (2, .int ask)]) hx hb dX4_allOf_71 hl (k := 2) rfl (by rw [ex109]; rfl) (by decide) rfl (fun ls hl => ?_)
                    refine lv_goto (tgt := 10) hx hb dX4_allOf_74 (by decide) ?_
                    exact ih10 x109 (0 : Int32) ct101 _ _ ls (by omega) (by first | omega | decide) (by first | omega | decide) hI hP hD hS (lv_sub hl [0, 1, 3, 4, 5] rfl)
                  · skip
                    exact absurd c108 (by decide)
            · skip
              have c99 : ¬ (ask.toInt = 0) := fun q => c99 ((z_eq rfl (by decide : (0 : Int32).toInt = 0)).mpr q)
              refine lv_iload_n hx hb dX4_allOf_42 rfl (lv_at hl 1 rfl) ?_
              refine lv_if_eq (tgt := 50) hx hb dX4_allOf_43 (by decide) (fun c110 => ?_) (fun c110 => ?_)
              · skip
                have c110 : v3_10.toInt = 0 := (z_eq rfl (by decide : (0 : Int32).toInt = 0)).mp c110
                refine lv_iconst (v := 0) hx hb dX4_allOf_50 (by decide) ?_
                have hFc := zw_free hD hS hA
                refine va_calli (va_runV (As := [.int 6, .int 0]) (rest := []) ⟨hx, hb, hml, hown, hg⟩ (k_X4_piece_6 l g _ ad pe ct96 kg (0 : Int32) (by omega) hI) (cwV 2 hg (z_gV mm_471 mm_473 mm_7 mm_114 mm_474) rfl rfl rfl (by decide +kernel) ⟨Nat.le_of_ble_eq_true rfl, Nat.le_of_ble_eq_true rfl⟩) ⟨(zA.pre [.ref (ad kg), .int 6, .int 0] hP hK hD hN).1, va_recv hK hP (ci := 4) (q0 := kg) rfl (zw_at (by omega) hs98), (zA.pre [.ref (ad kg), .int 6, .int 0] hP hK hD hN).2⟩ rfl rfl hl.1 rfl (lv_room (Nat.le_of_ble_eq_true rfl)) dX4_allOf_51 ⟨Nat.le_of_ble_eq_true rfl, Nat.le_of_ble_eq_true rfl⟩) hS (fun q _ h => hFc q h) hFc (fun r111 _ t H1 locs ht hvm hr111 hB hz1 hk1 hS => ?_)
                obtain ⟨ct112, hP1, hD1, hI⟩ := hB
                rw [ht] at hP1
                have hD := hD1.weaken (fun _ _ _ h => hFc _ h)
                generalize H1 = H at hP1 hS ⊢
                have hP := hP1
                refine W.widen (k := 0) (n := 0) (Nat.le_refl _) (Nat.le_refl _) ?_
                rcases hr111 with hr111 | hr111
                · skip
                  obtain rfl := hr111
                  refine lv_istore (lv' := [(5, .int 1), (4, .int v4_10), (3, .int v3_10), (0, .ref (ad kg)), (1, .int 6), (2, .int ask)]) hx hb dX4_allOf_54 hl (by decide) rfl (fun ls hl => ?_)
                  refine lv_iload_n hx hb dX4_allOf_56 rfl (lv_at hl 2 rfl) ?_
                  refine lv_if_eq (tgt := 69) hx hb dX4_allOf_57 (by decide) (fun c113 => ?_) (fun c113 => ?_)
                  · skip
                    have c113 : v3_10.toInt = 0 := (z_eq rfl (by decide : (0 : Int32).toInt = 0)).mp c113
                    refine lv_iconst (v := 0) hx hb dX4_allOf_69 (by decide) ?_
                    refine lv_istore_n (lv' := [(3, .int 0), (5, .int 1), (4, .int v4_10), (0, .ref (ad kg)), (1, .int 6), (2, .int ask)]) hx hb dX4_allOf_70 rfl hl (by decide) rfl (fun ls hl => ?_)
                    obtain ⟨x114, ex114⟩ : ∃ y : Int32, y = v4_10 + 1 := ⟨_, rfl⟩
                    have tx114 : x114.toInt = v4_10.toInt + 1 := by rw [ex114]; exact z_add rfl (by decide : (1 : Int32).toInt = 1) (by omega) (by omega)
                    refine lv_iinc (v := x114) (lv' := [(4, .int x114), (3, .int 0), (5, .int 1), (0, .ref (ad kg)), (1, .int 6), (2, .int ask)]) hx hb dX4_allOf_71 hl (k := 2) rfl (by rw [ex114]; rfl) (by decide) rfl (fun ls hl => ?_)
                    refine lv_goto (tgt := 10) hx hb dX4_allOf_74 (by decide) ?_
                    exact ih10 x114 (0 : Int32) ct112 _ _ ls (by omega) (by first | omega | decide) (by first | omega | decide) hI hP hD hS (lv_sub hl [0, 1, 3, 4, 5] rfl)
                  · skip
                    have c113 : ¬ (v3_10.toInt = 0) := fun q => c113 ((z_eq rfl (by decide : (0 : Int32).toInt = 0)).mpr q)
                    refine lv_iload hx hb dX4_allOf_60 (lv_at hl 0 rfl) ?_
                    refine lv_if_eq (tgt := 69) hx hb dX4_allOf_62 (by decide) (fun c115 => ?_) (fun c115 => ?_)
                    · skip
                      exact absurd c115 (by decide)
                    · skip
                      refine lv_iconst (v := 1) hx hb dX4_allOf_65 (by decide) ?_
                      refine lv_goto (tgt := 70) hx hb dX4_allOf_66 (by decide) ?_
                      refine lv_istore_n (lv' := [(3, .int 1), (5, .int 1), (4, .int v4_10), (0, .ref (ad kg)), (1, .int 6), (2, .int ask)]) hx hb dX4_allOf_70 rfl hl (by decide) rfl (fun ls hl => ?_)
                      obtain ⟨x116, ex116⟩ : ∃ y : Int32, y = v4_10 + 1 := ⟨_, rfl⟩
                      have tx116 : x116.toInt = v4_10.toInt + 1 := by rw [ex116]; exact z_add rfl (by decide : (1 : Int32).toInt = 1) (by omega) (by omega)
                      refine lv_iinc (v := x116) (lv' := [(4, .int x116), (3, .int 1), (5, .int 1), (0, .ref (ad kg)), (1, .int 6), (2, .int ask)]) hx hb dX4_allOf_71 hl (k := 2) rfl (by rw [ex116]; rfl) (by decide) rfl (fun ls hl => ?_)
                      refine lv_goto (tgt := 10) hx hb dX4_allOf_74 (by decide) ?_
                      exact ih10 x116 (1 : Int32) ct112 _ _ ls (by omega) (by first | omega | decide) (by first | omega | decide) hI hP hD hS (lv_sub hl [0, 1, 3, 4, 5] rfl)
                · skip
                  obtain rfl := hr111
                  refine lv_istore (lv' := [(5, .int 0), (4, .int v4_10), (3, .int v3_10), (0, .ref (ad kg)), (1, .int 6), (2, .int ask)]) hx hb dX4_allOf_54 hl (by decide) rfl (fun ls hl => ?_)
                  refine lv_iload_n hx hb dX4_allOf_56 rfl (lv_at hl 2 rfl) ?_
                  refine lv_if_eq (tgt := 69) hx hb dX4_allOf_57 (by decide) (fun c117 => ?_) (fun c117 => ?_)
                  · skip
                    have c117 : v3_10.toInt = 0 := (z_eq rfl (by decide : (0 : Int32).toInt = 0)).mp c117
                    refine lv_iconst (v := 0) hx hb dX4_allOf_69 (by decide) ?_
                    refine lv_istore_n (lv' := [(3, .int 0), (5, .int 0), (4, .int v4_10), (0, .ref (ad kg)), (1, .int 6), (2, .int ask)]) hx hb dX4_allOf_70 rfl hl (by decide) rfl (fun ls hl => ?_)
                    obtain ⟨x118, ex118⟩ : ∃ y : Int32, y = v4_10 + 1 := ⟨_, rfl⟩
                    have tx118 : x118.toInt = v4_10.toInt + 1 := by rw [ex118]; exact z_add rfl (by decide : (1 : Int32).toInt = 1) (by omega) (by omega)
                    refine lv_iinc (v := x118) (lv' := [(4, .int x118), (3, .int 0), (5, .int 0), (0, .ref (ad kg)), (1, .int 6), (2, .int ask)]) hx hb dX4_allOf_71 hl (k := 2) rfl (by rw [ex118]; rfl) (by decide) rfl (fun ls hl => ?_)
                    refine lv_goto (tgt := 10) hx hb dX4_allOf_74 (by decide) ?_
                    exact ih10 x118 (0 : Int32) ct112 _ _ ls (by omega) (by first | omega | decide) (by first | omega | decide) hI hP hD hS (lv_sub hl [0, 1, 3, 4, 5] rfl)
                  · skip
                    have c117 : ¬ (v3_10.toInt = 0) := fun q => c117 ((z_eq rfl (by decide : (0 : Int32).toInt = 0)).mpr q)
                    refine lv_iload hx hb dX4_allOf_60 (lv_at hl 0 rfl) ?_
                    refine lv_if_eq (tgt := 69) hx hb dX4_allOf_62 (by decide) (fun c119 => ?_) (fun c119 => ?_)
                    · skip
                      refine lv_iconst (v := 0) hx hb dX4_allOf_69 (by decide) ?_
                      refine lv_istore_n (lv' := [(3, .int 0), (5, .int 0), (4, .int v4_10), (0, .ref (ad kg)), (1, .int 6), (2, .int ask)]) hx hb dX4_allOf_70 rfl hl (by decide) rfl (fun ls hl => ?_)
                      obtain ⟨x120, ex120⟩ : ∃ y : Int32, y = v4_10 + 1 := ⟨_, rfl⟩
                      have tx120 : x120.toInt = v4_10.toInt + 1 := by rw [ex120]; exact z_add rfl (by decide : (1 : Int32).toInt = 1) (by omega) (by omega)
                      refine lv_iinc (v := x120) (lv' := [(4, .int x120), (3, .int 0), (5, .int 0), (0, .ref (ad kg)), (1, .int 6), (2, .int ask)]) hx hb dX4_allOf_71 hl (k := 2) rfl (by rw [ex120]; rfl) (by decide) rfl (fun ls hl => ?_)
                      refine lv_goto (tgt := 10) hx hb dX4_allOf_74 (by decide) ?_
                      exact ih10 x120 (0 : Int32) ct112 _ _ ls (by omega) (by first | omega | decide) (by first | omega | decide) hI hP hD hS (lv_sub hl [0, 1, 3, 4, 5] rfl)
                    · skip
                      exact absurd c119 (by decide)
              · skip
                have c110 : ¬ (v3_10.toInt = 0) := fun q => c110 ((z_eq rfl (by decide : (0 : Int32).toInt = 0)).mpr q)
                refine lv_iconst (v := 1) hx hb dX4_allOf_46 (by decide) ?_
                refine lv_goto (tgt := 51) hx hb dX4_allOf_47 (by decide) ?_
                have hFc := zw_free hD hS hA
                refine va_calli (va_runV (As := [.int 6, .int 1]) (rest := []) ⟨hx, hb, hml, hown, hg⟩ (k_X4_piece_6 l g _ ad pe ct96 kg (1 : Int32) (by omega) hI) (cwV 2 hg (z_gV mm_471 mm_473 mm_7 mm_114 mm_474) rfl rfl rfl (by decide +kernel) ⟨Nat.le_of_ble_eq_true rfl, Nat.le_of_ble_eq_true rfl⟩) ⟨(zA.pre [.ref (ad kg), .int 6, .int 1] hP hK hD hN).1, va_recv hK hP (ci := 4) (q0 := kg) rfl (zw_at (by omega) hs98), (zA.pre [.ref (ad kg), .int 6, .int 1] hP hK hD hN).2⟩ rfl rfl hl.1 rfl (lv_room (Nat.le_of_ble_eq_true rfl)) dX4_allOf_51 ⟨Nat.le_of_ble_eq_true rfl, Nat.le_of_ble_eq_true rfl⟩) hS (fun q _ h => hFc q h) hFc (fun r121 _ t H1 locs ht hvm hr121 hB hz1 hk1 hS => ?_)
                obtain ⟨ct122, hP1, hD1, hI⟩ := hB
                rw [ht] at hP1
                have hD := hD1.weaken (fun _ _ _ h => hFc _ h)
                generalize H1 = H at hP1 hS ⊢
                have hP := hP1
                refine W.widen (k := 0) (n := 0) (Nat.le_refl _) (Nat.le_refl _) ?_
                rcases hr121 with hr121 | hr121
                · skip
                  obtain rfl := hr121
                  refine lv_istore (lv' := [(5, .int 1), (4, .int v4_10), (3, .int v3_10), (0, .ref (ad kg)), (1, .int 6), (2, .int ask)]) hx hb dX4_allOf_54 hl (by decide) rfl (fun ls hl => ?_)
                  refine lv_iload_n hx hb dX4_allOf_56 rfl (lv_at hl 2 rfl) ?_
                  refine lv_if_eq (tgt := 69) hx hb dX4_allOf_57 (by decide) (fun c123 => ?_) (fun c123 => ?_)
                  · skip
                    have c123 : v3_10.toInt = 0 := (z_eq rfl (by decide : (0 : Int32).toInt = 0)).mp c123
                    exfalso
                    omega
                  · skip
                    have c123 : ¬ (v3_10.toInt = 0) := fun q => c123 ((z_eq rfl (by decide : (0 : Int32).toInt = 0)).mpr q)
                    refine lv_iload hx hb dX4_allOf_60 (lv_at hl 0 rfl) ?_
                    refine lv_if_eq (tgt := 69) hx hb dX4_allOf_62 (by decide) (fun c124 => ?_) (fun c124 => ?_)
                    · skip
                      exact absurd c124 (by decide)
                    · skip
                      refine lv_iconst (v := 1) hx hb dX4_allOf_65 (by decide) ?_
                      refine lv_goto (tgt := 70) hx hb dX4_allOf_66 (by decide) ?_
                      refine lv_istore_n (lv' := [(3, .int 1), (5, .int 1), (4, .int v4_10), (0, .ref (ad kg)), (1, .int 6), (2, .int ask)]) hx hb dX4_allOf_70 rfl hl (by decide) rfl (fun ls hl => ?_)
                      obtain ⟨x125, ex125⟩ : ∃ y : Int32, y = v4_10 + 1 := ⟨_, rfl⟩
                      have tx125 : x125.toInt = v4_10.toInt + 1 := by rw [ex125]; exact z_add rfl (by decide : (1 : Int32).toInt = 1) (by omega) (by omega)
                      refine lv_iinc (v := x125) (lv' := [(4, .int x125), (3, .int 1), (5, .int 1), (0, .ref (ad kg)), (1, .int 6), (2, .int ask)]) hx hb dX4_allOf_71 hl (k := 2) rfl (by rw [ex125]; rfl) (by decide) rfl (fun ls hl => ?_)
                      refine lv_goto (tgt := 10) hx hb dX4_allOf_74 (by decide) ?_
                      exact ih10 x125 (1 : Int32) ct122 _ _ ls (by omega) (by first | omega | decide) (by first | omega | decide) hI hP hD hS (lv_sub hl [0, 1, 3, 4, 5] rfl)
                · skip
                  obtain rfl := hr121
                  refine lv_istore (lv' := [(5, .int 0), (4, .int v4_10), (3, .int v3_10), (0, .ref (ad kg)), (1, .int 6), (2, .int ask)]) hx hb dX4_allOf_54 hl (by decide) rfl (fun ls hl => ?_)
                  refine lv_iload_n hx hb dX4_allOf_56 rfl (lv_at hl 2 rfl) ?_
                  refine lv_if_eq (tgt := 69) hx hb dX4_allOf_57 (by decide) (fun c126 => ?_) (fun c126 => ?_)
                  · skip
                    have c126 : v3_10.toInt = 0 := (z_eq rfl (by decide : (0 : Int32).toInt = 0)).mp c126
                    exfalso
                    omega
                  · skip
                    have c126 : ¬ (v3_10.toInt = 0) := fun q => c126 ((z_eq rfl (by decide : (0 : Int32).toInt = 0)).mpr q)
                    refine lv_iload hx hb dX4_allOf_60 (lv_at hl 0 rfl) ?_
                    refine lv_if_eq (tgt := 69) hx hb dX4_allOf_62 (by decide) (fun c127 => ?_) (fun c127 => ?_)
                    · skip
                      refine lv_iconst (v := 0) hx hb dX4_allOf_69 (by decide) ?_
                      refine lv_istore_n (lv' := [(3, .int 0), (5, .int 0), (4, .int v4_10), (0, .ref (ad kg)), (1, .int 6), (2, .int ask)]) hx hb dX4_allOf_70 rfl hl (by decide) rfl (fun ls hl => ?_)
                      obtain ⟨x128, ex128⟩ : ∃ y : Int32, y = v4_10 + 1 := ⟨_, rfl⟩
                      have tx128 : x128.toInt = v4_10.toInt + 1 := by rw [ex128]; exact z_add rfl (by decide : (1 : Int32).toInt = 1) (by omega) (by omega)
                      refine lv_iinc (v := x128) (lv' := [(4, .int x128), (3, .int 0), (5, .int 0), (0, .ref (ad kg)), (1, .int 6), (2, .int ask)]) hx hb dX4_allOf_71 hl (k := 2) rfl (by rw [ex128]; rfl) (by decide) rfl (fun ls hl => ?_)
                      refine lv_goto (tgt := 10) hx hb dX4_allOf_74 (by decide) ?_
                      exact ih10 x128 (0 : Int32) ct122 _ _ ls (by omega) (by first | omega | decide) (by first | omega | decide) hI hP hD hS (lv_sub hl [0, 1, 3, 4, 5] rfl)
                    · skip
                      exact absurd c127 (by decide)
    exact loop10 ((100 - (0 : Int32).toInt : Int).toNat + 1) (0 : Int32) (0 : Int32) ct18 _ _ ls (by omega) (by first | omega | decide) (by first | omega | decide) hI hP hD hS (lv_sub hl [0, 1, 2, 3, 4] rfl)
