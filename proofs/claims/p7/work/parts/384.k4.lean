set_option maxHeartbeats 4000000 in
set_option maxRecDepth 100000 in
theorem k_X8_bestSwap (l : Launch) (g : zG) (sz : Nat) (ad : Nat → Nat) (pe : Int32) (ct : Nat → va_E) (b : Int32) (k : Int32) (wh : Int32) (hI : Inv8 g ad pe ct) : Met l yX8_bestSwap (zW yX8_bestSwap cX8_bestSwap 10 (some .int)) ({ frames := 5, cells := 0, slots := 0, locals := 121 }) (va_Pc [.ref (ad 0), .int b, .int k, .int wh] (zA g (zw 126 ad ct) sz)) (va_Qi (fun (r : Int32) (_ : Unit) => (True)) (fun _ t => ∃ ct2 : Nat → va_E, zP g (zw 126 ad ct2) t.heap ∧ va_D (va_A (zw 126 ad ct) sz) (zw 126 ad ct2) ∧ Inv8 g ad pe ct2) (va_A (zw 126 ad ct) sz)) 0 0 (va_A (zw 126 ad ct) sz) := by
  refine Met.ofW (cc := cX8_bestSwap) (maxL := 10) (ret := (some .int)) (by decide) rfl ?_
  intro p e s m args below meth c s₁ B hml hv
  obtain ⟨rfl, hsz, hP, hK, hD0, hN⟩ := hv
  have hx := B.exec
  have hb := B.bytes
  have hr := B.returns
  have hg := zW.law (atoms_spec (ws := (zW yX8_bestSwap cX8_bestSwap 10 (some .int))) B.pre)
  have hown : s.vm.findClass RX8 = some m.cls := findClass_of_methodNamed B.named
  have hlocks := B.notSynchronized
  have hpe0 := hI.1
  subst hsz
  have hD := hD0.self (sz := s.heap.size)
  generalize hAe : va_A (zw 126 ad ct) s.heap.size = A at hD ⊢
  have hA : ∀ q : Nat, s.heap.size ≤ q → A q := fun q h => by rw [← hAe]; exact Or.inr h
  have hS : va_S A s.heap s.heap [] := va_S.rf
  have hl := lv_entry ([.ref (ad 0), .int b, .int k, .int wh]) (n := 10) (Nat.le_of_ble_eq_true rfl)
  rw [lg_entry_eq]
  generalize (lg_sl ([.ref (ad 0), .int b, .int k, .int wh]) ++ List.replicate (10 - (lg_sl ([.ref (ad 0), .int b, .int k, .int wh])).length) Slot.unset).toArray = ls at hl ⊢
  have hl : lv_has ls 10 [(0, .ref (ad 0)), (1, .int b), (2, .int k), (3, .int wh)] := hl
  have rg_b := z_rng b
  have rg_k := z_rng k
  have rg_wh := z_rng wh
  refine lv_aload_n hx hb dX8_bestSwap_0 rfl (lv_at hl 0 rfl) ?_
  refine lv_iload_n hx hb dX8_bestSwap_1 rfl (lv_at hl 1 rfl) ?_
  obtain ⟨bk3, dr2, h4, h5, h6, hs1⟩ := a8_0 hI
  refine zc_i (va_runV (As := [.int b]) (rest := []) ⟨hx, hb, hml, hown, hg⟩ (k_X8_isBook l g ad pe ct b hI) (cwV 1 hg (z_gV mm_591 mm_593 mm_20 mm_108 mm_594) rfl rfl rfl (by decide +kernel) ⟨Nat.le_of_ble_eq_true rfl, Nat.le_of_ble_eq_true rfl⟩) ⟨(zR.pre [.ref (ad 0), .int b] hP hK hN).1, va_recv hK hP (ci := 8) (q0 := 0) rfl (zw_at (by omega) hs1), (zR.pre [.ref (ad 0), .int b] hP hK hN).2⟩ rfl rfl hl.1 rfl (lv_room (Nat.le_of_ble_eq_true rfl)) dX8_bestSwap_2 ⟨Nat.le_of_ble_eq_true rfl, Nat.le_of_ble_eq_true rfl⟩) (fun r7 hr7 => ?_)
  rcases hr7 with hr7 | hr7
  · skip
    obtain ⟨rfl, h8, h9⟩ := hr7
    have h8 : 0 ≤ b.toInt := h8
    have h9 : b.toInt ≤ 3 := h9
    refine lv_if_eq (tgt := 24) hx hb dX8_bestSwap_5 (by decide) (fun c10 => ?_) (fun c10 => ?_)
    · skip
      exact absurd c10 (by decide)
    · skip
      refine lv_iload_n hx hb dX8_bestSwap_8 rfl (lv_at hl 2 rfl) ?_
      refine zc_i (va_runS (As := [.int k]) (rest := []) ⟨hx, hb, hml, hown, hg⟩ (k_X8_isBar l g ad pe ct k hI) (va_cwS 1 hg (z_gS mm_772 mm_773 mm_108 mm_774) rfl rfl rfl (by decide +kernel) ⟨Nat.le_of_ble_eq_true rfl, Nat.le_of_ble_eq_true rfl⟩) (zR.pre [.int k] hP hK hN) rfl rfl hl.1 rfl (lv_room (Nat.le_of_ble_eq_true rfl)) dX8_bestSwap_9 ⟨Nat.le_of_ble_eq_true rfl, Nat.le_of_ble_eq_true rfl⟩) (fun r11 hr11 => ?_)
      rcases hr11 with hr11 | hr11
      · skip
        obtain ⟨rfl, h12, h13⟩ := hr11
        have h12 : 1 ≤ k.toInt := h12
        have h13 : k.toInt ≤ 16 := h13
        refine lv_if_eq (tgt := 24) hx hb dX8_bestSwap_12 (by decide) (fun c14 => ?_) (fun c14 => ?_)
        · skip
          exact absurd c14 (by decide)
        · skip
          refine lv_iload_n hx hb dX8_bestSwap_15 rfl (lv_at hl 3 rfl) ?_
          refine lv_iconst (v := 0) hx hb dX8_bestSwap_16 (by decide) ?_
          refine lv_iconst (v := 3) hx hb dX8_bestSwap_17 (by decide) ?_
          refine zc_i (va_runS (As := [.int wh, .int 0, .int 3]) (rest := []) ⟨hx, hb, hml, hown, hg⟩ (k_X8_within l g ad pe ct wh (0 : Int32) (3 : Int32) hI) (va_cwS 3 hg (z_gS mm_407 mm_408 mm_108 mm_409) rfl rfl rfl (by decide +kernel) ⟨Nat.le_of_ble_eq_true rfl, Nat.le_of_ble_eq_true rfl⟩) (zR.pre [.int wh, .int 0, .int 3] hP hK hN) rfl rfl hl.1 rfl (lv_room (Nat.le_of_ble_eq_true rfl)) dX8_bestSwap_18 ⟨Nat.le_of_ble_eq_true rfl, Nat.le_of_ble_eq_true rfl⟩) (fun r15 hr15 => ?_)
          rcases hr15 with hr15 | hr15
          · skip
            obtain ⟨rfl, h16, h17⟩ := hr15
            have h16 : (0 : Int) ≤ wh.toInt := h16
            have h17 : wh.toInt ≤ (3 : Int) := h17
            refine lv_if_ne (tgt := 26) hx hb dX8_bestSwap_21 (by decide) (fun c18 => ?_) (fun c18 => ?_)
            · skip
              refine lv_bipush (v := (-2)) hx hb dX8_bestSwap_26 (by decide) ?_
              refine lv_istore (lv' := [(4, .int (-2)), (0, .ref (ad 0)), (1, .int b), (2, .int k), (3, .int wh)]) hx hb dX8_bestSwap_28 hl (by decide) rfl (fun ls hl => ?_)
              refine lv_iconst (v := (-1)) hx hb dX8_bestSwap_30 (by decide) ?_
              refine lv_istore (lv' := [(5, .int (-1)), (4, .int (-2)), (0, .ref (ad 0)), (1, .int b), (2, .int k), (3, .int wh)]) hx hb dX8_bestSwap_31 hl (by decide) rfl (fun ls hl => ?_)
              refine lv_aload_n hx hb dX8_bestSwap_33 rfl (lv_at hl 2 rfl) ?_
              refine lv_iload_n hx hb dX8_bestSwap_34 rfl (lv_at hl 3 rfl) ?_
              refine lv_aload_n hx hb dX8_bestSwap_35 rfl (lv_at hl 2 rfl) ?_
              refine lv_iload_n hx hb dX8_bestSwap_36 rfl (lv_at hl 3 rfl) ?_
              refine zc_i (va_runV (As := [.int b]) (rest := [.int b, .ref (ad 0)]) ⟨hx, hb, hml, hown, hg⟩ (k_X8_openFor l g ad pe ct b hI) (cwV 1 hg (z_gV mm_659 mm_661 mm_22 mm_108 mm_662) rfl rfl rfl (by decide +kernel) ⟨Nat.le_of_ble_eq_true rfl, Nat.le_of_ble_eq_true rfl⟩) ⟨(zR.pre [.ref (ad 0), .int b] hP hK hN).1, va_recv hK hP (ci := 8) (q0 := 0) rfl (zw_at (by omega) hs1), (zR.pre [.ref (ad 0), .int b] hP hK hN).2⟩ rfl rfl hl.1 rfl (lv_room (Nat.le_of_ble_eq_true rfl)) dX8_bestSwap_37 ⟨Nat.le_of_ble_eq_true rfl, Nat.le_of_ble_eq_true rfl⟩) (fun r19 hr19 => ?_)
              have hFc := zw_free hD hS hA
              refine va_callv (va_runV (As := [.int b, .int r19]) (rest := []) ⟨hx, hb, hml, hown, hg⟩ (k_X8_layOut l g _ ad pe ct b r19 hI) (cwV 2 hg (z_gV mm_667 mm_669 mm_24 mm_108 mm_670) rfl rfl rfl (by decide +kernel) ⟨Nat.le_of_ble_eq_true rfl, Nat.le_of_ble_eq_true rfl⟩) ⟨(zA.pre [.ref (ad 0), .int b, .int r19] hP hK hD hN).1, va_recv hK hP (ci := 8) (q0 := 0) rfl (zw_at (by omega) hs1), (zA.pre [.ref (ad 0), .int b, .int r19] hP hK hD hN).2⟩ rfl rfl hl.1 rfl (lv_room (Nat.le_of_ble_eq_true rfl)) dX8_bestSwap_40 ⟨Nat.le_of_ble_eq_true rfl, Nat.le_of_ble_eq_true rfl⟩) hS (fun q _ h => hFc q h) hFc (fun _ t H1 locs ht hvm hr20 hB hz1 hk1 hS => ?_)
              obtain ⟨ct21, hP1, hD1, hI⟩ := hB
              rw [ht] at hP1
              have hD := hD1.weaken (fun _ _ _ h => hFc _ h)
              generalize H1 = H at hP1 hS ⊢
              have hP := hP1
              refine W.widen (k := 0) (n := 0) (Nat.le_refl _) (Nat.le_refl _) ?_
              refine lv_iconst (v := 0) hx hb dX8_bestSwap_43 (by decide) ?_
              refine lv_istore (lv' := [(6, .int 0), (5, .int (-1)), (4, .int (-2)), (0, .ref (ad 0)), (1, .int b), (2, .int k), (3, .int wh)]) hx hb dX8_bestSwap_44 hl (by decide) rfl (fun ls hl => ?_)
              have loop46 : ∀ (n46 : Nat) (v6_46 : Int32) (v5_46 : Int32) (v4_46 : Int32) (ct22 : Nat → va_E) (H : Heap) (locs : List Loc) (ls : Array Slot), ((4 - v6_46.toInt : Int).toNat < n46) → (0 ≤ v6_46.toInt ∧ v6_46.toInt ≤ 4) → (Inv8 g ad pe ct22) → zP g (zw 126 ad ct22) H → va_D A (zw 126 ad ct22) → va_S A s.heap H locs → lv_has ls 10 [(6, .int v6_46), (5, .int v5_46), (4, .int v4_46), (0, .ref (ad 0)), (1, .int b), (2, .int k), (3, .int wh)] → W p l e (headSpec (zW yX8_bestSwap cX8_bestSwap 10 (some .int)) ({ frames := 5, cells := 0, slots := 0, locals := 121 })).room s m ([.ref (ad 0), .int b, .int k, .int wh] : List Value).toArray below meth c H locs 0 0 (MQ below (va_Qi (fun (r : Int32) (_ : Unit) => (True)) (fun _ t => ∃ ct2 : Nat → va_E, zP g (zw 126 ad ct2) t.heap ∧ va_D A (zw 126 ad ct2) ∧ Inv8 g ad pe ct2) A) ([.ref (ad 0), .int b, .int k, .int wh] : List Value).toArray s 0 0 A) (F0 m 46 ls []) := by
                intro n46
                induction n46 with
                | zero =>
                  intro v6_46 v5_46 v4_46 ct22 H locs ls hn46 b6_46 hI hP hD hS hl
                  exact absurd hn46 (Nat.not_lt_zero _)
                | succ n46 ih46 =>
                  intro v6_46 v5_46 v4_46 ct22 H locs ls hn46 b6_46 hI hP hD hS hl
                  refine lv_iload hx hb dX8_bestSwap_46 (lv_at hl 0 rfl) ?_
                  refine lv_iconst (v := 4) hx hb dX8_bestSwap_48 (by decide) ?_
                  refine lv_icmp_ge (tgt := 151) hx hb dX8_bestSwap_49 (by decide) (fun c23 => ?_) (fun c23 => ?_)
                  · skip
                    have c23 : 4 ≤ v6_46.toInt := (z_le (by decide : (4 : Int32).toInt = 4) rfl).mp c23
                    refine lv_iload hx hb dX8_bestSwap_151 (lv_at hl 2 rfl) ?_
                    exact W.iret (v := v4_46) hx hb hr (fun t ht hW => ⟨⟨v4_46, (), rfl, trivial, ct22, by rw [ht]; exact hP, hD, hI⟩, hS.F ht⟩) hS.2.2 dX8_bestSwap_153
                  · skip
                    have c23 : ¬ (4 ≤ v6_46.toInt) := fun q => c23 ((z_le (by decide : (4 : Int32).toInt = 4) rfl).mpr q)
                    refine lv_iconst (v := 0) hx hb dX8_bestSwap_52 (by decide) ?_
                    refine lv_istore (lv' := [(7, .int 0), (6, .int v6_46), (5, .int v5_46), (4, .int v4_46), (0, .ref (ad 0)), (1, .int b), (2, .int k), (3, .int wh)]) hx hb dX8_bestSwap_53 hl (by decide) rfl (fun ls hl => ?_)
                    have loop55 : ∀ (n55 : Nat) (v7_55 : Int32) (v5_55 : Int32) (v4_55 : Int32) (ct24 : Nat → va_E) (H : Heap) (locs : List Loc) (ls : Array Slot), ((8 - v7_55.toInt : Int).toNat < n55) → (0 ≤ v7_55.toInt ∧ v7_55.toInt ≤ 8) → (Inv8 g ad pe ct24) → zP g (zw 126 ad ct24) H → va_D A (zw 126 ad ct24) → va_S A s.heap H locs → lv_has ls 10 [(7, .int v7_55), (6, .int v6_46), (5, .int v5_55), (4, .int v4_55), (0, .ref (ad 0)), (1, .int b), (2, .int k), (3, .int wh)] → W p l e (headSpec (zW yX8_bestSwap cX8_bestSwap 10 (some .int)) ({ frames := 5, cells := 0, slots := 0, locals := 121 })).room s m ([.ref (ad 0), .int b, .int k, .int wh] : List Value).toArray below meth c H locs 0 0 (MQ below (va_Qi (fun (r : Int32) (_ : Unit) => (True)) (fun _ t => ∃ ct2 : Nat → va_E, zP g (zw 126 ad ct2) t.heap ∧ va_D A (zw 126 ad ct2) ∧ Inv8 g ad pe ct2) A) ([.ref (ad 0), .int b, .int k, .int wh] : List Value).toArray s 0 0 A) (F0 m 55 ls []) := by
                      intro n55
                      induction n55 with
                      | zero =>
                        intro v7_55 v5_55 v4_55 ct24 H locs ls hn55 b7_55 hI hP hD hS hl
                        exact absurd hn55 (Nat.not_lt_zero _)
                      | succ n55 ih55 =>
                        intro v7_55 v5_55 v4_55 ct24 H locs ls hn55 b7_55 hI hP hD hS hl
                        refine lv_iload hx hb dX8_bestSwap_55 (lv_at hl 0 rfl) ?_
                        refine lv_bipush (v := 8) hx hb dX8_bestSwap_57 (by decide) ?_
                        refine lv_icmp_ge (tgt := 145) hx hb dX8_bestSwap_59 (by decide) (fun c25 => ?_) (fun c25 => ?_)
                        · skip
                          have c25 : 8 ≤ v7_55.toInt := (z_le (by decide : (8 : Int32).toInt = 8) rfl).mp c25
                          obtain ⟨x26, ex26⟩ : ∃ y : Int32, y = v6_46 + 1 := ⟨_, rfl⟩
                          have tx26 : x26.toInt = v6_46.toInt + 1 := by rw [ex26]; exact z_add rfl (by decide : (1 : Int32).toInt = 1) (by omega) (by omega)
                          refine lv_iinc (v := x26) (lv' := [(6, .int x26), (7, .int v7_55), (5, .int v5_55), (4, .int v4_55), (0, .ref (ad 0)), (1, .int b), (2, .int k), (3, .int wh)]) hx hb dX8_bestSwap_145 hl (k := 1) rfl (by rw [ex26]; rfl) (by decide) rfl (fun ls hl => ?_)
                          refine lv_goto (tgt := 46) hx hb dX8_bestSwap_148 (by decide) ?_
                          exact ih46 x26 v5_55 v4_55 ct24 _ _ ls (by omega) (by first | omega | decide) hI hP hD hS (lv_sub hl [0, 2, 3, 4, 5, 6, 7] rfl)
                        · skip
                          have c25 : ¬ (8 ≤ v7_55.toInt) := fun q => c25 ((z_le (by decide : (8 : Int32).toInt = 8) rfl).mpr q)
                          refine lv_iload hx hb dX8_bestSwap_62 (lv_at hl 0 rfl) ?_
                          refine lv_iconst (v := 1) hx hb dX8_bestSwap_64 (by decide) ?_
                          refine lv_iadd hx hb dX8_bestSwap_65 ?_
                          refine lv_topi (fun x27 ex27 => ?_)
                          have tx27 : x27.toInt = v7_55.toInt + 1 := by rw [ex27]; exact z_add rfl (by decide : (1 : Int32).toInt = 1) (by omega) (by omega)
                          refine lv_istore (lv' := [(8, .int x27), (7, .int v7_55), (6, .int v6_46), (5, .int v5_55), (4, .int v4_55), (0, .ref (ad 0)), (1, .int b), (2, .int k), (3, .int wh)]) hx hb dX8_bestSwap_66 hl (by decide) rfl (fun ls hl => ?_)
                          have loop68 : ∀ (n68 : Nat) (v8_68 : Int32) (v5_68 : Int32) (v4_68 : Int32) (ct28 : Nat → va_E) (H : Heap) (locs : List Loc) (ls : Array Slot), ((8 - v8_68.toInt : Int).toNat < n68) → (0 ≤ v8_68.toInt ∧ v8_68.toInt ≤ 8) → (Inv8 g ad pe ct28) → zP g (zw 126 ad ct28) H → va_D A (zw 126 ad ct28) → va_S A s.heap H locs → lv_has ls 10 [(8, .int v8_68), (7, .int v7_55), (6, .int v6_46), (5, .int v5_68), (4, .int v4_68), (0, .ref (ad 0)), (1, .int b), (2, .int k), (3, .int wh)] → W p l e (headSpec (zW yX8_bestSwap cX8_bestSwap 10 (some .int)) ({ frames := 5, cells := 0, slots := 0, locals := 121 })).room s m ([.ref (ad 0), .int b, .int k, .int wh] : List Value).toArray below meth c H locs 0 0 (MQ below (va_Qi (fun (r : Int32) (_ : Unit) => (True)) (fun _ t => ∃ ct2 : Nat → va_E, zP g (zw 126 ad ct2) t.heap ∧ va_D A (zw 126 ad ct2) ∧ Inv8 g ad pe ct2) A) ([.ref (ad 0), .int b, .int k, .int wh] : List Value).toArray s 0 0 A) (F0 m 68 ls []) := by
                            intro n68
                            induction n68 with
                            | zero =>
                              intro v8_68 v5_68 v4_68 ct28 H locs ls hn68 b8_68 hI hP hD hS hl
                              exact absurd hn68 (Nat.not_lt_zero _)
                            | succ n68 ih68 =>
                              intro v8_68 v5_68 v4_68 ct28 H locs ls hn68 b8_68 hI hP hD hS hl
                              refine lv_iload hx hb dX8_bestSwap_68 (lv_at hl 0 rfl) ?_
                              refine lv_bipush (v := 8) hx hb dX8_bestSwap_70 (by decide) ?_
                              refine lv_icmp_ge (tgt := 139) hx hb dX8_bestSwap_72 (by decide) (fun c29 => ?_) (fun c29 => ?_)
                              · skip
                                have c29 : 8 ≤ v8_68.toInt := (z_le (by decide : (8 : Int32).toInt = 8) rfl).mp c29
                                obtain ⟨x30, ex30⟩ : ∃ y : Int32, y = v7_55 + 1 := ⟨_, rfl⟩
                                have tx30 : x30.toInt = v7_55.toInt + 1 := by rw [ex30]; exact z_add rfl (by decide : (1 : Int32).toInt = 1) (by omega) (by omega)
                                refine lv_iinc (v := x30) (lv' := [(7, .int x30), (8, .int v8_68), (6, .int v6_46), (5, .int v5_68), (4, .int v4_68), (0, .ref (ad 0)), (1, .int b), (2, .int k), (3, .int wh)]) hx hb dX8_bestSwap_139 hl (k := 1) rfl (by rw [ex30]; rfl) (by decide) rfl (fun ls hl => ?_)
                                refine lv_goto (tgt := 55) hx hb dX8_bestSwap_142 (by decide) ?_
                                exact ih55 x30 v5_68 v4_68 ct28 _ _ ls (by omega) (by first | omega | decide) hI hP hD hS (lv_sub hl [0, 2, 3, 4, 5, 6, 7, 8] rfl)
                              · skip
                                have c29 : ¬ (8 ≤ v8_68.toInt) := fun q => c29 ((z_le (by decide : (8 : Int32).toInt = 8) rfl).mpr q)
                                refine lv_aload_n hx hb dX8_bestSwap_75 rfl (lv_at hl 5 rfl) ?_
                                refine lv_iload_n hx hb dX8_bestSwap_76 rfl (lv_at hl 6 rfl) ?_
                                refine lv_iload_n hx hb dX8_bestSwap_77 rfl (lv_at hl 7 rfl) ?_
                                refine lv_iload hx hb dX8_bestSwap_78 (lv_at hl 1 rfl) ?_
                                refine lv_iload hx hb dX8_bestSwap_80 (lv_at hl 0 rfl) ?_
                                refine lv_iload hx hb dX8_bestSwap_82 (lv_at hl 2 rfl) ?_
                                obtain ⟨bk33, dr32, h34, h35, h36, hs31⟩ := a8_0 hI
                                have hFc := zw_free hD hS hA
                                refine va_calli (va_runV (As := [.int b, .int k, .int v7_55, .int v8_68, .int v6_46]) (rest := []) ⟨hx, hb, hml, hown, hg⟩ (k_X8_safeIfSwapped l g _ ad pe ct28 b k v7_55 v8_68 v6_46 (by first | omega | decide) hI) (cwV 5 hg (z_gV mm_909 mm_911 mm_47 mm_108 mm_912) rfl rfl rfl (by decide +kernel) ⟨Nat.le_of_ble_eq_true rfl, Nat.le_of_ble_eq_true rfl⟩) ⟨(zA.pre [.ref (ad 0), .int b, .int k, .int v7_55, .int v8_68, .int v6_46] hP hK hD hN).1, va_recv hK hP (ci := 8) (q0 := 0) rfl (zw_at (by omega) hs31), (zA.pre [.ref (ad 0), .int b, .int k, .int v7_55, .int v8_68, .int v6_46] hP hK hD hN).2⟩ rfl rfl hl.1 rfl (lv_room (Nat.le_of_ble_eq_true rfl)) dX8_bestSwap_84 ⟨Nat.le_of_ble_eq_true rfl, Nat.le_of_ble_eq_true rfl⟩) hS (fun q _ h => hFc q h) hFc (fun r37 _ t H1 locs ht hvm hr37 hB hz1 hk1 hS => ?_)
                                obtain ⟨ct38, hP1, hD1, hI⟩ := hB
                                rw [ht] at hP1
                                have hD := hD1.weaken (fun _ _ _ h => hFc _ h)
                                generalize H1 = H at hP1 hS ⊢
                                have hP := hP1
                                refine W.widen (k := 0) (n := 0) (Nat.le_refl _) (Nat.le_refl _) ?_
                                refine lv_istore (lv' := [(9, .int r37), (8, .int v8_68), (7, .int v7_55), (6, .int v6_46), (5, .int v5_68), (4, .int v4_68), (0, .ref (ad 0)), (1, .int b), (2, .int k), (3, .int wh)]) hx hb dX8_bestSwap_87 hl (by decide) rfl (fun ls hl => ?_)
                                refine lv_iload hx hb dX8_bestSwap_89 (lv_at hl 0 rfl) ?_
                                refine lv_iload hx hb dX8_bestSwap_91 (lv_at hl 4 rfl) ?_
                                refine lv_icmp_le (tgt := 133) hx hb dX8_bestSwap_93 (by decide) (fun c39 => ?_) (fun c39 => ?_)
                                · skip
                                  have c39 : r37.toInt ≤ v5_68.toInt := (z_le rfl rfl).mp c39
                                  obtain ⟨x40, ex40⟩ : ∃ y : Int32, y = v8_68 + 1 := ⟨_, rfl⟩
                                  have tx40 : x40.toInt = v8_68.toInt + 1 := by rw [ex40]; exact z_add rfl (by decide : (1 : Int32).toInt = 1) (by omega) (by omega)
                                  refine lv_iinc (v := x40) (lv' := [(8, .int x40), (9, .int r37), (7, .int v7_55), (6, .int v6_46), (5, .int v5_68), (4, .int v4_68), (0, .ref (ad 0)), (1, .int b), (2, .int k), (3, .int wh)]) hx hb dX8_bestSwap_133 hl (k := 1) rfl (by rw [ex40]; rfl) (by decide) rfl (fun ls hl => ?_)
                                  refine lv_goto (tgt := 68) hx hb dX8_bestSwap_136 (by decide) ?_
                                  exact ih68 x40 v5_68 v4_68 ct38 _ _ ls (by omega) (by first | omega | decide) hI hP hD hS (lv_sub hl [0, 2, 3, 4, 5, 6, 7, 8, 9] rfl)
                                · skip
                                  have c39 : ¬ (r37.toInt ≤ v5_68.toInt) := fun q => c39 ((z_le rfl rfl).mpr q)
                                  refine lv_iload hx hb dX8_bestSwap_96 (lv_at hl 0 rfl) ?_
                                  refine lv_istore (lv' := [(5, .int r37), (9, .int r37), (8, .int v8_68), (7, .int v7_55), (6, .int v6_46), (4, .int v4_68), (0, .ref (ad 0)), (1, .int b), (2, .int k), (3, .int wh)]) hx hb dX8_bestSwap_98 hl (by decide) rfl (fun ls hl => ?_)
                                  refine lv_iload_n hx hb dX8_bestSwap_100 rfl (lv_at hl 9 rfl) ?_
                                  refine lv_if_ne (tgt := 109) hx hb dX8_bestSwap_101 (by decide) (fun c41 => ?_) (fun c41 => ?_)
                                  · skip
                                    have c41 : ¬ (wh.toInt = 0) := fun q => c41 ((z_eq rfl (by decide : (0 : Int32).toInt = 0)).mpr q)
                                    refine lv_iload_n hx hb dX8_bestSwap_109 rfl (lv_at hl 9 rfl) ?_
                                    refine lv_iconst (v := 1) hx hb dX8_bestSwap_110 (by decide) ?_
                                    refine lv_icmp_ne (tgt := 119) hx hb dX8_bestSwap_111 (by decide) (fun c42 => ?_) (fun c42 => ?_)
                                    · skip
                                      have c42 : ¬ (wh.toInt = 1) := fun q => c42 ((z_eq rfl (by decide : (1 : Int32).toInt = 1)).mpr q)
                                      refine lv_iload_n hx hb dX8_bestSwap_119 rfl (lv_at hl 9 rfl) ?_
                                      refine lv_iconst (v := 2) hx hb dX8_bestSwap_120 (by decide) ?_
                                      refine lv_icmp_ne (tgt := 129) hx hb dX8_bestSwap_121 (by decide) (fun c43 => ?_) (fun c43 => ?_)
                                      · skip
                                        have c43 : ¬ (wh.toInt = 2) := fun q => c43 ((z_eq rfl (by decide : (2 : Int32).toInt = 2)).mpr q)
                                        refine lv_iload hx hb dX8_bestSwap_129 (lv_at hl 1 rfl) ?_
                                        refine lv_istore (lv' := [(4, .int r37), (5, .int r37), (9, .int r37), (8, .int v8_68), (7, .int v7_55), (6, .int v6_46), (0, .ref (ad 0)), (1, .int b), (2, .int k), (3, .int wh)]) hx hb dX8_bestSwap_131 hl (by decide) rfl (fun ls hl => ?_)
                                        obtain ⟨x44, ex44⟩ : ∃ y : Int32, y = v8_68 + 1 := ⟨_, rfl⟩
                                        have tx44 : x44.toInt = v8_68.toInt + 1 := by rw [ex44]; exact z_add rfl (by decide : (1 : Int32).toInt = 1) (by omega) (by omega)
                                        refine lv_iinc (v := x44) (lv' := [(8, .int x44), (4, .int r37), (5, .int r37), (9, .int r37), (7, .int v7_55), (6, .int v6_46), (0, .ref (ad 0)), (1, .int b), (2, .int k), (3, .int wh)]) hx hb dX8_bestSwap_133 hl (k := 3) rfl (by rw [ex44]; rfl) (by decide) rfl (fun ls hl => ?_)
                                        refine lv_goto (tgt := 68) hx hb dX8_bestSwap_136 (by decide) ?_
                                        exact ih68 x44 r37 r37 ct38 _ _ ls (by omega) (by first | omega | decide) hI hP hD hS (lv_sub hl [0, 4, 5, 2, 1, 6, 7, 8, 9] rfl)
                                      · skip
                                        have c43 : wh.toInt = 2 := (z_eq rfl (by decide : (2 : Int32).toInt = 2)).mp c43
                                        refine lv_iload hx hb dX8_bestSwap_124 (lv_at hl 2 rfl) ?_
                                        refine lv_goto (tgt := 131) hx hb dX8_bestSwap_126 (by decide) ?_
                                        refine lv_istore (lv' := [(4, .int v8_68), (5, .int r37), (9, .int r37), (8, .int v8_68), (7, .int v7_55), (6, .int v6_46), (0, .ref (ad 0)), (1, .int b), (2, .int k), (3, .int wh)]) hx hb dX8_bestSwap_131 hl (by decide) rfl (fun ls hl => ?_)
                                        obtain ⟨x45, ex45⟩ : ∃ y : Int32, y = v8_68 + 1 := ⟨_, rfl⟩
                                        have tx45 : x45.toInt = v8_68.toInt + 1 := by rw [ex45]; exact z_add rfl (by decide : (1 : Int32).toInt = 1) (by omega) (by omega)
                                        refine lv_iinc (v := x45) (lv' := [(8, .int x45), (4, .int v8_68), (5, .int r37), (9, .int r37), (7, .int v7_55), (6, .int v6_46), (0, .ref (ad 0)), (1, .int b), (2, .int k), (3, .int wh)]) hx hb dX8_bestSwap_133 hl (k := 3) rfl (by rw [ex45]; rfl) (by decide) rfl (fun ls hl => ?_)
                                        refine lv_goto (tgt := 68) hx hb dX8_bestSwap_136 (by decide) ?_
                                        exact ih68 x45 r37 v8_68 ct38 _ _ ls (by omega) (by first | omega | decide) hI hP hD hS (lv_sub hl [0, 4, 5, 2, 1, 6, 7, 8, 9] rfl)
                                    · skip
                                      have c42 : wh.toInt = 1 := (z_eq rfl (by decide : (1 : Int32).toInt = 1)).mp c42
                                      refine lv_iload hx hb dX8_bestSwap_114 (lv_at hl 3 rfl) ?_
                                      refine lv_goto (tgt := 131) hx hb dX8_bestSwap_116 (by decide) ?_
                                      refine lv_istore (lv' := [(4, .int v7_55), (5, .int r37), (9, .int r37), (8, .int v8_68), (7, .int v7_55), (6, .int v6_46), (0, .ref (ad 0)), (1, .int b), (2, .int k), (3, .int wh)]) hx hb dX8_bestSwap_131 hl (by decide) rfl (fun ls hl => ?_)
                                      obtain ⟨x46, ex46⟩ : ∃ y : Int32, y = v8_68 + 1 := ⟨_, rfl⟩
                                      have tx46 : x46.toInt = v8_68.toInt + 1 := by rw [ex46]; exact z_add rfl (by decide : (1 : Int32).toInt = 1) (by omega) (by omega)
                                      refine lv_iinc (v := x46) (lv' := [(8, .int x46), (4, .int v7_55), (5, .int r37), (9, .int r37), (7, .int v7_55), (6, .int v6_46), (0, .ref (ad 0)), (1, .int b), (2, .int k), (3, .int wh)]) hx hb dX8_bestSwap_133 hl (k := 3) rfl (by rw [ex46]; rfl) (by decide) rfl (fun ls hl => ?_)
                                      refine lv_goto (tgt := 68) hx hb dX8_bestSwap_136 (by decide) ?_
                                      exact ih68 x46 r37 v7_55 ct38 _ _ ls (by omega) (by first | omega | decide) hI hP hD hS (lv_sub hl [0, 4, 5, 2, 1, 6, 7, 8, 9] rfl)
                                  · skip
                                    have c41 : wh.toInt = 0 := (z_eq rfl (by decide : (0 : Int32).toInt = 0)).mp c41
                                    refine lv_iload hx hb dX8_bestSwap_104 (lv_at hl 4 rfl) ?_
                                    refine lv_goto (tgt := 131) hx hb dX8_bestSwap_106 (by decide) ?_
                                    refine lv_istore (lv' := [(4, .int v6_46), (5, .int r37), (9, .int r37), (8, .int v8_68), (7, .int v7_55), (6, .int v6_46), (0, .ref (ad 0)), (1, .int b), (2, .int k), (3, .int wh)]) hx hb dX8_bestSwap_131 hl (by decide) rfl (fun ls hl => ?_)
                                    obtain ⟨x47, ex47⟩ : ∃ y : Int32, y = v8_68 + 1 := ⟨_, rfl⟩
                                    have tx47 : x47.toInt = v8_68.toInt + 1 := by rw [ex47]; exact z_add rfl (by decide : (1 : Int32).toInt = 1) (by omega) (by omega)
                                    refine lv_iinc (v := x47) (lv' := [(8, .int x47), (4, .int v6_46), (5, .int r37), (9, .int r37), (7, .int v7_55), (6, .int v6_46), (0, .ref (ad 0)), (1, .int b), (2, .int k), (3, .int wh)]) hx hb dX8_bestSwap_133 hl (k := 3) rfl (by rw [ex47]; rfl) (by decide) rfl (fun ls hl => ?_)
                                    refine lv_goto (tgt := 68) hx hb dX8_bestSwap_136 (by decide) ?_
                                    exact ih68 x47 r37 v6_46 ct38 _ _ ls (by omega) (by first | omega | decide) hI hP hD hS (lv_sub hl [0, 4, 5, 2, 1, 6, 7, 8, 9] rfl)
                          exact loop68 ((8 - x27.toInt : Int).toNat + 1) x27 v5_55 v4_55 ct24 _ _ ls (by omega) (by first | omega | decide) hI hP hD hS (lv_sub hl [0, 1, 2, 3, 4, 5, 6, 7, 8] rfl)
                    exact loop55 ((8 - (0 : Int32).toInt : Int).toNat + 1) (0 : Int32) v5_46 v4_46 ct22 _ _ ls (by omega) (by first | omega | decide) hI hP hD hS (lv_sub hl [0, 1, 2, 3, 4, 5, 6, 7] rfl)
              exact loop46 ((4 - (0 : Int32).toInt : Int).toNat + 1) (0 : Int32) (-1 : Int32) (-2 : Int32) ct21 _ _ ls (by omega) (by first | omega | decide) hI hP hD hS (lv_sub hl [0, 1, 2, 3, 4, 5, 6] rfl)
            · skip
              exact absurd c18 (by decide)
          · skip
            obtain ⟨rfl, h48⟩ := hr15
            have h48 : ¬ ((0 : Int) ≤ wh.toInt ∧ wh.toInt ≤ (3 : Int)) := h48
            refine lv_if_ne (tgt := 26) hx hb dX8_bestSwap_21 (by decide) (fun c49 => ?_) (fun c49 => ?_)
            · skip
              exact absurd c49 (by decide)
            · skip
              refine lv_iconst (v := (-1)) hx hb dX8_bestSwap_24 (by decide) ?_
              have q50 : ((-1) : Int32).toInt = -1 := by decide
              exact W.iret (v := (-1)) hx hb hr (fun t ht hW => ⟨⟨(-1), (), rfl, trivial, ct, by rw [ht]; exact hP, hD, hI⟩, hS.F ht⟩) hS.2.2 dX8_bestSwap_25
      · skip
        obtain ⟨rfl, h51⟩ := hr11
        have h51 : ¬ (1 ≤ k.toInt ∧ k.toInt ≤ 16) := h51
        refine lv_if_eq (tgt := 24) hx hb dX8_bestSwap_12 (by decide) (fun c52 => ?_) (fun c52 => ?_)
        · skip
          refine lv_iconst (v := (-1)) hx hb dX8_bestSwap_24 (by decide) ?_
          have q53 : ((-1) : Int32).toInt = -1 := by decide
          exact W.iret (v := (-1)) hx hb hr (fun t ht hW => ⟨⟨(-1), (), rfl, trivial, ct, by rw [ht]; exact hP, hD, hI⟩, hS.F ht⟩) hS.2.2 dX8_bestSwap_25
        · skip
          exact absurd c52 (by decide)
  · skip
    obtain rfl := hr7
    refine lv_if_eq (tgt := 24) hx hb dX8_bestSwap_5 (by decide) (fun c54 => ?_) (fun c54 => ?_)
    · skip
      refine lv_iconst (v := (-1)) hx hb dX8_bestSwap_24 (by decide) ?_
      have q55 : ((-1) : Int32).toInt = -1 := by decide
      exact W.iret (v := (-1)) hx hb hr (fun t ht hW => ⟨⟨(-1), (), rfl, trivial, ct, by rw [ht]; exact hP, hD, hI⟩, hS.F ht⟩) hS.2.2 dX8_bestSwap_25
    · skip
      exact absurd c54 (by decide)

set_option maxHeartbeats 4000000 in
set_option maxRecDepth 100000 in
theorem k_X8_firstBared (l : Launch) (g : zG) (sz : Nat) (ad : Nat → Nat) (pe : Int32) (ct : Nat → va_E) (b : Int32) (k : Int32) (hl_b : 0 ≤ b.toInt ∧ b.toInt ≤ 3) (hI : Inv8 g ad pe ct) : Met l yX8_firstBared (zW yX8_firstBared cX8_firstBared 3 (some .int)) ({ frames := 5, cells := 0, slots := 0, locals := 117 }) (va_Pc [.ref (ad 0), .int b, .int k] (zA g (zw 126 ad ct) sz)) (va_Qi (fun (r : Int32) (_ : Unit) => ((-1 ≤ r.toInt) ∧ (r.toInt ≤ 7))) (fun _ t => ∃ ct2 : Nat → va_E, zP g (zw 126 ad ct2) t.heap ∧ va_D (va_A (zw 126 ad ct) sz) (zw 126 ad ct2) ∧ Inv8 g ad pe ct2) (va_A (zw 126 ad ct) sz)) 0 0 (va_A (zw 126 ad ct) sz) := by
  refine Met.ofW (cc := cX8_firstBared) (maxL := 3) (ret := (some .int)) (by decide) rfl ?_
  intro p e s m args below meth c s₁ B hml hv
  obtain ⟨rfl, hsz, hP, hK, hD0, hN⟩ := hv
  have hx := B.exec
  have hb := B.bytes
  have hr := B.returns
  have hg := zW.law (atoms_spec (ws := (zW yX8_firstBared cX8_firstBared 3 (some .int))) B.pre)
  have hown : s.vm.findClass RX8 = some m.cls := findClass_of_methodNamed B.named
  have hlocks := B.notSynchronized
  have hpe0 := hI.1
  subst hsz
  have hD := hD0.self (sz := s.heap.size)
  generalize hAe : va_A (zw 126 ad ct) s.heap.size = A at hD ⊢
  have hA : ∀ q : Nat, s.heap.size ≤ q → A q := fun q h => by rw [← hAe]; exact Or.inr h
  have hS : va_S A s.heap s.heap [] := va_S.rf
  have hl := lv_entry ([.ref (ad 0), .int b, .int k]) (n := 3) (Nat.le_of_ble_eq_true rfl)
  rw [lg_entry_eq]
  generalize (lg_sl ([.ref (ad 0), .int b, .int k]) ++ List.replicate (3 - (lg_sl ([.ref (ad 0), .int b, .int k])).length) Slot.unset).toArray = ls at hl ⊢
  have hl : lv_has ls 3 [(0, .ref (ad 0)), (1, .int b), (2, .int k)] := hl
  have rg_k := z_rng k
  refine lv_aload_n hx hb dX8_firstBared_0 rfl (lv_at hl 0 rfl) ?_
  refine lv_iload_n hx hb dX8_firstBared_1 rfl (lv_at hl 1 rfl) ?_
  refine lv_iconst (v := 1) hx hb dX8_firstBared_2 (by decide) ?_
  refine lv_iload_n hx hb dX8_firstBared_3 rfl (lv_at hl 1 rfl) ?_
  refine lv_ishl hx hb dX8_firstBared_4 ?_
  refine lv_topi (fun x1 ex1 => ?_)
  have tx1 := z_shl1 (y := b) rfl (by omega) (k := 3) (by decide) (by omega)
  rw [← ex1] at tx1
  obtain ⟨bk4, dr3, h5, h6, h7, hs2⟩ := a8_0 hI
  have hFc := zw_free hD hS hA
  refine va_callv (va_runV (As := [.int b, .int x1]) (rest := []) ⟨hx, hb, hml, hown, hg⟩ (k_X8_layOut l g _ ad pe ct b x1 hI) (cwV 2 hg (z_gV mm_667 mm_669 mm_24 mm_108 mm_670) rfl rfl rfl (by decide +kernel) ⟨Nat.le_of_ble_eq_true rfl, Nat.le_of_ble_eq_true rfl⟩) ⟨(zA.pre [.ref (ad 0), .int b, .int x1] hP hK hD hN).1, va_recv hK hP (ci := 8) (q0 := 0) rfl (zw_at (by omega) hs2), (zA.pre [.ref (ad 0), .int b, .int x1] hP hK hD hN).2⟩ rfl rfl hl.1 rfl (lv_room (Nat.le_of_ble_eq_true rfl)) dX8_firstBared_5 ⟨Nat.le_of_ble_eq_true rfl, Nat.le_of_ble_eq_true rfl⟩) hS (fun q _ h => hFc q h) hFc (fun _ t H1 locs ht hvm hr8 hB hz1 hk1 hS => ?_)
  obtain ⟨ct9, hP1, hD1, hI⟩ := hB
  rw [ht] at hP1
  have hD := hD1.weaken (fun _ _ _ h => hFc _ h)
  generalize H1 = H at hP1 hS ⊢
  have hP := hP1
  refine W.widen (k := 0) (n := 0) (Nat.le_refl _) (Nat.le_refl _) ?_
  refine lv_aload_n hx hb dX8_firstBared_8 rfl (lv_at hl 0 rfl) ?_
  refine lv_iload_n hx hb dX8_firstBared_9 rfl (lv_at hl 1 rfl) ?_
  refine lv_iconst (v := 0) hx hb dX8_firstBared_10 (by decide) ?_
  obtain ⟨bk12, dr11, h13, h14, h15, hs10⟩ := a8_0 hI
  have hFc := zw_free hD hS hA
  refine va_callv (va_runV (As := [.int b, .int 0]) (rest := []) ⟨hx, hb, hml, hown, hg⟩ (k_X8_fitLaid l g _ ad pe ct9 b (0 : Int32) (by first | omega | decide) hI) (cwV 2 hg (z_gV mm_675 mm_677 mm_25 mm_108 mm_678) rfl rfl rfl (by decide +kernel) ⟨Nat.le_of_ble_eq_true rfl, Nat.le_of_ble_eq_true rfl⟩) ⟨(zA.pre [.ref (ad 0), .int b, .int 0] hP hK hD hN).1, va_recv hK hP (ci := 8) (q0 := 0) rfl (zw_at (by omega) hs10), (zA.pre [.ref (ad 0), .int b, .int 0] hP hK hD hN).2⟩ rfl rfl hl.1 rfl (lv_room (Nat.le_of_ble_eq_true rfl)) dX8_firstBared_11 ⟨Nat.le_of_ble_eq_true rfl, Nat.le_of_ble_eq_true rfl⟩) hS (fun q _ h => hFc q h) hFc (fun _ t H1 locs ht hvm hr16 hB hz1 hk1 hS => ?_)
  obtain ⟨ct17, hP1, hD1, hI⟩ := hB
  rw [ht] at hP1
  have hD := hD1.weaken (fun _ _ _ h => hFc _ h)
  generalize H1 = H at hP1 hS ⊢
  have hP := hP1
  refine W.widen (k := 0) (n := 0) (Nat.le_refl _) (Nat.le_refl _) ?_
  refine lv_aload_n hx hb dX8_firstBared_14 rfl (lv_at hl 0 rfl) ?_
  refine lv_iload_n hx hb dX8_firstBared_15 rfl (lv_at hl 1 rfl) ?_
  refine lv_iload_n hx hb dX8_firstBared_16 rfl (lv_at hl 2 rfl) ?_
  obtain ⟨bk20, dr19, h21, h22, h23, hs18⟩ := a8_0 hI
  have hFc := zw_free hD hS hA
  refine va_calli (va_runV (As := [.int b, .int k]) (rest := []) ⟨hx, hb, hml, hown, hg⟩ (k_X8_safeLines l g _ ad pe ct17 b k (by first | omega | decide) hI) (cwV 2 hg (z_gV mm_775 mm_777 mm_31 mm_108 mm_778) rfl rfl rfl (by decide +kernel) ⟨Nat.le_of_ble_eq_true rfl, Nat.le_of_ble_eq_true rfl⟩) ⟨(zA.pre [.ref (ad 0), .int b, .int k] hP hK hD hN).1, va_recv hK hP (ci := 8) (q0 := 0) rfl (zw_at (by omega) hs18), (zA.pre [.ref (ad 0), .int b, .int k] hP hK hD hN).2⟩ rfl rfl hl.1 rfl (lv_room (Nat.le_of_ble_eq_true rfl)) dX8_firstBared_17 ⟨Nat.le_of_ble_eq_true rfl, Nat.le_of_ble_eq_true rfl⟩) hS (fun q _ h => hFc q h) hFc (fun r24 _ t H1 locs ht hvm hr24 hB hz1 hk1 hS => ?_)
  obtain ⟨ct25, hP1, hD1, hI⟩ := hB
  rw [ht] at hP1
  have hD := hD1.weaken (fun _ _ _ h => hFc _ h)
  generalize H1 = H at hP1 hS ⊢
  have hP := hP1
  refine W.widen (k := 0) (n := 0) (Nat.le_refl _) (Nat.le_refl _) ?_
  refine lv_aload_n hx hb dX8_firstBared_20 rfl (lv_at hl 0 rfl) ?_
  obtain ⟨bk28, dr27, h29, h30, h31, hs26⟩ := a8_0 hI
  refine va_get (D := g.1) (ci := 8) (v := .ref (ad 5)) (C := RX8) (T := TX8) (N := 13) hx hb hg inG8 hown hK hP 0 (zw_at (by omega) hs26) rfl 3 (by decide) (hg _ mm_363) (fun _ h9 => h9) rfl dX8_firstBared_21 ?_
  refine lv_iload_n hx hb dX8_firstBared_24 rfl (lv_at hl 1 rfl) ?_
  have hs32 := a8_5 hI
  refine va_aldq hx hb hK hP 5 5 (zw_at (by omega) hs32) rfl (z_in rfl (by omega) (by omega)) dX8_firstBared_25 ?_
  rw [zF5_at (x := b) (by omega) (by omega)]
  obtain ⟨lns34, liv35, shw36, h37, h38, h39, h40, hz41, hs33⟩ := a8_40 (kc := (0 + 55 + 11 * b.toInt.toNat)) (by omega) hI
  have bhz41 := z_b01 hz41
  refine va_get (D := g.1) (ci := 2) (v := .int liv35) (C := RX2) (T := TX2) (N := 5) hx hb hg inG2 hown hK hP (0 + 55 + 11 * b.toInt.toNat) (zw_at (by omega) hs33) rfl 1 (by decide) (hg _ mm_344) (fun _ h9 => h9) rfl dX8_firstBared_26 ?_
  refine lv_icmp_eq (tgt := 34) hx hb dX8_firstBared_29 (by decide) (fun c42 => ?_) (fun c42 => ?_)
  · skip
    have c42 : r24.toInt = liv35.toInt := (z_eq rfl rfl).mp c42
    refine lv_aload_n hx hb dX8_firstBared_34 rfl (lv_at hl 0 rfl) ?_
    refine lv_iload_n hx hb dX8_firstBared_35 rfl (lv_at hl 1 rfl) ?_
    refine lv_iconst (v := 0) hx hb dX8_firstBared_36 (by decide) ?_
    have hFc := zw_free hD hS hA
    refine va_callv (va_runV (As := [.int b, .int 0]) (rest := []) ⟨hx, hb, hml, hown, hg⟩ (k_X8_fit l g _ ad pe ct25 b (0 : Int32) (by first | omega | decide) hI) (cwV 2 hg (z_gV mm_655 mm_657 mm_21 mm_108 mm_658) rfl rfl rfl (by decide +kernel) ⟨Nat.le_of_ble_eq_true rfl, Nat.le_of_ble_eq_true rfl⟩) ⟨(zA.pre [.ref (ad 0), .int b, .int 0] hP hK hD hN).1, va_recv hK hP (ci := 8) (q0 := 0) rfl (zw_at (by omega) hs26), (zA.pre [.ref (ad 0), .int b, .int 0] hP hK hD hN).2⟩ rfl rfl hl.1 rfl (lv_room (Nat.le_of_ble_eq_true rfl)) dX8_firstBared_37 ⟨Nat.le_of_ble_eq_true rfl, Nat.le_of_ble_eq_true rfl⟩) hS (fun q _ h => hFc q h) hFc (fun _ t H1 locs ht hvm hr43 hB hz1 hk1 hS => ?_)
    obtain ⟨ct44, hP1, hD1, hI⟩ := hB
    rw [ht] at hP1
    have hD := hD1.weaken (fun _ _ _ h => hFc _ h)
    generalize H1 = H at hP1 hS ⊢
    have hP := hP1
    refine W.widen (k := 0) (n := 0) (Nat.le_refl _) (Nat.le_refl _) ?_
    refine lv_aload_n hx hb dX8_firstBared_40 rfl (lv_at hl 0 rfl) ?_
    obtain ⟨bk47, dr46, h48, h49, h50, hs45⟩ := a8_0 hI
    refine va_get (D := g.1) (ci := 8) (v := .ref (ad 5)) (C := RX8) (T := TX8) (N := 13) hx hb hg inG8 hown hK hP 0 (zw_at (by omega) hs45) rfl 3 (by decide) (hg _ mm_363) (fun _ h9 => h9) rfl dX8_firstBared_41 ?_
    refine lv_iload_n hx hb dX8_firstBared_44 rfl (lv_at hl 1 rfl) ?_
    have hs51 := a8_5 hI
    refine va_aldq hx hb hK hP 5 5 (zw_at (by omega) hs51) rfl (z_in rfl (by omega) (by omega)) dX8_firstBared_45 ?_
    rw [zF5_at (x := b) (by omega) (by omega)]
    obtain ⟨lns53, liv54, shw55, h56, h57, h58, h59, hz60, hs52⟩ := a8_40 (kc := (0 + 55 + 11 * b.toInt.toNat)) (by omega) hI
    have bhz60 := z_b01 hz60
    refine va_get (D := g.1) (ci := 2) (v := .int liv54) (C := RX2) (T := TX2) (N := 5) hx hb hg inG2 hown hK hP (0 + 55 + 11 * b.toInt.toNat) (zw_at (by omega) hs52) rfl 1 (by decide) (hg _ mm_344) (fun _ h9 => h9) rfl dX8_firstBared_46 ?_
    refine lv_aload_n hx hb dX8_firstBared_49 rfl (lv_at hl 0 rfl) ?_
    refine lv_iload_n hx hb dX8_firstBared_50 rfl (lv_at hl 1 rfl) ?_
    refine lv_iload_n hx hb dX8_firstBared_51 rfl (lv_at hl 2 rfl) ?_
    have hFc := zw_free hD hS hA
    refine va_calli (va_runV (As := [.int b, .int k]) (rest := [.int liv54]) ⟨hx, hb, hml, hown, hg⟩ (k_X8_safeLines l g _ ad pe ct44 b k (by first | omega | decide) hI) (cwV 2 hg (z_gV mm_775 mm_777 mm_31 mm_108 mm_778) rfl rfl rfl (by decide +kernel) ⟨Nat.le_of_ble_eq_true rfl, Nat.le_of_ble_eq_true rfl⟩) ⟨(zA.pre [.ref (ad 0), .int b, .int k] hP hK hD hN).1, va_recv hK hP (ci := 8) (q0 := 0) rfl (zw_at (by omega) hs45), (zA.pre [.ref (ad 0), .int b, .int k] hP hK hD hN).2⟩ rfl rfl hl.1 rfl (lv_room (Nat.le_of_ble_eq_true rfl)) dX8_firstBared_52 ⟨Nat.le_of_ble_eq_true rfl, Nat.le_of_ble_eq_true rfl⟩) hS (fun q _ h => hFc q h) hFc (fun r61 _ t H1 locs ht hvm hr61 hB hz1 hk1 hS => ?_)
    obtain ⟨ct62, hP1, hD1, hI⟩ := hB
    rw [ht] at hP1
    have hD := hD1.weaken (fun _ _ _ h => hFc _ h)
    generalize H1 = H at hP1 hS ⊢
    have hP := hP1
    refine W.widen (k := 0) (n := 0) (Nat.le_refl _) (Nat.le_refl _) ?_
    refine lv_iconst (v := (-1)) hx hb dX8_firstBared_55 (by decide) ?_
    refine lv_ixor hx hb dX8_firstBared_56 ?_
    refine lv_topi (fun x63 ex63 => ?_)
    refine lv_iand hx hb dX8_firstBared_57 ?_
    refine lv_topi (fun x64 ex64 => ?_)
    have tx64 := z_andl (x := liv54) (y := x63) rfl (by omega)
    rw [← ex64] at tx64
    refine zc_i (va_runS (As := [.int x64]) (rest := []) ⟨hx, hb, hml, hown, hg⟩ (k_low8 l g ad pe ct62 x64 (by first | omega | decide) hI) (va_cwS 1 hg (z_gS mm_794 mm_745 mm_108 mm_746) rfl rfl rfl (by decide +kernel) ⟨Nat.le_of_ble_eq_true rfl, Nat.le_of_ble_eq_true rfl⟩) (zR.pre [.int x64] hP hK hN) rfl rfl hl.1 rfl (lv_room (Nat.le_of_ble_eq_true rfl)) dX8_firstBared_58 ⟨Nat.le_of_ble_eq_true rfl, Nat.le_of_ble_eq_true rfl⟩) (fun r65 hr65 => ?_)
    obtain ⟨hr65_0, hr65_1⟩ := hr65
    have hr65_0 : -1 ≤ r65.toInt := hr65_0
    have hr65_1 : r65.toInt ≤ 7 := hr65_1
    exact W.iret (v := r65) hx hb hr (fun t ht hW => ⟨⟨r65, (), rfl, ⟨by first | omega | decide, by first | omega | decide⟩, ct62, by rw [ht]; exact hP, hD, hI⟩, hS.F ht⟩) hS.2.2 dX8_firstBared_61
  · skip
    have c42 : ¬ (r24.toInt = liv35.toInt) := fun q => c42 ((z_eq rfl rfl).mpr q)
    refine lv_iconst (v := (-1)) hx hb dX8_firstBared_32 (by decide) ?_
    have q66 : ((-1) : Int32).toInt = -1 := by decide
    exact W.iret (v := (-1)) hx hb hr (fun t ht hW => ⟨⟨(-1), (), rfl, ⟨by first | omega | decide, by first | omega | decide⟩, ct25, by rw [ht]; exact hP, hD, hI⟩, hS.F ht⟩) hS.2.2 dX8_firstBared_33

set_option maxHeartbeats 4000000 in
set_option maxRecDepth 100000 in
theorem k_X8_together (l : Launch) (g : zG) (sz : Nat) (ad : Nat → Nat) (pe : Int32) (ct : Nat → va_E) (k : Int32) (wh : Int32) (hI : Inv8 g ad pe ct) : Met l yX8_together (zW yX8_together cX8_together 5 (some .int)) ({ frames := 6, cells := 0, slots := 0, locals := 139 }) (va_Pc [.ref (ad 0), .int k, .int wh] (zA g (zw 126 ad ct) sz)) (va_Qi (fun (r : Int32) (_ : Unit) => (True)) (fun _ t => ∃ ct2 : Nat → va_E, zP g (zw 126 ad ct2) t.heap ∧ va_D (va_A (zw 126 ad ct) sz) (zw 126 ad ct2) ∧ Inv8 g ad pe ct2) (va_A (zw 126 ad ct) sz)) 0 0 (va_A (zw 126 ad ct) sz) := by
  refine Met.ofW (cc := cX8_together) (maxL := 5) (ret := (some .int)) (by decide) rfl ?_
  intro p e s m args below meth c s₁ B hml hv
  obtain ⟨rfl, hsz, hP, hK, hD0, hN⟩ := hv
  have hx := B.exec
  have hb := B.bytes
  have hr := B.returns
  have hg := zW.law (atoms_spec (ws := (zW yX8_together cX8_together 5 (some .int))) B.pre)
  have hown : s.vm.findClass RX8 = some m.cls := findClass_of_methodNamed B.named
  have hlocks := B.notSynchronized
  have hpe0 := hI.1
  subst hsz
  have hD := hD0.self (sz := s.heap.size)
  generalize hAe : va_A (zw 126 ad ct) s.heap.size = A at hD ⊢
  have hA : ∀ q : Nat, s.heap.size ≤ q → A q := fun q h => by rw [← hAe]; exact Or.inr h
  have hS : va_S A s.heap s.heap [] := va_S.rf
  have hl := lv_entry ([.ref (ad 0), .int k, .int wh]) (n := 5) (Nat.le_of_ble_eq_true rfl)
  rw [lg_entry_eq]
  generalize (lg_sl ([.ref (ad 0), .int k, .int wh]) ++ List.replicate (5 - (lg_sl ([.ref (ad 0), .int k, .int wh])).length) Slot.unset).toArray = ls at hl ⊢
  have hl : lv_has ls 5 [(0, .ref (ad 0)), (1, .int k), (2, .int wh)] := hl
  have rg_k := z_rng k
  have rg_wh := z_rng wh
  refine lv_iload_n hx hb dX8_together_0 rfl (lv_at hl 1 rfl) ?_
  refine zc_i (va_runS (As := [.int k]) (rest := []) ⟨hx, hb, hml, hown, hg⟩ (k_X8_isBar l g ad pe ct k hI) (va_cwS 1 hg (z_gS mm_772 mm_773 mm_108 mm_774) rfl rfl rfl (by decide +kernel) ⟨Nat.le_of_ble_eq_true rfl, Nat.le_of_ble_eq_true rfl⟩) (zR.pre [.int k] hP hK hN) rfl rfl hl.1 rfl (lv_room (Nat.le_of_ble_eq_true rfl)) dX8_together_1 ⟨Nat.le_of_ble_eq_true rfl, Nat.le_of_ble_eq_true rfl⟩) (fun r1 hr1 => ?_)
  rcases hr1 with hr1 | hr1
  · skip
    obtain ⟨rfl, h2, h3⟩ := hr1
    have h2 : 1 ≤ k.toInt := h2
    have h3 : k.toInt ≤ 16 := h3
    refine lv_if_eq (tgt := 16) hx hb dX8_together_4 (by decide) (fun c4 => ?_) (fun c4 => ?_)
    · skip
      exact absurd c4 (by decide)
    · skip
      refine lv_iload_n hx hb dX8_together_7 rfl (lv_at hl 2 rfl) ?_
      refine lv_iconst (v := 0) hx hb dX8_together_8 (by decide) ?_
      refine lv_iconst (v := 2) hx hb dX8_together_9 (by decide) ?_
      refine zc_i (va_runS (As := [.int wh, .int 0, .int 2]) (rest := []) ⟨hx, hb, hml, hown, hg⟩ (k_X8_within l g ad pe ct wh (0 : Int32) (2 : Int32) hI) (va_cwS 3 hg (z_gS mm_407 mm_408 mm_108 mm_409) rfl rfl rfl (by decide +kernel) ⟨Nat.le_of_ble_eq_true rfl, Nat.le_of_ble_eq_true rfl⟩) (zR.pre [.int wh, .int 0, .int 2] hP hK hN) rfl rfl hl.1 rfl (lv_room (Nat.le_of_ble_eq_true rfl)) dX8_together_10 ⟨Nat.le_of_ble_eq_true rfl, Nat.le_of_ble_eq_true rfl⟩) (fun r5 hr5 => ?_)
      rcases hr5 with hr5 | hr5
      · skip
        obtain ⟨rfl, h6, h7⟩ := hr5
        have h6 : (0 : Int) ≤ wh.toInt := h6
        have h7 : wh.toInt ≤ (2 : Int) := h7
        refine lv_if_ne (tgt := 18) hx hb dX8_together_13 (by decide) (fun c8 => ?_) (fun c8 => ?_)
        · skip
          refine lv_iconst (v := 0) hx hb dX8_together_18 (by decide) ?_
          refine lv_istore_n (lv' := [(3, .int 0), (0, .ref (ad 0)), (1, .int k), (2, .int wh)]) hx hb dX8_together_19 rfl hl (by decide) rfl (fun ls hl => ?_)
          have loop20 : ∀ (n20 : Nat) (v3_20 : Int32) (ct9 : Nat → va_E) (H : Heap) (locs : List Loc) (ls : Array Slot), ((4 - v3_20.toInt : Int).toNat < n20) → (0 ≤ v3_20.toInt ∧ v3_20.toInt ≤ 4) → (Inv8 g ad pe ct9) → zP g (zw 126 ad ct9) H → va_D A (zw 126 ad ct9) → va_S A s.heap H locs → lv_has ls 5 [(3, .int v3_20), (0, .ref (ad 0)), (1, .int k), (2, .int wh)] → W p l e (headSpec (zW yX8_together cX8_together 5 (some .int)) ({ frames := 6, cells := 0, slots := 0, locals := 139 })).room s m ([.ref (ad 0), .int k, .int wh] : List Value).toArray below meth c H locs 0 0 (MQ below (va_Qi (fun (r : Int32) (_ : Unit) => (True)) (fun _ t => ∃ ct2 : Nat → va_E, zP g (zw 126 ad ct2) t.heap ∧ va_D A (zw 126 ad ct2) ∧ Inv8 g ad pe ct2) A) ([.ref (ad 0), .int k, .int wh] : List Value).toArray s 0 0 A) (F0 m 20 ls []) := by
            intro n20
            induction n20 with
            | zero =>
              intro v3_20 ct9 H locs ls hn20 b3_20 hI hP hD hS hl
              exact absurd hn20 (Nat.not_lt_zero _)
            | succ n20 ih20 =>
              intro v3_20 ct9 H locs ls hn20 b3_20 hI hP hD hS hl
              refine lv_iload_n hx hb dX8_together_20 rfl (lv_at hl 0 rfl) ?_
              refine lv_aload_n hx hb dX8_together_21 rfl (lv_at hl 1 rfl) ?_
              obtain ⟨bk12, dr11, h13, h14, h15, hs10⟩ := a8_0 hI
              refine va_get (D := g.1) (ci := 8) (v := .int bk12) (C := RX8) (T := TX8) (N := 13) hx hb hg inG8 hown hK hP 0 (zw_at (by omega) hs10) rfl 12 (by decide) (hg _ mm_372) (fun _ h9 => h9) rfl dX8_together_22 ?_
              refine lv_icmp_ge (tgt := 93) hx hb dX8_together_25 (by decide) (fun c16 => ?_) (fun c16 => ?_)
              · skip
                have c16 : bk12.toInt ≤ v3_20.toInt := (z_le rfl rfl).mp c16
                refine lv_bipush (v := (-2)) hx hb dX8_together_93 (by decide) ?_
                have q17 : ((-2) : Int32).toInt = -2 := by decide
                exact W.iret (v := (-2)) hx hb hr (fun t ht hW => ⟨⟨(-2), (), rfl, trivial, ct9, by rw [ht]; exact hP, hD, hI⟩, hS.F ht⟩) hS.2.2 dX8_together_95
              · skip
                have c16 : ¬ (bk12.toInt ≤ v3_20.toInt) := fun q => c16 ((z_le rfl rfl).mpr q)
                refine lv_aload_n hx hb dX8_together_28 rfl (lv_at hl 1 rfl) ?_
                refine va_get (D := g.1) (ci := 8) (v := .ref (ad 5)) (C := RX8) (T := TX8) (N := 13) hx hb hg inG8 hown hK hP 0 (zw_at (by omega) hs10) rfl 3 (by decide) (hg _ mm_363) (fun _ h9 => h9) rfl dX8_together_29 ?_
                refine lv_iload_n hx hb dX8_together_32 rfl (lv_at hl 0 rfl) ?_
                have hs18 := a8_5 hI
                refine va_aldq hx hb hK hP 5 5 (zw_at (by omega) hs18) rfl (z_in rfl (by omega) (by omega)) dX8_together_33 ?_
                rw [zF5_at (x := v3_20) (by omega) (by omega)]
                obtain ⟨lns20, liv21, shw22, h23, h24, h25, h26, hz27, hs19⟩ := a8_40 (kc := (0 + 55 + 11 * v3_20.toInt.toNat)) (by omega) hI
                have bhz27 := z_b01 hz27
                refine va_get (D := g.1) (ci := 2) (v := .int shw22) (C := RX2) (T := TX2) (N := 5) hx hb hg inG2 hown hK hP (0 + 55 + 11 * v3_20.toInt.toNat) (zw_at (by omega) hs19) rfl 2 (by decide) (hg _ mm_346) (fun _ h9 => h9) rfl dX8_together_34 ?_
                refine lv_if_eq (tgt := 49) hx hb dX8_together_37 (by decide) (fun c28 => ?_) (fun c28 => ?_)
                · skip
                  have c28 : shw22.toInt = 0 := (z_eq rfl (by decide : (0 : Int32).toInt = 0)).mp c28
                  refine lv_iconst (v := (-1)) hx hb dX8_together_49 (by decide) ?_
                  refine lv_istore (lv' := [(4, .int (-1)), (3, .int v3_20), (0, .ref (ad 0)), (1, .int k), (2, .int wh)]) hx hb dX8_together_50 hl (by decide) rfl (fun ls hl => ?_)
                  refine lv_iload hx hb dX8_together_52 (lv_at hl 0 rfl) ?_
                  refine lv_iconst (v := (-1)) hx hb dX8_together_54 (by decide) ?_
                  refine lv_icmp_eq (tgt := 87) hx hb dX8_together_55 (by decide) (fun c29 => ?_) (fun c29 => ?_)
                  · skip
                    obtain ⟨x30, ex30⟩ : ∃ y : Int32, y = v3_20 + 1 := ⟨_, rfl⟩
                    have tx30 : x30.toInt = v3_20.toInt + 1 := by rw [ex30]; exact z_add rfl (by decide : (1 : Int32).toInt = 1) (by omega) (by omega)
                    refine lv_iinc (v := x30) (lv' := [(3, .int x30), (4, .int (-1)), (0, .ref (ad 0)), (1, .int k), (2, .int wh)]) hx hb dX8_together_87 hl (k := 1) rfl (by rw [ex30]; rfl) (by decide) rfl (fun ls hl => ?_)
                    refine lv_goto (tgt := 20) hx hb dX8_together_90 (by decide) ?_
                    exact ih20 x30 ct9 _ _ ls (by omega) (by first | omega | decide) hI hP hD hS (lv_sub hl [0, 2, 3, 4] rfl)
                  · skip
                    exact absurd c29 (by decide)
                · skip
                  have c28 : ¬ (shw22.toInt = 0) := fun q => c28 ((z_eq rfl (by decide : (0 : Int32).toInt = 0)).mpr q)
                  refine lv_aload_n hx hb dX8_together_40 rfl (lv_at hl 1 rfl) ?_
                  refine lv_iload_n hx hb dX8_together_41 rfl (lv_at hl 0 rfl) ?_
                  refine lv_iload_n hx hb dX8_together_42 rfl (lv_at hl 2 rfl) ?_
                  have hFc := zw_free hD hS hA
                  refine va_calli (va_runV (As := [.int v3_20, .int k]) (rest := []) ⟨hx, hb, hml, hown, hg⟩ (k_X8_firstBared l g _ ad pe ct9 v3_20 k (by first | omega | decide) hI) (cwV 2 hg (z_gV mm_918 mm_920 mm_48 mm_108 mm_921) rfl rfl rfl (by decide +kernel) ⟨Nat.le_of_ble_eq_true rfl, Nat.le_of_ble_eq_true rfl⟩) ⟨(zA.pre [.ref (ad 0), .int v3_20, .int k] hP hK hD hN).1, va_recv hK hP (ci := 8) (q0 := 0) rfl (zw_at (by omega) hs10), (zA.pre [.ref (ad 0), .int v3_20, .int k] hP hK hD hN).2⟩ rfl rfl hl.1 rfl (lv_room (Nat.le_of_ble_eq_true rfl)) dX8_together_43 ⟨Nat.le_of_ble_eq_true rfl, Nat.le_of_ble_eq_true rfl⟩) hS (fun q _ h => hFc q h) hFc (fun r31 _ t H1 locs ht hvm hr31 hB hz1 hk1 hS => ?_)
                  obtain ⟨ct32, hP1, hD1, hI⟩ := hB
                  rw [ht] at hP1
                  have hD := hD1.weaken (fun _ _ _ h => hFc _ h)
                  generalize H1 = H at hP1 hS ⊢
                  have hP := hP1
                  refine W.widen (k := 0) (n := 0) (Nat.le_refl _) (Nat.le_refl _) ?_
                  obtain ⟨hr31_0, hr31_1⟩ := hr31
                  have hr31_0 : -1 ≤ r31.toInt := hr31_0
                  have hr31_1 : r31.toInt ≤ 7 := hr31_1
                  refine lv_goto (tgt := 50) hx hb dX8_together_46 (by decide) ?_
                  refine lv_istore (lv' := [(4, .int r31), (3, .int v3_20), (0, .ref (ad 0)), (1, .int k), (2, .int wh)]) hx hb dX8_together_50 hl (by decide) rfl (fun ls hl => ?_)
                  refine lv_iload hx hb dX8_together_52 (lv_at hl 0 rfl) ?_
                  refine lv_iconst (v := (-1)) hx hb dX8_together_54 (by decide) ?_
                  refine lv_icmp_eq (tgt := 87) hx hb dX8_together_55 (by decide) (fun c33 => ?_) (fun c33 => ?_)
                  · skip
                    have c33 : r31.toInt = (-1) := (z_eq rfl (by decide : ((-1) : Int32).toInt = (-1))).mp c33
                    obtain ⟨x34, ex34⟩ : ∃ y : Int32, y = v3_20 + 1 := ⟨_, rfl⟩
                    have tx34 : x34.toInt = v3_20.toInt + 1 := by rw [ex34]; exact z_add rfl (by decide : (1 : Int32).toInt = 1) (by omega) (by omega)
                    refine lv_iinc (v := x34) (lv' := [(3, .int x34), (4, .int r31), (0, .ref (ad 0)), (1, .int k), (2, .int wh)]) hx hb dX8_together_87 hl (k := 1) rfl (by rw [ex34]; rfl) (by decide) rfl (fun ls hl => ?_)
                    refine lv_goto (tgt := 20) hx hb dX8_together_90 (by decide) ?_
                    exact ih20 x34 ct32 _ _ ls (by omega) (by first | omega | decide) hI hP hD hS (lv_sub hl [0, 2, 3, 4] rfl)
                  · skip
                    have c33 : ¬ (r31.toInt = (-1)) := fun q => c33 ((z_eq rfl (by decide : ((-1) : Int32).toInt = (-1))).mpr q)
                    refine lv_iload_n hx hb dX8_together_58 rfl (lv_at hl 4 rfl) ?_
                    refine lv_if_ne (tgt := 66) hx hb dX8_together_59 (by decide) (fun c35 => ?_) (fun c35 => ?_)
                    · skip
                      have c35 : ¬ (wh.toInt = 0) := fun q => c35 ((z_eq rfl (by decide : (0 : Int32).toInt = 0)).mpr q)
                      refine lv_iload_n hx hb dX8_together_66 rfl (lv_at hl 4 rfl) ?_
                      refine lv_iconst (v := 1) hx hb dX8_together_67 (by decide) ?_
                      refine lv_icmp_ne (tgt := 76) hx hb dX8_together_68 (by decide) (fun c36 => ?_) (fun c36 => ?_)
                      · skip
                        have c36 : ¬ (wh.toInt = 1) := fun q => c36 ((z_eq rfl (by decide : (1 : Int32).toInt = 1)).mpr q)
                        refine lv_aload_n hx hb dX8_together_76 rfl (lv_at hl 2 rfl) ?_
                        obtain ⟨bk39, dr38, h40, h41, h42, hs37⟩ := a8_0 hI
                        refine va_get (D := g.1) (ci := 8) (v := .ref (ad 10)) (C := RX8) (T := TX8) (N := 13) hx hb hg inG8 hown hK hP 0 (zw_at (by omega) hs37) rfl 6 (by decide) (hg _ mm_366) (fun _ h9 => h9) rfl dX8_together_77 ?_
                        obtain ⟨lns44, liv45, lak46, fnd47, h48, h49, h50, h51, hs43⟩ := a8_10 hI
                        refine va_get (D := g.1) (ci := 6) (v := .ref (ad 13)) (C := RX6) (T := TX6) (N := 10) hx hb hg inG6 hown hK hP 10 (zw_at (by omega) hs43) rfl 6 (by decide) (hg _ mm_185) (fun _ h9 => h9) rfl dX8_together_80 ?_
                        refine lv_iload hx hb dX8_together_83 (lv_at hl 0 rfl) ?_
                        obtain ⟨f53, hp54, hs52⟩ := a8_13 hI
                        refine va_iald hx hb hK hP 13 0 (zw_at (by omega) hs52) rfl (z_in rfl (by omega) (by omega)) dX8_together_85 ?_
                        refine lv_topi (fun y55 ey55 => ?_)
                        have hy55 := hp54 _ (z_clt (x := r31) rfl (by omega) (by omega))
                        rw [← ey55] at hy55
                        have hy55 : 0 ≤ y55.toInt ∧ y55.toInt ≤ 65535 := hy55
                        exact W.iret (v := y55) hx hb hr (fun t ht hW => ⟨⟨y55, (), rfl, trivial, ct32, by rw [ht]; exact hP, hD, hI⟩, hS.F ht⟩) hS.2.2 dX8_together_86
                      · skip
                        have c36 : wh.toInt = 1 := (z_eq rfl (by decide : (1 : Int32).toInt = 1)).mp c36
                        refine lv_iload hx hb dX8_together_71 (lv_at hl 0 rfl) ?_
                        refine lv_goto (tgt := 86) hx hb dX8_together_73 (by decide) ?_
                        exact W.iret (v := r31) hx hb hr (fun t ht hW => ⟨⟨r31, (), rfl, trivial, ct32, by rw [ht]; exact hP, hD, hI⟩, hS.F ht⟩) hS.2.2 dX8_together_86
                    · skip
                      have c35 : wh.toInt = 0 := (z_eq rfl (by decide : (0 : Int32).toInt = 0)).mp c35
                      refine lv_iload_n hx hb dX8_together_62 rfl (lv_at hl 1 rfl) ?_
                      refine lv_goto (tgt := 86) hx hb dX8_together_63 (by decide) ?_
                      exact W.iret (v := v3_20) hx hb hr (fun t ht hW => ⟨⟨v3_20, (), rfl, trivial, ct32, by rw [ht]; exact hP, hD, hI⟩, hS.F ht⟩) hS.2.2 dX8_together_86
          exact loop20 ((4 - (0 : Int32).toInt : Int).toNat + 1) (0 : Int32) ct _ _ ls (by omega) (by first | omega | decide) hI hP hD hS (lv_sub hl [0, 1, 2, 3] rfl)
        · skip
          exact absurd c8 (by decide)
      · skip
        obtain ⟨rfl, h56⟩ := hr5
        have h56 : ¬ ((0 : Int) ≤ wh.toInt ∧ wh.toInt ≤ (2 : Int)) := h56
        refine lv_if_ne (tgt := 18) hx hb dX8_together_13 (by decide) (fun c57 => ?_) (fun c57 => ?_)
        · skip
          exact absurd c57 (by decide)
        · skip
          refine lv_iconst (v := (-1)) hx hb dX8_together_16 (by decide) ?_
          have q58 : ((-1) : Int32).toInt = -1 := by decide
          exact W.iret (v := (-1)) hx hb hr (fun t ht hW => ⟨⟨(-1), (), rfl, trivial, ct, by rw [ht]; exact hP, hD, hI⟩, hS.F ht⟩) hS.2.2 dX8_together_17
  · skip
    obtain ⟨rfl, h59⟩ := hr1
    have h59 : ¬ (1 ≤ k.toInt ∧ k.toInt ≤ 16) := h59
    refine lv_if_eq (tgt := 16) hx hb dX8_together_4 (by decide) (fun c60 => ?_) (fun c60 => ?_)
    · skip
      refine lv_iconst (v := (-1)) hx hb dX8_together_16 (by decide) ?_
      have q61 : ((-1) : Int32).toInt = -1 := by decide
      exact W.iret (v := (-1)) hx hb hr (fun t ht hW => ⟨⟨(-1), (), rfl, trivial, ct, by rw [ht]; exact hP, hD, hI⟩, hS.F ht⟩) hS.2.2 dX8_together_17
    · skip
      exact absurd c60 (by decide)

set_option maxHeartbeats 4000000 in
set_option maxRecDepth 100000 in
theorem k_X8_loss (l : Launch) (g : zG) (ad : Nat → Nat) (pe : Int32) (ct : Nat → va_E) (b : Int32) (hI : Inv8 g ad pe ct) : Met l yX8_loss (zW yX8_loss cX8_loss 4 (some .int)) ({ frames := 3, cells := 0, slots := 0, locals := 66 }) (va_Pc [.ref (ad 0), .int b] (zR g (zw 126 ad ct))) (vp_Si (fun r : Int32 => (True))) 0 0 (fun _ => False) := by
  refine Met.ofW (cc := cX8_loss) (maxL := 4) (ret := (some .int)) (by decide) rfl ?_
  intro p e s m args below meth c s₁ B hml hv
  obtain ⟨rfl, hP, hK, hN⟩ := hv
  have hx := B.exec
  have hb := B.bytes
  have hr := B.returns
  have hg := zW.law (atoms_spec (ws := (zW yX8_loss cX8_loss 4 (some .int))) B.pre)
  have hown : s.vm.findClass RX8 = some m.cls := findClass_of_methodNamed B.named
  have hlocks := B.notSynchronized
  have hpe0 := hI.1
  have hl := lv_entry ([.ref (ad 0), .int b]) (n := 4) (Nat.le_of_ble_eq_true rfl)
  rw [lg_entry_eq]
  generalize (lg_sl ([.ref (ad 0), .int b]) ++ List.replicate (4 - (lg_sl ([.ref (ad 0), .int b])).length) Slot.unset).toArray = ls at hl ⊢
  have hl : lv_has ls 4 [(0, .ref (ad 0)), (1, .int b)] := hl
  have rg_b := z_rng b
  refine lv_aload_n hx hb dX8_loss_0 rfl (lv_at hl 0 rfl) ?_
  refine lv_iload_n hx hb dX8_loss_1 rfl (lv_at hl 1 rfl) ?_
  obtain ⟨bk3, dr2, h4, h5, h6, hs1⟩ := a8_0 hI
  refine zc_i (va_runV (As := [.int b]) (rest := []) ⟨hx, hb, hml, hown, hg⟩ (k_X8_isBook l g ad pe ct b hI) (cwV 1 hg (z_gV mm_591 mm_593 mm_20 mm_108 mm_594) rfl rfl rfl (by decide +kernel) ⟨Nat.le_of_ble_eq_true rfl, Nat.le_of_ble_eq_true rfl⟩) ⟨(zR.pre [.ref (ad 0), .int b] hP hK hN).1, va_recv hK hP (ci := 8) (q0 := 0) rfl (zw_at (by omega) hs1), (zR.pre [.ref (ad 0), .int b] hP hK hN).2⟩ rfl rfl hl.1 rfl (lv_room (Nat.le_of_ble_eq_true rfl)) dX8_loss_2 ⟨Nat.le_of_ble_eq_true rfl, Nat.le_of_ble_eq_true rfl⟩) (fun r7 hr7 => ?_)
  rcases hr7 with hr7 | hr7
  · skip
    obtain ⟨rfl, h8, h9⟩ := hr7
    have h8 : 0 ≤ b.toInt := h8
    have h9 : b.toInt ≤ 3 := h9
    refine lv_if_ne (tgt := 10) hx hb dX8_loss_5 (by decide) (fun c10 => ?_) (fun c10 => ?_)
    · skip
      refine lv_iconst (v := 0) hx hb dX8_loss_10 (by decide) ?_
      refine lv_istore_n (lv' := [(2, .int 0), (0, .ref (ad 0)), (1, .int b)]) hx hb dX8_loss_11 rfl hl (by decide) rfl (fun ls hl => ?_)
      refine lv_iconst (v := 0) hx hb dX8_loss_12 (by decide) ?_
      refine lv_istore_n (lv' := [(3, .int 0), (2, .int 0), (0, .ref (ad 0)), (1, .int b)]) hx hb dX8_loss_13 rfl hl (by decide) rfl (fun ls hl => ?_)
      have loop14 : ∀ (n14 : Nat) (v3_14 : Int32) (v2_14 : Int32) (ls : Array Slot), ((8 - v3_14.toInt : Int).toNat < n14) → (0 ≤ v3_14.toInt ∧ v3_14.toInt ≤ 8) → lv_has ls 4 [(3, .int v3_14), (2, .int v2_14), (0, .ref (ad 0)), (1, .int b)] → W p l e (headSpec (zW yX8_loss cX8_loss 4 (some .int)) ({ frames := 3, cells := 0, slots := 0, locals := 66 })).room s m ([.ref (ad 0), .int b] : List Value).toArray below meth c s.heap [] 0 0 (MQ below (vp_Si (fun r : Int32 => (True))) ([.ref (ad 0), .int b] : List Value).toArray s 0 0 (fun _ => False)) (F0 m 14 ls []) := by
        intro n14
        induction n14 with
        | zero =>
          intro v3_14 v2_14 ls hn14 b3_14 hl
          exact absurd hn14 (Nat.not_lt_zero _)
        | succ n14 ih14 =>
          intro v3_14 v2_14 ls hn14 b3_14 hl
          refine lv_iload_n hx hb dX8_loss_14 rfl (lv_at hl 0 rfl) ?_
          refine lv_bipush (v := 8) hx hb dX8_loss_15 (by decide) ?_
          refine lv_icmp_ge (tgt := 53) hx hb dX8_loss_17 (by decide) (fun c11 => ?_) (fun c11 => ?_)
          · skip
            have c11 : 8 ≤ v3_14.toInt := (z_le (by decide : (8 : Int32).toInt = 8) rfl).mp c11
            refine lv_iload_n hx hb dX8_loss_53 rfl (lv_at hl 1 rfl) ?_
            exact W.iret (v := v2_14) hx hb hr (fun t ht hW => ⟨v2_14, rfl, trivial, ht⟩) (fun q hq => by cases hq) dX8_loss_54
          · skip
            have c11 : ¬ (8 ≤ v3_14.toInt) := fun q => c11 ((z_le (by decide : (8 : Int32).toInt = 8) rfl).mpr q)
            refine lv_iload_n hx hb dX8_loss_20 rfl (lv_at hl 1 rfl) ?_
            refine lv_aload_n hx hb dX8_loss_21 rfl (lv_at hl 2 rfl) ?_
            refine lv_iload_n hx hb dX8_loss_22 rfl (lv_at hl 3 rfl) ?_
            refine lv_iload_n hx hb dX8_loss_23 rfl (lv_at hl 0 rfl) ?_
            refine zc_i (va_runV (As := [.int b, .int v3_14]) (rest := [.int v2_14]) ⟨hx, hb, hml, hown, hg⟩ (k_X8_isLive l g ad pe ct b v3_14 hI) (cwV 2 hg (z_gV mm_583 mm_585 mm_18 mm_108 mm_586) rfl rfl rfl (by decide +kernel) ⟨Nat.le_of_ble_eq_true rfl, Nat.le_of_ble_eq_true rfl⟩) ⟨(zR.pre [.ref (ad 0), .int b, .int v3_14] hP hK hN).1, va_recv hK hP (ci := 8) (q0 := 0) rfl (zw_at (by omega) hs1), (zR.pre [.ref (ad 0), .int b, .int v3_14] hP hK hN).2⟩ rfl rfl hl.1 rfl (lv_room (Nat.le_of_ble_eq_true rfl)) dX8_loss_24 ⟨Nat.le_of_ble_eq_true rfl, Nat.le_of_ble_eq_true rfl⟩) (fun r12 hr12 => ?_)
            rcases hr12 with hr12 | hr12
            · skip
              obtain ⟨rfl, h13, h14⟩ := hr12
              have h13 : 0 ≤ b.toInt ∧ b.toInt ≤ 3 := h13
              have h14 : 0 ≤ v3_14.toInt ∧ v3_14.toInt ≤ 7 := h14
              refine lv_if_eq (tgt := 44) hx hb dX8_loss_27 (by decide) (fun c15 => ?_) (fun c15 => ?_)
              · skip
                exact absurd c15 (by decide)
              · skip
                refine lv_aload_n hx hb dX8_loss_30 rfl (lv_at hl 2 rfl) ?_
                refine lv_aload_n hx hb dX8_loss_31 rfl (lv_at hl 2 rfl) ?_
                refine va_get (D := g.1) (ci := 8) (v := .ref (ad 5)) (C := RX8) (T := TX8) (N := 13) hx hb hg inG8 hown hK hP 0 (zw_at (by omega) hs1) rfl 3 (by decide) (hg _ mm_363) (fun _ h9 => h9) rfl dX8_loss_32 ?_
                refine lv_iload_n hx hb dX8_loss_35 rfl (lv_at hl 3 rfl) ?_
                have hs16 := a8_5 hI
                refine va_aldq hx hb hK hP 5 5 (zw_at (by omega) hs16) rfl (z_in rfl (by omega) (by omega)) dX8_loss_36 ?_
                rw [zF5_at (x := b) (by omega) (by omega)]
                refine lv_iload_n hx hb dX8_loss_37 rfl (lv_at hl 0 rfl) ?_
                refine zc_i (va_runV (As := [.ref (ad (0 + 55 + 11 * b.toInt.toNat)), .int v3_14]) (rest := [.int v2_14]) ⟨hx, hb, hml, hown, hg⟩ (k_X8_lossOfLine l g ad pe ct (0 + 55 + 11 * b.toInt.toNat) v3_14 (by omega) hI) (cwV 2 hg (z_gV mm_926 mm_928 mm_49 mm_108 mm_929) rfl rfl rfl (by decide +kernel) ⟨Nat.le_of_ble_eq_true rfl, Nat.le_of_ble_eq_true rfl⟩) ⟨(zR.pre [.ref (ad 0), .ref (ad (0 + 55 + 11 * b.toInt.toNat)), .int v3_14] hP hK hN).1, va_recv hK hP (ci := 8) (q0 := 0) rfl (zw_at (by omega) hs1), (zR.pre [.ref (ad 0), .ref (ad (0 + 55 + 11 * b.toInt.toNat)), .int v3_14] hP hK hN).2⟩ rfl rfl hl.1 rfl (lv_room (Nat.le_of_ble_eq_true rfl)) dX8_loss_38 ⟨Nat.le_of_ble_eq_true rfl, Nat.le_of_ble_eq_true rfl⟩) (fun r17 hr17 => ?_)
                refine lv_goto (tgt := 45) hx hb dX8_loss_41 (by decide) ?_
                refine lv_iadd hx hb dX8_loss_45 ?_
                refine lv_topi (fun x18 ex18 => ?_)
                refine lv_istore_n (lv' := [(2, .int x18), (3, .int v3_14), (0, .ref (ad 0)), (1, .int b)]) hx hb dX8_loss_46 rfl hl (by decide) rfl (fun ls hl => ?_)
                obtain ⟨x19, ex19⟩ : ∃ y : Int32, y = v3_14 + 1 := ⟨_, rfl⟩
                have tx19 : x19.toInt = v3_14.toInt + 1 := by rw [ex19]; exact z_add rfl (by decide : (1 : Int32).toInt = 1) (by omega) (by omega)
                refine lv_iinc (v := x19) (lv' := [(3, .int x19), (2, .int x18), (0, .ref (ad 0)), (1, .int b)]) hx hb dX8_loss_47 hl (k := 1) rfl (by rw [ex19]; rfl) (by decide) rfl (fun ls hl => ?_)
                refine lv_goto (tgt := 14) hx hb dX8_loss_50 (by decide) ?_
                exact ih14 x19 x18 ls (by omega) (by first | omega | decide) (lv_sub hl [0, 1, 2, 3] rfl)
            · skip
              obtain rfl := hr12
              refine lv_if_eq (tgt := 44) hx hb dX8_loss_27 (by decide) (fun c20 => ?_) (fun c20 => ?_)
              · skip
                refine lv_iconst (v := 0) hx hb dX8_loss_44 (by decide) ?_
                refine lv_iadd hx hb dX8_loss_45 ?_
                refine lv_topi (fun x21 ex21 => ?_)
                refine lv_istore_n (lv' := [(2, .int x21), (3, .int v3_14), (0, .ref (ad 0)), (1, .int b)]) hx hb dX8_loss_46 rfl hl (by decide) rfl (fun ls hl => ?_)
                obtain ⟨x22, ex22⟩ : ∃ y : Int32, y = v3_14 + 1 := ⟨_, rfl⟩
                have tx22 : x22.toInt = v3_14.toInt + 1 := by rw [ex22]; exact z_add rfl (by decide : (1 : Int32).toInt = 1) (by omega) (by omega)
                refine lv_iinc (v := x22) (lv' := [(3, .int x22), (2, .int x21), (0, .ref (ad 0)), (1, .int b)]) hx hb dX8_loss_47 hl (k := 1) rfl (by rw [ex22]; rfl) (by decide) rfl (fun ls hl => ?_)
                refine lv_goto (tgt := 14) hx hb dX8_loss_50 (by decide) ?_
                exact ih14 x22 x21 ls (by omega) (by first | omega | decide) (lv_sub hl [0, 1, 2, 3] rfl)
              · skip
                exact absurd c20 (by decide)
      exact loop14 ((8 - (0 : Int32).toInt : Int).toNat + 1) (0 : Int32) (0 : Int32) ls (by omega) (by first | omega | decide) (lv_sub hl [0, 1, 2, 3] rfl)
    · skip
      exact absurd c10 (by decide)
  · skip
    obtain rfl := hr7
    refine lv_if_ne (tgt := 10) hx hb dX8_loss_5 (by decide) (fun c23 => ?_) (fun c23 => ?_)
    · skip
      exact absurd c23 (by decide)
    · skip
      refine lv_iconst (v := (-1)) hx hb dX8_loss_8 (by decide) ?_
      have q24 : ((-1) : Int32).toInt = -1 := by decide
      exact W.iret (v := (-1)) hx hb hr (fun t ht hW => ⟨(-1), rfl, trivial, ht⟩) (fun q hq => by cases hq) dX8_loss_9

set_option maxHeartbeats 4000000 in
set_option maxRecDepth 100000 in
theorem k_X8_linesOf (l : Launch) (g : zG) (sz : Nat) (ad : Nat → Nat) (pe : Int32) (ct : Nat → va_E) (b : Int32) (p0 : Int32) (kn : Int32) (hI : Inv8 g ad pe ct) : Met l yX8_linesOf (zW yX8_linesOf cX8_linesOf 6 (some .int)) ({ frames := 5, cells := 0, slots := 0, locals := 117 }) (va_Pc [.ref (ad 0), .int b, .int p0, .int kn] (zA g (zw 126 ad ct) sz)) (va_Qi (fun (r : Int32) (_ : Unit) => (True)) (fun _ t => ∃ ct2 : Nat → va_E, zP g (zw 126 ad ct2) t.heap ∧ va_D (va_A (zw 126 ad ct) sz) (zw 126 ad ct2) ∧ Inv8 g ad pe ct2) (va_A (zw 126 ad ct) sz)) 0 0 (va_A (zw 126 ad ct) sz) := by
  refine Met.ofW (cc := cX8_linesOf) (maxL := 6) (ret := (some .int)) (by decide) rfl ?_
  intro p e s m args below meth c s₁ B hml hv
  obtain ⟨rfl, hsz, hP, hK, hD0, hN⟩ := hv
  have hx := B.exec
  have hb := B.bytes
  have hr := B.returns
  have hg := zW.law (atoms_spec (ws := (zW yX8_linesOf cX8_linesOf 6 (some .int))) B.pre)
  have hown : s.vm.findClass RX8 = some m.cls := findClass_of_methodNamed B.named
  have hlocks := B.notSynchronized
  have hpe0 := hI.1
  subst hsz
  have hD := hD0.self (sz := s.heap.size)
  generalize hAe : va_A (zw 126 ad ct) s.heap.size = A at hD ⊢
  have hA : ∀ q : Nat, s.heap.size ≤ q → A q := fun q h => by rw [← hAe]; exact Or.inr h
  have hS : va_S A s.heap s.heap [] := va_S.rf
  have hl := lv_entry ([.ref (ad 0), .int b, .int p0, .int kn]) (n := 6) (Nat.le_of_ble_eq_true rfl)
  rw [lg_entry_eq]
  generalize (lg_sl ([.ref (ad 0), .int b, .int p0, .int kn]) ++ List.replicate (6 - (lg_sl ([.ref (ad 0), .int b, .int p0, .int kn])).length) Slot.unset).toArray = ls at hl ⊢
  have hl : lv_has ls 6 [(0, .ref (ad 0)), (1, .int b), (2, .int p0), (3, .int kn)] := hl
  have rg_b := z_rng b
  have rg_p0 := z_rng p0
  have rg_kn := z_rng kn
  refine lv_aload_n hx hb dX8_linesOf_0 rfl (lv_at hl 0 rfl) ?_
  refine lv_iload_n hx hb dX8_linesOf_1 rfl (lv_at hl 1 rfl) ?_
  obtain ⟨bk3, dr2, h4, h5, h6, hs1⟩ := a8_0 hI
  refine zc_i (va_runV (As := [.int b]) (rest := []) ⟨hx, hb, hml, hown, hg⟩ (k_X8_isBook l g ad pe ct b hI) (cwV 1 hg (z_gV mm_591 mm_593 mm_20 mm_108 mm_594) rfl rfl rfl (by decide +kernel) ⟨Nat.le_of_ble_eq_true rfl, Nat.le_of_ble_eq_true rfl⟩) ⟨(zR.pre [.ref (ad 0), .int b] hP hK hN).1, va_recv hK hP (ci := 8) (q0 := 0) rfl (zw_at (by omega) hs1), (zR.pre [.ref (ad 0), .int b] hP hK hN).2⟩ rfl rfl hl.1 rfl (lv_room (Nat.le_of_ble_eq_true rfl)) dX8_linesOf_2 ⟨Nat.le_of_ble_eq_true rfl, Nat.le_of_ble_eq_true rfl⟩) (fun r7 hr7 => ?_)
  rcases hr7 with hr7 | hr7
  · skip
    obtain ⟨rfl, h8, h9⟩ := hr7
    have h8 : 0 ≤ b.toInt := h8
    have h9 : b.toInt ≤ 3 := h9
    refine lv_if_eq (tgt := 23) hx hb dX8_linesOf_5 (by decide) (fun c10 => ?_) (fun c10 => ?_)
    · skip
      exact absurd c10 (by decide)
    · skip
      refine lv_aload_n hx hb dX8_linesOf_8 rfl (lv_at hl 0 rfl) ?_
      refine lv_iload_n hx hb dX8_linesOf_9 rfl (lv_at hl 2 rfl) ?_
      refine zc_i (va_runV (As := [.int p0]) (rest := []) ⟨hx, hb, hml, hown, hg⟩ (k_X8_isPerson l g ad pe ct p0 hI) (cwV 1 hg (z_gV mm_451 mm_453 mm_3 mm_108 mm_454) rfl rfl rfl (by decide +kernel) ⟨Nat.le_of_ble_eq_true rfl, Nat.le_of_ble_eq_true rfl⟩) ⟨(zR.pre [.ref (ad 0), .int p0] hP hK hN).1, va_recv hK hP (ci := 8) (q0 := 0) rfl (zw_at (by omega) hs1), (zR.pre [.ref (ad 0), .int p0] hP hK hN).2⟩ rfl rfl hl.1 rfl (lv_room (Nat.le_of_ble_eq_true rfl)) dX8_linesOf_10 ⟨Nat.le_of_ble_eq_true rfl, Nat.le_of_ble_eq_true rfl⟩) (fun r11 hr11 => ?_)
      rcases hr11 with hr11 | hr11
      · skip
        obtain ⟨rfl, h12, h13⟩ := hr11
        have h12 : 0 ≤ p0.toInt := h12
        have h13 : p0.toInt < pe.toInt := h13
        refine lv_if_eq (tgt := 23) hx hb dX8_linesOf_13 (by decide) (fun c14 => ?_) (fun c14 => ?_)
        · skip
          exact absurd c14 (by decide)
        · skip
          refine lv_iload_n hx hb dX8_linesOf_16 rfl (lv_at hl 3 rfl) ?_
          refine zc_i (va_runS (As := [.int kn]) (rest := []) ⟨hx, hb, hml, hown, hg⟩ (k_X8_areGossips l g ad pe ct kn hI) (va_cwS 1 hg (z_gS mm_652 mm_653 mm_108 mm_654) rfl rfl rfl (by decide +kernel) ⟨Nat.le_of_ble_eq_true rfl, Nat.le_of_ble_eq_true rfl⟩) (zR.pre [.int kn] hP hK hN) rfl rfl hl.1 rfl (lv_room (Nat.le_of_ble_eq_true rfl)) dX8_linesOf_17 ⟨Nat.le_of_ble_eq_true rfl, Nat.le_of_ble_eq_true rfl⟩) (fun r15 hr15 => ?_)
          rcases hr15 with hr15 | hr15
          · skip
            obtain ⟨rfl, h16, h17⟩ := hr15
            have h16 : 0 ≤ kn.toInt := h16
            have h17 : kn.toInt ≤ 255 := h17
            refine lv_if_ne (tgt := 25) hx hb dX8_linesOf_20 (by decide) (fun c18 => ?_) (fun c18 => ?_)
            · skip
              refine lv_aload_n hx hb dX8_linesOf_25 rfl (lv_at hl 0 rfl) ?_
              refine lv_iload_n hx hb dX8_linesOf_26 rfl (lv_at hl 1 rfl) ?_
              refine lv_iload_n hx hb dX8_linesOf_27 rfl (lv_at hl 3 rfl) ?_
              have hFc := zw_free hD hS hA
              refine va_callv (va_runV (As := [.int b, .int kn]) (rest := []) ⟨hx, hb, hml, hown, hg⟩ (k_X8_fit l g _ ad pe ct b kn (by first | omega | decide) hI) (cwV 2 hg (z_gV mm_655 mm_657 mm_21 mm_108 mm_658) rfl rfl rfl (by decide +kernel) ⟨Nat.le_of_ble_eq_true rfl, Nat.le_of_ble_eq_true rfl⟩) ⟨(zA.pre [.ref (ad 0), .int b, .int kn] hP hK hD hN).1, va_recv hK hP (ci := 8) (q0 := 0) rfl (zw_at (by omega) hs1), (zA.pre [.ref (ad 0), .int b, .int kn] hP hK hD hN).2⟩ rfl rfl hl.1 rfl (lv_room (Nat.le_of_ble_eq_true rfl)) dX8_linesOf_28 ⟨Nat.le_of_ble_eq_true rfl, Nat.le_of_ble_eq_true rfl⟩) hS (fun q _ h => hFc q h) hFc (fun _ t H1 locs ht hvm hr19 hB hz1 hk1 hS => ?_)
              obtain ⟨ct20, hP1, hD1, hI⟩ := hB
              rw [ht] at hP1
              have hD := hD1.weaken (fun _ _ _ h => hFc _ h)
              generalize H1 = H at hP1 hS ⊢
              have hP := hP1
              refine W.widen (k := 0) (n := 0) (Nat.le_refl _) (Nat.le_refl _) ?_
              refine lv_aload_n hx hb dX8_linesOf_31 rfl (lv_at hl 0 rfl) ?_
              obtain ⟨bk23, dr22, h24, h25, h26, hs21⟩ := a8_0 hI
              refine va_get (D := g.1) (ci := 8) (v := .ref (ad 10)) (C := RX8) (T := TX8) (N := 13) hx hb hg inG8 hown hK hP 0 (zw_at (by omega) hs21) rfl 6 (by decide) (hg _ mm_366) (fun _ h9 => h9) rfl dX8_linesOf_32 ?_
              obtain ⟨lns28, liv29, lak30, fnd31, h32, h33, h34, h35, hs27⟩ := a8_10 hI
              have hFc := zw_free hD hS hA
              refine va_callv (va_runV (As := []) (rest := []) ⟨hx, hb, hml, hown, hg⟩ (k_X6_weigh l g _ ad pe ct20  hI) (cwV 0 hg (z_gV mm_720 mm_721 mm_722 mm_111 mm_723) rfl rfl rfl (by decide +kernel) ⟨Nat.le_of_ble_eq_true rfl, Nat.le_of_ble_eq_true rfl⟩) ⟨(zA.pre [.ref (ad 10)] hP hK hD hN).1, va_recv hK hP (ci := 6) (q0 := 10) rfl (zw_at (by omega) hs27), (zA.pre [.ref (ad 10)] hP hK hD hN).2⟩ rfl rfl hl.1 rfl (lv_room (Nat.le_of_ble_eq_true rfl)) dX8_linesOf_35 ⟨Nat.le_of_ble_eq_true rfl, Nat.le_of_ble_eq_true rfl⟩) hS (fun q _ h => hFc q h) hFc (fun _ t H1 locs ht hvm hr36 hB hz1 hk1 hS => ?_)
              obtain ⟨ct37, hP1, hD1, hI⟩ := hB
              rw [ht] at hP1
              have hD := hD1.weaken (fun _ _ _ h => hFc _ h)
              generalize H1 = H at hP1 hS ⊢
              have hP := hP1
              refine W.widen (k := 0) (n := 0) (Nat.le_refl _) (Nat.le_refl _) ?_
              refine lv_iconst (v := 0) hx hb dX8_linesOf_38 (by decide) ?_
              refine lv_istore (lv' := [(4, .int 0), (0, .ref (ad 0)), (1, .int b), (2, .int p0), (3, .int kn)]) hx hb dX8_linesOf_39 hl (by decide) rfl (fun ls hl => ?_)
              refine lv_iconst (v := 0) hx hb dX8_linesOf_41 (by decide) ?_
              refine lv_istore (lv' := [(5, .int 0), (4, .int 0), (0, .ref (ad 0)), (1, .int b), (2, .int p0), (3, .int kn)]) hx hb dX8_linesOf_42 hl (by decide) rfl (fun ls hl => ?_)
              have loop44 : ∀ (n44 : Nat) (v5_44 : Int32) (v4_44 : Int32) (ct38 : Nat → va_E) (H : Heap) (locs : List Loc) (ls : Array Slot), ((8 - v5_44.toInt : Int).toNat < n44) → (0 ≤ v5_44.toInt ∧ v5_44.toInt ≤ 8) → (Inv8 g ad pe ct38) → zP g (zw 126 ad ct38) H → va_D A (zw 126 ad ct38) → va_S A s.heap H locs → lv_has ls 6 [(5, .int v5_44), (4, .int v4_44), (0, .ref (ad 0)), (1, .int b), (2, .int p0), (3, .int kn)] → W p l e (headSpec (zW yX8_linesOf cX8_linesOf 6 (some .int)) ({ frames := 5, cells := 0, slots := 0, locals := 117 })).room s m ([.ref (ad 0), .int b, .int p0, .int kn] : List Value).toArray below meth c H locs 0 0 (MQ below (va_Qi (fun (r : Int32) (_ : Unit) => (True)) (fun _ t => ∃ ct2 : Nat → va_E, zP g (zw 126 ad ct2) t.heap ∧ va_D A (zw 126 ad ct2) ∧ Inv8 g ad pe ct2) A) ([.ref (ad 0), .int b, .int p0, .int kn] : List Value).toArray s 0 0 A) (F0 m 44 ls []) := by
                intro n44
                induction n44 with
                | zero =>
                  intro v5_44 v4_44 ct38 H locs ls hn44 b5_44 hI hP hD hS hl
                  exact absurd hn44 (Nat.not_lt_zero _)
                | succ n44 ih44 =>
                  intro v5_44 v4_44 ct38 H locs ls hn44 b5_44 hI hP hD hS hl
                  refine lv_iload hx hb dX8_linesOf_44 (lv_at hl 0 rfl) ?_
                  refine lv_bipush (v := 8) hx hb dX8_linesOf_46 (by decide) ?_
                  refine lv_icmp_ge (tgt := 79) hx hb dX8_linesOf_48 (by decide) (fun c39 => ?_) (fun c39 => ?_)
                  · skip
                    have c39 : 8 ≤ v5_44.toInt := (z_le (by decide : (8 : Int32).toInt = 8) rfl).mp c39
                    refine lv_iload hx hb dX8_linesOf_79 (lv_at hl 1 rfl) ?_
                    exact W.iret (v := v4_44) hx hb hr (fun t ht hW => ⟨⟨v4_44, (), rfl, trivial, ct38, by rw [ht]; exact hP, hD, hI⟩, hS.F ht⟩) hS.2.2 dX8_linesOf_81
                  · skip
                    have c39 : ¬ (8 ≤ v5_44.toInt) := fun q => c39 ((z_le (by decide : (8 : Int32).toInt = 8) rfl).mpr q)
                    refine lv_iload hx hb dX8_linesOf_51 (lv_at hl 1 rfl) ?_
                    refine lv_aload_n hx hb dX8_linesOf_53 rfl (lv_at hl 2 rfl) ?_
                    obtain ⟨bk42, dr41, h43, h44, h45, hs40⟩ := a8_0 hI
                    refine va_get (D := g.1) (ci := 8) (v := .ref (ad 10)) (C := RX8) (T := TX8) (N := 13) hx hb hg inG8 hown hK hP 0 (zw_at (by omega) hs40) rfl 6 (by decide) (hg _ mm_366) (fun _ h9 => h9) rfl dX8_linesOf_54 ?_
                    obtain ⟨lns47, liv48, lak49, fnd50, h51, h52, h53, h54, hs46⟩ := a8_10 hI
                    refine va_get (D := g.1) (ci := 6) (v := .ref (ad 13)) (C := RX6) (T := TX6) (N := 10) hx hb hg inG6 hown hK hP 10 (zw_at (by omega) hs46) rfl 6 (by decide) (hg _ mm_185) (fun _ h9 => h9) rfl dX8_linesOf_57 ?_
                    refine lv_iload hx hb dX8_linesOf_60 (lv_at hl 0 rfl) ?_
                    obtain ⟨f56, hp57, hs55⟩ := a8_13 hI
                    refine va_iald hx hb hK hP 13 0 (zw_at (by omega) hs55) rfl (z_in rfl (by omega) (by omega)) dX8_linesOf_62 ?_
                    refine lv_topi (fun y58 ey58 => ?_)
                    have hy58 := hp57 _ (z_clt (x := v5_44) rfl (by omega) (by omega))
                    rw [← ey58] at hy58
                    have hy58 : 0 ≤ y58.toInt ∧ y58.toInt ≤ 65535 := hy58
                    refine lv_iload_n hx hb dX8_linesOf_63 rfl (lv_at hl 4 rfl) ?_
                    refine lv_ishr hx hb dX8_linesOf_64 ?_
                    refine lv_topi (fun x59 ex59 => ?_)
                    have tx59 := z_shr (x := y58) rfl (by omega) p0
                    rw [← ex59] at tx59
                    refine lv_iconst (v := 1) hx hb dX8_linesOf_65 (by decide) ?_
                    refine lv_iand hx hb dX8_linesOf_66 ?_
                    refine lv_topi (fun x60 ex60 => ?_)
                    have tx60 := z_andr (x := x59) (y := 1) (by decide : (1 : Int32).toInt = 1) (by omega)
                    rw [← ex60] at tx60
                    refine lv_iload hx hb dX8_linesOf_67 (lv_at hl 0 rfl) ?_
                    refine lv_ishl hx hb dX8_linesOf_69 ?_
                    refine lv_topi (fun x61 ex61 => ?_)
                    refine lv_ior hx hb dX8_linesOf_70 ?_
                    refine lv_topi (fun x62 ex62 => ?_)
                    refine lv_istore (lv' := [(4, .int x62), (5, .int v5_44), (0, .ref (ad 0)), (1, .int b), (2, .int p0), (3, .int kn)]) hx hb dX8_linesOf_71 hl (by decide) rfl (fun ls hl => ?_)
                    obtain ⟨x63, ex63⟩ : ∃ y : Int32, y = v5_44 + 1 := ⟨_, rfl⟩
                    have tx63 : x63.toInt = v5_44.toInt + 1 := by rw [ex63]; exact z_add rfl (by decide : (1 : Int32).toInt = 1) (by omega) (by omega)
                    refine lv_iinc (v := x63) (lv' := [(5, .int x63), (4, .int x62), (0, .ref (ad 0)), (1, .int b), (2, .int p0), (3, .int kn)]) hx hb dX8_linesOf_73 hl (k := 1) rfl (by rw [ex63]; rfl) (by decide) rfl (fun ls hl => ?_)
                    refine lv_goto (tgt := 44) hx hb dX8_linesOf_76 (by decide) ?_
                    exact ih44 x63 x62 ct38 _ _ ls (by omega) (by first | omega | decide) hI hP hD hS (lv_sub hl [0, 1, 2, 3, 4, 5] rfl)
              exact loop44 ((8 - (0 : Int32).toInt : Int).toNat + 1) (0 : Int32) (0 : Int32) ct37 _ _ ls (by omega) (by first | omega | decide) hI hP hD hS (lv_sub hl [0, 1, 2, 3, 4, 5] rfl)
            · skip
              exact absurd c18 (by decide)
          · skip
            obtain ⟨rfl, h64⟩ := hr15
            have h64 : ¬ (0 ≤ kn.toInt ∧ kn.toInt ≤ 255) := h64
            refine lv_if_ne (tgt := 25) hx hb dX8_linesOf_20 (by decide) (fun c65 => ?_) (fun c65 => ?_)
            · skip
              exact absurd c65 (by decide)
            · skip
              refine lv_iconst (v := (-1)) hx hb dX8_linesOf_23 (by decide) ?_
              have q66 : ((-1) : Int32).toInt = -1 := by decide
              exact W.iret (v := (-1)) hx hb hr (fun t ht hW => ⟨⟨(-1), (), rfl, trivial, ct, by rw [ht]; exact hP, hD, hI⟩, hS.F ht⟩) hS.2.2 dX8_linesOf_24
      · skip
        obtain ⟨rfl, h67⟩ := hr11
        have h67 : ¬ (0 ≤ p0.toInt ∧ p0.toInt < pe.toInt) := h67
        refine lv_if_eq (tgt := 23) hx hb dX8_linesOf_13 (by decide) (fun c68 => ?_) (fun c68 => ?_)
        · skip
          refine lv_iconst (v := (-1)) hx hb dX8_linesOf_23 (by decide) ?_
          have q69 : ((-1) : Int32).toInt = -1 := by decide
          exact W.iret (v := (-1)) hx hb hr (fun t ht hW => ⟨⟨(-1), (), rfl, trivial, ct, by rw [ht]; exact hP, hD, hI⟩, hS.F ht⟩) hS.2.2 dX8_linesOf_24
        · skip
          exact absurd c68 (by decide)
  · skip
    obtain rfl := hr7
    refine lv_if_eq (tgt := 23) hx hb dX8_linesOf_5 (by decide) (fun c70 => ?_) (fun c70 => ?_)
    · skip
      refine lv_iconst (v := (-1)) hx hb dX8_linesOf_23 (by decide) ?_
      have q71 : ((-1) : Int32).toInt = -1 := by decide
      exact W.iret (v := (-1)) hx hb hr (fun t ht hW => ⟨⟨(-1), (), rfl, trivial, ct, by rw [ht]; exact hP, hD, hI⟩, hS.F ht⟩) hS.2.2 dX8_linesOf_24
    · skip
      exact absurd c70 (by decide)

set_option maxHeartbeats 4000000 in
set_option maxRecDepth 100000 in
theorem k_X8_check (l : Launch) (g : zG) (sz : Nat) (ad : Nat → Nat) (pe : Int32) (ct : Nat → va_E) (b : Int32) (i : Int32) (n : Int32) (hI : Inv8 g ad pe ct) : Met l yX8_check (zW yX8_check cX8_check 6 (some .int)) ({ frames := 3, cells := 0, slots := 0, locals := 66 }) (va_Pc [.ref (ad 0), .int b, .int i, .int n] (zA g (zw 126 ad ct) sz)) (va_Qi (fun (r : Int32) (_ : Unit) => (True)) (fun _ t => ∃ ct2 : Nat → va_E, zP g (zw 126 ad ct2) t.heap ∧ va_D (va_A (zw 126 ad ct) sz) (zw 126 ad ct2) ∧ Inv8 g ad pe ct2) (va_A (zw 126 ad ct) sz)) 0 0 (va_A (zw 126 ad ct) sz) := by
  refine Met.ofW (cc := cX8_check) (maxL := 6) (ret := (some .int)) (by decide) rfl ?_
  intro p e s m args below meth c s₁ B hml hv
  obtain ⟨rfl, hsz, hP, hK, hD0, hN⟩ := hv
  have hx := B.exec
  have hb := B.bytes
  have hr := B.returns
  have hg := zW.law (atoms_spec (ws := (zW yX8_check cX8_check 6 (some .int))) B.pre)
  have hown : s.vm.findClass RX8 = some m.cls := findClass_of_methodNamed B.named
  have hlocks := B.notSynchronized
  have hpe0 := hI.1
  subst hsz
  have hD := hD0.self (sz := s.heap.size)
  generalize hAe : va_A (zw 126 ad ct) s.heap.size = A at hD ⊢
  have hA : ∀ q : Nat, s.heap.size ≤ q → A q := fun q h => by rw [← hAe]; exact Or.inr h
  have hS : va_S A s.heap s.heap [] := va_S.rf
  have hl := lv_entry ([.ref (ad 0), .int b, .int i, .int n]) (n := 6) (Nat.le_of_ble_eq_true rfl)
  rw [lg_entry_eq]
  generalize (lg_sl ([.ref (ad 0), .int b, .int i, .int n]) ++ List.replicate (6 - (lg_sl ([.ref (ad 0), .int b, .int i, .int n])).length) Slot.unset).toArray = ls at hl ⊢
  have hl : lv_has ls 6 [(0, .ref (ad 0)), (1, .int b), (2, .int i), (3, .int n)] := hl
  have rg_b := z_rng b
  have rg_i := z_rng i
  have rg_n := z_rng n
  refine lv_aload_n hx hb dX8_check_0 rfl (lv_at hl 0 rfl) ?_
  refine lv_iload_n hx hb dX8_check_1 rfl (lv_at hl 1 rfl) ?_
  refine lv_iload_n hx hb dX8_check_2 rfl (lv_at hl 2 rfl) ?_
  obtain ⟨bk3, dr2, h4, h5, h6, hs1⟩ := a8_0 hI
  refine zc_i (va_runV (As := [.int b, .int i]) (rest := []) ⟨hx, hb, hml, hown, hg⟩ (k_X8_isLive l g ad pe ct b i hI) (cwV 2 hg (z_gV mm_583 mm_585 mm_18 mm_108 mm_586) rfl rfl rfl (by decide +kernel) ⟨Nat.le_of_ble_eq_true rfl, Nat.le_of_ble_eq_true rfl⟩) ⟨(zR.pre [.ref (ad 0), .int b, .int i] hP hK hN).1, va_recv hK hP (ci := 8) (q0 := 0) rfl (zw_at (by omega) hs1), (zR.pre [.ref (ad 0), .int b, .int i] hP hK hN).2⟩ rfl rfl hl.1 rfl (lv_room (Nat.le_of_ble_eq_true rfl)) dX8_check_3 ⟨Nat.le_of_ble_eq_true rfl, Nat.le_of_ble_eq_true rfl⟩) (fun r7 hr7 => ?_)
  rcases hr7 with hr7 | hr7
  · skip
    obtain ⟨rfl, h8, h9⟩ := hr7
    have h8 : 0 ≤ b.toInt ∧ b.toInt ≤ 3 := h8
    have h9 : 0 ≤ i.toInt ∧ i.toInt ≤ 7 := h9
    refine lv_if_eq (tgt := 31) hx hb dX8_check_6 (by decide) (fun c10 => ?_) (fun c10 => ?_)
    · skip
      exact absurd c10 (by decide)
    · skip
      refine lv_iload_n hx hb dX8_check_9 rfl (lv_at hl 3 rfl) ?_
      refine lv_iconst (v := 0) hx hb dX8_check_10 (by decide) ?_
      refine lv_iconst (v := 4) hx hb dX8_check_11 (by decide) ?_
      refine zc_i (va_runS (As := [.int n, .int 0, .int 4]) (rest := []) ⟨hx, hb, hml, hown, hg⟩ (k_X8_within l g ad pe ct n (0 : Int32) (4 : Int32) hI) (va_cwS 3 hg (z_gS mm_407 mm_408 mm_108 mm_409) rfl rfl rfl (by decide +kernel) ⟨Nat.le_of_ble_eq_true rfl, Nat.le_of_ble_eq_true rfl⟩) (zR.pre [.int n, .int 0, .int 4] hP hK hN) rfl rfl hl.1 rfl (lv_room (Nat.le_of_ble_eq_true rfl)) dX8_check_12 ⟨Nat.le_of_ble_eq_true rfl, Nat.le_of_ble_eq_true rfl⟩) (fun r11 hr11 => ?_)
      rcases hr11 with hr11 | hr11
      · skip
        obtain ⟨rfl, h12, h13⟩ := hr11
        have h12 : (0 : Int) ≤ n.toInt := h12
        have h13 : n.toInt ≤ (4 : Int) := h13
        refine lv_if_eq (tgt := 31) hx hb dX8_check_15 (by decide) (fun c14 => ?_) (fun c14 => ?_)
        · skip
          exact absurd c14 (by decide)
        · skip
          refine lv_aload_n hx hb dX8_check_18 rfl (lv_at hl 0 rfl) ?_
          refine va_get (D := g.1) (ci := 8) (v := .ref (ad 3)) (C := RX8) (T := TX8) (N := 13) hx hb hg inG8 hown hK hP 0 (zw_at (by omega) hs1) rfl 2 (by decide) (hg _ mm_362) (fun _ h9 => h9) rfl dX8_check_19 ?_
          obtain ⟨len16, h17, h18, hs15⟩ := a8_3 hI
          refine va_get (D := g.1) (ci := 7) (v := .int len16) (C := RX7) (T := TX7) (N := 2) hx hb hg inG7 hown hK hP 3 (zw_at (by omega) hs15) rfl 0 (by decide) (hg _ mm_137) (fun _ h9 => h9) rfl dX8_check_22 ?_
          refine lv_iconst (v := 4) hx hb dX8_check_25 (by decide) ?_
          refine lv_iload_n hx hb dX8_check_26 rfl (lv_at hl 3 rfl) ?_
          refine lv_imul hx hb dX8_check_27 ?_
          refine lv_topi (fun x19 ex19 => ?_)
          have tx19 : x19.toInt = 4 * n.toInt := by rw [ex19]; exact z_mul (by decide : (4 : Int32).toInt = 4) rfl (by omega) (by omega)
          refine lv_icmp_ge (tgt := 34) hx hb dX8_check_28 (by decide) (fun c20 => ?_) (fun c20 => ?_)
          · skip
            have c20 : x19.toInt ≤ len16.toInt := (z_le rfl rfl).mp c20
            refine lv_iconst (v := (-1)) hx hb dX8_check_34 (by decide) ?_
            refine lv_istore (lv' := [(4, .int (-1)), (0, .ref (ad 0)), (1, .int b), (2, .int i), (3, .int n)]) hx hb dX8_check_35 hl (by decide) rfl (fun ls hl => ?_)
            refine lv_iconst (v := 0) hx hb dX8_check_37 (by decide) ?_
            refine lv_istore (lv' := [(5, .int 0), (4, .int (-1)), (0, .ref (ad 0)), (1, .int b), (2, .int i), (3, .int n)]) hx hb dX8_check_38 hl (by decide) rfl (fun ls hl => ?_)
            have loop40 : ∀ (n40 : Nat) (v5_40 : Int32) (v4_40 : Int32) (ct21 : Nat → va_E) (H : Heap) (locs : List Loc) (ls : Array Slot), ((4 - v5_40.toInt : Int).toNat < n40) → (0 ≤ v5_40.toInt ∧ v5_40.toInt ≤ 4) → (Inv8 g ad pe ct21) → zP g (zw 126 ad ct21) H → va_D A (zw 126 ad ct21) → va_S A s.heap H locs → lv_has ls 6 [(5, .int v5_40), (4, .int v4_40), (0, .ref (ad 0)), (1, .int b), (2, .int i), (3, .int n)] → W p l e (headSpec (zW yX8_check cX8_check 6 (some .int)) ({ frames := 3, cells := 0, slots := 0, locals := 66 })).room s m ([.ref (ad 0), .int b, .int i, .int n] : List Value).toArray below meth c H locs 0 0 (MQ below (va_Qi (fun (r : Int32) (_ : Unit) => (True)) (fun _ t => ∃ ct2 : Nat → va_E, zP g (zw 126 ad ct2) t.heap ∧ va_D A (zw 126 ad ct2) ∧ Inv8 g ad pe ct2) A) ([.ref (ad 0), .int b, .int i, .int n] : List Value).toArray s 0 0 A) (F0 m 40 ls []) := by
              intro n40
              induction n40 with
              | zero =>
                intro v5_40 v4_40 ct21 H locs ls hn40 b5_40 hI hP hD hS hl
                exact absurd hn40 (Nat.not_lt_zero _)
              | succ n40 ih40 =>
                intro v5_40 v4_40 ct21 H locs ls hn40 b5_40 hI hP hD hS hl
                refine lv_iload hx hb dX8_check_40 (lv_at hl 0 rfl) ?_
                refine lv_iload_n hx hb dX8_check_42 rfl (lv_at hl 5 rfl) ?_
                refine lv_icmp_ge (tgt := 88) hx hb dX8_check_43 (by decide) (fun c22 => ?_) (fun c22 => ?_)
                · skip
                  have c22 : n.toInt ≤ v5_40.toInt := (z_le rfl rfl).mp c22
                  refine lv_aload_n hx hb dX8_check_88 rfl (lv_at hl 2 rfl) ?_
                  obtain ⟨bk25, dr24, h26, h27, h28, hs23⟩ := a8_0 hI
                  refine va_get (D := g.1) (ci := 8) (v := .ref (ad 3)) (C := RX8) (T := TX8) (N := 13) hx hb hg inG8 hown hK hP 0 (zw_at (by omega) hs23) rfl 2 (by decide) (hg _ mm_362) (fun _ h9 => h9) rfl dX8_check_89 ?_
                  obtain ⟨len30, h31, h32, hs29⟩ := a8_3 hI
                  have hFc := zw_free hD hS hA
                  refine va_callv (va_runV (As := []) (rest := []) ⟨hx, hb, hml, hown, hg⟩ (k_X7_clear l g _ ad pe ct21  hI) (cwV 0 hg (z_gV mm_575 mm_576 mm_577 mm_109 mm_578) rfl rfl rfl (by decide +kernel) ⟨Nat.le_of_ble_eq_true rfl, Nat.le_of_ble_eq_true rfl⟩) ⟨(zA.pre [.ref (ad 3)] hP hK hD hN).1, va_recv hK hP (ci := 7) (q0 := 3) rfl (zw_at (by omega) hs29), (zA.pre [.ref (ad 3)] hP hK hD hN).2⟩ rfl rfl hl.1 rfl (lv_room (Nat.le_of_ble_eq_true rfl)) dX8_check_92 ⟨Nat.le_of_ble_eq_true rfl, Nat.le_of_ble_eq_true rfl⟩) hS (fun q _ h => hFc q h) hFc (fun _ t H1 locs ht hvm hr33 hB hz1 hk1 hS => ?_)
                  obtain ⟨ct34, hP1, hD1, hI, hk35⟩ := hB
                  rw [ht] at hP1
                  have hD := hD1.weaken (fun _ _ _ h => hFc _ h)
                  generalize H1 = H at hP1 hS ⊢
                  have hP := hP1
                  refine W.widen (k := 0) (n := 0) (Nat.le_refl _) (Nat.le_refl _) ?_
                  have hs36 : ct34 0 = .inr (8, [.ref (ad 1), .ref (ad 2), .ref (ad 3), .ref (ad 5), .ref (ad 6), .ref (ad 9), .ref (ad 10), .ref (ad 17), .ref (ad 21), .ref (ad 34), .ref (ad (99 + 3 * dr24)), .int pe, .int bk25]) := hk35.trans hs23
                  refine lv_iload hx hb dX8_check_95 (lv_at hl 1 rfl) ?_
                  exact W.iret (v := v4_40) hx hb hr (fun t ht hW => ⟨⟨v4_40, (), rfl, trivial, ct34, by rw [ht]; exact hP, hD, hI⟩, hS.F ht⟩) hS.2.2 dX8_check_97
                · skip
                  have c22 : ¬ (n.toInt ≤ v5_40.toInt) := fun q => c22 ((z_le rfl rfl).mpr q)
                  refine lv_iload hx hb dX8_check_46 (lv_at hl 1 rfl) ?_
                  refine lv_iconst (v := (-1)) hx hb dX8_check_48 (by decide) ?_
                  refine lv_icmp_ne (tgt := 88) hx hb dX8_check_49 (by decide) (fun c37 => ?_) (fun c37 => ?_)
                  · skip
                    have c37 : ¬ (v4_40.toInt = (-1)) := fun q => c37 ((z_eq rfl (by decide : ((-1) : Int32).toInt = (-1))).mpr q)
                    refine lv_aload_n hx hb dX8_check_88 rfl (lv_at hl 2 rfl) ?_
                    obtain ⟨bk40, dr39, h41, h42, h43, hs38⟩ := a8_0 hI
                    refine va_get (D := g.1) (ci := 8) (v := .ref (ad 3)) (C := RX8) (T := TX8) (N := 13) hx hb hg inG8 hown hK hP 0 (zw_at (by omega) hs38) rfl 2 (by decide) (hg _ mm_362) (fun _ h9 => h9) rfl dX8_check_89 ?_
                    obtain ⟨len45, h46, h47, hs44⟩ := a8_3 hI
                    have hFc := zw_free hD hS hA
                    refine va_callv (va_runV (As := []) (rest := []) ⟨hx, hb, hml, hown, hg⟩ (k_X7_clear l g _ ad pe ct21  hI) (cwV 0 hg (z_gV mm_575 mm_576 mm_577 mm_109 mm_578) rfl rfl rfl (by decide +kernel) ⟨Nat.le_of_ble_eq_true rfl, Nat.le_of_ble_eq_true rfl⟩) ⟨(zA.pre [.ref (ad 3)] hP hK hD hN).1, va_recv hK hP (ci := 7) (q0 := 3) rfl (zw_at (by omega) hs44), (zA.pre [.ref (ad 3)] hP hK hD hN).2⟩ rfl rfl hl.1 rfl (lv_room (Nat.le_of_ble_eq_true rfl)) dX8_check_92 ⟨Nat.le_of_ble_eq_true rfl, Nat.le_of_ble_eq_true rfl⟩) hS (fun q _ h => hFc q h) hFc (fun _ t H1 locs ht hvm hr48 hB hz1 hk1 hS => ?_)
                    obtain ⟨ct49, hP1, hD1, hI, hk50⟩ := hB
                    rw [ht] at hP1
                    have hD := hD1.weaken (fun _ _ _ h => hFc _ h)
                    generalize H1 = H at hP1 hS ⊢
                    have hP := hP1
                    refine W.widen (k := 0) (n := 0) (Nat.le_refl _) (Nat.le_refl _) ?_
                    have hs51 : ct49 0 = .inr (8, [.ref (ad 1), .ref (ad 2), .ref (ad 3), .ref (ad 5), .ref (ad 6), .ref (ad 9), .ref (ad 10), .ref (ad 17), .ref (ad 21), .ref (ad 34), .ref (ad (99 + 3 * dr39)), .int pe, .int bk40]) := hk50.trans hs38
                    refine lv_iload hx hb dX8_check_95 (lv_at hl 1 rfl) ?_
                    exact W.iret (v := v4_40) hx hb hr (fun t ht hW => ⟨⟨v4_40, (), rfl, trivial, ct49, by rw [ht]; exact hP, hD, hI⟩, hS.F ht⟩) hS.2.2 dX8_check_97
                  · skip
                    have c37 : v4_40.toInt = (-1) := (z_eq rfl (by decide : ((-1) : Int32).toInt = (-1))).mp c37
                    refine lv_aload_n hx hb dX8_check_52 rfl (lv_at hl 2 rfl) ?_
                    obtain ⟨bk54, dr53, h55, h56, h57, hs52⟩ := a8_0 hI
                    refine va_get (D := g.1) (ci := 8) (v := .ref (ad 3)) (C := RX8) (T := TX8) (N := 13) hx hb hg inG8 hown hK hP 0 (zw_at (by omega) hs52) rfl 2 (by decide) (hg _ mm_362) (fun _ h9 => h9) rfl dX8_check_53 ?_
                    refine lv_iconst (v := 4) hx hb dX8_check_56 (by decide) ?_
                    refine lv_iload hx hb dX8_check_57 (lv_at hl 0 rfl) ?_
                    refine lv_imul hx hb dX8_check_59 ?_
                    refine lv_topi (fun x58 ex58 => ?_)
                    have tx58 : x58.toInt = 4 * v5_40.toInt := by rw [ex58]; exact z_mul (by decide : (4 : Int32).toInt = 4) rfl (by omega) (by omega)
                    obtain ⟨len60, h61, h62, hs59⟩ := a8_3 hI
                    refine zc_i (va_runV (As := [.int x58]) (rest := []) ⟨hx, hb, hml, hown, hg⟩ (k_X7_number l g ad pe ct21 x58 hI) (cwV 1 hg (z_gV mm_938 mm_939 mm_940 mm_109 mm_941) rfl rfl rfl (by decide +kernel) ⟨Nat.le_of_ble_eq_true rfl, Nat.le_of_ble_eq_true rfl⟩) ⟨(zR.pre [.ref (ad 3), .int x58] hP hK hN).1, va_recv hK hP (ci := 7) (q0 := 3) rfl (zw_at (by omega) hs59), (zR.pre [.ref (ad 3), .int x58] hP hK hN).2⟩ rfl rfl hl.1 rfl (lv_room (Nat.le_of_ble_eq_true rfl)) dX8_check_60 ⟨Nat.le_of_ble_eq_true rfl, Nat.le_of_ble_eq_true rfl⟩) (fun r63 hr63 => ?_)
                    refine lv_aload_n hx hb dX8_check_63 rfl (lv_at hl 2 rfl) ?_
                    refine va_get (D := g.1) (ci := 8) (v := .ref (ad 5)) (C := RX8) (T := TX8) (N := 13) hx hb hg inG8 hown hK hP 0 (zw_at (by omega) hs52) rfl 3 (by decide) (hg _ mm_363) (fun _ h9 => h9) rfl dX8_check_64 ?_
                    refine lv_iload_n hx hb dX8_check_67 rfl (lv_at hl 3 rfl) ?_
                    have hs64 := a8_5 hI
                    refine va_aldq hx hb hK hP 5 5 (zw_at (by omega) hs64) rfl (z_in rfl (by omega) (by omega)) dX8_check_68 ?_
                    rw [zF5_at (x := b) (by omega) (by omega)]
                    refine lv_iload_n hx hb dX8_check_69 rfl (lv_at hl 4 rfl) ?_
                    refine lv_iload hx hb dX8_check_70 (lv_at hl 0 rfl) ?_
                    obtain ⟨lns66, liv67, shw68, h69, h70, h71, h72, hz73, hs65⟩ := a8_40 (kc := (0 + 55 + 11 * b.toInt.toNat)) (by omega) hI
                    have bhz73 := z_b01 hz73
                    refine zc_i (va_runV (As := [.int i, .int v5_40]) (rest := [.int r63]) ⟨hx, hb, hml, hown, hg⟩ (k_X2_nodeAt l g ad pe ct21 (0 + 55 + 11 * b.toInt.toNat) i v5_40 (by omega) hI) (cwV 2 hg (z_gV mm_599 mm_600 mm_601 mm_116 mm_602) rfl rfl rfl (by decide +kernel) ⟨Nat.le_of_ble_eq_true rfl, Nat.le_of_ble_eq_true rfl⟩) ⟨(zR.pre [.ref (ad (0 + 55 + 11 * b.toInt.toNat)), .int i, .int v5_40] hP hK hN).1, va_recv hK hP (ci := 2) (q0 := (0 + 55 + 11 * b.toInt.toNat)) rfl (zw_at (by omega) hs65), (zR.pre [.ref (ad (0 + 55 + 11 * b.toInt.toNat)), .int i, .int v5_40] hP hK hN).2⟩ rfl rfl hl.1 rfl (lv_room (Nat.le_of_ble_eq_true rfl)) dX8_check_72 ⟨Nat.le_of_ble_eq_true rfl, Nat.le_of_ble_eq_true rfl⟩) (fun r74 hr74 => ?_)
                    refine lv_icmp_eq (tgt := 82) hx hb dX8_check_75 (by decide) (fun c75 => ?_) (fun c75 => ?_)
                    · skip
                      have c75 : r63.toInt = r74.toInt := (z_eq rfl rfl).mp c75
                      obtain ⟨x76, ex76⟩ : ∃ y : Int32, y = v5_40 + 1 := ⟨_, rfl⟩
                      have tx76 : x76.toInt = v5_40.toInt + 1 := by rw [ex76]; exact z_add rfl (by decide : (1 : Int32).toInt = 1) (by omega) (by omega)
                      refine lv_iinc (v := x76) (lv' := [(5, .int x76), (4, .int v4_40), (0, .ref (ad 0)), (1, .int b), (2, .int i), (3, .int n)]) hx hb dX8_check_82 hl (k := 0) rfl (by rw [ex76]; rfl) (by decide) rfl (fun ls hl => ?_)
                      refine lv_goto (tgt := 40) hx hb dX8_check_85 (by decide) ?_
                      exact ih40 x76 v4_40 ct21 _ _ ls (by omega) (by first | omega | decide) hI hP hD hS (lv_sub hl [0, 1, 2, 3, 4, 5] rfl)
                    · skip
                      have c75 : ¬ (r63.toInt = r74.toInt) := fun q => c75 ((z_eq rfl rfl).mpr q)
                      refine lv_iload hx hb dX8_check_78 (lv_at hl 0 rfl) ?_
                      refine lv_istore (lv' := [(4, .int v5_40), (5, .int v5_40), (0, .ref (ad 0)), (1, .int b), (2, .int i), (3, .int n)]) hx hb dX8_check_80 hl (by decide) rfl (fun ls hl => ?_)
                      obtain ⟨x77, ex77⟩ : ∃ y : Int32, y = v5_40 + 1 := ⟨_, rfl⟩
                      have tx77 : x77.toInt = v5_40.toInt + 1 := by rw [ex77]; exact z_add rfl (by decide : (1 : Int32).toInt = 1) (by omega) (by omega)
                      refine lv_iinc (v := x77) (lv' := [(5, .int x77), (4, .int v5_40), (0, .ref (ad 0)), (1, .int b), (2, .int i), (3, .int n)]) hx hb dX8_check_82 hl (k := 1) rfl (by rw [ex77]; rfl) (by decide) rfl (fun ls hl => ?_)
                      refine lv_goto (tgt := 40) hx hb dX8_check_85 (by decide) ?_
                      exact ih40 x77 v5_40 ct21 _ _ ls (by omega) (by first | omega | decide) hI hP hD hS (lv_sub hl [0, 1, 2, 3, 4, 5] rfl)
            exact loop40 ((4 - (0 : Int32).toInt : Int).toNat + 1) (0 : Int32) (-1 : Int32) ct _ _ ls (by omega) (by first | omega | decide) hI hP hD hS (lv_sub hl [0, 1, 2, 3, 4, 5] rfl)
          · skip
            have c20 : ¬ (x19.toInt ≤ len16.toInt) := fun q => c20 ((z_le rfl rfl).mpr q)
            refine lv_bipush (v := (-2)) hx hb dX8_check_31 (by decide) ?_
            have q78 : ((-2) : Int32).toInt = -2 := by decide
            exact W.iret (v := (-2)) hx hb hr (fun t ht hW => ⟨⟨(-2), (), rfl, trivial, ct, by rw [ht]; exact hP, hD, hI⟩, hS.F ht⟩) hS.2.2 dX8_check_33
      · skip
        obtain ⟨rfl, h79⟩ := hr11
        have h79 : ¬ ((0 : Int) ≤ n.toInt ∧ n.toInt ≤ (4 : Int)) := h79
        refine lv_if_eq (tgt := 31) hx hb dX8_check_15 (by decide) (fun c80 => ?_) (fun c80 => ?_)
        · skip
          refine lv_bipush (v := (-2)) hx hb dX8_check_31 (by decide) ?_
          have q81 : ((-2) : Int32).toInt = -2 := by decide
          exact W.iret (v := (-2)) hx hb hr (fun t ht hW => ⟨⟨(-2), (), rfl, trivial, ct, by rw [ht]; exact hP, hD, hI⟩, hS.F ht⟩) hS.2.2 dX8_check_33
        · skip
          exact absurd c80 (by decide)
  · skip
    obtain rfl := hr7
    refine lv_if_eq (tgt := 31) hx hb dX8_check_6 (by decide) (fun c82 => ?_) (fun c82 => ?_)
    · skip
      refine lv_bipush (v := (-2)) hx hb dX8_check_31 (by decide) ?_
      have q83 : ((-2) : Int32).toInt = -2 := by decide
      exact W.iret (v := (-2)) hx hb hr (fun t ht hW => ⟨⟨(-2), (), rfl, trivial, ct, by rw [ht]; exact hP, hD, hI⟩, hS.F ht⟩) hS.2.2 dX8_check_33
    · skip
      exact absurd c82 (by decide)
