set_option maxHeartbeats 4000000 in
set_option maxRecDepth 100000 in
theorem k_X8_book (l : Launch) (g : zG) (sz : Nat) (ad : Nat → Nat) (pe : Int32) (ct : Nat → va_E) (n : Int32) (l0 : Int32) (l1 : Int32) (l2 : Int32) (l3 : Int32) (hI : Inv8 g ad pe ct) : Met l yX8_book (zW yX8_book cX8_book 9 (some .int)) ({ frames := 3, cells := 0, slots := 0, locals := 71 }) (va_Pc [.ref (ad 0), .int n, .int l0, .int l1, .int l2, .int l3] (zA g (zw 126 ad ct) sz)) (va_Qi (fun (r : Int32) (_ : Unit) => (True)) (fun _ t => ∃ ct2 : Nat → va_E, zP g (zw 126 ad ct2) t.heap ∧ va_D (va_A (zw 126 ad ct) sz) (zw 126 ad ct2) ∧ Inv8 g ad pe ct2) (va_A (zw 126 ad ct) sz)) 0 0 (va_A (zw 126 ad ct) sz) := by
  refine Met.ofW (cc := cX8_book) (maxL := 9) (ret := (some .int)) (by decide) rfl ?_
  intro p e s m args below meth c s₁ B hml hv
  obtain ⟨rfl, hsz, hP, hK, hD0, hN⟩ := hv
  have hx := B.exec
  have hb := B.bytes
  have hr := B.returns
  have hg := zW.law (atoms_spec (ws := (zW yX8_book cX8_book 9 (some .int))) B.pre)
  have hown : s.vm.findClass RX8 = some m.cls := findClass_of_methodNamed B.named
  have hlocks := B.notSynchronized
  have hpe0 := hI.1
  subst hsz
  have hD := hD0.self (sz := s.heap.size)
  generalize hAe : va_A (zw 126 ad ct) s.heap.size = A at hD ⊢
  have hA : ∀ q : Nat, s.heap.size ≤ q → A q := fun q h => by rw [← hAe]; exact Or.inr h
  have hS : va_S A s.heap s.heap [] := va_S.rf
  have hl := lv_entry ([.ref (ad 0), .int n, .int l0, .int l1, .int l2, .int l3]) (n := 9) (Nat.le_of_ble_eq_true rfl)
  rw [lg_entry_eq]
  generalize (lg_sl ([.ref (ad 0), .int n, .int l0, .int l1, .int l2, .int l3]) ++ List.replicate (9 - (lg_sl ([.ref (ad 0), .int n, .int l0, .int l1, .int l2, .int l3])).length) Slot.unset).toArray = ls at hl ⊢
  have hl : lv_has ls 9 [(0, .ref (ad 0)), (1, .int n), (2, .int l0), (3, .int l1), (4, .int l2), (5, .int l3)] := hl
  have hk0 : ct 0 = ct 0 := rfl
  obtain ⟨bk3, dr2, h4, h5, h6, hs1⟩ := a8_0 hI
  have rg_n := z_rng n
  have rg_l0 := z_rng l0
  have rg_l1 := z_rng l1
  have rg_l2 := z_rng l2
  have rg_l3 := z_rng l3
  refine lv_iload_n hx hb dX8_book_0 rfl (lv_at hl 1 rfl) ?_
  refine lv_iconst (v := 1) hx hb dX8_book_1 (by decide) ?_
  refine lv_bipush (v := 8) hx hb dX8_book_2 (by decide) ?_
  refine zc_i (va_runS (As := [.int n, .int 1, .int 8]) (rest := []) ⟨hx, hb, hml, hown, hg⟩ (k_X8_within l g ad pe ct n (1 : Int32) (8 : Int32) hI) (va_cwS 3 hg (z_gS mm_407 mm_408 mm_108 mm_409) rfl rfl rfl (by decide +kernel) ⟨Nat.le_of_ble_eq_true rfl, Nat.le_of_ble_eq_true rfl⟩) (zR.pre [.int n, .int 1, .int 8] hP hK hN) rfl rfl hl.1 rfl (lv_room (Nat.le_of_ble_eq_true rfl)) dX8_book_4 ⟨Nat.le_of_ble_eq_true rfl, Nat.le_of_ble_eq_true rfl⟩) (fun r7 hr7 => ?_)
  rcases hr7 with hr7 | hr7
  · skip
    obtain ⟨rfl, h8, h9⟩ := hr7
    have h8 : (1 : Int) ≤ n.toInt := h8
    have h9 : n.toInt ≤ (8 : Int) := h9
    refine lv_if_eq (tgt := 29) hx hb dX8_book_7 (by decide) (fun c10 => ?_) (fun c10 => ?_)
    · skip
      exact absurd c10 (by decide)
    · skip
      refine lv_aload_n hx hb dX8_book_10 rfl (lv_at hl 0 rfl) ?_
      refine va_get (D := g.1) (ci := 8) (v := .int bk3) (C := RX8) (T := TX8) (N := 13) hx hb hg inG8 hown hK hP 0 (zw_at (by omega) hs1) rfl 12 (by decide) (hg _ mm_372) (fun _ h9 => h9) rfl dX8_book_11 ?_
      refine lv_iconst (v := 4) hx hb dX8_book_14 (by decide) ?_
      refine lv_icmp_ge (tgt := 29) hx hb dX8_book_15 (by decide) (fun c11 => ?_) (fun c11 => ?_)
      · skip
        have c11 : 4 ≤ bk3.toInt := (z_le (by decide : (4 : Int32).toInt = 4) rfl).mp c11
        refine lv_iconst (v := (-1)) hx hb dX8_book_29 (by decide) ?_
        have q12 : ((-1) : Int32).toInt = -1 := by decide
        exact W.iret (v := (-1)) hx hb hr (fun t ht hW => ⟨⟨(-1), (), rfl, trivial, ct, by rw [ht]; exact hP, hD, hI⟩, hS.F ht⟩) hS.2.2 dX8_book_30
      · skip
        have c11 : ¬ (4 ≤ bk3.toInt) := fun q => c11 ((z_le (by decide : (4 : Int32).toInt = 4) rfl).mpr q)
        refine lv_aload_n hx hb dX8_book_18 rfl (lv_at hl 0 rfl) ?_
        refine va_get (D := g.1) (ci := 8) (v := .ref (ad 3)) (C := RX8) (T := TX8) (N := 13) hx hb hg inG8 hown hK hP 0 (zw_at (by omega) hs1) rfl 2 (by decide) (hg _ mm_362) (fun _ h9 => h9) rfl dX8_book_19 ?_
        obtain ⟨len14, h15, h16, hs13⟩ := a8_3 hI
        refine va_get (D := g.1) (ci := 7) (v := .int len14) (C := RX7) (T := TX7) (N := 2) hx hb hg inG7 hown hK hP 3 (zw_at (by omega) hs13) rfl 0 (by decide) (hg _ mm_137) (fun _ h9 => h9) rfl dX8_book_22 ?_
        refine lv_iload_n hx hb dX8_book_25 rfl (lv_at hl 1 rfl) ?_
        refine lv_icmp_ge (tgt := 31) hx hb dX8_book_26 (by decide) (fun c17 => ?_) (fun c17 => ?_)
        · skip
          have c17 : n.toInt ≤ len14.toInt := (z_le rfl rfl).mp c17
          refine lv_iload_n hx hb dX8_book_31 rfl (lv_at hl 2 rfl) ?_
          refine zc_i (va_runS (As := [.int l0]) (rest := []) ⟨hx, hb, hml, hown, hg⟩ (k_X8_isLevel l g ad pe ct l0 hI) (va_cwS 1 hg (z_gS mm_529 mm_530 mm_108 mm_531) rfl rfl rfl (by decide +kernel) ⟨Nat.le_of_ble_eq_true rfl, Nat.le_of_ble_eq_true rfl⟩) (zR.pre [.int l0] hP hK hN) rfl rfl hl.1 rfl (lv_room (Nat.le_of_ble_eq_true rfl)) dX8_book_32 ⟨Nat.le_of_ble_eq_true rfl, Nat.le_of_ble_eq_true rfl⟩) (fun r18 hr18 => ?_)
          rcases hr18 with hr18 | hr18
          · skip
            obtain ⟨rfl, h19, h20⟩ := hr18
            have h19 : 0 ≤ l0.toInt := h19
            have h20 : l0.toInt ≤ 4 := h20
            refine lv_if_eq (tgt := 61) hx hb dX8_book_35 (by decide) (fun c21 => ?_) (fun c21 => ?_)
            · skip
              exact absurd c21 (by decide)
            · skip
              refine lv_iload_n hx hb dX8_book_38 rfl (lv_at hl 3 rfl) ?_
              refine zc_i (va_runS (As := [.int l1]) (rest := []) ⟨hx, hb, hml, hown, hg⟩ (k_X8_isLevel l g ad pe ct l1 hI) (va_cwS 1 hg (z_gS mm_529 mm_530 mm_108 mm_531) rfl rfl rfl (by decide +kernel) ⟨Nat.le_of_ble_eq_true rfl, Nat.le_of_ble_eq_true rfl⟩) (zR.pre [.int l1] hP hK hN) rfl rfl hl.1 rfl (lv_room (Nat.le_of_ble_eq_true rfl)) dX8_book_39 ⟨Nat.le_of_ble_eq_true rfl, Nat.le_of_ble_eq_true rfl⟩) (fun r22 hr22 => ?_)
              rcases hr22 with hr22 | hr22
              · skip
                obtain ⟨rfl, h23, h24⟩ := hr22
                have h23 : 0 ≤ l1.toInt := h23
                have h24 : l1.toInt ≤ 4 := h24
                refine lv_if_eq (tgt := 61) hx hb dX8_book_42 (by decide) (fun c25 => ?_) (fun c25 => ?_)
                · skip
                  exact absurd c25 (by decide)
                · skip
                  refine lv_iload hx hb dX8_book_45 (lv_at hl 4 rfl) ?_
                  refine zc_i (va_runS (As := [.int l2]) (rest := []) ⟨hx, hb, hml, hown, hg⟩ (k_X8_isLevel l g ad pe ct l2 hI) (va_cwS 1 hg (z_gS mm_529 mm_530 mm_108 mm_531) rfl rfl rfl (by decide +kernel) ⟨Nat.le_of_ble_eq_true rfl, Nat.le_of_ble_eq_true rfl⟩) (zR.pre [.int l2] hP hK hN) rfl rfl hl.1 rfl (lv_room (Nat.le_of_ble_eq_true rfl)) dX8_book_47 ⟨Nat.le_of_ble_eq_true rfl, Nat.le_of_ble_eq_true rfl⟩) (fun r26 hr26 => ?_)
                  rcases hr26 with hr26 | hr26
                  · skip
                    obtain ⟨rfl, h27, h28⟩ := hr26
                    have h27 : 0 ≤ l2.toInt := h27
                    have h28 : l2.toInt ≤ 4 := h28
                    refine lv_if_eq (tgt := 61) hx hb dX8_book_50 (by decide) (fun c29 => ?_) (fun c29 => ?_)
                    · skip
                      exact absurd c29 (by decide)
                    · skip
                      refine lv_iload hx hb dX8_book_53 (lv_at hl 5 rfl) ?_
                      refine zc_i (va_runS (As := [.int l3]) (rest := []) ⟨hx, hb, hml, hown, hg⟩ (k_X8_isLevel l g ad pe ct l3 hI) (va_cwS 1 hg (z_gS mm_529 mm_530 mm_108 mm_531) rfl rfl rfl (by decide +kernel) ⟨Nat.le_of_ble_eq_true rfl, Nat.le_of_ble_eq_true rfl⟩) (zR.pre [.int l3] hP hK hN) rfl rfl hl.1 rfl (lv_room (Nat.le_of_ble_eq_true rfl)) dX8_book_55 ⟨Nat.le_of_ble_eq_true rfl, Nat.le_of_ble_eq_true rfl⟩) (fun r30 hr30 => ?_)
                      rcases hr30 with hr30 | hr30
                      · skip
                        obtain ⟨rfl, h31, h32⟩ := hr30
                        have h31 : 0 ≤ l3.toInt := h31
                        have h32 : l3.toInt ≤ 4 := h32
                        refine lv_if_ne (tgt := 63) hx hb dX8_book_58 (by decide) (fun c33 => ?_) (fun c33 => ?_)
                        · skip
                          refine lv_aload_n hx hb dX8_book_63 rfl (lv_at hl 0 rfl) ?_
                          refine lv_iload_n hx hb dX8_book_64 rfl (lv_at hl 1 rfl) ?_
                          refine zc_i (va_runV (As := [.int n]) (rest := []) ⟨hx, hb, hml, hown, hg⟩ (k_X8_tellsPeople l g ad pe ct n hI) (cwV 1 hg (z_gV mm_548 mm_550 mm_16 mm_108 mm_551) rfl rfl rfl (by decide +kernel) ⟨Nat.le_of_ble_eq_true rfl, Nat.le_of_ble_eq_true rfl⟩) ⟨(zR.pre [.ref (ad 0), .int n] hP hK hN).1, va_recv hK hP (ci := 8) (q0 := 0) rfl (zw_at (by omega) hs1), (zR.pre [.ref (ad 0), .int n] hP hK hN).2⟩ rfl rfl hl.1 rfl (lv_room (Nat.le_of_ble_eq_true rfl)) dX8_book_65 ⟨Nat.le_of_ble_eq_true rfl, Nat.le_of_ble_eq_true rfl⟩) (fun r34 hr34 => ?_)
                          rcases hr34 with hr34 | hr34
                          · skip
                            obtain rfl := hr34
                            refine lv_istore (lv' := [(6, .int 1), (0, .ref (ad 0)), (1, .int n), (2, .int l0), (3, .int l1), (4, .int l2), (5, .int l3)]) hx hb dX8_book_68 hl (by decide) rfl (fun ls hl => ?_)
                            refine lv_iload hx hb dX8_book_70 (lv_at hl 0 rfl) ?_
                            refine lv_if_eq (tgt := 159) hx hb dX8_book_72 (by decide) (fun c35 => ?_) (fun c35 => ?_)
                            · skip
                              exact absurd c35 (by decide)
                            · skip
                              refine lv_aload_n hx hb dX8_book_75 rfl (lv_at hl 1 rfl) ?_
                              refine va_get (D := g.1) (ci := 8) (v := .ref (ad 5)) (C := RX8) (T := TX8) (N := 13) hx hb hg inG8 hown hK hP 0 (zw_at (by omega) hs1) rfl 3 (by decide) (hg _ mm_363) (fun _ h9 => h9) rfl dX8_book_76 ?_
                              refine lv_aload_n hx hb dX8_book_79 rfl (lv_at hl 1 rfl) ?_
                              refine va_get (D := g.1) (ci := 8) (v := .int bk3) (C := RX8) (T := TX8) (N := 13) hx hb hg inG8 hown hK hP 0 (zw_at (by omega) hs1) rfl 12 (by decide) (hg _ mm_372) (fun _ h9 => h9) rfl dX8_book_80 ?_
                              have hs36 := a8_5 hI
                              refine va_aldq hx hb hK hP 5 5 (zw_at (by omega) hs36) rfl (z_in rfl (by omega) (by omega)) dX8_book_83 ?_
                              rw [zF5_at (x := bk3) (by omega) (by omega)]
                              refine lv_astore (lv' := [(7, .ref (ad (0 + 55 + 11 * bk3.toInt.toNat))), (6, .int 1), (0, .ref (ad 0)), (1, .int n), (2, .int l0), (3, .int l1), (4, .int l2), (5, .int l3)]) hx hb dX8_book_84 hl (by decide) rfl (fun ls hl => ?_)
                              refine lv_iconst (v := 0) hx hb dX8_book_86 (by decide) ?_
                              refine lv_istore (lv' := [(8, .int 0), (7, .ref (ad (0 + 55 + 11 * bk3.toInt.toNat))), (6, .int 1), (0, .ref (ad 0)), (1, .int n), (2, .int l0), (3, .int l1), (4, .int l2), (5, .int l3)]) hx hb dX8_book_87 hl (by decide) rfl (fun ls hl => ?_)
                              have loop89 : ∀ (n89 : Nat) (v8_89 : Int32) (ct37 : Nat → va_E) (H : Heap) (locs : List Loc) (ls : Array Slot), ((8 - v8_89.toInt : Int).toNat < n89) → (0 ≤ v8_89.toInt ∧ v8_89.toInt ≤ 8) → (ct37 0 = ct 0) → (Inv8 g ad pe ct37) → zP g (zw 126 ad ct37) H → va_D A (zw 126 ad ct37) → va_S A s.heap H locs → lv_has ls 9 [(8, .int v8_89), (7, .ref (ad (0 + 55 + 11 * bk3.toInt.toNat))), (6, .int 1), (0, .ref (ad 0)), (1, .int n), (2, .int l0), (3, .int l1), (4, .int l2), (5, .int l3)] → W p l e (headSpec (zW yX8_book cX8_book 9 (some .int)) ({ frames := 3, cells := 0, slots := 0, locals := 71 })).room s m ([.ref (ad 0), .int n, .int l0, .int l1, .int l2, .int l3] : List Value).toArray below meth c H locs 0 0 (MQ below (va_Qi (fun (r : Int32) (_ : Unit) => (True)) (fun _ t => ∃ ct2 : Nat → va_E, zP g (zw 126 ad ct2) t.heap ∧ va_D A (zw 126 ad ct2) ∧ Inv8 g ad pe ct2) A) ([.ref (ad 0), .int n, .int l0, .int l1, .int l2, .int l3] : List Value).toArray s 0 0 A) (F0 m 89 ls []) := by
                                intro n89
                                induction n89 with
                                | zero =>
                                  intro v8_89 ct37 H locs ls hn89 b8_89 hk0 hI hP hD hS hl
                                  exact absurd hn89 (Nat.not_lt_zero _)
                                | succ n89 ih89 =>
                                  intro v8_89 ct37 H locs ls hn89 b8_89 hk0 hI hP hD hS hl
                                  have hs38 : ct37 0 = .inr (8, [.ref (ad 1), .ref (ad 2), .ref (ad 3), .ref (ad 5), .ref (ad 6), .ref (ad 9), .ref (ad 10), .ref (ad 17), .ref (ad 21), .ref (ad 34), .ref (ad (99 + 3 * dr2)), .int pe, .int bk3]) := hk0.trans hs1
                                  refine lv_iload hx hb dX8_book_89 (lv_at hl 0 rfl) ?_
                                  refine lv_iload_n hx hb dX8_book_91 rfl (lv_at hl 4 rfl) ?_
                                  refine lv_icmp_ge (tgt := 115) hx hb dX8_book_92 (by decide) (fun c39 => ?_) (fun c39 => ?_)
                                  · skip
                                    have c39 : n.toInt ≤ v8_89.toInt := (z_le rfl rfl).mp c39
                                    refine lv_aload_n hx hb dX8_book_115 rfl (lv_at hl 3 rfl) ?_
                                    refine lv_aload hx hb dX8_book_116 (lv_at hl 1 rfl) ?_
                                    refine lv_iconst (v := 0) hx hb dX8_book_118 (by decide) ?_
                                    refine lv_iload_n hx hb dX8_book_119 rfl (lv_at hl 5 rfl) ?_
                                    have hFc := zw_free hD hS hA
                                    refine va_callv (va_runV (As := [.ref (ad (0 + 55 + 11 * bk3.toInt.toNat)), .int 0, .int l0]) (rest := []) ⟨hx, hb, hml, hown, hg⟩ (k_X8_fillColumn l g _ ad pe ct37 (0 + 55 + 11 * bk3.toInt.toNat) (0 : Int32) l0 (by omega) (by first | omega | decide) hI) (cwV 3 hg (z_gV mm_561 mm_563 mm_17 mm_108 mm_564) rfl rfl rfl (by decide +kernel) ⟨Nat.le_of_ble_eq_true rfl, Nat.le_of_ble_eq_true rfl⟩) ⟨(zA.pre [.ref (ad 0), .ref (ad (0 + 55 + 11 * bk3.toInt.toNat)), .int 0, .int l0] hP hK hD hN).1, va_recv hK hP (ci := 8) (q0 := 0) rfl (zw_at (by omega) hs38), (zA.pre [.ref (ad 0), .ref (ad (0 + 55 + 11 * bk3.toInt.toNat)), .int 0, .int l0] hP hK hD hN).2⟩ rfl rfl hl.1 rfl (lv_room (Nat.le_of_ble_eq_true rfl)) dX8_book_120 ⟨Nat.le_of_ble_eq_true rfl, Nat.le_of_ble_eq_true rfl⟩) hS (fun q _ h => hFc q h) hFc (fun _ t H1 locs ht hvm hr40 hB hz1 hk1 hS => ?_)
                                    obtain ⟨ct41, hP1, hD1, hI, hk42⟩ := hB
                                    rw [ht] at hP1
                                    have hD := hD1.weaken (fun _ _ _ h => hFc _ h)
                                    generalize H1 = H at hP1 hS ⊢
                                    have hP := hP1
                                    refine W.widen (k := 0) (n := 0) (Nat.le_refl _) (Nat.le_refl _) ?_
                                    have hs43 : ct41 0 = .inr (8, [.ref (ad 1), .ref (ad 2), .ref (ad 3), .ref (ad 5), .ref (ad 6), .ref (ad 9), .ref (ad 10), .ref (ad 17), .ref (ad 21), .ref (ad 34), .ref (ad (99 + 3 * dr2)), .int pe, .int bk3]) := hk42.trans hs38
                                    have hk0 : ct41 0 = ct 0 := hk42.trans hk0
                                    have hs44 : ct41 0 = .inr (8, [.ref (ad 1), .ref (ad 2), .ref (ad 3), .ref (ad 5), .ref (ad 6), .ref (ad 9), .ref (ad 10), .ref (ad 17), .ref (ad 21), .ref (ad 34), .ref (ad (99 + 3 * dr2)), .int pe, .int bk3]) := hk0.trans hs1
                                    refine lv_aload_n hx hb dX8_book_123 rfl (lv_at hl 3 rfl) ?_
                                    refine lv_aload hx hb dX8_book_124 (lv_at hl 1 rfl) ?_
                                    refine lv_iconst (v := 1) hx hb dX8_book_126 (by decide) ?_
                                    refine lv_iload_n hx hb dX8_book_127 rfl (lv_at hl 6 rfl) ?_
                                    have hFc := zw_free hD hS hA
                                    refine va_callv (va_runV (As := [.ref (ad (0 + 55 + 11 * bk3.toInt.toNat)), .int 1, .int l1]) (rest := []) ⟨hx, hb, hml, hown, hg⟩ (k_X8_fillColumn l g _ ad pe ct41 (0 + 55 + 11 * bk3.toInt.toNat) (1 : Int32) l1 (by omega) (by first | omega | decide) hI) (cwV 3 hg (z_gV mm_561 mm_563 mm_17 mm_108 mm_564) rfl rfl rfl (by decide +kernel) ⟨Nat.le_of_ble_eq_true rfl, Nat.le_of_ble_eq_true rfl⟩) ⟨(zA.pre [.ref (ad 0), .ref (ad (0 + 55 + 11 * bk3.toInt.toNat)), .int 1, .int l1] hP hK hD hN).1, va_recv hK hP (ci := 8) (q0 := 0) rfl (zw_at (by omega) hs44), (zA.pre [.ref (ad 0), .ref (ad (0 + 55 + 11 * bk3.toInt.toNat)), .int 1, .int l1] hP hK hD hN).2⟩ rfl rfl hl.1 rfl (lv_room (Nat.le_of_ble_eq_true rfl)) dX8_book_128 ⟨Nat.le_of_ble_eq_true rfl, Nat.le_of_ble_eq_true rfl⟩) hS (fun q _ h => hFc q h) hFc (fun _ t H1 locs ht hvm hr45 hB hz1 hk1 hS => ?_)
                                    obtain ⟨ct46, hP1, hD1, hI, hk47⟩ := hB
                                    rw [ht] at hP1
                                    have hD := hD1.weaken (fun _ _ _ h => hFc _ h)
                                    generalize H1 = H at hP1 hS ⊢
                                    have hP := hP1
                                    refine W.widen (k := 0) (n := 0) (Nat.le_refl _) (Nat.le_refl _) ?_
                                    have hs48 : ct46 0 = .inr (8, [.ref (ad 1), .ref (ad 2), .ref (ad 3), .ref (ad 5), .ref (ad 6), .ref (ad 9), .ref (ad 10), .ref (ad 17), .ref (ad 21), .ref (ad 34), .ref (ad (99 + 3 * dr2)), .int pe, .int bk3]) := hk47.trans hs44
                                    have hk0 : ct46 0 = ct 0 := hk47.trans hk0
                                    have hs49 : ct46 0 = .inr (8, [.ref (ad 1), .ref (ad 2), .ref (ad 3), .ref (ad 5), .ref (ad 6), .ref (ad 9), .ref (ad 10), .ref (ad 17), .ref (ad 21), .ref (ad 34), .ref (ad (99 + 3 * dr2)), .int pe, .int bk3]) := hk0.trans hs1
                                    refine lv_aload_n hx hb dX8_book_131 rfl (lv_at hl 3 rfl) ?_
                                    refine lv_aload hx hb dX8_book_132 (lv_at hl 1 rfl) ?_
                                    refine lv_iconst (v := 2) hx hb dX8_book_134 (by decide) ?_
                                    refine lv_iload hx hb dX8_book_135 (lv_at hl 7 rfl) ?_
                                    have hFc := zw_free hD hS hA
                                    refine va_callv (va_runV (As := [.ref (ad (0 + 55 + 11 * bk3.toInt.toNat)), .int 2, .int l2]) (rest := []) ⟨hx, hb, hml, hown, hg⟩ (k_X8_fillColumn l g _ ad pe ct46 (0 + 55 + 11 * bk3.toInt.toNat) (2 : Int32) l2 (by omega) (by first | omega | decide) hI) (cwV 3 hg (z_gV mm_561 mm_563 mm_17 mm_108 mm_564) rfl rfl rfl (by decide +kernel) ⟨Nat.le_of_ble_eq_true rfl, Nat.le_of_ble_eq_true rfl⟩) ⟨(zA.pre [.ref (ad 0), .ref (ad (0 + 55 + 11 * bk3.toInt.toNat)), .int 2, .int l2] hP hK hD hN).1, va_recv hK hP (ci := 8) (q0 := 0) rfl (zw_at (by omega) hs49), (zA.pre [.ref (ad 0), .ref (ad (0 + 55 + 11 * bk3.toInt.toNat)), .int 2, .int l2] hP hK hD hN).2⟩ rfl rfl hl.1 rfl (lv_room (Nat.le_of_ble_eq_true rfl)) dX8_book_137 ⟨Nat.le_of_ble_eq_true rfl, Nat.le_of_ble_eq_true rfl⟩) hS (fun q _ h => hFc q h) hFc (fun _ t H1 locs ht hvm hr50 hB hz1 hk1 hS => ?_)
                                    obtain ⟨ct51, hP1, hD1, hI, hk52⟩ := hB
                                    rw [ht] at hP1
                                    have hD := hD1.weaken (fun _ _ _ h => hFc _ h)
                                    generalize H1 = H at hP1 hS ⊢
                                    have hP := hP1
                                    refine W.widen (k := 0) (n := 0) (Nat.le_refl _) (Nat.le_refl _) ?_
                                    have hs53 : ct51 0 = .inr (8, [.ref (ad 1), .ref (ad 2), .ref (ad 3), .ref (ad 5), .ref (ad 6), .ref (ad 9), .ref (ad 10), .ref (ad 17), .ref (ad 21), .ref (ad 34), .ref (ad (99 + 3 * dr2)), .int pe, .int bk3]) := hk52.trans hs49
                                    have hk0 : ct51 0 = ct 0 := hk52.trans hk0
                                    have hs54 : ct51 0 = .inr (8, [.ref (ad 1), .ref (ad 2), .ref (ad 3), .ref (ad 5), .ref (ad 6), .ref (ad 9), .ref (ad 10), .ref (ad 17), .ref (ad 21), .ref (ad 34), .ref (ad (99 + 3 * dr2)), .int pe, .int bk3]) := hk0.trans hs1
                                    refine lv_aload_n hx hb dX8_book_140 rfl (lv_at hl 3 rfl) ?_
                                    refine lv_aload hx hb dX8_book_141 (lv_at hl 1 rfl) ?_
                                    refine lv_iconst (v := 3) hx hb dX8_book_143 (by decide) ?_
                                    refine lv_iload hx hb dX8_book_144 (lv_at hl 8 rfl) ?_
                                    have hFc := zw_free hD hS hA
                                    refine va_callv (va_runV (As := [.ref (ad (0 + 55 + 11 * bk3.toInt.toNat)), .int 3, .int l3]) (rest := []) ⟨hx, hb, hml, hown, hg⟩ (k_X8_fillColumn l g _ ad pe ct51 (0 + 55 + 11 * bk3.toInt.toNat) (3 : Int32) l3 (by omega) (by first | omega | decide) hI) (cwV 3 hg (z_gV mm_561 mm_563 mm_17 mm_108 mm_564) rfl rfl rfl (by decide +kernel) ⟨Nat.le_of_ble_eq_true rfl, Nat.le_of_ble_eq_true rfl⟩) ⟨(zA.pre [.ref (ad 0), .ref (ad (0 + 55 + 11 * bk3.toInt.toNat)), .int 3, .int l3] hP hK hD hN).1, va_recv hK hP (ci := 8) (q0 := 0) rfl (zw_at (by omega) hs54), (zA.pre [.ref (ad 0), .ref (ad (0 + 55 + 11 * bk3.toInt.toNat)), .int 3, .int l3] hP hK hD hN).2⟩ rfl rfl hl.1 rfl (lv_room (Nat.le_of_ble_eq_true rfl)) dX8_book_146 ⟨Nat.le_of_ble_eq_true rfl, Nat.le_of_ble_eq_true rfl⟩) hS (fun q _ h => hFc q h) hFc (fun _ t H1 locs ht hvm hr55 hB hz1 hk1 hS => ?_)
                                    obtain ⟨ct56, hP1, hD1, hI, hk57⟩ := hB
                                    rw [ht] at hP1
                                    have hD := hD1.weaken (fun _ _ _ h => hFc _ h)
                                    generalize H1 = H at hP1 hS ⊢
                                    have hP := hP1
                                    refine W.widen (k := 0) (n := 0) (Nat.le_refl _) (Nat.le_refl _) ?_
                                    have hs58 : ct56 0 = .inr (8, [.ref (ad 1), .ref (ad 2), .ref (ad 3), .ref (ad 5), .ref (ad 6), .ref (ad 9), .ref (ad 10), .ref (ad 17), .ref (ad 21), .ref (ad 34), .ref (ad (99 + 3 * dr2)), .int pe, .int bk3]) := hk57.trans hs54
                                    have hk0 : ct56 0 = ct 0 := hk57.trans hk0
                                    have hs59 : ct56 0 = .inr (8, [.ref (ad 1), .ref (ad 2), .ref (ad 3), .ref (ad 5), .ref (ad 6), .ref (ad 9), .ref (ad 10), .ref (ad 17), .ref (ad 21), .ref (ad 34), .ref (ad (99 + 3 * dr2)), .int pe, .int bk3]) := hk0.trans hs1
                                    refine lv_aload_n hx hb dX8_book_149 rfl (lv_at hl 3 rfl) ?_
                                    refine lv_dup hx hb dX8_book_150 rfl ?_
                                    refine va_get (D := g.1) (ci := 8) (v := .int bk3) (C := RX8) (T := TX8) (N := 13) hx hb hg inG8 hown hK hP 0 (zw_at (by omega) hs59) rfl 12 (by decide) (hg _ mm_372) (fun _ h9 => h9) rfl dX8_book_151 ?_
                                    refine lv_iconst (v := 1) hx hb dX8_book_154 (by decide) ?_
                                    refine lv_iadd hx hb dX8_book_155 ?_
                                    refine lv_topi (fun x60 ex60 => ?_)
                                    have tx60 : x60.toInt = bk3.toInt + 1 := by rw [ex60]; exact z_add rfl (by decide : (1 : Int32).toInt = 1) (by omega) (by omega)
                                    refine va_put (D := g.1) (ci := 8) (v := .int x60) (ty := .int) (C := RX8) (T := TX8) (N := 13) hx hb hg inG8 tyX8 tyX8_ok nmX8 hown hK hP hD hS 0 (zw_at (by omega) hs59) rfl 12 (by decide) (hg _ mm_372) (fun _ h9 => h9) rfl (by decide +kernel) rfl rfl (Nat.le_of_ble_eq_true rfl) dX8_book_156 (fun H locs hP hD hS => ?_)
                                    have hP : zP g ((zw 126 ad ct56).set 0 (ad 0, .inr (8, [.ref (ad 1), .ref (ad 2), .ref (ad 3), .ref (ad 5), .ref (ad 6), .ref (ad 9), .ref (ad 10), .ref (ad 17), .ref (ad 21), .ref (ad 34), .ref (ad (99 + 3 * dr2)), .int pe, .int x60]))) H := hP
                                    have hD : va_D A ((zw 126 ad ct56).set 0 (ad 0, .inr (8, [.ref (ad 1), .ref (ad 2), .ref (ad 3), .ref (ad 5), .ref (ad 6), .ref (ad 9), .ref (ad 10), .ref (ad 17), .ref (ad 21), .ref (ad 34), .ref (ad (99 + 3 * dr2)), .int pe, .int x60]))) := hD
                                    rw [zw_set (by omega)] at hP hD
                                    obtain ⟨ct61, ec62⟩ : ∃ z : Nat → va_E, z = va_up ct56 0 (.inr (8, [.ref (ad 1), .ref (ad 2), .ref (ad 3), .ref (ad 5), .ref (ad 6), .ref (ad 9), .ref (ad 10), .ref (ad 17), .ref (ad 21), .ref (ad 34), .ref (ad (99 + 3 * dr2)), .int pe, .int x60])) := ⟨_, rfl⟩
                                    rw [← ec62] at hP hD
                                    have hI : Inv8 g ad pe ct61 := by rw [ec62]; exact up8 hI (i8_0 ⟨(x60 : Int32), dr2, (by omega), (by first | omega | decide), (by first | omega | decide), rfl⟩)
                                    have hs63 : ct61 0 = .inr (8, [.ref (ad 1), .ref (ad 2), .ref (ad 3), .ref (ad 5), .ref (ad 6), .ref (ad 9), .ref (ad 10), .ref (ad 17), .ref (ad 21), .ref (ad 34), .ref (ad (99 + 3 * dr2)), .int pe, .int x60]) := by rw [ec62]; exact va_up_self _ _ _
                                    refine lv_aload_n hx hb dX8_book_159 rfl (lv_at hl 3 rfl) ?_
                                    refine va_get (D := g.1) (ci := 8) (v := .ref (ad 3)) (C := RX8) (T := TX8) (N := 13) hx hb hg inG8 hown hK hP 0 (zw_at (by omega) hs63) rfl 2 (by decide) (hg _ mm_362) (fun _ h9 => h9) rfl dX8_book_160 ?_
                                    obtain ⟨len65, h66, h67, hs64⟩ := a8_3 hI
                                    have hFc := zw_free hD hS hA
                                    refine va_callv (va_runV (As := []) (rest := []) ⟨hx, hb, hml, hown, hg⟩ (k_X7_clear l g _ ad pe ct61  hI) (cwV 0 hg (z_gV mm_575 mm_576 mm_577 mm_109 mm_578) rfl rfl rfl (by decide +kernel) ⟨Nat.le_of_ble_eq_true rfl, Nat.le_of_ble_eq_true rfl⟩) ⟨(zA.pre [.ref (ad 3)] hP hK hD hN).1, va_recv hK hP (ci := 7) (q0 := 3) rfl (zw_at (by omega) hs64), (zA.pre [.ref (ad 3)] hP hK hD hN).2⟩ rfl rfl hl.1 rfl (lv_room (Nat.le_of_ble_eq_true rfl)) dX8_book_163 ⟨Nat.le_of_ble_eq_true rfl, Nat.le_of_ble_eq_true rfl⟩) hS (fun q _ h => hFc q h) hFc (fun _ t H1 locs ht hvm hr68 hB hz1 hk1 hS => ?_)
                                    obtain ⟨ct69, hP1, hD1, hI, hk70⟩ := hB
                                    rw [ht] at hP1
                                    have hD := hD1.weaken (fun _ _ _ h => hFc _ h)
                                    generalize H1 = H at hP1 hS ⊢
                                    have hP := hP1
                                    refine W.widen (k := 0) (n := 0) (Nat.le_refl _) (Nat.le_refl _) ?_
                                    have hs71 : ct69 0 = .inr (8, [.ref (ad 1), .ref (ad 2), .ref (ad 3), .ref (ad 5), .ref (ad 6), .ref (ad 9), .ref (ad 10), .ref (ad 17), .ref (ad 21), .ref (ad 34), .ref (ad (99 + 3 * dr2)), .int pe, .int x60]) := hk70.trans hs63
                                    refine lv_iload hx hb dX8_book_166 (lv_at hl 2 rfl) ?_
                                    refine lv_if_eq (tgt := 180) hx hb dX8_book_168 (by decide) (fun c72 => ?_) (fun c72 => ?_)
                                    · skip
                                      exact absurd c72 (by decide)
                                    · skip
                                      refine lv_aload_n hx hb dX8_book_171 rfl (lv_at hl 3 rfl) ?_
                                      refine va_get (D := g.1) (ci := 8) (v := .int x60) (C := RX8) (T := TX8) (N := 13) hx hb hg inG8 hown hK hP 0 (zw_at (by omega) hs71) rfl 12 (by decide) (hg _ mm_372) (fun _ h9 => h9) rfl dX8_book_172 ?_
                                      refine lv_iconst (v := 1) hx hb dX8_book_175 (by decide) ?_
                                      refine lv_isub hx hb dX8_book_176 ?_
                                      refine lv_topi (fun x73 ex73 => ?_)
                                      have tx73 : x73.toInt = x60.toInt - 1 := by rw [ex73]; exact z_sub rfl (by decide : (1 : Int32).toInt = 1) (by omega) (by omega)
                                      refine lv_goto (tgt := 182) hx hb dX8_book_177 (by decide) ?_
                                      exact W.iret (v := x73) hx hb hr (fun t ht hW => ⟨⟨x73, (), rfl, trivial, ct69, by rw [ht]; exact hP, hD, hI⟩, hS.F ht⟩) hS.2.2 dX8_book_182
                                  · skip
                                    have c39 : ¬ (n.toInt ≤ v8_89.toInt) := fun q => c39 ((z_le rfl rfl).mpr q)
                                    refine lv_aload hx hb dX8_book_95 (lv_at hl 1 rfl) ?_
                                    refine lv_aload_n hx hb dX8_book_97 rfl (lv_at hl 3 rfl) ?_
                                    refine va_get (D := g.1) (ci := 8) (v := .ref (ad 3)) (C := RX8) (T := TX8) (N := 13) hx hb hg inG8 hown hK hP 0 (zw_at (by omega) hs38) rfl 2 (by decide) (hg _ mm_362) (fun _ h9 => h9) rfl dX8_book_98 ?_
                                    refine lv_iload hx hb dX8_book_101 (lv_at hl 0 rfl) ?_
                                    obtain ⟨len75, h76, h77, hs74⟩ := a8_3 hI
                                    refine zc_i (va_runV (As := [.int v8_89]) (rest := [.ref (ad (0 + 55 + 11 * bk3.toInt.toNat))]) ⟨hx, hb, hml, hown, hg⟩ (k_X7_byteAt l g ad pe ct37 v8_89 hI) (cwV 1 hg (z_gV mm_552 mm_553 mm_554 mm_109 mm_555) rfl rfl rfl (by decide +kernel) ⟨Nat.le_of_ble_eq_true rfl, Nat.le_of_ble_eq_true rfl⟩) ⟨(zR.pre [.ref (ad 3), .int v8_89] hP hK hN).1, va_recv hK hP (ci := 7) (q0 := 3) rfl (zw_at (by omega) hs74), (zR.pre [.ref (ad 3), .int v8_89] hP hK hN).2⟩ rfl rfl hl.1 rfl (lv_room (Nat.le_of_ble_eq_true rfl)) dX8_book_103 ⟨Nat.le_of_ble_eq_true rfl, Nat.le_of_ble_eq_true rfl⟩) (fun r78 hr78 => ?_)
                                    obtain ⟨lns80, liv81, shw82, h83, h84, h85, h86, hz87, hs79⟩ := a8_40 (kc := (0 + 55 + 11 * bk3.toInt.toNat)) (by omega) hI
                                    have bhz87 := z_b01 hz87
                                    have hFc := zw_free hD hS hA
                                    refine va_callv (va_runV (As := [.int r78]) (rest := []) ⟨hx, hb, hml, hown, hg⟩ (k_X2_add l g _ ad pe ct37 (0 + 55 + 11 * bk3.toInt.toNat) r78 (by omega) hI) (cwV 1 hg (z_gV mm_557 mm_558 mm_559 mm_116 mm_560) rfl rfl rfl (by decide +kernel) ⟨Nat.le_of_ble_eq_true rfl, Nat.le_of_ble_eq_true rfl⟩) ⟨(zA.pre [.ref (ad (0 + 55 + 11 * bk3.toInt.toNat)), .int r78] hP hK hD hN).1, va_recv hK hP (ci := 2) (q0 := (0 + 55 + 11 * bk3.toInt.toNat)) rfl (zw_at (by omega) hs79), (zA.pre [.ref (ad (0 + 55 + 11 * bk3.toInt.toNat)), .int r78] hP hK hD hN).2⟩ rfl rfl hl.1 rfl (lv_room (Nat.le_of_ble_eq_true rfl)) dX8_book_106 ⟨Nat.le_of_ble_eq_true rfl, Nat.le_of_ble_eq_true rfl⟩) hS (fun q _ h => hFc q h) hFc (fun _ t H1 locs ht hvm hr88 hB hz1 hk1 hS => ?_)
                                    obtain ⟨ct89, hP1, hD1, hI, hk90⟩ := hB
                                    rw [ht] at hP1
                                    have hD := hD1.weaken (fun _ _ _ h => hFc _ h)
                                    generalize H1 = H at hP1 hS ⊢
                                    have hP := hP1
                                    refine W.widen (k := 0) (n := 0) (Nat.le_refl _) (Nat.le_refl _) ?_
                                    have hs91 : ct89 0 = .inr (8, [.ref (ad 1), .ref (ad 2), .ref (ad 3), .ref (ad 5), .ref (ad 6), .ref (ad 9), .ref (ad 10), .ref (ad 17), .ref (ad 21), .ref (ad 34), .ref (ad (99 + 3 * dr2)), .int pe, .int bk3]) := hk90.trans hs38
                                    have hk0 : ct89 0 = ct 0 := hk90.trans hk0
                                    have hs92 : ct89 0 = .inr (8, [.ref (ad 1), .ref (ad 2), .ref (ad 3), .ref (ad 5), .ref (ad 6), .ref (ad 9), .ref (ad 10), .ref (ad 17), .ref (ad 21), .ref (ad 34), .ref (ad (99 + 3 * dr2)), .int pe, .int bk3]) := hk0.trans hs1
                                    obtain ⟨x93, ex93⟩ : ∃ y : Int32, y = v8_89 + 1 := ⟨_, rfl⟩
                                    have tx93 : x93.toInt = v8_89.toInt + 1 := by rw [ex93]; exact z_add rfl (by decide : (1 : Int32).toInt = 1) (by omega) (by omega)
                                    refine lv_iinc (v := x93) (lv' := [(8, .int x93), (7, .ref (ad (0 + 55 + 11 * bk3.toInt.toNat))), (6, .int 1), (0, .ref (ad 0)), (1, .int n), (2, .int l0), (3, .int l1), (4, .int l2), (5, .int l3)]) hx hb dX8_book_109 hl (k := 0) rfl (by rw [ex93]; rfl) (by decide) rfl (fun ls hl => ?_)
                                    refine lv_goto (tgt := 89) hx hb dX8_book_112 (by decide) ?_
                                    exact ih89 x93 ct89 _ _ ls (by omega) (by first | omega | decide) hk0 hI hP hD hS (lv_sub hl [0, 1, 2, 3, 4, 5, 6, 7, 8] rfl)
                              exact loop89 ((8 - (0 : Int32).toInt : Int).toNat + 1) (0 : Int32) ct _ _ ls (by omega) (by first | omega | decide) hk0 hI hP hD hS (lv_sub hl [0, 1, 2, 3, 4, 5, 6, 7, 8] rfl)
                          · skip
                            obtain rfl := hr34
                            refine lv_istore (lv' := [(6, .int 0), (0, .ref (ad 0)), (1, .int n), (2, .int l0), (3, .int l1), (4, .int l2), (5, .int l3)]) hx hb dX8_book_68 hl (by decide) rfl (fun ls hl => ?_)
                            refine lv_iload hx hb dX8_book_70 (lv_at hl 0 rfl) ?_
                            refine lv_if_eq (tgt := 159) hx hb dX8_book_72 (by decide) (fun c94 => ?_) (fun c94 => ?_)
                            · skip
                              refine lv_aload_n hx hb dX8_book_159 rfl (lv_at hl 1 rfl) ?_
                              refine va_get (D := g.1) (ci := 8) (v := .ref (ad 3)) (C := RX8) (T := TX8) (N := 13) hx hb hg inG8 hown hK hP 0 (zw_at (by omega) hs1) rfl 2 (by decide) (hg _ mm_362) (fun _ h9 => h9) rfl dX8_book_160 ?_
                              have hFc := zw_free hD hS hA
                              refine va_callv (va_runV (As := []) (rest := []) ⟨hx, hb, hml, hown, hg⟩ (k_X7_clear l g _ ad pe ct  hI) (cwV 0 hg (z_gV mm_575 mm_576 mm_577 mm_109 mm_578) rfl rfl rfl (by decide +kernel) ⟨Nat.le_of_ble_eq_true rfl, Nat.le_of_ble_eq_true rfl⟩) ⟨(zA.pre [.ref (ad 3)] hP hK hD hN).1, va_recv hK hP (ci := 7) (q0 := 3) rfl (zw_at (by omega) hs13), (zA.pre [.ref (ad 3)] hP hK hD hN).2⟩ rfl rfl hl.1 rfl (lv_room (Nat.le_of_ble_eq_true rfl)) dX8_book_163 ⟨Nat.le_of_ble_eq_true rfl, Nat.le_of_ble_eq_true rfl⟩) hS (fun q _ h => hFc q h) hFc (fun _ t H1 locs ht hvm hr95 hB hz1 hk1 hS => ?_)
                              obtain ⟨ct96, hP1, hD1, hI, hk97⟩ := hB
                              rw [ht] at hP1
                              have hD := hD1.weaken (fun _ _ _ h => hFc _ h)
                              generalize H1 = H at hP1 hS ⊢
                              have hP := hP1
                              refine W.widen (k := 0) (n := 0) (Nat.le_refl _) (Nat.le_refl _) ?_
                              have hs98 : ct96 0 = .inr (8, [.ref (ad 1), .ref (ad 2), .ref (ad 3), .ref (ad 5), .ref (ad 6), .ref (ad 9), .ref (ad 10), .ref (ad 17), .ref (ad 21), .ref (ad 34), .ref (ad (99 + 3 * dr2)), .int pe, .int bk3]) := hk97.trans hs1
                              have hk0 : ct96 0 = ct 0 := hk97.trans hk0
                              have hs99 : ct96 0 = .inr (8, [.ref (ad 1), .ref (ad 2), .ref (ad 3), .ref (ad 5), .ref (ad 6), .ref (ad 9), .ref (ad 10), .ref (ad 17), .ref (ad 21), .ref (ad 34), .ref (ad (99 + 3 * dr2)), .int pe, .int bk3]) := hk0.trans hs1
                              refine lv_iload hx hb dX8_book_166 (lv_at hl 0 rfl) ?_
                              refine lv_if_eq (tgt := 180) hx hb dX8_book_168 (by decide) (fun c100 => ?_) (fun c100 => ?_)
                              · skip
                                refine lv_bipush (v := (-2)) hx hb dX8_book_180 (by decide) ?_
                                have q101 : ((-2) : Int32).toInt = -2 := by decide
                                exact W.iret (v := (-2)) hx hb hr (fun t ht hW => ⟨⟨(-2), (), rfl, trivial, ct96, by rw [ht]; exact hP, hD, hI⟩, hS.F ht⟩) hS.2.2 dX8_book_182
                              · skip
                                exact absurd c100 (by decide)
                            · skip
                              exact absurd c94 (by decide)
                        · skip
                          exact absurd c33 (by decide)
                      · skip
                        obtain ⟨rfl, h102⟩ := hr30
                        have h102 : ¬ (0 ≤ l3.toInt ∧ l3.toInt ≤ 4) := h102
                        refine lv_if_ne (tgt := 63) hx hb dX8_book_58 (by decide) (fun c103 => ?_) (fun c103 => ?_)
                        · skip
                          exact absurd c103 (by decide)
                        · skip
                          refine lv_iconst (v := (-1)) hx hb dX8_book_61 (by decide) ?_
                          have q104 : ((-1) : Int32).toInt = -1 := by decide
                          exact W.iret (v := (-1)) hx hb hr (fun t ht hW => ⟨⟨(-1), (), rfl, trivial, ct, by rw [ht]; exact hP, hD, hI⟩, hS.F ht⟩) hS.2.2 dX8_book_62
                  · skip
                    obtain ⟨rfl, h105⟩ := hr26
                    have h105 : ¬ (0 ≤ l2.toInt ∧ l2.toInt ≤ 4) := h105
                    refine lv_if_eq (tgt := 61) hx hb dX8_book_50 (by decide) (fun c106 => ?_) (fun c106 => ?_)
                    · skip
                      refine lv_iconst (v := (-1)) hx hb dX8_book_61 (by decide) ?_
                      have q107 : ((-1) : Int32).toInt = -1 := by decide
                      exact W.iret (v := (-1)) hx hb hr (fun t ht hW => ⟨⟨(-1), (), rfl, trivial, ct, by rw [ht]; exact hP, hD, hI⟩, hS.F ht⟩) hS.2.2 dX8_book_62
                    · skip
                      exact absurd c106 (by decide)
              · skip
                obtain ⟨rfl, h108⟩ := hr22
                have h108 : ¬ (0 ≤ l1.toInt ∧ l1.toInt ≤ 4) := h108
                refine lv_if_eq (tgt := 61) hx hb dX8_book_42 (by decide) (fun c109 => ?_) (fun c109 => ?_)
                · skip
                  refine lv_iconst (v := (-1)) hx hb dX8_book_61 (by decide) ?_
                  have q110 : ((-1) : Int32).toInt = -1 := by decide
                  exact W.iret (v := (-1)) hx hb hr (fun t ht hW => ⟨⟨(-1), (), rfl, trivial, ct, by rw [ht]; exact hP, hD, hI⟩, hS.F ht⟩) hS.2.2 dX8_book_62
                · skip
                  exact absurd c109 (by decide)
          · skip
            obtain ⟨rfl, h111⟩ := hr18
            have h111 : ¬ (0 ≤ l0.toInt ∧ l0.toInt ≤ 4) := h111
            refine lv_if_eq (tgt := 61) hx hb dX8_book_35 (by decide) (fun c112 => ?_) (fun c112 => ?_)
            · skip
              refine lv_iconst (v := (-1)) hx hb dX8_book_61 (by decide) ?_
              have q113 : ((-1) : Int32).toInt = -1 := by decide
              exact W.iret (v := (-1)) hx hb hr (fun t ht hW => ⟨⟨(-1), (), rfl, trivial, ct, by rw [ht]; exact hP, hD, hI⟩, hS.F ht⟩) hS.2.2 dX8_book_62
            · skip
              exact absurd c112 (by decide)
        · skip
          have c17 : ¬ (n.toInt ≤ len14.toInt) := fun q => c17 ((z_le rfl rfl).mpr q)
          refine lv_iconst (v := (-1)) hx hb dX8_book_29 (by decide) ?_
          have q114 : ((-1) : Int32).toInt = -1 := by decide
          exact W.iret (v := (-1)) hx hb hr (fun t ht hW => ⟨⟨(-1), (), rfl, trivial, ct, by rw [ht]; exact hP, hD, hI⟩, hS.F ht⟩) hS.2.2 dX8_book_30
  · skip
    obtain ⟨rfl, h115⟩ := hr7
    have h115 : ¬ ((1 : Int) ≤ n.toInt ∧ n.toInt ≤ (8 : Int)) := h115
    refine lv_if_eq (tgt := 29) hx hb dX8_book_7 (by decide) (fun c116 => ?_) (fun c116 => ?_)
    · skip
      refine lv_iconst (v := (-1)) hx hb dX8_book_29 (by decide) ?_
      have q117 : ((-1) : Int32).toInt = -1 := by decide
      exact W.iret (v := (-1)) hx hb hr (fun t ht hW => ⟨⟨(-1), (), rfl, trivial, ct, by rw [ht]; exact hP, hD, hI⟩, hS.F ht⟩) hS.2.2 dX8_book_30
    · skip
      exact absurd c116 (by decide)

set_option maxHeartbeats 4000000 in
set_option maxRecDepth 100000 in
theorem k_X8_cut (l : Launch) (g : zG) (sz : Nat) (ad : Nat → Nat) (pe : Int32) (ct : Nat → va_E) (b : Int32) (i : Int32) (hI : Inv8 g ad pe ct) : Met l yX8_cut (zW yX8_cut cX8_cut 3 (some .boolean)) ({ frames := 3, cells := 0, slots := 0, locals := 66 }) (va_Pc [.ref (ad 0), .int b, .int i] (zA g (zw 126 ad ct) sz)) (va_Qi (fun (r : Int32) (_ : Unit) => (True)) (fun _ t => ∃ ct2 : Nat → va_E, zP g (zw 126 ad ct2) t.heap ∧ va_D (va_A (zw 126 ad ct) sz) (zw 126 ad ct2) ∧ Inv8 g ad pe ct2) (va_A (zw 126 ad ct) sz)) 0 0 (va_A (zw 126 ad ct) sz) := by
  refine Met.ofW (cc := cX8_cut) (maxL := 3) (ret := (some .boolean)) (by decide) rfl ?_
  intro p e s m args below meth c s₁ B hml hv
  obtain ⟨rfl, hsz, hP, hK, hD0, hN⟩ := hv
  have hx := B.exec
  have hb := B.bytes
  have hr := B.returns
  have hg := zW.law (atoms_spec (ws := (zW yX8_cut cX8_cut 3 (some .boolean))) B.pre)
  have hown : s.vm.findClass RX8 = some m.cls := findClass_of_methodNamed B.named
  have hlocks := B.notSynchronized
  have hpe0 := hI.1
  subst hsz
  have hD := hD0.self (sz := s.heap.size)
  generalize hAe : va_A (zw 126 ad ct) s.heap.size = A at hD ⊢
  have hA : ∀ q : Nat, s.heap.size ≤ q → A q := fun q h => by rw [← hAe]; exact Or.inr h
  have hS : va_S A s.heap s.heap [] := va_S.rf
  have hl := lv_entry ([.ref (ad 0), .int b, .int i]) (n := 3) (Nat.le_of_ble_eq_true rfl)
  rw [lg_entry_eq]
  generalize (lg_sl ([.ref (ad 0), .int b, .int i]) ++ List.replicate (3 - (lg_sl ([.ref (ad 0), .int b, .int i])).length) Slot.unset).toArray = ls at hl ⊢
  have hl : lv_has ls 3 [(0, .ref (ad 0)), (1, .int b), (2, .int i)] := hl
  have rg_b := z_rng b
  have rg_i := z_rng i
  refine lv_aload_n hx hb dX8_cut_0 rfl (lv_at hl 0 rfl) ?_
  refine lv_iload_n hx hb dX8_cut_1 rfl (lv_at hl 1 rfl) ?_
  refine lv_iload_n hx hb dX8_cut_2 rfl (lv_at hl 2 rfl) ?_
  obtain ⟨bk3, dr2, h4, h5, h6, hs1⟩ := a8_0 hI
  refine zc_i (va_runV (As := [.int b, .int i]) (rest := []) ⟨hx, hb, hml, hown, hg⟩ (k_X8_isLive l g ad pe ct b i hI) (cwV 2 hg (z_gV mm_583 mm_585 mm_18 mm_108 mm_586) rfl rfl rfl (by decide +kernel) ⟨Nat.le_of_ble_eq_true rfl, Nat.le_of_ble_eq_true rfl⟩) ⟨(zR.pre [.ref (ad 0), .int b, .int i] hP hK hN).1, va_recv hK hP (ci := 8) (q0 := 0) rfl (zw_at (by omega) hs1), (zR.pre [.ref (ad 0), .int b, .int i] hP hK hN).2⟩ rfl rfl hl.1 rfl (lv_room (Nat.le_of_ble_eq_true rfl)) dX8_cut_3 ⟨Nat.le_of_ble_eq_true rfl, Nat.le_of_ble_eq_true rfl⟩) (fun r7 hr7 => ?_)
  rcases hr7 with hr7 | hr7
  · skip
    obtain ⟨rfl, h8, h9⟩ := hr7
    have h8 : 0 ≤ b.toInt ∧ b.toInt ≤ 3 := h8
    have h9 : 0 ≤ i.toInt ∧ i.toInt ≤ 7 := h9
    refine lv_if_ne (tgt := 11) hx hb dX8_cut_6 (by decide) (fun c10 => ?_) (fun c10 => ?_)
    · skip
      refine lv_aload_n hx hb dX8_cut_11 rfl (lv_at hl 0 rfl) ?_
      refine va_get (D := g.1) (ci := 8) (v := .ref (ad 5)) (C := RX8) (T := TX8) (N := 13) hx hb hg inG8 hown hK hP 0 (zw_at (by omega) hs1) rfl 3 (by decide) (hg _ mm_363) (fun _ h9 => h9) rfl dX8_cut_12 ?_
      refine lv_iload_n hx hb dX8_cut_15 rfl (lv_at hl 1 rfl) ?_
      have hs11 := a8_5 hI
      refine va_aldq hx hb hK hP 5 5 (zw_at (by omega) hs11) rfl (z_in rfl (by omega) (by omega)) dX8_cut_16 ?_
      rw [zF5_at (x := b) (by omega) (by omega)]
      refine lv_dup hx hb dX8_cut_17 rfl ?_
      obtain ⟨lns13, liv14, shw15, h16, h17, h18, h19, hz20, hs12⟩ := a8_40 (kc := (0 + 55 + 11 * b.toInt.toNat)) (by omega) hI
      have bhz20 := z_b01 hz20
      refine va_get (D := g.1) (ci := 2) (v := .int liv14) (C := RX2) (T := TX2) (N := 5) hx hb hg inG2 hown hK hP (0 + 55 + 11 * b.toInt.toNat) (zw_at (by omega) hs12) rfl 1 (by decide) (hg _ mm_344) (fun _ h9 => h9) rfl dX8_cut_18 ?_
      refine lv_iconst (v := 1) hx hb dX8_cut_21 (by decide) ?_
      refine lv_iload_n hx hb dX8_cut_22 rfl (lv_at hl 2 rfl) ?_
      refine lv_ishl hx hb dX8_cut_23 ?_
      refine lv_topi (fun x21 ex21 => ?_)
      have tx21 := z_shl1 (y := i) rfl (by omega) (k := 7) (by decide) (by omega)
      rw [← ex21] at tx21
      refine lv_iconst (v := (-1)) hx hb dX8_cut_24 (by decide) ?_
      refine lv_ixor hx hb dX8_cut_25 ?_
      refine lv_topi (fun x22 ex22 => ?_)
      refine lv_iand hx hb dX8_cut_26 ?_
      refine lv_topi (fun x23 ex23 => ?_)
      have tx23 := z_andl (x := liv14) (y := x22) rfl (by omega)
      rw [← ex23] at tx23
      refine va_put (D := g.1) (ci := 2) (v := .int x23) (ty := .int) (C := RX2) (T := TX2) (N := 5) hx hb hg inG2 tyX2 tyX2_ok nmX2 hown hK hP hD hS (0 + 55 + 11 * b.toInt.toNat) (zw_at (by omega) hs12) rfl 1 (by decide) (hg _ mm_344) (fun _ h9 => h9) rfl (by decide +kernel) rfl rfl (Nat.le_of_ble_eq_true rfl) dX8_cut_27 (fun H locs hP hD hS => ?_)
      have hP : zP g ((zw 126 ad ct).set (0 + 55 + 11 * b.toInt.toNat) (ad (0 + 55 + 11 * b.toInt.toNat), .inr (2, [.int lns13, .int x23, .int shw15, .ref (ad ((0 + 55 + 11 * b.toInt.toNat) + 1)), .ref (ad ((0 + 55 + 11 * b.toInt.toNat) + 2))]))) H := hP
      have hD : va_D A ((zw 126 ad ct).set (0 + 55 + 11 * b.toInt.toNat) (ad (0 + 55 + 11 * b.toInt.toNat), .inr (2, [.int lns13, .int x23, .int shw15, .ref (ad ((0 + 55 + 11 * b.toInt.toNat) + 1)), .ref (ad ((0 + 55 + 11 * b.toInt.toNat) + 2))]))) := hD
      rw [zw_set (by omega)] at hP hD
      obtain ⟨ct24, ec25⟩ : ∃ z : Nat → va_E, z = va_up ct (0 + 55 + 11 * b.toInt.toNat) (.inr (2, [.int lns13, .int x23, .int shw15, .ref (ad ((0 + 55 + 11 * b.toInt.toNat) + 1)), .ref (ad ((0 + 55 + 11 * b.toInt.toNat) + 2))])) := ⟨_, rfl⟩
      rw [← ec25] at hP hD
      have hI : Inv8 g ad pe ct24 := by rw [ec25]; exact up8 hI (i8_40 (kc := (0 + 55 + 11 * b.toInt.toNat)) (by omega) ⟨(lns13 : Int32), (x23 : Int32), (shw15 : Int32), (by first | omega | decide), (by first | omega | decide), (by first | omega | decide), (by first | omega | decide), hz20, rfl⟩)
      have hs26 : ct24 0 = .inr (8, [.ref (ad 1), .ref (ad 2), .ref (ad 3), .ref (ad 5), .ref (ad 6), .ref (ad 9), .ref (ad 10), .ref (ad 17), .ref (ad 21), .ref (ad 34), .ref (ad (99 + 3 * dr2)), .int pe, .int bk3]) := by rw [ec25, va_up_ne _ _ (by omega)]; exact hs1
      have hs27 : ct24 5 = .inl (g.2 5, 4, .inr (.inr (.inr (.inr (zF5 ad 0))))) := by rw [ec25, va_up_ne _ _ (by omega)]; exact hs11
      have hs28 : ct24 (0 + 55 + 11 * b.toInt.toNat) = .inr (2, [.int lns13, .int x23, .int shw15, .ref (ad ((0 + 55 + 11 * b.toInt.toNat) + 1)), .ref (ad ((0 + 55 + 11 * b.toInt.toNat) + 2))]) := by rw [ec25]; exact va_up_self _ _ _
      refine lv_iconst (v := 1) hx hb dX8_cut_30 (by decide) ?_
      have q29 : (1 : Int32).toInt = 1 := by decide
      exact W.zret (v := 1) hx hb hr rfl (fun t ht hW => ⟨⟨1, (), rfl, trivial, ct24, by rw [ht]; exact hP, hD, hI⟩, hS.F ht⟩) hS.2.2 dX8_cut_31
    · skip
      exact absurd c10 (by decide)
  · skip
    obtain rfl := hr7
    refine lv_if_ne (tgt := 11) hx hb dX8_cut_6 (by decide) (fun c30 => ?_) (fun c30 => ?_)
    · skip
      exact absurd c30 (by decide)
    · skip
      refine lv_iconst (v := 0) hx hb dX8_cut_9 (by decide) ?_
      have q31 : (0 : Int32).toInt = 0 := by decide
      exact W.zret (v := 0) hx hb hr rfl (fun t ht hW => ⟨⟨0, (), rfl, trivial, ct, by rw [ht]; exact hP, hD, hI⟩, hS.F ht⟩) hS.2.2 dX8_cut_10

set_option maxHeartbeats 4000000 in
set_option maxRecDepth 100000 in
theorem k_X8_swap (l : Launch) (g : zG) (sz : Nat) (ad : Nat → Nat) (pe : Int32) (ct : Nat → va_E) (b : Int32) (i : Int32) (j : Int32) (c0 : Int32) (hI : Inv8 g ad pe ct) : Met l yX8_swap (zW yX8_swap cX8_swap 5 (some .boolean)) ({ frames := 3, cells := 0, slots := 0, locals := 69 }) (va_Pc [.ref (ad 0), .int b, .int i, .int j, .int c0] (zA g (zw 126 ad ct) sz)) (va_Qi (fun (r : Int32) (_ : Unit) => (r = 1) ∨ (r = 0)) (fun _ t => ∃ ct2 : Nat → va_E, zP g (zw 126 ad ct2) t.heap ∧ va_D (va_A (zw 126 ad ct) sz) (zw 126 ad ct2) ∧ Inv8 g ad pe ct2) (va_A (zw 126 ad ct) sz)) 0 0 (va_A (zw 126 ad ct) sz) := by
  refine Met.ofW (cc := cX8_swap) (maxL := 5) (ret := (some .boolean)) (by decide) rfl ?_
  intro p e s m args below meth c s₁ B hml hv
  obtain ⟨rfl, hsz, hP, hK, hD0, hN⟩ := hv
  have hx := B.exec
  have hb := B.bytes
  have hr := B.returns
  have hg := zW.law (atoms_spec (ws := (zW yX8_swap cX8_swap 5 (some .boolean))) B.pre)
  have hown : s.vm.findClass RX8 = some m.cls := findClass_of_methodNamed B.named
  have hlocks := B.notSynchronized
  have hpe0 := hI.1
  subst hsz
  have hD := hD0.self (sz := s.heap.size)
  generalize hAe : va_A (zw 126 ad ct) s.heap.size = A at hD ⊢
  have hA : ∀ q : Nat, s.heap.size ≤ q → A q := fun q h => by rw [← hAe]; exact Or.inr h
  have hS : va_S A s.heap s.heap [] := va_S.rf
  have hl := lv_entry ([.ref (ad 0), .int b, .int i, .int j, .int c0]) (n := 5) (Nat.le_of_ble_eq_true rfl)
  rw [lg_entry_eq]
  generalize (lg_sl ([.ref (ad 0), .int b, .int i, .int j, .int c0]) ++ List.replicate (5 - (lg_sl ([.ref (ad 0), .int b, .int i, .int j, .int c0])).length) Slot.unset).toArray = ls at hl ⊢
  have hl : lv_has ls 5 [(0, .ref (ad 0)), (1, .int b), (2, .int i), (3, .int j), (4, .int c0)] := hl
  have rg_b := z_rng b
  have rg_i := z_rng i
  have rg_j := z_rng j
  have rg_c0 := z_rng c0
  refine lv_aload_n hx hb dX8_swap_0 rfl (lv_at hl 0 rfl) ?_
  refine lv_iload_n hx hb dX8_swap_1 rfl (lv_at hl 1 rfl) ?_
  refine lv_iload_n hx hb dX8_swap_2 rfl (lv_at hl 2 rfl) ?_
  obtain ⟨bk3, dr2, h4, h5, h6, hs1⟩ := a8_0 hI
  refine zc_i (va_runV (As := [.int b, .int i]) (rest := []) ⟨hx, hb, hml, hown, hg⟩ (k_X8_isLive l g ad pe ct b i hI) (cwV 2 hg (z_gV mm_583 mm_585 mm_18 mm_108 mm_586) rfl rfl rfl (by decide +kernel) ⟨Nat.le_of_ble_eq_true rfl, Nat.le_of_ble_eq_true rfl⟩) ⟨(zR.pre [.ref (ad 0), .int b, .int i] hP hK hN).1, va_recv hK hP (ci := 8) (q0 := 0) rfl (zw_at (by omega) hs1), (zR.pre [.ref (ad 0), .int b, .int i] hP hK hN).2⟩ rfl rfl hl.1 rfl (lv_room (Nat.le_of_ble_eq_true rfl)) dX8_swap_3 ⟨Nat.le_of_ble_eq_true rfl, Nat.le_of_ble_eq_true rfl⟩) (fun r7 hr7 => ?_)
  rcases hr7 with hr7 | hr7
  · skip
    obtain ⟨rfl, h8, h9⟩ := hr7
    have h8 : 0 ≤ b.toInt ∧ b.toInt ≤ 3 := h8
    have h9 : 0 ≤ i.toInt ∧ i.toInt ≤ 7 := h9
    refine lv_if_eq (tgt := 31) hx hb dX8_swap_6 (by decide) (fun c10 => ?_) (fun c10 => ?_)
    · skip
      exact absurd c10 (by decide)
    · skip
      refine lv_aload_n hx hb dX8_swap_9 rfl (lv_at hl 0 rfl) ?_
      refine lv_iload_n hx hb dX8_swap_10 rfl (lv_at hl 1 rfl) ?_
      refine lv_iload_n hx hb dX8_swap_11 rfl (lv_at hl 3 rfl) ?_
      refine zc_i (va_runV (As := [.int b, .int j]) (rest := []) ⟨hx, hb, hml, hown, hg⟩ (k_X8_isLive l g ad pe ct b j hI) (cwV 2 hg (z_gV mm_583 mm_585 mm_18 mm_108 mm_586) rfl rfl rfl (by decide +kernel) ⟨Nat.le_of_ble_eq_true rfl, Nat.le_of_ble_eq_true rfl⟩) ⟨(zR.pre [.ref (ad 0), .int b, .int j] hP hK hN).1, va_recv hK hP (ci := 8) (q0 := 0) rfl (zw_at (by omega) hs1), (zR.pre [.ref (ad 0), .int b, .int j] hP hK hN).2⟩ rfl rfl hl.1 rfl (lv_room (Nat.le_of_ble_eq_true rfl)) dX8_swap_12 ⟨Nat.le_of_ble_eq_true rfl, Nat.le_of_ble_eq_true rfl⟩) (fun r11 hr11 => ?_)
      rcases hr11 with hr11 | hr11
      · skip
        obtain ⟨rfl, h12, h13⟩ := hr11
        have h12 : 0 ≤ b.toInt ∧ b.toInt ≤ 3 := h12
        have h13 : 0 ≤ j.toInt ∧ j.toInt ≤ 7 := h13
        refine lv_if_eq (tgt := 31) hx hb dX8_swap_15 (by decide) (fun c14 => ?_) (fun c14 => ?_)
        · skip
          exact absurd c14 (by decide)
        · skip
          refine lv_iload_n hx hb dX8_swap_18 rfl (lv_at hl 2 rfl) ?_
          refine lv_iload_n hx hb dX8_swap_19 rfl (lv_at hl 3 rfl) ?_
          refine lv_icmp_eq (tgt := 31) hx hb dX8_swap_20 (by decide) (fun c15 => ?_) (fun c15 => ?_)
          · skip
            have c15 : i.toInt = j.toInt := (z_eq rfl rfl).mp c15
            refine lv_iconst (v := 0) hx hb dX8_swap_31 (by decide) ?_
            have q16 : (0 : Int32).toInt = 0 := by decide
            exact W.zret (v := 0) hx hb hr rfl (fun t ht hW => ⟨⟨0, (), rfl, by first | exact Or.inl ⟨rfl, by omega⟩ | exact Or.inr ⟨rfl, by omega⟩ | exact Or.inl rfl | exact Or.inr rfl | exact Or.inl ⟨rfl, by omega, by omega⟩ | exact (z_01 (by omega) (by omega)).symm, ct, by rw [ht]; exact hP, hD, hI⟩, hS.F ht⟩) hS.2.2 dX8_swap_32
          · skip
            have c15 : ¬ (i.toInt = j.toInt) := fun q => c15 ((z_eq rfl rfl).mpr q)
            refine lv_iload hx hb dX8_swap_23 (lv_at hl 4 rfl) ?_
            refine zc_i (va_runS (As := [.int c0]) (rest := []) ⟨hx, hb, hml, hown, hg⟩ (k_X8_isColumn l g ad pe ct c0 hI) (va_cwS 1 hg (z_gS mm_404 mm_405 mm_108 mm_406) rfl rfl rfl (by decide +kernel) ⟨Nat.le_of_ble_eq_true rfl, Nat.le_of_ble_eq_true rfl⟩) (zR.pre [.int c0] hP hK hN) rfl rfl hl.1 rfl (lv_room (Nat.le_of_ble_eq_true rfl)) dX8_swap_25 ⟨Nat.le_of_ble_eq_true rfl, Nat.le_of_ble_eq_true rfl⟩) (fun r17 hr17 => ?_)
            rcases hr17 with hr17 | hr17
            · skip
              obtain ⟨rfl, h18, h19⟩ := hr17
              have h18 : 0 ≤ c0.toInt := h18
              have h19 : c0.toInt ≤ 3 := h19
              refine lv_if_ne (tgt := 33) hx hb dX8_swap_28 (by decide) (fun c20 => ?_) (fun c20 => ?_)
              · skip
                refine lv_aload_n hx hb dX8_swap_33 rfl (lv_at hl 0 rfl) ?_
                refine va_get (D := g.1) (ci := 8) (v := .ref (ad 5)) (C := RX8) (T := TX8) (N := 13) hx hb hg inG8 hown hK hP 0 (zw_at (by omega) hs1) rfl 3 (by decide) (hg _ mm_363) (fun _ h9 => h9) rfl dX8_swap_34 ?_
                refine lv_iload_n hx hb dX8_swap_37 rfl (lv_at hl 1 rfl) ?_
                have hs21 := a8_5 hI
                refine va_aldq hx hb hK hP 5 5 (zw_at (by omega) hs21) rfl (z_in rfl (by omega) (by omega)) dX8_swap_38 ?_
                rw [zF5_at (x := b) (by omega) (by omega)]
                refine lv_iload_n hx hb dX8_swap_39 rfl (lv_at hl 2 rfl) ?_
                refine lv_iload hx hb dX8_swap_40 (lv_at hl 4 rfl) ?_
                obtain ⟨lns23, liv24, shw25, h26, h27, h28, h29, hz30, hs22⟩ := a8_40 (kc := (0 + 55 + 11 * b.toInt.toNat)) (by omega) hI
                have bhz30 := z_b01 hz30
                refine zc_i (va_runV (As := [.int i, .int c0]) (rest := []) ⟨hx, hb, hml, hown, hg⟩ (k_X2_nodeAt l g ad pe ct (0 + 55 + 11 * b.toInt.toNat) i c0 (by omega) hI) (cwV 2 hg (z_gV mm_599 mm_600 mm_601 mm_116 mm_602) rfl rfl rfl (by decide +kernel) ⟨Nat.le_of_ble_eq_true rfl, Nat.le_of_ble_eq_true rfl⟩) ⟨(zR.pre [.ref (ad (0 + 55 + 11 * b.toInt.toNat)), .int i, .int c0] hP hK hN).1, va_recv hK hP (ci := 2) (q0 := (0 + 55 + 11 * b.toInt.toNat)) rfl (zw_at (by omega) hs22), (zR.pre [.ref (ad (0 + 55 + 11 * b.toInt.toNat)), .int i, .int c0] hP hK hN).2⟩ rfl rfl hl.1 rfl (lv_room (Nat.le_of_ble_eq_true rfl)) dX8_swap_42 ⟨Nat.le_of_ble_eq_true rfl, Nat.le_of_ble_eq_true rfl⟩) (fun r31 hr31 => ?_)
                refine lv_aload_n hx hb dX8_swap_45 rfl (lv_at hl 0 rfl) ?_
                refine va_get (D := g.1) (ci := 8) (v := .ref (ad 5)) (C := RX8) (T := TX8) (N := 13) hx hb hg inG8 hown hK hP 0 (zw_at (by omega) hs1) rfl 3 (by decide) (hg _ mm_363) (fun _ h9 => h9) rfl dX8_swap_46 ?_
                refine lv_iload_n hx hb dX8_swap_49 rfl (lv_at hl 1 rfl) ?_
                refine va_aldq hx hb hK hP 5 5 (zw_at (by omega) hs21) rfl (z_in rfl (by omega) (by omega)) dX8_swap_50 ?_
                rw [zF5_at (x := b) (by omega) (by omega)]
                refine lv_iload_n hx hb dX8_swap_51 rfl (lv_at hl 3 rfl) ?_
                refine lv_iload hx hb dX8_swap_52 (lv_at hl 4 rfl) ?_
                refine zc_i (va_runV (As := [.int j, .int c0]) (rest := [.int r31]) ⟨hx, hb, hml, hown, hg⟩ (k_X2_nodeAt l g ad pe ct (0 + 55 + 11 * b.toInt.toNat) j c0 (by omega) hI) (cwV 2 hg (z_gV mm_599 mm_600 mm_601 mm_116 mm_602) rfl rfl rfl (by decide +kernel) ⟨Nat.le_of_ble_eq_true rfl, Nat.le_of_ble_eq_true rfl⟩) ⟨(zR.pre [.ref (ad (0 + 55 + 11 * b.toInt.toNat)), .int j, .int c0] hP hK hN).1, va_recv hK hP (ci := 2) (q0 := (0 + 55 + 11 * b.toInt.toNat)) rfl (zw_at (by omega) hs22), (zR.pre [.ref (ad (0 + 55 + 11 * b.toInt.toNat)), .int j, .int c0] hP hK hN).2⟩ rfl rfl hl.1 rfl (lv_room (Nat.le_of_ble_eq_true rfl)) dX8_swap_54 ⟨Nat.le_of_ble_eq_true rfl, Nat.le_of_ble_eq_true rfl⟩) (fun r32 hr32 => ?_)
                refine lv_icmp_ne (tgt := 62) hx hb dX8_swap_57 (by decide) (fun c33 => ?_) (fun c33 => ?_)
                · skip
                  have c33 : ¬ (r31.toInt = r32.toInt) := fun q => c33 ((z_eq rfl rfl).mpr q)
                  refine lv_aload_n hx hb dX8_swap_62 rfl (lv_at hl 0 rfl) ?_
                  refine va_get (D := g.1) (ci := 8) (v := .ref (ad 5)) (C := RX8) (T := TX8) (N := 13) hx hb hg inG8 hown hK hP 0 (zw_at (by omega) hs1) rfl 3 (by decide) (hg _ mm_363) (fun _ h9 => h9) rfl dX8_swap_63 ?_
                  refine lv_iload_n hx hb dX8_swap_66 rfl (lv_at hl 1 rfl) ?_
                  refine va_aldq hx hb hK hP 5 5 (zw_at (by omega) hs21) rfl (z_in rfl (by omega) (by omega)) dX8_swap_67 ?_
                  rw [zF5_at (x := b) (by omega) (by omega)]
                  refine lv_iload_n hx hb dX8_swap_68 rfl (lv_at hl 2 rfl) ?_
                  refine lv_iload_n hx hb dX8_swap_69 rfl (lv_at hl 3 rfl) ?_
                  refine lv_iload hx hb dX8_swap_70 (lv_at hl 4 rfl) ?_
                  have hFc := zw_free hD hS hA
                  refine va_callv (va_runV (As := [.int i, .int j, .int c0]) (rest := []) ⟨hx, hb, hml, hown, hg⟩ (k_X2_exchange l g _ ad pe ct (0 + 55 + 11 * b.toInt.toNat) i j c0 (by omega) hI) (cwV 3 hg (z_gV mm_603 mm_604 mm_605 mm_116 mm_606) rfl rfl rfl (by decide +kernel) ⟨Nat.le_of_ble_eq_true rfl, Nat.le_of_ble_eq_true rfl⟩) ⟨(zA.pre [.ref (ad (0 + 55 + 11 * b.toInt.toNat)), .int i, .int j, .int c0] hP hK hD hN).1, va_recv hK hP (ci := 2) (q0 := (0 + 55 + 11 * b.toInt.toNat)) rfl (zw_at (by omega) hs22), (zA.pre [.ref (ad (0 + 55 + 11 * b.toInt.toNat)), .int i, .int j, .int c0] hP hK hD hN).2⟩ rfl rfl hl.1 rfl (lv_room (Nat.le_of_ble_eq_true rfl)) dX8_swap_72 ⟨Nat.le_of_ble_eq_true rfl, Nat.le_of_ble_eq_true rfl⟩) hS (fun q _ h => hFc q h) hFc (fun _ t H1 locs ht hvm hr34 hB hz1 hk1 hS => ?_)
                  obtain ⟨ct35, hP1, hD1, hI⟩ := hB
                  rw [ht] at hP1
                  have hD := hD1.weaken (fun _ _ _ h => hFc _ h)
                  generalize H1 = H at hP1 hS ⊢
                  have hP := hP1
                  refine W.widen (k := 0) (n := 0) (Nat.le_refl _) (Nat.le_refl _) ?_
                  refine lv_iconst (v := 1) hx hb dX8_swap_75 (by decide) ?_
                  have q36 : (1 : Int32).toInt = 1 := by decide
                  exact W.zret (v := 1) hx hb hr rfl (fun t ht hW => ⟨⟨1, (), rfl, by first | exact Or.inl ⟨rfl, by omega⟩ | exact Or.inr ⟨rfl, by omega⟩ | exact Or.inl rfl | exact Or.inr rfl | exact Or.inl ⟨rfl, by omega, by omega⟩ | exact (z_01 (by omega) (by omega)).symm, ct35, by rw [ht]; exact hP, hD, hI⟩, hS.F ht⟩) hS.2.2 dX8_swap_76
                · skip
                  have c33 : r31.toInt = r32.toInt := (z_eq rfl rfl).mp c33
                  refine lv_iconst (v := 0) hx hb dX8_swap_60 (by decide) ?_
                  have q37 : (0 : Int32).toInt = 0 := by decide
                  exact W.zret (v := 0) hx hb hr rfl (fun t ht hW => ⟨⟨0, (), rfl, by first | exact Or.inl ⟨rfl, by omega⟩ | exact Or.inr ⟨rfl, by omega⟩ | exact Or.inl rfl | exact Or.inr rfl | exact Or.inl ⟨rfl, by omega, by omega⟩ | exact (z_01 (by omega) (by omega)).symm, ct, by rw [ht]; exact hP, hD, hI⟩, hS.F ht⟩) hS.2.2 dX8_swap_61
              · skip
                exact absurd c20 (by decide)
            · skip
              obtain ⟨rfl, h38⟩ := hr17
              have h38 : ¬ (0 ≤ c0.toInt ∧ c0.toInt ≤ 3) := h38
              refine lv_if_ne (tgt := 33) hx hb dX8_swap_28 (by decide) (fun c39 => ?_) (fun c39 => ?_)
              · skip
                exact absurd c39 (by decide)
              · skip
                refine lv_iconst (v := 0) hx hb dX8_swap_31 (by decide) ?_
                have q40 : (0 : Int32).toInt = 0 := by decide
                exact W.zret (v := 0) hx hb hr rfl (fun t ht hW => ⟨⟨0, (), rfl, by first | exact Or.inl ⟨rfl, by omega⟩ | exact Or.inr ⟨rfl, by omega⟩ | exact Or.inl rfl | exact Or.inr rfl | exact Or.inl ⟨rfl, by omega, by omega⟩ | exact (z_01 (by omega) (by omega)).symm, ct, by rw [ht]; exact hP, hD, hI⟩, hS.F ht⟩) hS.2.2 dX8_swap_32
      · skip
        obtain rfl := hr11
        refine lv_if_eq (tgt := 31) hx hb dX8_swap_15 (by decide) (fun c41 => ?_) (fun c41 => ?_)
        · skip
          refine lv_iconst (v := 0) hx hb dX8_swap_31 (by decide) ?_
          have q42 : (0 : Int32).toInt = 0 := by decide
          exact W.zret (v := 0) hx hb hr rfl (fun t ht hW => ⟨⟨0, (), rfl, by first | exact Or.inl ⟨rfl, by omega⟩ | exact Or.inr ⟨rfl, by omega⟩ | exact Or.inl rfl | exact Or.inr rfl | exact Or.inl ⟨rfl, by omega, by omega⟩ | exact (z_01 (by omega) (by omega)).symm, ct, by rw [ht]; exact hP, hD, hI⟩, hS.F ht⟩) hS.2.2 dX8_swap_32
        · skip
          exact absurd c41 (by decide)
  · skip
    obtain rfl := hr7
    refine lv_if_eq (tgt := 31) hx hb dX8_swap_6 (by decide) (fun c43 => ?_) (fun c43 => ?_)
    · skip
      refine lv_iconst (v := 0) hx hb dX8_swap_31 (by decide) ?_
      have q44 : (0 : Int32).toInt = 0 := by decide
      exact W.zret (v := 0) hx hb hr rfl (fun t ht hW => ⟨⟨0, (), rfl, by first | exact Or.inl ⟨rfl, by omega⟩ | exact Or.inr ⟨rfl, by omega⟩ | exact Or.inl rfl | exact Or.inr rfl | exact Or.inl ⟨rfl, by omega, by omega⟩ | exact (z_01 (by omega) (by omega)).symm, ct, by rw [ht]; exact hP, hD, hI⟩, hS.F ht⟩) hS.2.2 dX8_swap_32
    · skip
      exact absurd c43 (by decide)

set_option maxHeartbeats 4000000 in
set_option maxRecDepth 100000 in
theorem k_X8_show (l : Launch) (g : zG) (sz : Nat) (ad : Nat → Nat) (pe : Int32) (ct : Nat → va_E) (b : Int32) (is : Int32) (hl_is : 0 ≤ is.toInt ∧ is.toInt ≤ 1) (hI : Inv8 g ad pe ct) : Met l yX8_show (zW yX8_show cX8_show 3 (some .boolean)) ({ frames := 1, cells := 0, slots := 0, locals := 21 }) (va_Pc [.ref (ad 0), .int b, .int is] (zA g (zw 126 ad ct) sz)) (va_Qi (fun (r : Int32) (_ : Unit) => (True)) (fun _ t => ∃ ct2 : Nat → va_E, zP g (zw 126 ad ct2) t.heap ∧ va_D (va_A (zw 126 ad ct) sz) (zw 126 ad ct2) ∧ Inv8 g ad pe ct2) (va_A (zw 126 ad ct) sz)) 0 0 (va_A (zw 126 ad ct) sz) := by
  refine Met.ofW (cc := cX8_show) (maxL := 3) (ret := (some .boolean)) (by decide) rfl ?_
  intro p e s m args below meth c s₁ B hml hv
  obtain ⟨rfl, hsz, hP, hK, hD0, hN⟩ := hv
  have hx := B.exec
  have hb := B.bytes
  have hr := B.returns
  have hg := zW.law (atoms_spec (ws := (zW yX8_show cX8_show 3 (some .boolean))) B.pre)
  have hown : s.vm.findClass RX8 = some m.cls := findClass_of_methodNamed B.named
  have hlocks := B.notSynchronized
  have hpe0 := hI.1
  subst hsz
  have hD := hD0.self (sz := s.heap.size)
  generalize hAe : va_A (zw 126 ad ct) s.heap.size = A at hD ⊢
  have hA : ∀ q : Nat, s.heap.size ≤ q → A q := fun q h => by rw [← hAe]; exact Or.inr h
  have hS : va_S A s.heap s.heap [] := va_S.rf
  have hl := lv_entry ([.ref (ad 0), .int b, .int is]) (n := 3) (Nat.le_of_ble_eq_true rfl)
  rw [lg_entry_eq]
  generalize (lg_sl ([.ref (ad 0), .int b, .int is]) ++ List.replicate (3 - (lg_sl ([.ref (ad 0), .int b, .int is])).length) Slot.unset).toArray = ls at hl ⊢
  have hl : lv_has ls 3 [(0, .ref (ad 0)), (1, .int b), (2, .int is)] := hl
  have rg_b := z_rng b
  refine lv_aload_n hx hb dX8_show_0 rfl (lv_at hl 0 rfl) ?_
  refine lv_iload_n hx hb dX8_show_1 rfl (lv_at hl 1 rfl) ?_
  obtain ⟨bk3, dr2, h4, h5, h6, hs1⟩ := a8_0 hI
  refine zc_i (va_runV (As := [.int b]) (rest := []) ⟨hx, hb, hml, hown, hg⟩ (k_X8_isBook l g ad pe ct b hI) (cwV 1 hg (z_gV mm_591 mm_593 mm_20 mm_108 mm_594) rfl rfl rfl (by decide +kernel) ⟨Nat.le_of_ble_eq_true rfl, Nat.le_of_ble_eq_true rfl⟩) ⟨(zR.pre [.ref (ad 0), .int b] hP hK hN).1, va_recv hK hP (ci := 8) (q0 := 0) rfl (zw_at (by omega) hs1), (zR.pre [.ref (ad 0), .int b] hP hK hN).2⟩ rfl rfl hl.1 rfl (lv_room (Nat.le_of_ble_eq_true rfl)) dX8_show_2 ⟨Nat.le_of_ble_eq_true rfl, Nat.le_of_ble_eq_true rfl⟩) (fun r7 hr7 => ?_)
  rcases hr7 with hr7 | hr7
  · skip
    obtain ⟨rfl, h8, h9⟩ := hr7
    have h8 : 0 ≤ b.toInt := h8
    have h9 : b.toInt ≤ 3 := h9
    refine lv_if_eq (tgt := 21) hx hb dX8_show_5 (by decide) (fun c10 => ?_) (fun c10 => ?_)
    · skip
      exact absurd c10 (by decide)
    · skip
      refine lv_aload_n hx hb dX8_show_8 rfl (lv_at hl 0 rfl) ?_
      refine va_get (D := g.1) (ci := 8) (v := .ref (ad 5)) (C := RX8) (T := TX8) (N := 13) hx hb hg inG8 hown hK hP 0 (zw_at (by omega) hs1) rfl 3 (by decide) (hg _ mm_363) (fun _ h9 => h9) rfl dX8_show_9 ?_
      refine lv_iload_n hx hb dX8_show_12 rfl (lv_at hl 1 rfl) ?_
      have hs11 := a8_5 hI
      refine va_aldq hx hb hK hP 5 5 (zw_at (by omega) hs11) rfl (z_in rfl (by omega) (by omega)) dX8_show_13 ?_
      rw [zF5_at (x := b) (by omega) (by omega)]
      obtain ⟨lns13, liv14, shw15, h16, h17, h18, h19, hz20, hs12⟩ := a8_40 (kc := (0 + 55 + 11 * b.toInt.toNat)) (by omega) hI
      have bhz20 := z_b01 hz20
      refine va_get (D := g.1) (ci := 2) (v := .int shw15) (C := RX2) (T := TX2) (N := 5) hx hb hg inG2 hown hK hP (0 + 55 + 11 * b.toInt.toNat) (zw_at (by omega) hs12) rfl 2 (by decide) (hg _ mm_346) (fun _ h9 => h9) rfl dX8_show_14 ?_
      refine lv_iload_n hx hb dX8_show_17 rfl (lv_at hl 2 rfl) ?_
      refine lv_icmp_ne (tgt := 23) hx hb dX8_show_18 (by decide) (fun c21 => ?_) (fun c21 => ?_)
      · skip
        have c21 : ¬ (shw15.toInt = is.toInt) := fun q => c21 ((z_eq rfl rfl).mpr q)
        refine lv_aload_n hx hb dX8_show_23 rfl (lv_at hl 0 rfl) ?_
        refine va_get (D := g.1) (ci := 8) (v := .ref (ad 5)) (C := RX8) (T := TX8) (N := 13) hx hb hg inG8 hown hK hP 0 (zw_at (by omega) hs1) rfl 3 (by decide) (hg _ mm_363) (fun _ h9 => h9) rfl dX8_show_24 ?_
        refine lv_iload_n hx hb dX8_show_27 rfl (lv_at hl 1 rfl) ?_
        refine va_aldq hx hb hK hP 5 5 (zw_at (by omega) hs11) rfl (z_in rfl (by omega) (by omega)) dX8_show_28 ?_
        rw [zF5_at (x := b) (by omega) (by omega)]
        refine lv_iload_n hx hb dX8_show_29 rfl (lv_at hl 2 rfl) ?_
        refine va_put (D := g.1) (ci := 2) (v := .int is) (ty := .boolean) (C := RX2) (T := TX2) (N := 5) hx hb hg inG2 tyX2 tyX2_ok nmX2 hown hK hP hD hS (0 + 55 + 11 * b.toInt.toNat) (zw_at (by omega) hs12) rfl 2 (by decide) (hg _ mm_346) (fun _ h9 => h9) rfl (by decide +kernel) (by rcases (z_01 (x := is) (by omega) (by omega)) with q | q <;> rw [q] <;> rfl) (by rcases (z_01 (x := is) (by omega) (by omega)) with q | q <;> rw [q] <;> rfl) (Nat.le_of_ble_eq_true rfl) dX8_show_30 (fun H locs hP hD hS => ?_)
        have hP : zP g ((zw 126 ad ct).set (0 + 55 + 11 * b.toInt.toNat) (ad (0 + 55 + 11 * b.toInt.toNat), .inr (2, [.int lns13, .int liv14, .int is, .ref (ad ((0 + 55 + 11 * b.toInt.toNat) + 1)), .ref (ad ((0 + 55 + 11 * b.toInt.toNat) + 2))]))) H := hP
        have hD : va_D A ((zw 126 ad ct).set (0 + 55 + 11 * b.toInt.toNat) (ad (0 + 55 + 11 * b.toInt.toNat), .inr (2, [.int lns13, .int liv14, .int is, .ref (ad ((0 + 55 + 11 * b.toInt.toNat) + 1)), .ref (ad ((0 + 55 + 11 * b.toInt.toNat) + 2))]))) := hD
        rw [zw_set (by omega)] at hP hD
        obtain ⟨ct22, ec23⟩ : ∃ z : Nat → va_E, z = va_up ct (0 + 55 + 11 * b.toInt.toNat) (.inr (2, [.int lns13, .int liv14, .int is, .ref (ad ((0 + 55 + 11 * b.toInt.toNat) + 1)), .ref (ad ((0 + 55 + 11 * b.toInt.toNat) + 2))])) := ⟨_, rfl⟩
        rw [← ec23] at hP hD
        have hI : Inv8 g ad pe ct22 := by rw [ec23]; exact up8 hI (i8_40 (kc := (0 + 55 + 11 * b.toInt.toNat)) (by omega) ⟨(lns13 : Int32), (liv14 : Int32), (is : Int32), (by first | omega | decide), (by first | omega | decide), (by first | omega | decide), (by first | omega | decide), (z_01 (x := is) (by omega) (by omega)), rfl⟩)
        have hs24 : ct22 0 = .inr (8, [.ref (ad 1), .ref (ad 2), .ref (ad 3), .ref (ad 5), .ref (ad 6), .ref (ad 9), .ref (ad 10), .ref (ad 17), .ref (ad 21), .ref (ad 34), .ref (ad (99 + 3 * dr2)), .int pe, .int bk3]) := by rw [ec23, va_up_ne _ _ (by omega)]; exact hs1
        have hs25 : ct22 5 = .inl (g.2 5, 4, .inr (.inr (.inr (.inr (zF5 ad 0))))) := by rw [ec23, va_up_ne _ _ (by omega)]; exact hs11
        have hs26 : ct22 (0 + 55 + 11 * b.toInt.toNat) = .inr (2, [.int lns13, .int liv14, .int is, .ref (ad ((0 + 55 + 11 * b.toInt.toNat) + 1)), .ref (ad ((0 + 55 + 11 * b.toInt.toNat) + 2))]) := by rw [ec23]; exact va_up_self _ _ _
        refine lv_iconst (v := 1) hx hb dX8_show_33 (by decide) ?_
        have q27 : (1 : Int32).toInt = 1 := by decide
        exact W.zret (v := 1) hx hb hr rfl (fun t ht hW => ⟨⟨1, (), rfl, trivial, ct22, by rw [ht]; exact hP, hD, hI⟩, hS.F ht⟩) hS.2.2 dX8_show_34
      · skip
        have c21 : shw15.toInt = is.toInt := (z_eq rfl rfl).mp c21
        refine lv_iconst (v := 0) hx hb dX8_show_21 (by decide) ?_
        have q28 : (0 : Int32).toInt = 0 := by decide
        exact W.zret (v := 0) hx hb hr rfl (fun t ht hW => ⟨⟨0, (), rfl, trivial, ct, by rw [ht]; exact hP, hD, hI⟩, hS.F ht⟩) hS.2.2 dX8_show_22
  · skip
    obtain rfl := hr7
    refine lv_if_eq (tgt := 21) hx hb dX8_show_5 (by decide) (fun c29 => ?_) (fun c29 => ?_)
    · skip
      refine lv_iconst (v := 0) hx hb dX8_show_21 (by decide) ?_
      have q30 : (0 : Int32).toInt = 0 := by decide
      exact W.zret (v := 0) hx hb hr rfl (fun t ht hW => ⟨⟨0, (), rfl, trivial, ct, by rw [ht]; exact hP, hD, hI⟩, hS.F ht⟩) hS.2.2 dX8_show_22
    · skip
      exact absurd c29 (by decide)

set_option maxHeartbeats 4000000 in
set_option maxRecDepth 100000 in
theorem k_X8_link (l : Launch) (g : zG) (sz : Nat) (ad : Nat → Nat) (pe : Int32) (ct : Nat → va_E) (a0 : Int32) (i : Int32) (b : Int32) (j : Int32) (hI : Inv8 g ad pe ct) : Met l yX8_link (zW yX8_link cX8_link 5 (some .int)) ({ frames := 2, cells := 0, slots := 0, locals := 44 }) (va_Pc [.ref (ad 0), .int a0, .int i, .int b, .int j] (zA g (zw 126 ad ct) sz)) (va_Qi (fun (r : Int32) (_ : Unit) => (True)) (fun _ t => ∃ ct2 : Nat → va_E, zP g (zw 126 ad ct2) t.heap ∧ va_D (va_A (zw 126 ad ct) sz) (zw 126 ad ct2) ∧ Inv8 g ad pe ct2) (va_A (zw 126 ad ct) sz)) 0 0 (va_A (zw 126 ad ct) sz) := by
  refine Met.ofW (cc := cX8_link) (maxL := 5) (ret := (some .int)) (by decide) rfl ?_
  intro p e s m args below meth c s₁ B hml hv
  obtain ⟨rfl, hsz, hP, hK, hD0, hN⟩ := hv
  have hx := B.exec
  have hb := B.bytes
  have hr := B.returns
  have hg := zW.law (atoms_spec (ws := (zW yX8_link cX8_link 5 (some .int))) B.pre)
  have hown : s.vm.findClass RX8 = some m.cls := findClass_of_methodNamed B.named
  have hlocks := B.notSynchronized
  have hpe0 := hI.1
  subst hsz
  have hD := hD0.self (sz := s.heap.size)
  generalize hAe : va_A (zw 126 ad ct) s.heap.size = A at hD ⊢
  have hA : ∀ q : Nat, s.heap.size ≤ q → A q := fun q h => by rw [← hAe]; exact Or.inr h
  have hS : va_S A s.heap s.heap [] := va_S.rf
  have hl := lv_entry ([.ref (ad 0), .int a0, .int i, .int b, .int j]) (n := 5) (Nat.le_of_ble_eq_true rfl)
  rw [lg_entry_eq]
  generalize (lg_sl ([.ref (ad 0), .int a0, .int i, .int b, .int j]) ++ List.replicate (5 - (lg_sl ([.ref (ad 0), .int a0, .int i, .int b, .int j])).length) Slot.unset).toArray = ls at hl ⊢
  have hl : lv_has ls 5 [(0, .ref (ad 0)), (1, .int a0), (2, .int i), (3, .int b), (4, .int j)] := hl
  have rg_a0 := z_rng a0
  have rg_i := z_rng i
  have rg_b := z_rng b
  have rg_j := z_rng j
  refine lv_aload_n hx hb dX8_link_0 rfl (lv_at hl 0 rfl) ?_
  refine lv_iload_n hx hb dX8_link_1 rfl (lv_at hl 1 rfl) ?_
  refine lv_iload_n hx hb dX8_link_2 rfl (lv_at hl 2 rfl) ?_
  obtain ⟨bk3, dr2, h4, h5, h6, hs1⟩ := a8_0 hI
  refine zc_i (va_runV (As := [.int a0, .int i]) (rest := []) ⟨hx, hb, hml, hown, hg⟩ (k_X8_isLine l g ad pe ct a0 i hI) (cwV 2 hg (z_gV mm_587 mm_589 mm_19 mm_108 mm_590) rfl rfl rfl (by decide +kernel) ⟨Nat.le_of_ble_eq_true rfl, Nat.le_of_ble_eq_true rfl⟩) ⟨(zR.pre [.ref (ad 0), .int a0, .int i] hP hK hN).1, va_recv hK hP (ci := 8) (q0 := 0) rfl (zw_at (by omega) hs1), (zR.pre [.ref (ad 0), .int a0, .int i] hP hK hN).2⟩ rfl rfl hl.1 rfl (lv_room (Nat.le_of_ble_eq_true rfl)) dX8_link_3 ⟨Nat.le_of_ble_eq_true rfl, Nat.le_of_ble_eq_true rfl⟩) (fun r7 hr7 => ?_)
  rcases hr7 with hr7 | hr7
  · skip
    obtain ⟨rfl, h8, h9⟩ := hr7
    have h8 : 0 ≤ a0.toInt ∧ a0.toInt ≤ 3 := h8
    have h9 : 0 ≤ i.toInt ∧ i.toInt ≤ 7 := h9
    refine lv_if_eq (tgt := 36) hx hb dX8_link_6 (by decide) (fun c10 => ?_) (fun c10 => ?_)
    · skip
      exact absurd c10 (by decide)
    · skip
      refine lv_aload_n hx hb dX8_link_9 rfl (lv_at hl 0 rfl) ?_
      refine lv_iload_n hx hb dX8_link_10 rfl (lv_at hl 3 rfl) ?_
      refine lv_iload hx hb dX8_link_11 (lv_at hl 4 rfl) ?_
      refine zc_i (va_runV (As := [.int b, .int j]) (rest := []) ⟨hx, hb, hml, hown, hg⟩ (k_X8_isLine l g ad pe ct b j hI) (cwV 2 hg (z_gV mm_587 mm_589 mm_19 mm_108 mm_590) rfl rfl rfl (by decide +kernel) ⟨Nat.le_of_ble_eq_true rfl, Nat.le_of_ble_eq_true rfl⟩) ⟨(zR.pre [.ref (ad 0), .int b, .int j] hP hK hN).1, va_recv hK hP (ci := 8) (q0 := 0) rfl (zw_at (by omega) hs1), (zR.pre [.ref (ad 0), .int b, .int j] hP hK hN).2⟩ rfl rfl hl.1 rfl (lv_room (Nat.le_of_ble_eq_true rfl)) dX8_link_13 ⟨Nat.le_of_ble_eq_true rfl, Nat.le_of_ble_eq_true rfl⟩) (fun r11 hr11 => ?_)
      rcases hr11 with hr11 | hr11
      · skip
        obtain ⟨rfl, h12, h13⟩ := hr11
        have h12 : 0 ≤ b.toInt ∧ b.toInt ≤ 3 := h12
        have h13 : 0 ≤ j.toInt ∧ j.toInt ≤ 7 := h13
        refine lv_if_eq (tgt := 36) hx hb dX8_link_16 (by decide) (fun c14 => ?_) (fun c14 => ?_)
        · skip
          exact absurd c14 (by decide)
        · skip
          refine lv_iload_n hx hb dX8_link_19 rfl (lv_at hl 1 rfl) ?_
          refine lv_iload_n hx hb dX8_link_20 rfl (lv_at hl 3 rfl) ?_
          refine lv_icmp_eq (tgt := 36) hx hb dX8_link_21 (by decide) (fun c15 => ?_) (fun c15 => ?_)
          · skip
            have c15 : a0.toInt = b.toInt := (z_eq rfl rfl).mp c15
            refine lv_iconst (v := (-1)) hx hb dX8_link_36 (by decide) ?_
            have q16 : ((-1) : Int32).toInt = -1 := by decide
            exact W.iret (v := (-1)) hx hb hr (fun t ht hW => ⟨⟨(-1), (), rfl, trivial, ct, by rw [ht]; exact hP, hD, hI⟩, hS.F ht⟩) hS.2.2 dX8_link_37
          · skip
            have c15 : ¬ (a0.toInt = b.toInt) := fun q => c15 ((z_eq rfl rfl).mpr q)
            refine lv_aload_n hx hb dX8_link_24 rfl (lv_at hl 0 rfl) ?_
            refine va_get (D := g.1) (ci := 8) (v := .ref (ad 6)) (C := RX8) (T := TX8) (N := 13) hx hb hg inG8 hown hK hP 0 (zw_at (by omega) hs1) rfl 4 (by decide) (hg _ mm_364) (fun _ h9 => h9) rfl dX8_link_25 ?_
            obtain ⟨num18, h19, h20, hs17⟩ := a8_6 hI
            refine va_get (D := g.1) (ci := 5) (v := .int num18) (C := RX5) (T := TX5) (N := 3) hx hb hg inG5 hown hK hP 6 (zw_at (by omega) hs17) rfl 0 (by decide) (hg _ mm_154) (fun _ h9 => h9) rfl dX8_link_28 ?_
            refine lv_bipush (v := 40) hx hb dX8_link_31 (by decide) ?_
            refine lv_icmp_lt (tgt := 38) hx hb dX8_link_33 (by decide) (fun c21 => ?_) (fun c21 => ?_)
            · skip
              have c21 : num18.toInt < 40 := (z_lt rfl (by decide : (40 : Int32).toInt = 40)).mp c21
              refine lv_aload_n hx hb dX8_link_38 rfl (lv_at hl 0 rfl) ?_
              refine va_get (D := g.1) (ci := 8) (v := .ref (ad 6)) (C := RX8) (T := TX8) (N := 13) hx hb hg inG8 hown hK hP 0 (zw_at (by omega) hs1) rfl 4 (by decide) (hg _ mm_364) (fun _ h9 => h9) rfl dX8_link_39 ?_
              refine lv_iload_n hx hb dX8_link_42 rfl (lv_at hl 1 rfl) ?_
              refine lv_iload_n hx hb dX8_link_43 rfl (lv_at hl 2 rfl) ?_
              refine zc_i (va_runS (As := [.int a0, .int i]) (rest := [.ref (ad 6)]) ⟨hx, hb, hml, hown, hg⟩ (k_X8_place l g ad pe ct a0 i hI) (va_cwS 2 hg (z_gS mm_617 mm_618 mm_108 mm_619) rfl rfl rfl (by decide +kernel) ⟨Nat.le_of_ble_eq_true rfl, Nat.le_of_ble_eq_true rfl⟩) (zR.pre [.int a0, .int i] hP hK hN) rfl rfl hl.1 rfl (lv_room (Nat.le_of_ble_eq_true rfl)) dX8_link_44 ⟨Nat.le_of_ble_eq_true rfl, Nat.le_of_ble_eq_true rfl⟩) (fun r22 hr22 => ?_)
              refine lv_iload_n hx hb dX8_link_47 rfl (lv_at hl 3 rfl) ?_
              refine lv_iload hx hb dX8_link_48 (lv_at hl 4 rfl) ?_
              refine zc_i (va_runS (As := [.int b, .int j]) (rest := [.int r22, .ref (ad 6)]) ⟨hx, hb, hml, hown, hg⟩ (k_X8_place l g ad pe ct b j hI) (va_cwS 2 hg (z_gS mm_617 mm_618 mm_108 mm_619) rfl rfl rfl (by decide +kernel) ⟨Nat.le_of_ble_eq_true rfl, Nat.le_of_ble_eq_true rfl⟩) (zR.pre [.int b, .int j] hP hK hN) rfl rfl hl.1 rfl (lv_room (Nat.le_of_ble_eq_true rfl)) dX8_link_50 ⟨Nat.le_of_ble_eq_true rfl, Nat.le_of_ble_eq_true rfl⟩) (fun r23 hr23 => ?_)
              have hFc := zw_free hD hS hA
              refine va_callv (va_runV (As := [.int r22, .int r23]) (rest := []) ⟨hx, hb, hml, hown, hg⟩ (k_X5_add l g _ ad pe ct r22 r23 hI) (cwV 2 hg (z_gV mm_620 mm_621 mm_622 mm_110 mm_623) rfl rfl rfl (by decide +kernel) ⟨Nat.le_of_ble_eq_true rfl, Nat.le_of_ble_eq_true rfl⟩) ⟨(zA.pre [.ref (ad 6), .int r22, .int r23] hP hK hD hN).1, va_recv hK hP (ci := 5) (q0 := 6) rfl (zw_at (by omega) hs17), (zA.pre [.ref (ad 6), .int r22, .int r23] hP hK hD hN).2⟩ rfl rfl hl.1 rfl (lv_room (Nat.le_of_ble_eq_true rfl)) dX8_link_53 ⟨Nat.le_of_ble_eq_true rfl, Nat.le_of_ble_eq_true rfl⟩) hS (fun q _ h => hFc q h) hFc (fun _ t H1 locs ht hvm hr24 hB hz1 hk1 hS => ?_)
              obtain ⟨ct25, hP1, hD1, hI⟩ := hB
              rw [ht] at hP1
              have hD := hD1.weaken (fun _ _ _ h => hFc _ h)
              generalize H1 = H at hP1 hS ⊢
              have hP := hP1
              refine W.widen (k := 0) (n := 0) (Nat.le_refl _) (Nat.le_refl _) ?_
              refine lv_aload_n hx hb dX8_link_56 rfl (lv_at hl 0 rfl) ?_
              obtain ⟨bk28, dr27, h29, h30, h31, hs26⟩ := a8_0 hI
              refine va_get (D := g.1) (ci := 8) (v := .ref (ad 6)) (C := RX8) (T := TX8) (N := 13) hx hb hg inG8 hown hK hP 0 (zw_at (by omega) hs26) rfl 4 (by decide) (hg _ mm_364) (fun _ h9 => h9) rfl dX8_link_57 ?_
              obtain ⟨num33, h34, h35, hs32⟩ := a8_6 hI
              refine va_get (D := g.1) (ci := 5) (v := .int num33) (C := RX5) (T := TX5) (N := 3) hx hb hg inG5 hown hK hP 6 (zw_at (by omega) hs32) rfl 0 (by decide) (hg _ mm_154) (fun _ h9 => h9) rfl dX8_link_60 ?_
              exact W.iret (v := num33) hx hb hr (fun t ht hW => ⟨⟨num33, (), rfl, trivial, ct25, by rw [ht]; exact hP, hD, hI⟩, hS.F ht⟩) hS.2.2 dX8_link_63
            · skip
              have c21 : ¬ (num18.toInt < 40) := fun q => c21 ((z_lt rfl (by decide : (40 : Int32).toInt = 40)).mpr q)
              refine lv_iconst (v := (-1)) hx hb dX8_link_36 (by decide) ?_
              have q36 : ((-1) : Int32).toInt = -1 := by decide
              exact W.iret (v := (-1)) hx hb hr (fun t ht hW => ⟨⟨(-1), (), rfl, trivial, ct, by rw [ht]; exact hP, hD, hI⟩, hS.F ht⟩) hS.2.2 dX8_link_37
      · skip
        obtain rfl := hr11
        refine lv_if_eq (tgt := 36) hx hb dX8_link_16 (by decide) (fun c37 => ?_) (fun c37 => ?_)
        · skip
          refine lv_iconst (v := (-1)) hx hb dX8_link_36 (by decide) ?_
          have q38 : ((-1) : Int32).toInt = -1 := by decide
          exact W.iret (v := (-1)) hx hb hr (fun t ht hW => ⟨⟨(-1), (), rfl, trivial, ct, by rw [ht]; exact hP, hD, hI⟩, hS.F ht⟩) hS.2.2 dX8_link_37
        · skip
          exact absurd c37 (by decide)
  · skip
    obtain rfl := hr7
    refine lv_if_eq (tgt := 36) hx hb dX8_link_6 (by decide) (fun c39 => ?_) (fun c39 => ?_)
    · skip
      refine lv_iconst (v := (-1)) hx hb dX8_link_36 (by decide) ?_
      have q40 : ((-1) : Int32).toInt = -1 := by decide
      exact W.iret (v := (-1)) hx hb hr (fun t ht hW => ⟨⟨(-1), (), rfl, trivial, ct, by rw [ht]; exact hP, hD, hI⟩, hS.F ht⟩) hS.2.2 dX8_link_37
    · skip
      exact absurd c39 (by decide)
