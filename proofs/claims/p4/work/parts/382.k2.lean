set_option maxHeartbeats 4000000 in
set_option maxRecDepth 100000 in
theorem k_X8_odds (l : Launch) (g : zG) (sz : Nat) (ad : Nat → Nat) (pe : Int32) (ct : Nat → va_E) (b : Int32) (i : Int32) (p0 : Int32) (kn : Int32) (wh : Int32) (hI : Inv8 g ad pe ct) : Met l yX8_odds (zW yX8_odds cX8_odds 12 (some .long)) ({ frames := 5, cells := 0, slots := 0, locals := 117 }) (va_Pc [.ref (ad 0), .int b, .int i, .int p0, .int kn, .int wh] (zA g (zw 126 ad ct) sz)) (va_Ql (fun (r : Int64) (_ : Unit) => (True)) (fun _ t => ∃ ct2 : Nat → va_E, zP g (zw 126 ad ct2) t.heap ∧ va_D (va_A (zw 126 ad ct) sz) (zw 126 ad ct2) ∧ Inv8 g ad pe ct2) (va_A (zw 126 ad ct) sz)) 0 0 (va_A (zw 126 ad ct) sz) := by
  refine Met.ofW (cc := cX8_odds) (maxL := 12) (ret := (some .long)) (by decide) rfl ?_
  intro p e s m args below meth c s₁ B hml hv
  obtain ⟨rfl, hsz, hP, hK, hD0, hN⟩ := hv
  have hx := B.exec
  have hb := B.bytes
  have hr := B.returns
  have hg := zW.law (atoms_spec (ws := (zW yX8_odds cX8_odds 12 (some .long))) B.pre)
  have hown : s.vm.findClass RX8 = some m.cls := findClass_of_methodNamed B.named
  have hlocks := B.notSynchronized
  have hpe0 := hI.1
  subst hsz
  have hD := hD0.self (sz := s.heap.size)
  generalize hAe : va_A (zw 126 ad ct) s.heap.size = A at hD ⊢
  have hA : ∀ q : Nat, s.heap.size ≤ q → A q := fun q h => by rw [← hAe]; exact Or.inr h
  have hS : va_S A s.heap s.heap [] := va_S.rf
  have hl := lv_entry ([.ref (ad 0), .int b, .int i, .int p0, .int kn, .int wh]) (n := 12) (Nat.le_of_ble_eq_true rfl)
  rw [lg_entry_eq]
  generalize (lg_sl ([.ref (ad 0), .int b, .int i, .int p0, .int kn, .int wh]) ++ List.replicate (12 - (lg_sl ([.ref (ad 0), .int b, .int i, .int p0, .int kn, .int wh])).length) Slot.unset).toArray = ls at hl ⊢
  have hl : lv_has ls 12 [(0, .ref (ad 0)), (1, .int b), (2, .int i), (3, .int p0), (4, .int kn), (5, .int wh)] := hl
  have rg_b := z_rng b
  have rg_i := z_rng i
  have rg_p0 := z_rng p0
  have rg_kn := z_rng kn
  have rg_wh := z_rng wh
  refine lv_aload_n hx hb dX8_odds_0 rfl (lv_at hl 0 rfl) ?_
  refine lv_iload_n hx hb dX8_odds_1 rfl (lv_at hl 1 rfl) ?_
  refine lv_iload_n hx hb dX8_odds_2 rfl (lv_at hl 2 rfl) ?_
  obtain ⟨bk3, dr2, h4, h5, h6, hs1⟩ := a8_0 hI
  refine zc_i (va_runV (As := [.int b, .int i]) (rest := []) ⟨hx, hb, hml, hown, hg⟩ (k_X8_isLine l g ad pe ct b i hI) (cwV 2 hg (z_gV mm_587 mm_589 mm_19 mm_108 mm_590) rfl rfl rfl (by decide +kernel) ⟨Nat.le_of_ble_eq_true rfl, Nat.le_of_ble_eq_true rfl⟩) ⟨(zR.pre [.ref (ad 0), .int b, .int i] hP hK hN).1, va_recv hK hP (ci := 8) (q0 := 0) rfl (zw_at (by omega) hs1), (zR.pre [.ref (ad 0), .int b, .int i] hP hK hN).2⟩ rfl rfl hl.1 rfl (lv_room (Nat.le_of_ble_eq_true rfl)) dX8_odds_3 ⟨Nat.le_of_ble_eq_true rfl, Nat.le_of_ble_eq_true rfl⟩) (fun r7 hr7 => ?_)
  rcases hr7 with hr7 | hr7
  · skip
    obtain ⟨rfl, h8, h9⟩ := hr7
    have h8 : 0 ≤ b.toInt ∧ b.toInt ≤ 3 := h8
    have h9 : 0 ≤ i.toInt ∧ i.toInt ≤ 7 := h9
    refine lv_if_eq (tgt := 35) hx hb dX8_odds_6 (by decide) (fun c10 => ?_) (fun c10 => ?_)
    · skip
      exact absurd c10 (by decide)
    · skip
      refine lv_aload_n hx hb dX8_odds_9 rfl (lv_at hl 0 rfl) ?_
      refine lv_iload_n hx hb dX8_odds_10 rfl (lv_at hl 3 rfl) ?_
      refine zc_i (va_runV (As := [.int p0]) (rest := []) ⟨hx, hb, hml, hown, hg⟩ (k_X8_isPerson l g ad pe ct p0 hI) (cwV 1 hg (z_gV mm_451 mm_453 mm_3 mm_108 mm_454) rfl rfl rfl (by decide +kernel) ⟨Nat.le_of_ble_eq_true rfl, Nat.le_of_ble_eq_true rfl⟩) ⟨(zR.pre [.ref (ad 0), .int p0] hP hK hN).1, va_recv hK hP (ci := 8) (q0 := 0) rfl (zw_at (by omega) hs1), (zR.pre [.ref (ad 0), .int p0] hP hK hN).2⟩ rfl rfl hl.1 rfl (lv_room (Nat.le_of_ble_eq_true rfl)) dX8_odds_11 ⟨Nat.le_of_ble_eq_true rfl, Nat.le_of_ble_eq_true rfl⟩) (fun r11 hr11 => ?_)
      rcases hr11 with hr11 | hr11
      · skip
        obtain ⟨rfl, h12, h13⟩ := hr11
        have h12 : 0 ≤ p0.toInt := h12
        have h13 : p0.toInt < pe.toInt := h13
        refine lv_if_eq (tgt := 35) hx hb dX8_odds_14 (by decide) (fun c14 => ?_) (fun c14 => ?_)
        · skip
          exact absurd c14 (by decide)
        · skip
          refine lv_iload hx hb dX8_odds_17 (lv_at hl 4 rfl) ?_
          refine zc_i (va_runS (As := [.int kn]) (rest := []) ⟨hx, hb, hml, hown, hg⟩ (k_X8_areGossips l g ad pe ct kn hI) (va_cwS 1 hg (z_gS mm_652 mm_653 mm_108 mm_654) rfl rfl rfl (by decide +kernel) ⟨Nat.le_of_ble_eq_true rfl, Nat.le_of_ble_eq_true rfl⟩) (zR.pre [.int kn] hP hK hN) rfl rfl hl.1 rfl (lv_room (Nat.le_of_ble_eq_true rfl)) dX8_odds_19 ⟨Nat.le_of_ble_eq_true rfl, Nat.le_of_ble_eq_true rfl⟩) (fun r15 hr15 => ?_)
          rcases hr15 with hr15 | hr15
          · skip
            obtain ⟨rfl, h16, h17⟩ := hr15
            have h16 : 0 ≤ kn.toInt := h16
            have h17 : kn.toInt ≤ 255 := h17
            refine lv_if_eq (tgt := 35) hx hb dX8_odds_22 (by decide) (fun c18 => ?_) (fun c18 => ?_)
            · skip
              exact absurd c18 (by decide)
            · skip
              refine lv_iload hx hb dX8_odds_25 (lv_at hl 5 rfl) ?_
              refine lv_iconst (v := 0) hx hb dX8_odds_27 (by decide) ?_
              refine lv_iconst (v := 1) hx hb dX8_odds_28 (by decide) ?_
              refine zc_i (va_runS (As := [.int wh, .int 0, .int 1]) (rest := []) ⟨hx, hb, hml, hown, hg⟩ (k_X8_within l g ad pe ct wh (0 : Int32) (1 : Int32) hI) (va_cwS 3 hg (z_gS mm_407 mm_408 mm_108 mm_409) rfl rfl rfl (by decide +kernel) ⟨Nat.le_of_ble_eq_true rfl, Nat.le_of_ble_eq_true rfl⟩) (zR.pre [.int wh, .int 0, .int 1] hP hK hN) rfl rfl hl.1 rfl (lv_room (Nat.le_of_ble_eq_true rfl)) dX8_odds_29 ⟨Nat.le_of_ble_eq_true rfl, Nat.le_of_ble_eq_true rfl⟩) (fun r19 hr19 => ?_)
              rcases hr19 with hr19 | hr19
              · skip
                obtain ⟨rfl, h20, h21⟩ := hr19
                have h20 : (0 : Int) ≤ wh.toInt := h20
                have h21 : wh.toInt ≤ (1 : Int) := h21
                refine lv_if_ne (tgt := 39) hx hb dX8_odds_32 (by decide) (fun c22 => ?_) (fun c22 => ?_)
                · skip
                  refine lv_aload_n hx hb dX8_odds_39 rfl (lv_at hl 0 rfl) ?_
                  refine lv_iload_n hx hb dX8_odds_40 rfl (lv_at hl 1 rfl) ?_
                  refine lv_iload_n hx hb dX8_odds_41 rfl (lv_at hl 2 rfl) ?_
                  refine zc_i (va_runV (As := [.int b, .int i]) (rest := []) ⟨hx, hb, hml, hown, hg⟩ (k_X8_isLive l g ad pe ct b i hI) (cwV 2 hg (z_gV mm_583 mm_585 mm_18 mm_108 mm_586) rfl rfl rfl (by decide +kernel) ⟨Nat.le_of_ble_eq_true rfl, Nat.le_of_ble_eq_true rfl⟩) ⟨(zR.pre [.ref (ad 0), .int b, .int i] hP hK hN).1, va_recv hK hP (ci := 8) (q0 := 0) rfl (zw_at (by omega) hs1), (zR.pre [.ref (ad 0), .int b, .int i] hP hK hN).2⟩ rfl rfl hl.1 rfl (lv_room (Nat.le_of_ble_eq_true rfl)) dX8_odds_42 ⟨Nat.le_of_ble_eq_true rfl, Nat.le_of_ble_eq_true rfl⟩) (fun r23 hr23 => ?_)
                  rcases hr23 with hr23 | hr23
                  · skip
                    obtain ⟨rfl, h24, h25⟩ := hr23
                    have h24 : 0 ≤ b.toInt ∧ b.toInt ≤ 3 := h24
                    have h25 : 0 ≤ i.toInt ∧ i.toInt ≤ 7 := h25
                    refine lv_if_ne (tgt := 52) hx hb dX8_odds_45 (by decide) (fun c26 => ?_) (fun c26 => ?_)
                    · skip
                      refine lv_aload_n hx hb dX8_odds_52 rfl (lv_at hl 0 rfl) ?_
                      refine lv_iload_n hx hb dX8_odds_53 rfl (lv_at hl 1 rfl) ?_
                      refine lv_iload hx hb dX8_odds_54 (lv_at hl 4 rfl) ?_
                      have hFc := zw_free hD hS hA
                      refine va_callv (va_runV (As := [.int b, .int kn]) (rest := []) ⟨hx, hb, hml, hown, hg⟩ (k_X8_fit l g _ ad pe ct b kn (by first | omega | decide) hI) (cwV 2 hg (z_gV mm_655 mm_657 mm_21 mm_108 mm_658) rfl rfl rfl (by decide +kernel) ⟨Nat.le_of_ble_eq_true rfl, Nat.le_of_ble_eq_true rfl⟩) ⟨(zA.pre [.ref (ad 0), .int b, .int kn] hP hK hD hN).1, va_recv hK hP (ci := 8) (q0 := 0) rfl (zw_at (by omega) hs1), (zA.pre [.ref (ad 0), .int b, .int kn] hP hK hD hN).2⟩ rfl rfl hl.1 rfl (lv_room (Nat.le_of_ble_eq_true rfl)) dX8_odds_56 ⟨Nat.le_of_ble_eq_true rfl, Nat.le_of_ble_eq_true rfl⟩) hS (fun q _ h => hFc q h) hFc (fun _ t H1 locs ht hvm hr27 hB hz1 hk1 hS => ?_)
                      obtain ⟨ct28, hP1, hD1, hI⟩ := hB
                      rw [ht] at hP1
                      have hD := hD1.weaken (fun _ _ _ h => hFc _ h)
                      generalize H1 = H at hP1 hS ⊢
                      have hP := hP1
                      refine W.widen (k := 0) (n := 0) (Nat.le_refl _) (Nat.le_refl _) ?_
                      refine lv_aload_n hx hb dX8_odds_59 rfl (lv_at hl 0 rfl) ?_
                      obtain ⟨bk31, dr30, h32, h33, h34, hs29⟩ := a8_0 hI
                      refine va_get (D := g.1) (ci := 8) (v := .ref (ad 10)) (C := RX8) (T := TX8) (N := 13) hx hb hg inG8 hown hK hP 0 (zw_at (by omega) hs29) rfl 6 (by decide) (hg _ mm_366) (fun _ h9 => h9) rfl dX8_odds_60 ?_
                      obtain ⟨lns36, liv37, lak38, fnd39, h40, h41, h42, h43, hs35⟩ := a8_10 hI
                      have hFc := zw_free hD hS hA
                      refine va_calll (va_runV (As := []) (rest := []) ⟨hx, hb, hml, hown, hg⟩ (k_X6_number l g _ ad pe ct28  hI) (cwV 0 hg (z_gV mm_700 mm_701 mm_702 mm_111 mm_703) rfl rfl rfl (by decide +kernel) ⟨Nat.le_of_ble_eq_true rfl, Nat.le_of_ble_eq_true rfl⟩) ⟨(zA.pre [.ref (ad 10)] hP hK hD hN).1, va_recv hK hP (ci := 6) (q0 := 10) rfl (zw_at (by omega) hs35), (zA.pre [.ref (ad 10)] hP hK hD hN).2⟩ rfl rfl hl.1 rfl (lv_room (Nat.le_of_ble_eq_true rfl)) dX8_odds_63 ⟨Nat.le_of_ble_eq_true rfl, Nat.le_of_ble_eq_true rfl⟩) hS (fun q _ h => hFc q h) hFc (fun r44 _ t H1 locs ht hvm hr44 hB hz1 hk1 hS => ?_)
                      obtain ⟨ct45, hP1, hD1, hI⟩ := hB
                      rw [ht] at hP1
                      have hD := hD1.weaken (fun _ _ _ h => hFc _ h)
                      generalize H1 = H at hP1 hS ⊢
                      have hP := hP1
                      refine W.widen (k := 0) (n := 0) (Nat.le_refl _) (Nat.le_refl _) ?_
                      refine lv_lstore (lv' := [(6, .long r44), (0, .ref (ad 0)), (1, .int b), (2, .int i), (3, .int p0), (4, .int kn), (5, .int wh)]) hx hb dX8_odds_66 hl (by decide) rfl (fun ls hl => ?_)
                      refine lv_lload hx hb dX8_odds_68 (lv_at hl 0 rfl) ?_
                      refine lv_lconst (v := 0) hx hb dX8_odds_70 (by decide) ?_
                      refine W.lcmp hx hb dX8_odds_71 ?_
                      refine lv_if_ne (tgt := 79) hx hb dX8_odds_72 (by decide) (fun c46 => ?_) (fun c46 => ?_)
                      · skip
                        have c46 := fun q => c46 ((lg_cmp_eq _ _).mpr q)
                        have c46 : ¬ (r44 = (0 : Int64)) := c46
                        refine lv_aload_n hx hb dX8_odds_79 rfl (lv_at hl 1 rfl) ?_
                        obtain ⟨bk49, dr48, h50, h51, h52, hs47⟩ := a8_0 hI
                        refine va_get (D := g.1) (ci := 8) (v := .ref (ad 10)) (C := RX8) (T := TX8) (N := 13) hx hb hg inG8 hown hK hP 0 (zw_at (by omega) hs47) rfl 6 (by decide) (hg _ mm_366) (fun _ h9 => h9) rfl dX8_odds_80 ?_
                        obtain ⟨lns54, liv55, lak56, fnd57, h58, h59, h60, h61, hs53⟩ := a8_10 hI
                        refine va_get (D := g.1) (ci := 6) (v := .ref (ad 12)) (C := RX6) (T := TX6) (N := 10) hx hb hg inG6 hown hK hP 10 (zw_at (by omega) hs53) rfl 5 (by decide) (hg _ mm_183) (fun _ h9 => h9) rfl dX8_odds_83 ?_
                        refine lv_iload_n hx hb dX8_odds_86 rfl (lv_at hl 3 rfl) ?_
                        refine lv_dup2_11 hx hb dX8_odds_87 rfl rfl ?_
                        obtain ⟨f63, hp64, hs62⟩ := a8_12 hI
                        refine va_iald hx hb hK hP 12 0 (zw_at (by omega) hs62) rfl (z_in rfl (by omega) (by omega)) dX8_odds_88 ?_
                        refine lv_topi (fun y65 ey65 => ?_)
                        have hy65 := hp64 _ (z_clt (x := i) rfl (by omega) (by omega))
                        rw [← ey65] at hy65
                        have hy65 : 0 ≤ y65.toInt ∧ y65.toInt ≤ 65535 := hy65
                        refine lv_iconst (v := 1) hx hb dX8_odds_89 (by decide) ?_
                        refine lv_iload_n hx hb dX8_odds_90 rfl (lv_at hl 4 rfl) ?_
                        refine lv_ishl hx hb dX8_odds_91 ?_
                        refine lv_topi (fun x66 ex66 => ?_)
                        have tx66 := z_shl1 (y := p0) rfl (by omega) (k := 15) (by decide) (by omega)
                        rw [← ex66] at tx66
                        refine lv_iand hx hb dX8_odds_92 ?_
                        refine lv_topi (fun x67 ex67 => ?_)
                        have tx67 := z_andr (x := y65) (y := x66) rfl (by omega)
                        rw [← ex67] at tx67
                        refine va_iast hx hb hK hP hD hS 12 0 (zw_at (by omega) hs62) rfl (z_in rfl (by omega) (by omega)) dX8_odds_93 (fun H locs hP hD hS => ?_)
                        have hp69 : ∀ j : Nat, j < 8 → (fun x : Int32 => 0 ≤ x.toInt ∧ x.toInt ≤ 65535) ((upd f63 (Int32.toNatClampNeg i) x67) j) := fun j hj => by
                          unfold upd
                          by_cases q : j = Int32.toNatClampNeg i
                          · rw [if_pos q]; exact (show 0 ≤ (x67 : Int32).toInt ∧ (x67 : Int32).toInt ≤ 65535 from (by first | omega | decide))
                          · rw [if_neg q]; exact hp64 j hj
                        have hP : zP g ((zw 126 ad ct45).set 12 (ad 12, .inl (g.2 0, 8, .inl (upd f63 (Int32.toNatClampNeg i) x67)))) H := hP
                        have hD : va_D A ((zw 126 ad ct45).set 12 (ad 12, .inl (g.2 0, 8, .inl (upd f63 (Int32.toNatClampNeg i) x67)))) := hD
                        rw [zw_set (by omega)] at hP hD
                        obtain ⟨ct70, ec71⟩ : ∃ z : Nat → va_E, z = va_up ct45 12 (.inl (g.2 0, 8, .inl (upd f63 (Int32.toNatClampNeg i) x67))) := ⟨_, rfl⟩
                        rw [← ec71] at hP hD
                        have hI : Inv8 g ad pe ct70 := by rw [ec71]; exact up8 hI (i8_12 ⟨_, hp69, rfl⟩)
                        have hs72 : ct70 0 = .inr (8, [.ref (ad 1), .ref (ad 2), .ref (ad 3), .ref (ad 5), .ref (ad 6), .ref (ad 9), .ref (ad 10), .ref (ad 17), .ref (ad 21), .ref (ad 34), .ref (ad (99 + 3 * dr48)), .int pe, .int bk49]) := by rw [ec71, va_up_ne _ _ (by omega)]; exact hs47
                        have hs73 : ct70 10 = .inr (6, [.int lns54, .int liv55, .int lak56, .int fnd57, .ref (ad 11), .ref (ad 12), .ref (ad 13), .ref (ad 14), .ref (ad 15), .ref (ad 16)]) := by rw [ec71, va_up_ne _ _ (by omega)]; exact hs53
                        have hs74 : ct70 12 = .inl (g.2 0, 8, .inl (upd f63 (Int32.toNatClampNeg i) x67)) := by rw [ec71]; exact va_up_self _ _ _
                        refine lv_aload_n hx hb dX8_odds_94 rfl (lv_at hl 1 rfl) ?_
                        refine va_get (D := g.1) (ci := 8) (v := .ref (ad 10)) (C := RX8) (T := TX8) (N := 13) hx hb hg inG8 hown hK hP 0 (zw_at (by omega) hs72) rfl 6 (by decide) (hg _ mm_366) (fun _ h9 => h9) rfl dX8_odds_95 ?_
                        have hFc := zw_free hD hS hA
                        refine va_calll (va_runV (As := []) (rest := []) ⟨hx, hb, hml, hown, hg⟩ (k_X6_number l g _ ad pe ct70  hI) (cwV 0 hg (z_gV mm_700 mm_701 mm_702 mm_111 mm_703) rfl rfl rfl (by decide +kernel) ⟨Nat.le_of_ble_eq_true rfl, Nat.le_of_ble_eq_true rfl⟩) ⟨(zA.pre [.ref (ad 10)] hP hK hD hN).1, va_recv hK hP (ci := 6) (q0 := 10) rfl (zw_at (by omega) hs73), (zA.pre [.ref (ad 10)] hP hK hD hN).2⟩ rfl rfl hl.1 rfl (lv_room (Nat.le_of_ble_eq_true rfl)) dX8_odds_98 ⟨Nat.le_of_ble_eq_true rfl, Nat.le_of_ble_eq_true rfl⟩) hS (fun q _ h => hFc q h) hFc (fun r75 _ t H1 locs ht hvm hr75 hB hz1 hk1 hS => ?_)
                        obtain ⟨ct76, hP1, hD1, hI⟩ := hB
                        rw [ht] at hP1
                        have hD := hD1.weaken (fun _ _ _ h => hFc _ h)
                        generalize H1 = H at hP1 hS ⊢
                        have hP := hP1
                        refine W.widen (k := 0) (n := 0) (Nat.le_refl _) (Nat.le_refl _) ?_
                        refine lv_lstore (lv' := [(8, .long r75), (6, .long r44), (0, .ref (ad 0)), (1, .int b), (2, .int i), (3, .int p0), (4, .int kn), (5, .int wh)]) hx hb dX8_odds_101 hl (by decide) rfl (fun ls hl => ?_)
                        refine lv_lload hx hb dX8_odds_103 (lv_at hl 0 rfl) ?_
                        refine lv_lload hx hb dX8_odds_105 (lv_at hl 1 rfl) ?_
                        refine zc_l (va_runS (As := [.long r75, .long r44]) (rest := []) ⟨hx, hb, hml, hown, hg⟩ (k_X8_commonDivisor l g ad pe ct76 r75 r44 hI) (va_cwS 2 hg (z_gS mm_713 mm_714 mm_108 mm_715) rfl rfl rfl (by decide +kernel) ⟨Nat.le_of_ble_eq_true rfl, Nat.le_of_ble_eq_true rfl⟩) (zR.pre [.long r75, .long r44] hP hK hN) rfl rfl hl.1 rfl (lv_room (Nat.le_of_ble_eq_true rfl)) dX8_odds_107 ⟨Nat.le_of_ble_eq_true rfl, Nat.le_of_ble_eq_true rfl⟩) (fun r77 hr77 => ?_)
                        refine lv_lstore (lv' := [(10, .long r77), (8, .long r75), (6, .long r44), (0, .ref (ad 0)), (1, .int b), (2, .int i), (3, .int p0), (4, .int kn), (5, .int wh)]) hx hb dX8_odds_110 hl (by decide) rfl (fun ls hl => ?_)
                        refine lv_lload hx hb dX8_odds_112 (lv_at hl 0 rfl) ?_
                        refine lv_lconst (v := 0) hx hb dX8_odds_114 (by decide) ?_
                        refine W.lcmp hx hb dX8_odds_115 ?_
                        refine lv_if_ne (tgt := 123) hx hb dX8_odds_116 (by decide) (fun c78 => ?_) (fun c78 => ?_)
                        · skip
                          have c78 := fun q => c78 ((lg_cmp_eq _ _).mpr q)
                          have c78 : ¬ (r77 = (0 : Int64)) := c78
                          refine lv_iload hx hb dX8_odds_123 (lv_at hl 8 rfl) ?_
                          refine lv_if_ne (tgt := 136) hx hb dX8_odds_125 (by decide) (fun c79 => ?_) (fun c79 => ?_)
                          · skip
                            have c79 : ¬ (wh.toInt = 0) := fun q => c79 ((z_eq rfl (by decide : (0 : Int32).toInt = 0)).mpr q)
                            refine lv_lload hx hb dX8_odds_136 (lv_at hl 2 rfl) ?_
                            refine lv_lload hx hb dX8_odds_138 (lv_at hl 0 rfl) ?_
                            refine lv_ldiv hx hb dX8_odds_140 (by assumption) ?_
                            refine lv_topl (fun x80 ex80 => ?_)
                            exact W.lret (v := x80) hx hb hr (fun t ht hW => ⟨⟨x80, (), rfl, trivial, ct76, by rw [ht]; exact hP, hD, hI⟩, hS.F ht⟩) hS.2.2 dX8_odds_141
                          · skip
                            have c79 : wh.toInt = 0 := (z_eq rfl (by decide : (0 : Int32).toInt = 0)).mp c79
                            refine lv_lload hx hb dX8_odds_128 (lv_at hl 1 rfl) ?_
                            refine lv_lload hx hb dX8_odds_130 (lv_at hl 0 rfl) ?_
                            refine lv_ldiv hx hb dX8_odds_132 (by assumption) ?_
                            refine lv_topl (fun x81 ex81 => ?_)
                            refine lv_goto (tgt := 141) hx hb dX8_odds_133 (by decide) ?_
                            exact W.lret (v := x81) hx hb hr (fun t ht hW => ⟨⟨x81, (), rfl, trivial, ct76, by rw [ht]; exact hP, hD, hI⟩, hS.F ht⟩) hS.2.2 dX8_odds_141
                        · skip
                          have c78 := (lg_cmp_eq _ _).mp c78
                          refine lv_ldc2 hx hb hown (hg _ mm_712) dX8_odds_119 ?_
                          exact W.lret (v := (-2)) hx hb hr (fun t ht hW => ⟨⟨(-2), (), rfl, trivial, ct76, by rw [ht]; exact hP, hD, hI⟩, hS.F ht⟩) hS.2.2 dX8_odds_122
                      · skip
                        have c46 := (lg_cmp_eq _ _).mp c46
                        refine lv_ldc2 hx hb hown (hg _ mm_712) dX8_odds_75 ?_
                        exact W.lret (v := (-2)) hx hb hr (fun t ht hW => ⟨⟨(-2), (), rfl, trivial, ct45, by rw [ht]; exact hP, hD, hI⟩, hS.F ht⟩) hS.2.2 dX8_odds_78
                    · skip
                      exact absurd c26 (by decide)
                  · skip
                    obtain rfl := hr23
                    refine lv_if_ne (tgt := 52) hx hb dX8_odds_45 (by decide) (fun c82 => ?_) (fun c82 => ?_)
                    · skip
                      exact absurd c82 (by decide)
                    · skip
                      refine lv_ldc2 hx hb hown (hg _ mm_712) dX8_odds_48 ?_
                      exact W.lret (v := (-2)) hx hb hr (fun t ht hW => ⟨⟨(-2), (), rfl, trivial, ct, by rw [ht]; exact hP, hD, hI⟩, hS.F ht⟩) hS.2.2 dX8_odds_51
                · skip
                  exact absurd c22 (by decide)
              · skip
                obtain ⟨rfl, h83⟩ := hr19
                have h83 : ¬ ((0 : Int) ≤ wh.toInt ∧ wh.toInt ≤ (1 : Int)) := h83
                refine lv_if_ne (tgt := 39) hx hb dX8_odds_32 (by decide) (fun c84 => ?_) (fun c84 => ?_)
                · skip
                  exact absurd c84 (by decide)
                · skip
                  refine lv_ldc2 hx hb hown (hg _ mm_699) dX8_odds_35 ?_
                  exact W.lret (v := (-1)) hx hb hr (fun t ht hW => ⟨⟨(-1), (), rfl, trivial, ct, by rw [ht]; exact hP, hD, hI⟩, hS.F ht⟩) hS.2.2 dX8_odds_38
          · skip
            obtain ⟨rfl, h85⟩ := hr15
            have h85 : ¬ (0 ≤ kn.toInt ∧ kn.toInt ≤ 255) := h85
            refine lv_if_eq (tgt := 35) hx hb dX8_odds_22 (by decide) (fun c86 => ?_) (fun c86 => ?_)
            · skip
              refine lv_ldc2 hx hb hown (hg _ mm_699) dX8_odds_35 ?_
              exact W.lret (v := (-1)) hx hb hr (fun t ht hW => ⟨⟨(-1), (), rfl, trivial, ct, by rw [ht]; exact hP, hD, hI⟩, hS.F ht⟩) hS.2.2 dX8_odds_38
            · skip
              exact absurd c86 (by decide)
      · skip
        obtain ⟨rfl, h87⟩ := hr11
        have h87 : ¬ (0 ≤ p0.toInt ∧ p0.toInt < pe.toInt) := h87
        refine lv_if_eq (tgt := 35) hx hb dX8_odds_14 (by decide) (fun c88 => ?_) (fun c88 => ?_)
        · skip
          refine lv_ldc2 hx hb hown (hg _ mm_699) dX8_odds_35 ?_
          exact W.lret (v := (-1)) hx hb hr (fun t ht hW => ⟨⟨(-1), (), rfl, trivial, ct, by rw [ht]; exact hP, hD, hI⟩, hS.F ht⟩) hS.2.2 dX8_odds_38
        · skip
          exact absurd c88 (by decide)
  · skip
    obtain rfl := hr7
    refine lv_if_eq (tgt := 35) hx hb dX8_odds_6 (by decide) (fun c89 => ?_) (fun c89 => ?_)
    · skip
      refine lv_ldc2 hx hb hown (hg _ mm_699) dX8_odds_35 ?_
      exact W.lret (v := (-1)) hx hb hr (fun t ht hW => ⟨⟨(-1), (), rfl, trivial, ct, by rw [ht]; exact hP, hD, hI⟩, hS.F ht⟩) hS.2.2 dX8_odds_38
    · skip
      exact absurd c89 (by decide)

set_option maxHeartbeats 4000000 in
set_option maxRecDepth 100000 in
theorem k_X8_mustBe (l : Launch) (g : zG) (sz : Nat) (ad : Nat → Nat) (pe : Int32) (ct : Nat → va_E) (b : Int32) (i : Int32) (p0 : Int32) (kn : Int32) (hI : Inv8 g ad pe ct) : Met l yX8_mustBe (zW yX8_mustBe cX8_mustBe 6 (some .int)) ({ frames := 5, cells := 0, slots := 0, locals := 117 }) (va_Pc [.ref (ad 0), .int b, .int i, .int p0, .int kn] (zA g (zw 126 ad ct) sz)) (va_Qi (fun (r : Int32) (_ : Unit) => (True)) (fun _ t => ∃ ct2 : Nat → va_E, zP g (zw 126 ad ct2) t.heap ∧ va_D (va_A (zw 126 ad ct) sz) (zw 126 ad ct2) ∧ Inv8 g ad pe ct2) (va_A (zw 126 ad ct) sz)) 0 0 (va_A (zw 126 ad ct) sz) := by
  refine Met.ofW (cc := cX8_mustBe) (maxL := 6) (ret := (some .int)) (by decide) rfl ?_
  intro p e s m args below meth c s₁ B hml hv
  obtain ⟨rfl, hsz, hP, hK, hD0, hN⟩ := hv
  have hx := B.exec
  have hb := B.bytes
  have hr := B.returns
  have hg := zW.law (atoms_spec (ws := (zW yX8_mustBe cX8_mustBe 6 (some .int))) B.pre)
  have hown : s.vm.findClass RX8 = some m.cls := findClass_of_methodNamed B.named
  have hlocks := B.notSynchronized
  have hpe0 := hI.1
  subst hsz
  have hD := hD0.self (sz := s.heap.size)
  generalize hAe : va_A (zw 126 ad ct) s.heap.size = A at hD ⊢
  have hA : ∀ q : Nat, s.heap.size ≤ q → A q := fun q h => by rw [← hAe]; exact Or.inr h
  have hS : va_S A s.heap s.heap [] := va_S.rf
  have hl := lv_entry ([.ref (ad 0), .int b, .int i, .int p0, .int kn]) (n := 6) (Nat.le_of_ble_eq_true rfl)
  rw [lg_entry_eq]
  generalize (lg_sl ([.ref (ad 0), .int b, .int i, .int p0, .int kn]) ++ List.replicate (6 - (lg_sl ([.ref (ad 0), .int b, .int i, .int p0, .int kn])).length) Slot.unset).toArray = ls at hl ⊢
  have hl : lv_has ls 6 [(0, .ref (ad 0)), (1, .int b), (2, .int i), (3, .int p0), (4, .int kn)] := hl
  have rg_b := z_rng b
  have rg_i := z_rng i
  have rg_p0 := z_rng p0
  have rg_kn := z_rng kn
  refine lv_aload_n hx hb dX8_mustBe_0 rfl (lv_at hl 0 rfl) ?_
  refine lv_iload_n hx hb dX8_mustBe_1 rfl (lv_at hl 1 rfl) ?_
  refine lv_iload_n hx hb dX8_mustBe_2 rfl (lv_at hl 2 rfl) ?_
  obtain ⟨bk3, dr2, h4, h5, h6, hs1⟩ := a8_0 hI
  refine zc_i (va_runV (As := [.int b, .int i]) (rest := []) ⟨hx, hb, hml, hown, hg⟩ (k_X8_isLine l g ad pe ct b i hI) (cwV 2 hg (z_gV mm_587 mm_589 mm_19 mm_108 mm_590) rfl rfl rfl (by decide +kernel) ⟨Nat.le_of_ble_eq_true rfl, Nat.le_of_ble_eq_true rfl⟩) ⟨(zR.pre [.ref (ad 0), .int b, .int i] hP hK hN).1, va_recv hK hP (ci := 8) (q0 := 0) rfl (zw_at (by omega) hs1), (zR.pre [.ref (ad 0), .int b, .int i] hP hK hN).2⟩ rfl rfl hl.1 rfl (lv_room (Nat.le_of_ble_eq_true rfl)) dX8_mustBe_3 ⟨Nat.le_of_ble_eq_true rfl, Nat.le_of_ble_eq_true rfl⟩) (fun r7 hr7 => ?_)
  rcases hr7 with hr7 | hr7
  · skip
    obtain ⟨rfl, h8, h9⟩ := hr7
    have h8 : 0 ≤ b.toInt ∧ b.toInt ≤ 3 := h8
    have h9 : 0 ≤ i.toInt ∧ i.toInt ≤ 7 := h9
    refine lv_if_eq (tgt := 25) hx hb dX8_mustBe_6 (by decide) (fun c10 => ?_) (fun c10 => ?_)
    · skip
      exact absurd c10 (by decide)
    · skip
      refine lv_aload_n hx hb dX8_mustBe_9 rfl (lv_at hl 0 rfl) ?_
      refine lv_iload_n hx hb dX8_mustBe_10 rfl (lv_at hl 3 rfl) ?_
      refine zc_i (va_runV (As := [.int p0]) (rest := []) ⟨hx, hb, hml, hown, hg⟩ (k_X8_isPerson l g ad pe ct p0 hI) (cwV 1 hg (z_gV mm_451 mm_453 mm_3 mm_108 mm_454) rfl rfl rfl (by decide +kernel) ⟨Nat.le_of_ble_eq_true rfl, Nat.le_of_ble_eq_true rfl⟩) ⟨(zR.pre [.ref (ad 0), .int p0] hP hK hN).1, va_recv hK hP (ci := 8) (q0 := 0) rfl (zw_at (by omega) hs1), (zR.pre [.ref (ad 0), .int p0] hP hK hN).2⟩ rfl rfl hl.1 rfl (lv_room (Nat.le_of_ble_eq_true rfl)) dX8_mustBe_11 ⟨Nat.le_of_ble_eq_true rfl, Nat.le_of_ble_eq_true rfl⟩) (fun r11 hr11 => ?_)
      rcases hr11 with hr11 | hr11
      · skip
        obtain ⟨rfl, h12, h13⟩ := hr11
        have h12 : 0 ≤ p0.toInt := h12
        have h13 : p0.toInt < pe.toInt := h13
        refine lv_if_eq (tgt := 25) hx hb dX8_mustBe_14 (by decide) (fun c14 => ?_) (fun c14 => ?_)
        · skip
          exact absurd c14 (by decide)
        · skip
          refine lv_iload hx hb dX8_mustBe_17 (lv_at hl 4 rfl) ?_
          refine zc_i (va_runS (As := [.int kn]) (rest := []) ⟨hx, hb, hml, hown, hg⟩ (k_X8_areGossips l g ad pe ct kn hI) (va_cwS 1 hg (z_gS mm_652 mm_653 mm_108 mm_654) rfl rfl rfl (by decide +kernel) ⟨Nat.le_of_ble_eq_true rfl, Nat.le_of_ble_eq_true rfl⟩) (zR.pre [.int kn] hP hK hN) rfl rfl hl.1 rfl (lv_room (Nat.le_of_ble_eq_true rfl)) dX8_mustBe_19 ⟨Nat.le_of_ble_eq_true rfl, Nat.le_of_ble_eq_true rfl⟩) (fun r15 hr15 => ?_)
          rcases hr15 with hr15 | hr15
          · skip
            obtain ⟨rfl, h16, h17⟩ := hr15
            have h16 : 0 ≤ kn.toInt := h16
            have h17 : kn.toInt ≤ 255 := h17
            refine lv_if_ne (tgt := 27) hx hb dX8_mustBe_22 (by decide) (fun c18 => ?_) (fun c18 => ?_)
            · skip
              refine lv_aload_n hx hb dX8_mustBe_27 rfl (lv_at hl 0 rfl) ?_
              refine lv_iload_n hx hb dX8_mustBe_28 rfl (lv_at hl 1 rfl) ?_
              refine lv_iload_n hx hb dX8_mustBe_29 rfl (lv_at hl 2 rfl) ?_
              refine zc_i (va_runV (As := [.int b, .int i]) (rest := []) ⟨hx, hb, hml, hown, hg⟩ (k_X8_isLive l g ad pe ct b i hI) (cwV 2 hg (z_gV mm_583 mm_585 mm_18 mm_108 mm_586) rfl rfl rfl (by decide +kernel) ⟨Nat.le_of_ble_eq_true rfl, Nat.le_of_ble_eq_true rfl⟩) ⟨(zR.pre [.ref (ad 0), .int b, .int i] hP hK hN).1, va_recv hK hP (ci := 8) (q0 := 0) rfl (zw_at (by omega) hs1), (zR.pre [.ref (ad 0), .int b, .int i] hP hK hN).2⟩ rfl rfl hl.1 rfl (lv_room (Nat.le_of_ble_eq_true rfl)) dX8_mustBe_30 ⟨Nat.le_of_ble_eq_true rfl, Nat.le_of_ble_eq_true rfl⟩) (fun r19 hr19 => ?_)
              rcases hr19 with hr19 | hr19
              · skip
                obtain ⟨rfl, h20, h21⟩ := hr19
                have h20 : 0 ≤ b.toInt ∧ b.toInt ≤ 3 := h20
                have h21 : 0 ≤ i.toInt ∧ i.toInt ≤ 7 := h21
                refine lv_if_ne (tgt := 39) hx hb dX8_mustBe_33 (by decide) (fun c22 => ?_) (fun c22 => ?_)
                · skip
                  refine lv_aload_n hx hb dX8_mustBe_39 rfl (lv_at hl 0 rfl) ?_
                  refine lv_iload_n hx hb dX8_mustBe_40 rfl (lv_at hl 1 rfl) ?_
                  refine lv_iload hx hb dX8_mustBe_41 (lv_at hl 4 rfl) ?_
                  have hFc := zw_free hD hS hA
                  refine va_callv (va_runV (As := [.int b, .int kn]) (rest := []) ⟨hx, hb, hml, hown, hg⟩ (k_X8_fit l g _ ad pe ct b kn (by first | omega | decide) hI) (cwV 2 hg (z_gV mm_655 mm_657 mm_21 mm_108 mm_658) rfl rfl rfl (by decide +kernel) ⟨Nat.le_of_ble_eq_true rfl, Nat.le_of_ble_eq_true rfl⟩) ⟨(zA.pre [.ref (ad 0), .int b, .int kn] hP hK hD hN).1, va_recv hK hP (ci := 8) (q0 := 0) rfl (zw_at (by omega) hs1), (zA.pre [.ref (ad 0), .int b, .int kn] hP hK hD hN).2⟩ rfl rfl hl.1 rfl (lv_room (Nat.le_of_ble_eq_true rfl)) dX8_mustBe_43 ⟨Nat.le_of_ble_eq_true rfl, Nat.le_of_ble_eq_true rfl⟩) hS (fun q _ h => hFc q h) hFc (fun _ t H1 locs ht hvm hr23 hB hz1 hk1 hS => ?_)
                  obtain ⟨ct24, hP1, hD1, hI⟩ := hB
                  rw [ht] at hP1
                  have hD := hD1.weaken (fun _ _ _ h => hFc _ h)
                  generalize H1 = H at hP1 hS ⊢
                  have hP := hP1
                  refine W.widen (k := 0) (n := 0) (Nat.le_refl _) (Nat.le_refl _) ?_
                  refine lv_aload_n hx hb dX8_mustBe_46 rfl (lv_at hl 0 rfl) ?_
                  obtain ⟨bk27, dr26, h28, h29, h30, hs25⟩ := a8_0 hI
                  refine va_get (D := g.1) (ci := 8) (v := .ref (ad 10)) (C := RX8) (T := TX8) (N := 13) hx hb hg inG8 hown hK hP 0 (zw_at (by omega) hs25) rfl 6 (by decide) (hg _ mm_366) (fun _ h9 => h9) rfl dX8_mustBe_47 ?_
                  obtain ⟨lns32, liv33, lak34, fnd35, h36, h37, h38, h39, hs31⟩ := a8_10 hI
                  have hFc := zw_free hD hS hA
                  refine va_callv (va_runV (As := []) (rest := []) ⟨hx, hb, hml, hown, hg⟩ (k_X6_weigh l g _ ad pe ct24  hI) (cwV 0 hg (z_gV mm_720 mm_721 mm_722 mm_111 mm_723) rfl rfl rfl (by decide +kernel) ⟨Nat.le_of_ble_eq_true rfl, Nat.le_of_ble_eq_true rfl⟩) ⟨(zA.pre [.ref (ad 10)] hP hK hD hN).1, va_recv hK hP (ci := 6) (q0 := 10) rfl (zw_at (by omega) hs31), (zA.pre [.ref (ad 10)] hP hK hD hN).2⟩ rfl rfl hl.1 rfl (lv_room (Nat.le_of_ble_eq_true rfl)) dX8_mustBe_50 ⟨Nat.le_of_ble_eq_true rfl, Nat.le_of_ble_eq_true rfl⟩) hS (fun q _ h => hFc q h) hFc (fun _ t H1 locs ht hvm hr40 hB hz1 hk1 hS => ?_)
                  obtain ⟨ct41, hP1, hD1, hI⟩ := hB
                  rw [ht] at hP1
                  have hD := hD1.weaken (fun _ _ _ h => hFc _ h)
                  generalize H1 = H at hP1 hS ⊢
                  have hP := hP1
                  refine W.widen (k := 0) (n := 0) (Nat.le_refl _) (Nat.le_refl _) ?_
                  refine lv_aload_n hx hb dX8_mustBe_53 rfl (lv_at hl 0 rfl) ?_
                  obtain ⟨bk44, dr43, h45, h46, h47, hs42⟩ := a8_0 hI
                  refine va_get (D := g.1) (ci := 8) (v := .ref (ad 10)) (C := RX8) (T := TX8) (N := 13) hx hb hg inG8 hown hK hP 0 (zw_at (by omega) hs42) rfl 6 (by decide) (hg _ mm_366) (fun _ h9 => h9) rfl dX8_mustBe_54 ?_
                  obtain ⟨lns49, liv50, lak51, fnd52, h53, h54, h55, h56, hs48⟩ := a8_10 hI
                  refine va_get (D := g.1) (ci := 6) (v := .ref (ad 13)) (C := RX6) (T := TX6) (N := 10) hx hb hg inG6 hown hK hP 10 (zw_at (by omega) hs48) rfl 6 (by decide) (hg _ mm_185) (fun _ h9 => h9) rfl dX8_mustBe_57 ?_
                  refine lv_iload_n hx hb dX8_mustBe_60 rfl (lv_at hl 2 rfl) ?_
                  obtain ⟨f58, hp59, hs57⟩ := a8_13 hI
                  refine va_iald hx hb hK hP 13 0 (zw_at (by omega) hs57) rfl (z_in rfl (by omega) (by omega)) dX8_mustBe_61 ?_
                  refine lv_topi (fun y60 ey60 => ?_)
                  have hy60 := hp59 _ (z_clt (x := i) rfl (by omega) (by omega))
                  rw [← ey60] at hy60
                  have hy60 : 0 ≤ y60.toInt ∧ y60.toInt ≤ 65535 := hy60
                  refine lv_istore (lv' := [(5, .int y60), (0, .ref (ad 0)), (1, .int b), (2, .int i), (3, .int p0), (4, .int kn)]) hx hb dX8_mustBe_62 hl (by decide) rfl (fun ls hl => ?_)
                  refine lv_iload hx hb dX8_mustBe_64 (lv_at hl 0 rfl) ?_
                  refine lv_iload_n hx hb dX8_mustBe_66 rfl (lv_at hl 4 rfl) ?_
                  refine lv_ishr hx hb dX8_mustBe_67 ?_
                  refine lv_topi (fun x61 ex61 => ?_)
                  have tx61 := z_shr (x := y60) rfl (by omega) p0
                  rw [← ex61] at tx61
                  refine lv_iconst (v := 1) hx hb dX8_mustBe_68 (by decide) ?_
                  refine lv_iand hx hb dX8_mustBe_69 ?_
                  refine lv_topi (fun x62 ex62 => ?_)
                  have tx62 := z_andr (x := x61) (y := 1) (by decide : (1 : Int32).toInt = 1) (by omega)
                  rw [← ex62] at tx62
                  refine lv_if_ne (tgt := 75) hx hb dX8_mustBe_70 (by decide) (fun c63 => ?_) (fun c63 => ?_)
                  · skip
                    have c63 : ¬ (x62.toInt = 0) := fun q => c63 ((z_eq rfl (by decide : (0 : Int32).toInt = 0)).mpr q)
                    refine lv_iload hx hb dX8_mustBe_75 (lv_at hl 0 rfl) ?_
                    refine zc_i (va_runS (As := [.int y60]) (rest := []) ⟨hx, hb, hml, hown, hg⟩ (k_J6_bitCount_0f7a4 l g ad pe ct41 y60 hI) (va_cwS 1 hg (z_gS mm_734 mm_729 mm_119 mm_730) rfl rfl rfl (by decide +kernel) ⟨Nat.le_of_ble_eq_true rfl, Nat.le_of_ble_eq_true rfl⟩) (zR.pre [.int y60] hP hK hN) rfl rfl hl.1 rfl (lv_room (Nat.le_of_ble_eq_true rfl)) dX8_mustBe_77 ⟨Nat.le_of_ble_eq_true rfl, Nat.le_of_ble_eq_true rfl⟩) (fun r64 hr64 => ?_)
                    obtain ⟨hr64_0, hr64_1⟩ := hr64
                    have hr64_0 : 0 ≤ r64.toInt := hr64_0
                    have hr64_1 : r64.toInt ≤ 63 := hr64_1
                    refine lv_iconst (v := 1) hx hb dX8_mustBe_80 (by decide) ?_
                    refine lv_icmp_ne (tgt := 88) hx hb dX8_mustBe_81 (by decide) (fun c65 => ?_) (fun c65 => ?_)
                    · skip
                      have c65 : ¬ (r64.toInt = 1) := fun q => c65 ((z_eq rfl (by decide : (1 : Int32).toInt = 1)).mpr q)
                      refine lv_iconst (v := 1) hx hb dX8_mustBe_88 (by decide) ?_
                      have q66 : (1 : Int32).toInt = 1 := by decide
                      exact W.iret (v := 1) hx hb hr (fun t ht hW => ⟨⟨1, (), rfl, trivial, ct41, by rw [ht]; exact hP, hD, hI⟩, hS.F ht⟩) hS.2.2 dX8_mustBe_89
                    · skip
                      have c65 : r64.toInt = 1 := (z_eq rfl (by decide : (1 : Int32).toInt = 1)).mp c65
                      refine lv_iconst (v := 2) hx hb dX8_mustBe_84 (by decide) ?_
                      refine lv_goto (tgt := 89) hx hb dX8_mustBe_85 (by decide) ?_
                      have q67 : (2 : Int32).toInt = 2 := by decide
                      exact W.iret (v := 2) hx hb hr (fun t ht hW => ⟨⟨2, (), rfl, trivial, ct41, by rw [ht]; exact hP, hD, hI⟩, hS.F ht⟩) hS.2.2 dX8_mustBe_89
                  · skip
                    have c63 : x62.toInt = 0 := (z_eq rfl (by decide : (0 : Int32).toInt = 0)).mp c63
                    refine lv_iconst (v := 0) hx hb dX8_mustBe_73 (by decide) ?_
                    have q68 : (0 : Int32).toInt = 0 := by decide
                    exact W.iret (v := 0) hx hb hr (fun t ht hW => ⟨⟨0, (), rfl, trivial, ct41, by rw [ht]; exact hP, hD, hI⟩, hS.F ht⟩) hS.2.2 dX8_mustBe_74
                · skip
                  exact absurd c22 (by decide)
              · skip
                obtain rfl := hr19
                refine lv_if_ne (tgt := 39) hx hb dX8_mustBe_33 (by decide) (fun c69 => ?_) (fun c69 => ?_)
                · skip
                  exact absurd c69 (by decide)
                · skip
                  refine lv_bipush (v := (-2)) hx hb dX8_mustBe_36 (by decide) ?_
                  have q70 : ((-2) : Int32).toInt = -2 := by decide
                  exact W.iret (v := (-2)) hx hb hr (fun t ht hW => ⟨⟨(-2), (), rfl, trivial, ct, by rw [ht]; exact hP, hD, hI⟩, hS.F ht⟩) hS.2.2 dX8_mustBe_38
            · skip
              exact absurd c18 (by decide)
          · skip
            obtain ⟨rfl, h71⟩ := hr15
            have h71 : ¬ (0 ≤ kn.toInt ∧ kn.toInt ≤ 255) := h71
            refine lv_if_ne (tgt := 27) hx hb dX8_mustBe_22 (by decide) (fun c72 => ?_) (fun c72 => ?_)
            · skip
              exact absurd c72 (by decide)
            · skip
              refine lv_iconst (v := (-1)) hx hb dX8_mustBe_25 (by decide) ?_
              have q73 : ((-1) : Int32).toInt = -1 := by decide
              exact W.iret (v := (-1)) hx hb hr (fun t ht hW => ⟨⟨(-1), (), rfl, trivial, ct, by rw [ht]; exact hP, hD, hI⟩, hS.F ht⟩) hS.2.2 dX8_mustBe_26
      · skip
        obtain ⟨rfl, h74⟩ := hr11
        have h74 : ¬ (0 ≤ p0.toInt ∧ p0.toInt < pe.toInt) := h74
        refine lv_if_eq (tgt := 25) hx hb dX8_mustBe_14 (by decide) (fun c75 => ?_) (fun c75 => ?_)
        · skip
          refine lv_iconst (v := (-1)) hx hb dX8_mustBe_25 (by decide) ?_
          have q76 : ((-1) : Int32).toInt = -1 := by decide
          exact W.iret (v := (-1)) hx hb hr (fun t ht hW => ⟨⟨(-1), (), rfl, trivial, ct, by rw [ht]; exact hP, hD, hI⟩, hS.F ht⟩) hS.2.2 dX8_mustBe_26
        · skip
          exact absurd c75 (by decide)
  · skip
    obtain rfl := hr7
    refine lv_if_eq (tgt := 25) hx hb dX8_mustBe_6 (by decide) (fun c77 => ?_) (fun c77 => ?_)
    · skip
      refine lv_iconst (v := (-1)) hx hb dX8_mustBe_25 (by decide) ?_
      have q78 : ((-1) : Int32).toInt = -1 := by decide
      exact W.iret (v := (-1)) hx hb hr (fun t ht hW => ⟨⟨(-1), (), rfl, trivial, ct, by rw [ht]; exact hP, hD, hI⟩, hS.F ht⟩) hS.2.2 dX8_mustBe_26
    · skip
      exact absurd c77 (by decide)

set_option maxHeartbeats 4000000 in
set_option maxRecDepth 100000 in
theorem k_X8_giving (l : Launch) (g : zG) (sz : Nat) (ad : Nat → Nat) (pe : Int32) (ct : Nat → va_E) (b : Int32) (i : Int32) (kn : Int32) (hI : Inv8 g ad pe ct) : Met l yX8_giving (zW yX8_giving cX8_giving 5 (some .int)) ({ frames := 5, cells := 0, slots := 0, locals := 117 }) (va_Pc [.ref (ad 0), .int b, .int i, .int kn] (zA g (zw 126 ad ct) sz)) (va_Qi (fun (r : Int32) (_ : Unit) => (True)) (fun _ t => ∃ ct2 : Nat → va_E, zP g (zw 126 ad ct2) t.heap ∧ va_D (va_A (zw 126 ad ct) sz) (zw 126 ad ct2) ∧ Inv8 g ad pe ct2) (va_A (zw 126 ad ct) sz)) 0 0 (va_A (zw 126 ad ct) sz) := by
  refine Met.ofW (cc := cX8_giving) (maxL := 5) (ret := (some .int)) (by decide) rfl ?_
  intro p e s m args below meth c s₁ B hml hv
  obtain ⟨rfl, hsz, hP, hK, hD0, hN⟩ := hv
  have hx := B.exec
  have hb := B.bytes
  have hr := B.returns
  have hg := zW.law (atoms_spec (ws := (zW yX8_giving cX8_giving 5 (some .int))) B.pre)
  have hown : s.vm.findClass RX8 = some m.cls := findClass_of_methodNamed B.named
  have hlocks := B.notSynchronized
  have hpe0 := hI.1
  subst hsz
  have hD := hD0.self (sz := s.heap.size)
  generalize hAe : va_A (zw 126 ad ct) s.heap.size = A at hD ⊢
  have hA : ∀ q : Nat, s.heap.size ≤ q → A q := fun q h => by rw [← hAe]; exact Or.inr h
  have hS : va_S A s.heap s.heap [] := va_S.rf
  have hl := lv_entry ([.ref (ad 0), .int b, .int i, .int kn]) (n := 5) (Nat.le_of_ble_eq_true rfl)
  rw [lg_entry_eq]
  generalize (lg_sl ([.ref (ad 0), .int b, .int i, .int kn]) ++ List.replicate (5 - (lg_sl ([.ref (ad 0), .int b, .int i, .int kn])).length) Slot.unset).toArray = ls at hl ⊢
  have hl : lv_has ls 5 [(0, .ref (ad 0)), (1, .int b), (2, .int i), (3, .int kn)] := hl
  have rg_b := z_rng b
  have rg_i := z_rng i
  have rg_kn := z_rng kn
  refine lv_aload_n hx hb dX8_giving_0 rfl (lv_at hl 0 rfl) ?_
  refine lv_iload_n hx hb dX8_giving_1 rfl (lv_at hl 1 rfl) ?_
  refine lv_iload_n hx hb dX8_giving_2 rfl (lv_at hl 2 rfl) ?_
  obtain ⟨bk3, dr2, h4, h5, h6, hs1⟩ := a8_0 hI
  refine zc_i (va_runV (As := [.int b, .int i]) (rest := []) ⟨hx, hb, hml, hown, hg⟩ (k_X8_isLine l g ad pe ct b i hI) (cwV 2 hg (z_gV mm_587 mm_589 mm_19 mm_108 mm_590) rfl rfl rfl (by decide +kernel) ⟨Nat.le_of_ble_eq_true rfl, Nat.le_of_ble_eq_true rfl⟩) ⟨(zR.pre [.ref (ad 0), .int b, .int i] hP hK hN).1, va_recv hK hP (ci := 8) (q0 := 0) rfl (zw_at (by omega) hs1), (zR.pre [.ref (ad 0), .int b, .int i] hP hK hN).2⟩ rfl rfl hl.1 rfl (lv_room (Nat.le_of_ble_eq_true rfl)) dX8_giving_3 ⟨Nat.le_of_ble_eq_true rfl, Nat.le_of_ble_eq_true rfl⟩) (fun r7 hr7 => ?_)
  rcases hr7 with hr7 | hr7
  · skip
    obtain ⟨rfl, h8, h9⟩ := hr7
    have h8 : 0 ≤ b.toInt ∧ b.toInt ≤ 3 := h8
    have h9 : 0 ≤ i.toInt ∧ i.toInt ≤ 7 := h9
    refine lv_if_eq (tgt := 16) hx hb dX8_giving_6 (by decide) (fun c10 => ?_) (fun c10 => ?_)
    · skip
      exact absurd c10 (by decide)
    · skip
      refine lv_iload_n hx hb dX8_giving_9 rfl (lv_at hl 3 rfl) ?_
      refine zc_i (va_runS (As := [.int kn]) (rest := []) ⟨hx, hb, hml, hown, hg⟩ (k_X8_areGossips l g ad pe ct kn hI) (va_cwS 1 hg (z_gS mm_652 mm_653 mm_108 mm_654) rfl rfl rfl (by decide +kernel) ⟨Nat.le_of_ble_eq_true rfl, Nat.le_of_ble_eq_true rfl⟩) (zR.pre [.int kn] hP hK hN) rfl rfl hl.1 rfl (lv_room (Nat.le_of_ble_eq_true rfl)) dX8_giving_10 ⟨Nat.le_of_ble_eq_true rfl, Nat.le_of_ble_eq_true rfl⟩) (fun r11 hr11 => ?_)
      rcases hr11 with hr11 | hr11
      · skip
        obtain ⟨rfl, h12, h13⟩ := hr11
        have h12 : 0 ≤ kn.toInt := h12
        have h13 : kn.toInt ≤ 255 := h13
        refine lv_if_ne (tgt := 18) hx hb dX8_giving_13 (by decide) (fun c14 => ?_) (fun c14 => ?_)
        · skip
          refine lv_aload_n hx hb dX8_giving_18 rfl (lv_at hl 0 rfl) ?_
          refine lv_iload_n hx hb dX8_giving_19 rfl (lv_at hl 1 rfl) ?_
          refine lv_iload_n hx hb dX8_giving_20 rfl (lv_at hl 2 rfl) ?_
          refine zc_i (va_runV (As := [.int b, .int i]) (rest := []) ⟨hx, hb, hml, hown, hg⟩ (k_X8_isLive l g ad pe ct b i hI) (cwV 2 hg (z_gV mm_583 mm_585 mm_18 mm_108 mm_586) rfl rfl rfl (by decide +kernel) ⟨Nat.le_of_ble_eq_true rfl, Nat.le_of_ble_eq_true rfl⟩) ⟨(zR.pre [.ref (ad 0), .int b, .int i] hP hK hN).1, va_recv hK hP (ci := 8) (q0 := 0) rfl (zw_at (by omega) hs1), (zR.pre [.ref (ad 0), .int b, .int i] hP hK hN).2⟩ rfl rfl hl.1 rfl (lv_room (Nat.le_of_ble_eq_true rfl)) dX8_giving_21 ⟨Nat.le_of_ble_eq_true rfl, Nat.le_of_ble_eq_true rfl⟩) (fun r15 hr15 => ?_)
          rcases hr15 with hr15 | hr15
          · skip
            obtain ⟨rfl, h16, h17⟩ := hr15
            have h16 : 0 ≤ b.toInt ∧ b.toInt ≤ 3 := h16
            have h17 : 0 ≤ i.toInt ∧ i.toInt ≤ 7 := h17
            refine lv_if_ne (tgt := 30) hx hb dX8_giving_24 (by decide) (fun c18 => ?_) (fun c18 => ?_)
            · skip
              refine lv_aload_n hx hb dX8_giving_30 rfl (lv_at hl 0 rfl) ?_
              refine lv_iload_n hx hb dX8_giving_31 rfl (lv_at hl 1 rfl) ?_
              refine lv_iload_n hx hb dX8_giving_32 rfl (lv_at hl 3 rfl) ?_
              have hFc := zw_free hD hS hA
              refine va_callv (va_runV (As := [.int b, .int kn]) (rest := []) ⟨hx, hb, hml, hown, hg⟩ (k_X8_fit l g _ ad pe ct b kn (by first | omega | decide) hI) (cwV 2 hg (z_gV mm_655 mm_657 mm_21 mm_108 mm_658) rfl rfl rfl (by decide +kernel) ⟨Nat.le_of_ble_eq_true rfl, Nat.le_of_ble_eq_true rfl⟩) ⟨(zA.pre [.ref (ad 0), .int b, .int kn] hP hK hD hN).1, va_recv hK hP (ci := 8) (q0 := 0) rfl (zw_at (by omega) hs1), (zA.pre [.ref (ad 0), .int b, .int kn] hP hK hD hN).2⟩ rfl rfl hl.1 rfl (lv_room (Nat.le_of_ble_eq_true rfl)) dX8_giving_33 ⟨Nat.le_of_ble_eq_true rfl, Nat.le_of_ble_eq_true rfl⟩) hS (fun q _ h => hFc q h) hFc (fun _ t H1 locs ht hvm hr19 hB hz1 hk1 hS => ?_)
              obtain ⟨ct20, hP1, hD1, hI⟩ := hB
              rw [ht] at hP1
              have hD := hD1.weaken (fun _ _ _ h => hFc _ h)
              generalize H1 = H at hP1 hS ⊢
              have hP := hP1
              refine W.widen (k := 0) (n := 0) (Nat.le_refl _) (Nat.le_refl _) ?_
              refine lv_aload_n hx hb dX8_giving_36 rfl (lv_at hl 0 rfl) ?_
              obtain ⟨bk23, dr22, h24, h25, h26, hs21⟩ := a8_0 hI
              refine va_get (D := g.1) (ci := 8) (v := .ref (ad 10)) (C := RX8) (T := TX8) (N := 13) hx hb hg inG8 hown hK hP 0 (zw_at (by omega) hs21) rfl 6 (by decide) (hg _ mm_366) (fun _ h9 => h9) rfl dX8_giving_37 ?_
              refine lv_iload_n hx hb dX8_giving_40 rfl (lv_at hl 2 rfl) ?_
              obtain ⟨lns28, liv29, lak30, fnd31, h32, h33, h34, h35, hs27⟩ := a8_10 hI
              have hFc := zw_free hD hS hA
              refine va_calli (va_runV (As := [.int i]) (rest := []) ⟨hx, hb, hml, hown, hg⟩ (k_X6_least l g _ ad pe ct20 i hI) (cwV 1 hg (z_gV mm_739 mm_740 mm_741 mm_111 mm_742) rfl rfl rfl (by decide +kernel) ⟨Nat.le_of_ble_eq_true rfl, Nat.le_of_ble_eq_true rfl⟩) ⟨(zA.pre [.ref (ad 10), .int i] hP hK hD hN).1, va_recv hK hP (ci := 6) (q0 := 10) rfl (zw_at (by omega) hs27), (zA.pre [.ref (ad 10), .int i] hP hK hD hN).2⟩ rfl rfl hl.1 rfl (lv_room (Nat.le_of_ble_eq_true rfl)) dX8_giving_41 ⟨Nat.le_of_ble_eq_true rfl, Nat.le_of_ble_eq_true rfl⟩) hS (fun q _ h => hFc q h) hFc (fun r36 _ t H1 locs ht hvm hr36 hB hz1 hk1 hS => ?_)
              obtain ⟨ct37, hP1, hD1, hI⟩ := hB
              rw [ht] at hP1
              have hD := hD1.weaken (fun _ _ _ h => hFc _ h)
              generalize H1 = H at hP1 hS ⊢
              have hP := hP1
              refine W.widen (k := 0) (n := 0) (Nat.le_refl _) (Nat.le_refl _) ?_
              refine lv_istore (lv' := [(4, .int r36), (0, .ref (ad 0)), (1, .int b), (2, .int i), (3, .int kn)]) hx hb dX8_giving_44 hl (by decide) rfl (fun ls hl => ?_)
              refine lv_iload hx hb dX8_giving_46 (lv_at hl 0 rfl) ?_
              refine lv_iconst (v := (-1)) hx hb dX8_giving_48 (by decide) ?_
              refine lv_icmp_ne (tgt := 57) hx hb dX8_giving_49 (by decide) (fun c38 => ?_) (fun c38 => ?_)
              · skip
                have c38 : ¬ (r36.toInt = (-1)) := fun q => c38 ((z_eq rfl (by decide : ((-1) : Int32).toInt = (-1))).mpr q)
                refine lv_iload hx hb dX8_giving_57 (lv_at hl 0 rfl) ?_
                exact W.iret (v := r36) hx hb hr (fun t ht hW => ⟨⟨r36, (), rfl, trivial, ct37, by rw [ht]; exact hP, hD, hI⟩, hS.F ht⟩) hS.2.2 dX8_giving_59
              · skip
                have c38 : r36.toInt = (-1) := (z_eq rfl (by decide : ((-1) : Int32).toInt = (-1))).mp c38
                refine lv_bipush (v := (-2)) hx hb dX8_giving_52 (by decide) ?_
                refine lv_goto (tgt := 59) hx hb dX8_giving_54 (by decide) ?_
                have q39 : ((-2) : Int32).toInt = -2 := by decide
                exact W.iret (v := (-2)) hx hb hr (fun t ht hW => ⟨⟨(-2), (), rfl, trivial, ct37, by rw [ht]; exact hP, hD, hI⟩, hS.F ht⟩) hS.2.2 dX8_giving_59
            · skip
              exact absurd c18 (by decide)
          · skip
            obtain rfl := hr15
            refine lv_if_ne (tgt := 30) hx hb dX8_giving_24 (by decide) (fun c40 => ?_) (fun c40 => ?_)
            · skip
              exact absurd c40 (by decide)
            · skip
              refine lv_bipush (v := (-2)) hx hb dX8_giving_27 (by decide) ?_
              have q41 : ((-2) : Int32).toInt = -2 := by decide
              exact W.iret (v := (-2)) hx hb hr (fun t ht hW => ⟨⟨(-2), (), rfl, trivial, ct, by rw [ht]; exact hP, hD, hI⟩, hS.F ht⟩) hS.2.2 dX8_giving_29
        · skip
          exact absurd c14 (by decide)
      · skip
        obtain ⟨rfl, h42⟩ := hr11
        have h42 : ¬ (0 ≤ kn.toInt ∧ kn.toInt ≤ 255) := h42
        refine lv_if_ne (tgt := 18) hx hb dX8_giving_13 (by decide) (fun c43 => ?_) (fun c43 => ?_)
        · skip
          exact absurd c43 (by decide)
        · skip
          refine lv_iconst (v := (-1)) hx hb dX8_giving_16 (by decide) ?_
          have q44 : ((-1) : Int32).toInt = -1 := by decide
          exact W.iret (v := (-1)) hx hb hr (fun t ht hW => ⟨⟨(-1), (), rfl, trivial, ct, by rw [ht]; exact hP, hD, hI⟩, hS.F ht⟩) hS.2.2 dX8_giving_17
  · skip
    obtain rfl := hr7
    refine lv_if_eq (tgt := 16) hx hb dX8_giving_6 (by decide) (fun c45 => ?_) (fun c45 => ?_)
    · skip
      refine lv_iconst (v := (-1)) hx hb dX8_giving_16 (by decide) ?_
      have q46 : ((-1) : Int32).toInt = -1 := by decide
      exact W.iret (v := (-1)) hx hb hr (fun t ht hW => ⟨⟨(-1), (), rfl, trivial, ct, by rw [ht]; exact hP, hD, hI⟩, hS.F ht⟩) hS.2.2 dX8_giving_17
    · skip
      exact absurd c45 (by decide)

set_option maxHeartbeats 4000000 in
set_option maxRecDepth 100000 in
theorem k_X8_tooFew (l : Launch) (g : zG) (sz : Nat) (ad : Nat → Nat) (pe : Int32) (ct : Nat → va_E) (b : Int32) (kn : Int32) (hI : Inv8 g ad pe ct) : Met l yX8_tooFew (zW yX8_tooFew cX8_tooFew 3 (some .int)) ({ frames := 5, cells := 0, slots := 0, locals := 117 }) (va_Pc [.ref (ad 0), .int b, .int kn] (zA g (zw 126 ad ct) sz)) (va_Qi (fun (r : Int32) (_ : Unit) => (True)) (fun _ t => ∃ ct2 : Nat → va_E, zP g (zw 126 ad ct2) t.heap ∧ va_D (va_A (zw 126 ad ct) sz) (zw 126 ad ct2) ∧ Inv8 g ad pe ct2) (va_A (zw 126 ad ct) sz)) 0 0 (va_A (zw 126 ad ct) sz) := by
  refine Met.ofW (cc := cX8_tooFew) (maxL := 3) (ret := (some .int)) (by decide) rfl ?_
  intro p e s m args below meth c s₁ B hml hv
  obtain ⟨rfl, hsz, hP, hK, hD0, hN⟩ := hv
  have hx := B.exec
  have hb := B.bytes
  have hr := B.returns
  have hg := zW.law (atoms_spec (ws := (zW yX8_tooFew cX8_tooFew 3 (some .int))) B.pre)
  have hown : s.vm.findClass RX8 = some m.cls := findClass_of_methodNamed B.named
  have hlocks := B.notSynchronized
  have hpe0 := hI.1
  subst hsz
  have hD := hD0.self (sz := s.heap.size)
  generalize hAe : va_A (zw 126 ad ct) s.heap.size = A at hD ⊢
  have hA : ∀ q : Nat, s.heap.size ≤ q → A q := fun q h => by rw [← hAe]; exact Or.inr h
  have hS : va_S A s.heap s.heap [] := va_S.rf
  have hl := lv_entry ([.ref (ad 0), .int b, .int kn]) (n := 3) (Nat.le_of_ble_eq_true rfl)
  rw [lg_entry_eq]
  generalize (lg_sl ([.ref (ad 0), .int b, .int kn]) ++ List.replicate (3 - (lg_sl ([.ref (ad 0), .int b, .int kn])).length) Slot.unset).toArray = ls at hl ⊢
  have hl : lv_has ls 3 [(0, .ref (ad 0)), (1, .int b), (2, .int kn)] := hl
  have rg_b := z_rng b
  have rg_kn := z_rng kn
  refine lv_aload_n hx hb dX8_tooFew_0 rfl (lv_at hl 0 rfl) ?_
  refine lv_iload_n hx hb dX8_tooFew_1 rfl (lv_at hl 1 rfl) ?_
  obtain ⟨bk3, dr2, h4, h5, h6, hs1⟩ := a8_0 hI
  refine zc_i (va_runV (As := [.int b]) (rest := []) ⟨hx, hb, hml, hown, hg⟩ (k_X8_isBook l g ad pe ct b hI) (cwV 1 hg (z_gV mm_591 mm_593 mm_20 mm_108 mm_594) rfl rfl rfl (by decide +kernel) ⟨Nat.le_of_ble_eq_true rfl, Nat.le_of_ble_eq_true rfl⟩) ⟨(zR.pre [.ref (ad 0), .int b] hP hK hN).1, va_recv hK hP (ci := 8) (q0 := 0) rfl (zw_at (by omega) hs1), (zR.pre [.ref (ad 0), .int b] hP hK hN).2⟩ rfl rfl hl.1 rfl (lv_room (Nat.le_of_ble_eq_true rfl)) dX8_tooFew_2 ⟨Nat.le_of_ble_eq_true rfl, Nat.le_of_ble_eq_true rfl⟩) (fun r7 hr7 => ?_)
  rcases hr7 with hr7 | hr7
  · skip
    obtain ⟨rfl, h8, h9⟩ := hr7
    have h8 : 0 ≤ b.toInt := h8
    have h9 : b.toInt ≤ 3 := h9
    refine lv_if_eq (tgt := 15) hx hb dX8_tooFew_5 (by decide) (fun c10 => ?_) (fun c10 => ?_)
    · skip
      exact absurd c10 (by decide)
    · skip
      refine lv_iload_n hx hb dX8_tooFew_8 rfl (lv_at hl 2 rfl) ?_
      refine zc_i (va_runS (As := [.int kn]) (rest := []) ⟨hx, hb, hml, hown, hg⟩ (k_X8_areGossips l g ad pe ct kn hI) (va_cwS 1 hg (z_gS mm_652 mm_653 mm_108 mm_654) rfl rfl rfl (by decide +kernel) ⟨Nat.le_of_ble_eq_true rfl, Nat.le_of_ble_eq_true rfl⟩) (zR.pre [.int kn] hP hK hN) rfl rfl hl.1 rfl (lv_room (Nat.le_of_ble_eq_true rfl)) dX8_tooFew_9 ⟨Nat.le_of_ble_eq_true rfl, Nat.le_of_ble_eq_true rfl⟩) (fun r11 hr11 => ?_)
      rcases hr11 with hr11 | hr11
      · skip
        obtain ⟨rfl, h12, h13⟩ := hr11
        have h12 : 0 ≤ kn.toInt := h12
        have h13 : kn.toInt ≤ 255 := h13
        refine lv_if_ne (tgt := 17) hx hb dX8_tooFew_12 (by decide) (fun c14 => ?_) (fun c14 => ?_)
        · skip
          refine lv_aload_n hx hb dX8_tooFew_17 rfl (lv_at hl 0 rfl) ?_
          refine lv_iload_n hx hb dX8_tooFew_18 rfl (lv_at hl 1 rfl) ?_
          refine lv_iload_n hx hb dX8_tooFew_19 rfl (lv_at hl 2 rfl) ?_
          have hFc := zw_free hD hS hA
          refine va_callv (va_runV (As := [.int b, .int kn]) (rest := []) ⟨hx, hb, hml, hown, hg⟩ (k_X8_fit l g _ ad pe ct b kn (by first | omega | decide) hI) (cwV 2 hg (z_gV mm_655 mm_657 mm_21 mm_108 mm_658) rfl rfl rfl (by decide +kernel) ⟨Nat.le_of_ble_eq_true rfl, Nat.le_of_ble_eq_true rfl⟩) ⟨(zA.pre [.ref (ad 0), .int b, .int kn] hP hK hD hN).1, va_recv hK hP (ci := 8) (q0 := 0) rfl (zw_at (by omega) hs1), (zA.pre [.ref (ad 0), .int b, .int kn] hP hK hD hN).2⟩ rfl rfl hl.1 rfl (lv_room (Nat.le_of_ble_eq_true rfl)) dX8_tooFew_20 ⟨Nat.le_of_ble_eq_true rfl, Nat.le_of_ble_eq_true rfl⟩) hS (fun q _ h => hFc q h) hFc (fun _ t H1 locs ht hvm hr15 hB hz1 hk1 hS => ?_)
          obtain ⟨ct16, hP1, hD1, hI⟩ := hB
          rw [ht] at hP1
          have hD := hD1.weaken (fun _ _ _ h => hFc _ h)
          generalize H1 = H at hP1 hS ⊢
          have hP := hP1
          refine W.widen (k := 0) (n := 0) (Nat.le_refl _) (Nat.le_refl _) ?_
          refine lv_aload_n hx hb dX8_tooFew_23 rfl (lv_at hl 0 rfl) ?_
          obtain ⟨bk19, dr18, h20, h21, h22, hs17⟩ := a8_0 hI
          refine va_get (D := g.1) (ci := 8) (v := .ref (ad 10)) (C := RX8) (T := TX8) (N := 13) hx hb hg inG8 hown hK hP 0 (zw_at (by omega) hs17) rfl 6 (by decide) (hg _ mm_366) (fun _ h9 => h9) rfl dX8_tooFew_24 ?_
          obtain ⟨lns24, liv25, lak26, fnd27, h28, h29, h30, h31, hs23⟩ := a8_10 hI
          have hFc := zw_free hD hS hA
          refine va_callv (va_runV (As := []) (rest := []) ⟨hx, hb, hml, hown, hg⟩ (k_X6_weigh l g _ ad pe ct16  hI) (cwV 0 hg (z_gV mm_720 mm_721 mm_722 mm_111 mm_723) rfl rfl rfl (by decide +kernel) ⟨Nat.le_of_ble_eq_true rfl, Nat.le_of_ble_eq_true rfl⟩) ⟨(zA.pre [.ref (ad 10)] hP hK hD hN).1, va_recv hK hP (ci := 6) (q0 := 10) rfl (zw_at (by omega) hs23), (zA.pre [.ref (ad 10)] hP hK hD hN).2⟩ rfl rfl hl.1 rfl (lv_room (Nat.le_of_ble_eq_true rfl)) dX8_tooFew_27 ⟨Nat.le_of_ble_eq_true rfl, Nat.le_of_ble_eq_true rfl⟩) hS (fun q _ h => hFc q h) hFc (fun _ t H1 locs ht hvm hr32 hB hz1 hk1 hS => ?_)
          obtain ⟨ct33, hP1, hD1, hI⟩ := hB
          rw [ht] at hP1
          have hD := hD1.weaken (fun _ _ _ h => hFc _ h)
          generalize H1 = H at hP1 hS ⊢
          have hP := hP1
          refine W.widen (k := 0) (n := 0) (Nat.le_refl _) (Nat.le_refl _) ?_
          refine lv_aload_n hx hb dX8_tooFew_30 rfl (lv_at hl 0 rfl) ?_
          obtain ⟨bk36, dr35, h37, h38, h39, hs34⟩ := a8_0 hI
          refine va_get (D := g.1) (ci := 8) (v := .ref (ad 10)) (C := RX8) (T := TX8) (N := 13) hx hb hg inG8 hown hK hP 0 (zw_at (by omega) hs34) rfl 6 (by decide) (hg _ mm_366) (fun _ h9 => h9) rfl dX8_tooFew_31 ?_
          obtain ⟨lns41, liv42, lak43, fnd44, h45, h46, h47, h48, hs40⟩ := a8_10 hI
          refine va_get (D := g.1) (ci := 6) (v := .int lak43) (C := RX6) (T := TX6) (N := 10) hx hb hg inG6 hown hK hP 10 (zw_at (by omega) hs40) rfl 2 (by decide) (hg _ mm_177) (fun _ h9 => h9) rfl dX8_tooFew_34 ?_
          exact W.iret (v := lak43) hx hb hr (fun t ht hW => ⟨⟨lak43, (), rfl, trivial, ct33, by rw [ht]; exact hP, hD, hI⟩, hS.F ht⟩) hS.2.2 dX8_tooFew_37
        · skip
          exact absurd c14 (by decide)
      · skip
        obtain ⟨rfl, h49⟩ := hr11
        have h49 : ¬ (0 ≤ kn.toInt ∧ kn.toInt ≤ 255) := h49
        refine lv_if_ne (tgt := 17) hx hb dX8_tooFew_12 (by decide) (fun c50 => ?_) (fun c50 => ?_)
        · skip
          exact absurd c50 (by decide)
        · skip
          refine lv_iconst (v := (-1)) hx hb dX8_tooFew_15 (by decide) ?_
          have q51 : ((-1) : Int32).toInt = -1 := by decide
          exact W.iret (v := (-1)) hx hb hr (fun t ht hW => ⟨⟨(-1), (), rfl, trivial, ct, by rw [ht]; exact hP, hD, hI⟩, hS.F ht⟩) hS.2.2 dX8_tooFew_16
  · skip
    obtain rfl := hr7
    refine lv_if_eq (tgt := 15) hx hb dX8_tooFew_5 (by decide) (fun c52 => ?_) (fun c52 => ?_)
    · skip
      refine lv_iconst (v := (-1)) hx hb dX8_tooFew_15 (by decide) ?_
      have q53 : ((-1) : Int32).toInt = -1 := by decide
      exact W.iret (v := (-1)) hx hb hr (fun t ht hW => ⟨⟨(-1), (), rfl, trivial, ct, by rw [ht]; exact hP, hD, hI⟩, hS.F ht⟩) hS.2.2 dX8_tooFew_16
    · skip
      exact absurd c52 (by decide)

set_option maxHeartbeats 4000000 in
set_option maxRecDepth 100000 in
theorem k_X8_steps (l : Launch) (g : zG) (sz : Nat) (ad : Nat → Nat) (pe : Int32) (ct : Nat → va_E) (b : Int32) (kn : Int32) (wh : Int32) (hI : Inv8 g ad pe ct) : Met l yX8_steps (zW yX8_steps cX8_steps 5 (some .int)) ({ frames := 5, cells := 0, slots := 0, locals := 117 }) (va_Pc [.ref (ad 0), .int b, .int kn, .int wh] (zA g (zw 126 ad ct) sz)) (va_Qi (fun (r : Int32) (_ : Unit) => (True)) (fun _ t => ∃ ct2 : Nat → va_E, zP g (zw 126 ad ct2) t.heap ∧ va_D (va_A (zw 126 ad ct) sz) (zw 126 ad ct2) ∧ Inv8 g ad pe ct2) (va_A (zw 126 ad ct) sz)) 0 0 (va_A (zw 126 ad ct) sz) := by
  refine Met.ofW (cc := cX8_steps) (maxL := 5) (ret := (some .int)) (by decide) rfl ?_
  intro p e s m args below meth c s₁ B hml hv
  obtain ⟨rfl, hsz, hP, hK, hD0, hN⟩ := hv
  have hx := B.exec
  have hb := B.bytes
  have hr := B.returns
  have hg := zW.law (atoms_spec (ws := (zW yX8_steps cX8_steps 5 (some .int))) B.pre)
  have hown : s.vm.findClass RX8 = some m.cls := findClass_of_methodNamed B.named
  have hlocks := B.notSynchronized
  have hpe0 := hI.1
  subst hsz
  have hD := hD0.self (sz := s.heap.size)
  generalize hAe : va_A (zw 126 ad ct) s.heap.size = A at hD ⊢
  have hA : ∀ q : Nat, s.heap.size ≤ q → A q := fun q h => by rw [← hAe]; exact Or.inr h
  have hS : va_S A s.heap s.heap [] := va_S.rf
  have hl := lv_entry ([.ref (ad 0), .int b, .int kn, .int wh]) (n := 5) (Nat.le_of_ble_eq_true rfl)
  rw [lg_entry_eq]
  generalize (lg_sl ([.ref (ad 0), .int b, .int kn, .int wh]) ++ List.replicate (5 - (lg_sl ([.ref (ad 0), .int b, .int kn, .int wh])).length) Slot.unset).toArray = ls at hl ⊢
  have hl : lv_has ls 5 [(0, .ref (ad 0)), (1, .int b), (2, .int kn), (3, .int wh)] := hl
  have rg_b := z_rng b
  have rg_kn := z_rng kn
  have rg_wh := z_rng wh
  refine lv_aload_n hx hb dX8_steps_0 rfl (lv_at hl 0 rfl) ?_
  refine lv_iload_n hx hb dX8_steps_1 rfl (lv_at hl 1 rfl) ?_
  obtain ⟨bk3, dr2, h4, h5, h6, hs1⟩ := a8_0 hI
  refine zc_i (va_runV (As := [.int b]) (rest := []) ⟨hx, hb, hml, hown, hg⟩ (k_X8_isBook l g ad pe ct b hI) (cwV 1 hg (z_gV mm_591 mm_593 mm_20 mm_108 mm_594) rfl rfl rfl (by decide +kernel) ⟨Nat.le_of_ble_eq_true rfl, Nat.le_of_ble_eq_true rfl⟩) ⟨(zR.pre [.ref (ad 0), .int b] hP hK hN).1, va_recv hK hP (ci := 8) (q0 := 0) rfl (zw_at (by omega) hs1), (zR.pre [.ref (ad 0), .int b] hP hK hN).2⟩ rfl rfl hl.1 rfl (lv_room (Nat.le_of_ble_eq_true rfl)) dX8_steps_2 ⟨Nat.le_of_ble_eq_true rfl, Nat.le_of_ble_eq_true rfl⟩) (fun r7 hr7 => ?_)
  rcases hr7 with hr7 | hr7
  · skip
    obtain ⟨rfl, h8, h9⟩ := hr7
    have h8 : 0 ≤ b.toInt := h8
    have h9 : b.toInt ≤ 3 := h9
    refine lv_if_eq (tgt := 15) hx hb dX8_steps_5 (by decide) (fun c10 => ?_) (fun c10 => ?_)
    · skip
      exact absurd c10 (by decide)
    · skip
      refine lv_iload_n hx hb dX8_steps_8 rfl (lv_at hl 2 rfl) ?_
      refine zc_i (va_runS (As := [.int kn]) (rest := []) ⟨hx, hb, hml, hown, hg⟩ (k_X8_areGossips l g ad pe ct kn hI) (va_cwS 1 hg (z_gS mm_652 mm_653 mm_108 mm_654) rfl rfl rfl (by decide +kernel) ⟨Nat.le_of_ble_eq_true rfl, Nat.le_of_ble_eq_true rfl⟩) (zR.pre [.int kn] hP hK hN) rfl rfl hl.1 rfl (lv_room (Nat.le_of_ble_eq_true rfl)) dX8_steps_9 ⟨Nat.le_of_ble_eq_true rfl, Nat.le_of_ble_eq_true rfl⟩) (fun r11 hr11 => ?_)
      rcases hr11 with hr11 | hr11
      · skip
        obtain ⟨rfl, h12, h13⟩ := hr11
        have h12 : 0 ≤ kn.toInt := h12
        have h13 : kn.toInt ≤ 255 := h13
        refine lv_if_ne (tgt := 17) hx hb dX8_steps_12 (by decide) (fun c14 => ?_) (fun c14 => ?_)
        · skip
          refine lv_iload_n hx hb dX8_steps_17 rfl (lv_at hl 3 rfl) ?_
          refine lv_iconst (v := (-1)) hx hb dX8_steps_18 (by decide) ?_
          refine lv_icmp_eq (tgt := 39) hx hb dX8_steps_19 (by decide) (fun c15 => ?_) (fun c15 => ?_)
          · skip
            have c15 : wh.toInt = (-1) := (z_eq rfl (by decide : ((-1) : Int32).toInt = (-1))).mp c15
            refine lv_iload_n hx hb dX8_steps_39 rfl (lv_at hl 3 rfl) ?_
            refine lv_iconst (v := 0) hx hb dX8_steps_40 (by decide) ?_
            refine lv_bipush (v := 7) hx hb dX8_steps_41 (by decide) ?_
            refine zc_i (va_runS (As := [.int wh, .int 0, .int 7]) (rest := []) ⟨hx, hb, hml, hown, hg⟩ (k_X8_within l g ad pe ct wh (0 : Int32) (7 : Int32) hI) (va_cwS 3 hg (z_gS mm_407 mm_408 mm_108 mm_409) rfl rfl rfl (by decide +kernel) ⟨Nat.le_of_ble_eq_true rfl, Nat.le_of_ble_eq_true rfl⟩) (zR.pre [.int wh, .int 0, .int 7] hP hK hN) rfl rfl hl.1 rfl (lv_room (Nat.le_of_ble_eq_true rfl)) dX8_steps_43 ⟨Nat.le_of_ble_eq_true rfl, Nat.le_of_ble_eq_true rfl⟩) (fun r16 hr16 => ?_)
            rcases hr16 with hr16 | hr16
            · skip
              obtain ⟨rfl, h17, h18⟩ := hr16
              have h17 : (0 : Int) ≤ wh.toInt := h17
              have h18 : wh.toInt ≤ (7 : Int) := h18
              exfalso
              omega
            · skip
              obtain ⟨rfl, h19⟩ := hr16
              have h19 : ¬ ((0 : Int) ≤ wh.toInt ∧ wh.toInt ≤ (7 : Int)) := h19
              refine lv_if_eq (tgt := 61) hx hb dX8_steps_46 (by decide) (fun c20 => ?_) (fun c20 => ?_)
              · skip
                refine lv_aload_n hx hb dX8_steps_61 rfl (lv_at hl 0 rfl) ?_
                refine lv_iload_n hx hb dX8_steps_62 rfl (lv_at hl 1 rfl) ?_
                refine lv_iload_n hx hb dX8_steps_63 rfl (lv_at hl 2 rfl) ?_
                have hFc := zw_free hD hS hA
                refine va_callv (va_runV (As := [.int b, .int kn]) (rest := []) ⟨hx, hb, hml, hown, hg⟩ (k_X8_fit l g _ ad pe ct b kn (by first | omega | decide) hI) (cwV 2 hg (z_gV mm_655 mm_657 mm_21 mm_108 mm_658) rfl rfl rfl (by decide +kernel) ⟨Nat.le_of_ble_eq_true rfl, Nat.le_of_ble_eq_true rfl⟩) ⟨(zA.pre [.ref (ad 0), .int b, .int kn] hP hK hD hN).1, va_recv hK hP (ci := 8) (q0 := 0) rfl (zw_at (by omega) hs1), (zA.pre [.ref (ad 0), .int b, .int kn] hP hK hD hN).2⟩ rfl rfl hl.1 rfl (lv_room (Nat.le_of_ble_eq_true rfl)) dX8_steps_64 ⟨Nat.le_of_ble_eq_true rfl, Nat.le_of_ble_eq_true rfl⟩) hS (fun q _ h => hFc q h) hFc (fun _ t H1 locs ht hvm hr21 hB hz1 hk1 hS => ?_)
                obtain ⟨ct22, hP1, hD1, hI⟩ := hB
                rw [ht] at hP1
                have hD := hD1.weaken (fun _ _ _ h => hFc _ h)
                generalize H1 = H at hP1 hS ⊢
                have hP := hP1
                refine W.widen (k := 0) (n := 0) (Nat.le_refl _) (Nat.le_refl _) ?_
                refine lv_aload_n hx hb dX8_steps_67 rfl (lv_at hl 0 rfl) ?_
                obtain ⟨bk25, dr24, h26, h27, h28, hs23⟩ := a8_0 hI
                refine va_get (D := g.1) (ci := 8) (v := .ref (ad 10)) (C := RX8) (T := TX8) (N := 13) hx hb hg inG8 hown hK hP 0 (zw_at (by omega) hs23) rfl 6 (by decide) (hg _ mm_366) (fun _ h9 => h9) rfl dX8_steps_68 ?_
                obtain ⟨lns30, liv31, lak32, fnd33, h34, h35, h36, h37, hs29⟩ := a8_10 hI
                have hFc := zw_free hD hS hA
                refine va_calli (va_runV (As := []) (rest := []) ⟨hx, hb, hml, hown, hg⟩ (k_X6_stepByStep l g _ ad pe ct22  hI) (cwV 0 hg (z_gV mm_755 mm_756 mm_757 mm_111 mm_758) rfl rfl rfl (by decide +kernel) ⟨Nat.le_of_ble_eq_true rfl, Nat.le_of_ble_eq_true rfl⟩) ⟨(zA.pre [.ref (ad 10)] hP hK hD hN).1, va_recv hK hP (ci := 6) (q0 := 10) rfl (zw_at (by omega) hs29), (zA.pre [.ref (ad 10)] hP hK hD hN).2⟩ rfl rfl hl.1 rfl (lv_room (Nat.le_of_ble_eq_true rfl)) dX8_steps_71 ⟨Nat.le_of_ble_eq_true rfl, Nat.le_of_ble_eq_true rfl⟩) hS (fun q _ h => hFc q h) hFc (fun r38 _ t H1 locs ht hvm hr38 hB hz1 hk1 hS => ?_)
                obtain ⟨ct39, hP1, hD1, hI⟩ := hB
                rw [ht] at hP1
                have hD := hD1.weaken (fun _ _ _ h => hFc _ h)
                generalize H1 = H at hP1 hS ⊢
                have hP := hP1
                refine W.widen (k := 0) (n := 0) (Nat.le_refl _) (Nat.le_refl _) ?_
                refine lv_istore (lv' := [(4, .int r38), (0, .ref (ad 0)), (1, .int b), (2, .int kn), (3, .int wh)]) hx hb dX8_steps_74 hl (by decide) rfl (fun ls hl => ?_)
                refine lv_iload_n hx hb dX8_steps_76 rfl (lv_at hl 4 rfl) ?_
                refine lv_iconst (v := (-1)) hx hb dX8_steps_77 (by decide) ?_
                refine lv_icmp_ne (tgt := 84) hx hb dX8_steps_78 (by decide) (fun c40 => ?_) (fun c40 => ?_)
                · skip
                  have c40 : ¬ (wh.toInt = (-1)) := fun q => c40 ((z_eq rfl (by decide : ((-1) : Int32).toInt = (-1))).mpr q)
                  refine lv_iload_n hx hb dX8_steps_84 rfl (lv_at hl 4 rfl) ?_
                  refine lv_bipush (v := 8) hx hb dX8_steps_85 (by decide) ?_
                  refine lv_icmp_ne (tgt := 100) hx hb dX8_steps_87 (by decide) (fun c41 => ?_) (fun c41 => ?_)
                  · skip
                    have c41 : ¬ (wh.toInt = 8) := fun q => c41 ((z_eq rfl (by decide : (8 : Int32).toInt = 8)).mpr q)
                    refine lv_aload_n hx hb dX8_steps_100 rfl (lv_at hl 1 rfl) ?_
                    obtain ⟨bk44, dr43, h45, h46, h47, hs42⟩ := a8_0 hI
                    refine va_get (D := g.1) (ci := 8) (v := .ref (ad 10)) (C := RX8) (T := TX8) (N := 13) hx hb hg inG8 hown hK hP 0 (zw_at (by omega) hs42) rfl 6 (by decide) (hg _ mm_366) (fun _ h9 => h9) rfl dX8_steps_101 ?_
                    refine lv_iload_n hx hb dX8_steps_104 rfl (lv_at hl 4 rfl) ?_
                    obtain ⟨lns49, liv50, lak51, fnd52, h53, h54, h55, h56, hs48⟩ := a8_10 hI
                    refine zc_i (va_runV (As := [.int wh]) (rest := []) ⟨hx, hb, hml, hown, hg⟩ (k_X6_left l g ad pe ct39 wh hI) (cwV 1 hg (z_gV mm_763 mm_764 mm_765 mm_111 mm_766) rfl rfl rfl (by decide +kernel) ⟨Nat.le_of_ble_eq_true rfl, Nat.le_of_ble_eq_true rfl⟩) ⟨(zR.pre [.ref (ad 10), .int wh] hP hK hN).1, va_recv hK hP (ci := 6) (q0 := 10) rfl (zw_at (by omega) hs48), (zR.pre [.ref (ad 10), .int wh] hP hK hN).2⟩ rfl rfl hl.1 rfl (lv_room (Nat.le_of_ble_eq_true rfl)) dX8_steps_105 ⟨Nat.le_of_ble_eq_true rfl, Nat.le_of_ble_eq_true rfl⟩) (fun r57 hr57 => ?_)
                    exact W.iret (v := r57) hx hb hr (fun t ht hW => ⟨⟨r57, (), rfl, trivial, ct39, by rw [ht]; exact hP, hD, hI⟩, hS.F ht⟩) hS.2.2 dX8_steps_108
                  · skip
                    have c41 : wh.toInt = 8 := (z_eq rfl (by decide : (8 : Int32).toInt = 8)).mp c41
                    exfalso
                    omega
                · skip
                  have c40 : wh.toInt = (-1) := (z_eq rfl (by decide : ((-1) : Int32).toInt = (-1))).mp c40
                  refine lv_iload hx hb dX8_steps_81 (lv_at hl 0 rfl) ?_
                  exact W.iret (v := r38) hx hb hr (fun t ht hW => ⟨⟨r38, (), rfl, trivial, ct39, by rw [ht]; exact hP, hD, hI⟩, hS.F ht⟩) hS.2.2 dX8_steps_83
              · skip
                exact absurd c20 (by decide)
          · skip
            have c15 : ¬ (wh.toInt = (-1)) := fun q => c15 ((z_eq rfl (by decide : ((-1) : Int32).toInt = (-1))).mpr q)
            refine lv_iload_n hx hb dX8_steps_22 rfl (lv_at hl 3 rfl) ?_
            refine lv_bipush (v := 8) hx hb dX8_steps_23 (by decide) ?_
            refine lv_icmp_eq (tgt := 39) hx hb dX8_steps_25 (by decide) (fun c58 => ?_) (fun c58 => ?_)
            · skip
              have c58 : wh.toInt = 8 := (z_eq rfl (by decide : (8 : Int32).toInt = 8)).mp c58
              refine lv_iload_n hx hb dX8_steps_39 rfl (lv_at hl 3 rfl) ?_
              refine lv_iconst (v := 0) hx hb dX8_steps_40 (by decide) ?_
              refine lv_bipush (v := 7) hx hb dX8_steps_41 (by decide) ?_
              refine zc_i (va_runS (As := [.int wh, .int 0, .int 7]) (rest := []) ⟨hx, hb, hml, hown, hg⟩ (k_X8_within l g ad pe ct wh (0 : Int32) (7 : Int32) hI) (va_cwS 3 hg (z_gS mm_407 mm_408 mm_108 mm_409) rfl rfl rfl (by decide +kernel) ⟨Nat.le_of_ble_eq_true rfl, Nat.le_of_ble_eq_true rfl⟩) (zR.pre [.int wh, .int 0, .int 7] hP hK hN) rfl rfl hl.1 rfl (lv_room (Nat.le_of_ble_eq_true rfl)) dX8_steps_43 ⟨Nat.le_of_ble_eq_true rfl, Nat.le_of_ble_eq_true rfl⟩) (fun r59 hr59 => ?_)
              rcases hr59 with hr59 | hr59
              · skip
                obtain ⟨rfl, h60, h61⟩ := hr59
                have h60 : (0 : Int) ≤ wh.toInt := h60
                have h61 : wh.toInt ≤ (7 : Int) := h61
                exfalso
                omega
              · skip
                obtain ⟨rfl, h62⟩ := hr59
                have h62 : ¬ ((0 : Int) ≤ wh.toInt ∧ wh.toInt ≤ (7 : Int)) := h62
                refine lv_if_eq (tgt := 61) hx hb dX8_steps_46 (by decide) (fun c63 => ?_) (fun c63 => ?_)
                · skip
                  refine lv_aload_n hx hb dX8_steps_61 rfl (lv_at hl 0 rfl) ?_
                  refine lv_iload_n hx hb dX8_steps_62 rfl (lv_at hl 1 rfl) ?_
                  refine lv_iload_n hx hb dX8_steps_63 rfl (lv_at hl 2 rfl) ?_
                  have hFc := zw_free hD hS hA
                  refine va_callv (va_runV (As := [.int b, .int kn]) (rest := []) ⟨hx, hb, hml, hown, hg⟩ (k_X8_fit l g _ ad pe ct b kn (by first | omega | decide) hI) (cwV 2 hg (z_gV mm_655 mm_657 mm_21 mm_108 mm_658) rfl rfl rfl (by decide +kernel) ⟨Nat.le_of_ble_eq_true rfl, Nat.le_of_ble_eq_true rfl⟩) ⟨(zA.pre [.ref (ad 0), .int b, .int kn] hP hK hD hN).1, va_recv hK hP (ci := 8) (q0 := 0) rfl (zw_at (by omega) hs1), (zA.pre [.ref (ad 0), .int b, .int kn] hP hK hD hN).2⟩ rfl rfl hl.1 rfl (lv_room (Nat.le_of_ble_eq_true rfl)) dX8_steps_64 ⟨Nat.le_of_ble_eq_true rfl, Nat.le_of_ble_eq_true rfl⟩) hS (fun q _ h => hFc q h) hFc (fun _ t H1 locs ht hvm hr64 hB hz1 hk1 hS => ?_)
                  obtain ⟨ct65, hP1, hD1, hI⟩ := hB
                  rw [ht] at hP1
                  have hD := hD1.weaken (fun _ _ _ h => hFc _ h)
                  generalize H1 = H at hP1 hS ⊢
                  have hP := hP1
                  refine W.widen (k := 0) (n := 0) (Nat.le_refl _) (Nat.le_refl _) ?_
                  refine lv_aload_n hx hb dX8_steps_67 rfl (lv_at hl 0 rfl) ?_
                  obtain ⟨bk68, dr67, h69, h70, h71, hs66⟩ := a8_0 hI
                  refine va_get (D := g.1) (ci := 8) (v := .ref (ad 10)) (C := RX8) (T := TX8) (N := 13) hx hb hg inG8 hown hK hP 0 (zw_at (by omega) hs66) rfl 6 (by decide) (hg _ mm_366) (fun _ h9 => h9) rfl dX8_steps_68 ?_
                  obtain ⟨lns73, liv74, lak75, fnd76, h77, h78, h79, h80, hs72⟩ := a8_10 hI
                  have hFc := zw_free hD hS hA
                  refine va_calli (va_runV (As := []) (rest := []) ⟨hx, hb, hml, hown, hg⟩ (k_X6_stepByStep l g _ ad pe ct65  hI) (cwV 0 hg (z_gV mm_755 mm_756 mm_757 mm_111 mm_758) rfl rfl rfl (by decide +kernel) ⟨Nat.le_of_ble_eq_true rfl, Nat.le_of_ble_eq_true rfl⟩) ⟨(zA.pre [.ref (ad 10)] hP hK hD hN).1, va_recv hK hP (ci := 6) (q0 := 10) rfl (zw_at (by omega) hs72), (zA.pre [.ref (ad 10)] hP hK hD hN).2⟩ rfl rfl hl.1 rfl (lv_room (Nat.le_of_ble_eq_true rfl)) dX8_steps_71 ⟨Nat.le_of_ble_eq_true rfl, Nat.le_of_ble_eq_true rfl⟩) hS (fun q _ h => hFc q h) hFc (fun r81 _ t H1 locs ht hvm hr81 hB hz1 hk1 hS => ?_)
                  obtain ⟨ct82, hP1, hD1, hI⟩ := hB
                  rw [ht] at hP1
                  have hD := hD1.weaken (fun _ _ _ h => hFc _ h)
                  generalize H1 = H at hP1 hS ⊢
                  have hP := hP1
                  refine W.widen (k := 0) (n := 0) (Nat.le_refl _) (Nat.le_refl _) ?_
                  refine lv_istore (lv' := [(4, .int r81), (0, .ref (ad 0)), (1, .int b), (2, .int kn), (3, .int wh)]) hx hb dX8_steps_74 hl (by decide) rfl (fun ls hl => ?_)
                  refine lv_iload_n hx hb dX8_steps_76 rfl (lv_at hl 4 rfl) ?_
                  refine lv_iconst (v := (-1)) hx hb dX8_steps_77 (by decide) ?_
                  refine lv_icmp_ne (tgt := 84) hx hb dX8_steps_78 (by decide) (fun c83 => ?_) (fun c83 => ?_)
                  · skip
                    have c83 : ¬ (wh.toInt = (-1)) := fun q => c83 ((z_eq rfl (by decide : ((-1) : Int32).toInt = (-1))).mpr q)
                    refine lv_iload_n hx hb dX8_steps_84 rfl (lv_at hl 4 rfl) ?_
                    refine lv_bipush (v := 8) hx hb dX8_steps_85 (by decide) ?_
                    refine lv_icmp_ne (tgt := 100) hx hb dX8_steps_87 (by decide) (fun c84 => ?_) (fun c84 => ?_)
                    · skip
                      have c84 : ¬ (wh.toInt = 8) := fun q => c84 ((z_eq rfl (by decide : (8 : Int32).toInt = 8)).mpr q)
                      refine lv_aload_n hx hb dX8_steps_100 rfl (lv_at hl 1 rfl) ?_
                      obtain ⟨bk87, dr86, h88, h89, h90, hs85⟩ := a8_0 hI
                      refine va_get (D := g.1) (ci := 8) (v := .ref (ad 10)) (C := RX8) (T := TX8) (N := 13) hx hb hg inG8 hown hK hP 0 (zw_at (by omega) hs85) rfl 6 (by decide) (hg _ mm_366) (fun _ h9 => h9) rfl dX8_steps_101 ?_
                      refine lv_iload_n hx hb dX8_steps_104 rfl (lv_at hl 4 rfl) ?_
                      obtain ⟨lns92, liv93, lak94, fnd95, h96, h97, h98, h99, hs91⟩ := a8_10 hI
                      refine zc_i (va_runV (As := [.int wh]) (rest := []) ⟨hx, hb, hml, hown, hg⟩ (k_X6_left l g ad pe ct82 wh hI) (cwV 1 hg (z_gV mm_763 mm_764 mm_765 mm_111 mm_766) rfl rfl rfl (by decide +kernel) ⟨Nat.le_of_ble_eq_true rfl, Nat.le_of_ble_eq_true rfl⟩) ⟨(zR.pre [.ref (ad 10), .int wh] hP hK hN).1, va_recv hK hP (ci := 6) (q0 := 10) rfl (zw_at (by omega) hs91), (zR.pre [.ref (ad 10), .int wh] hP hK hN).2⟩ rfl rfl hl.1 rfl (lv_room (Nat.le_of_ble_eq_true rfl)) dX8_steps_105 ⟨Nat.le_of_ble_eq_true rfl, Nat.le_of_ble_eq_true rfl⟩) (fun r100 hr100 => ?_)
                      exact W.iret (v := r100) hx hb hr (fun t ht hW => ⟨⟨r100, (), rfl, trivial, ct82, by rw [ht]; exact hP, hD, hI⟩, hS.F ht⟩) hS.2.2 dX8_steps_108
                    · skip
                      have c84 : wh.toInt = 8 := (z_eq rfl (by decide : (8 : Int32).toInt = 8)).mp c84
                      refine lv_aload_n hx hb dX8_steps_90 rfl (lv_at hl 1 rfl) ?_
                      obtain ⟨bk103, dr102, h104, h105, h106, hs101⟩ := a8_0 hI
                      refine va_get (D := g.1) (ci := 8) (v := .ref (ad 10)) (C := RX8) (T := TX8) (N := 13) hx hb hg inG8 hown hK hP 0 (zw_at (by omega) hs101) rfl 6 (by decide) (hg _ mm_366) (fun _ h9 => h9) rfl dX8_steps_91 ?_
                      obtain ⟨lns108, liv109, lak110, fnd111, h112, h113, h114, h115, hs107⟩ := a8_10 hI
                      refine va_get (D := g.1) (ci := 6) (v := .int fnd111) (C := RX6) (T := TX6) (N := 10) hx hb hg inG6 hown hK hP 10 (zw_at (by omega) hs107) rfl 3 (by decide) (hg _ mm_179) (fun _ h9 => h9) rfl dX8_steps_94 ?_
                      refine lv_goto (tgt := 108) hx hb dX8_steps_97 (by decide) ?_
                      exact W.iret (v := fnd111) hx hb hr (fun t ht hW => ⟨⟨fnd111, (), rfl, trivial, ct82, by rw [ht]; exact hP, hD, hI⟩, hS.F ht⟩) hS.2.2 dX8_steps_108
                  · skip
                    have c83 : wh.toInt = (-1) := (z_eq rfl (by decide : ((-1) : Int32).toInt = (-1))).mp c83
                    exfalso
                    omega
                · skip
                  exact absurd c63 (by decide)
            · skip
              have c58 : ¬ (wh.toInt = 8) := fun q => c58 ((z_eq rfl (by decide : (8 : Int32).toInt = 8)).mpr q)
              refine lv_aload_n hx hb dX8_steps_28 rfl (lv_at hl 0 rfl) ?_
              refine lv_iload_n hx hb dX8_steps_29 rfl (lv_at hl 1 rfl) ?_
              refine lv_iload_n hx hb dX8_steps_30 rfl (lv_at hl 3 rfl) ?_
              refine zc_i (va_runV (As := [.int b, .int wh]) (rest := []) ⟨hx, hb, hml, hown, hg⟩ (k_X8_isLine l g ad pe ct b wh hI) (cwV 2 hg (z_gV mm_587 mm_589 mm_19 mm_108 mm_590) rfl rfl rfl (by decide +kernel) ⟨Nat.le_of_ble_eq_true rfl, Nat.le_of_ble_eq_true rfl⟩) ⟨(zR.pre [.ref (ad 0), .int b, .int wh] hP hK hN).1, va_recv hK hP (ci := 8) (q0 := 0) rfl (zw_at (by omega) hs1), (zR.pre [.ref (ad 0), .int b, .int wh] hP hK hN).2⟩ rfl rfl hl.1 rfl (lv_room (Nat.le_of_ble_eq_true rfl)) dX8_steps_31 ⟨Nat.le_of_ble_eq_true rfl, Nat.le_of_ble_eq_true rfl⟩) (fun r116 hr116 => ?_)
              rcases hr116 with hr116 | hr116
              · skip
                obtain ⟨rfl, h117, h118⟩ := hr116
                have h117 : 0 ≤ b.toInt ∧ b.toInt ≤ 3 := h117
                have h118 : 0 ≤ wh.toInt ∧ wh.toInt ≤ 7 := h118
                refine lv_if_ne (tgt := 39) hx hb dX8_steps_34 (by decide) (fun c119 => ?_) (fun c119 => ?_)
                · skip
                  refine lv_iload_n hx hb dX8_steps_39 rfl (lv_at hl 3 rfl) ?_
                  refine lv_iconst (v := 0) hx hb dX8_steps_40 (by decide) ?_
                  refine lv_bipush (v := 7) hx hb dX8_steps_41 (by decide) ?_
                  refine zc_i (va_runS (As := [.int wh, .int 0, .int 7]) (rest := []) ⟨hx, hb, hml, hown, hg⟩ (k_X8_within l g ad pe ct wh (0 : Int32) (7 : Int32) hI) (va_cwS 3 hg (z_gS mm_407 mm_408 mm_108 mm_409) rfl rfl rfl (by decide +kernel) ⟨Nat.le_of_ble_eq_true rfl, Nat.le_of_ble_eq_true rfl⟩) (zR.pre [.int wh, .int 0, .int 7] hP hK hN) rfl rfl hl.1 rfl (lv_room (Nat.le_of_ble_eq_true rfl)) dX8_steps_43 ⟨Nat.le_of_ble_eq_true rfl, Nat.le_of_ble_eq_true rfl⟩) (fun r120 hr120 => ?_)
                  rcases hr120 with hr120 | hr120
                  · skip
                    obtain ⟨rfl, h121, h122⟩ := hr120
                    have h121 : (0 : Int) ≤ wh.toInt := h121
                    have h122 : wh.toInt ≤ (7 : Int) := h122
                    refine lv_if_eq (tgt := 61) hx hb dX8_steps_46 (by decide) (fun c123 => ?_) (fun c123 => ?_)
                    · skip
                      exact absurd c123 (by decide)
                    · skip
                      refine lv_aload_n hx hb dX8_steps_49 rfl (lv_at hl 0 rfl) ?_
                      refine lv_iload_n hx hb dX8_steps_50 rfl (lv_at hl 1 rfl) ?_
                      refine lv_iload_n hx hb dX8_steps_51 rfl (lv_at hl 3 rfl) ?_
                      refine zc_i (va_runV (As := [.int b, .int wh]) (rest := []) ⟨hx, hb, hml, hown, hg⟩ (k_X8_isLive l g ad pe ct b wh hI) (cwV 2 hg (z_gV mm_583 mm_585 mm_18 mm_108 mm_586) rfl rfl rfl (by decide +kernel) ⟨Nat.le_of_ble_eq_true rfl, Nat.le_of_ble_eq_true rfl⟩) ⟨(zR.pre [.ref (ad 0), .int b, .int wh] hP hK hN).1, va_recv hK hP (ci := 8) (q0 := 0) rfl (zw_at (by omega) hs1), (zR.pre [.ref (ad 0), .int b, .int wh] hP hK hN).2⟩ rfl rfl hl.1 rfl (lv_room (Nat.le_of_ble_eq_true rfl)) dX8_steps_52 ⟨Nat.le_of_ble_eq_true rfl, Nat.le_of_ble_eq_true rfl⟩) (fun r124 hr124 => ?_)
                      rcases hr124 with hr124 | hr124
                      · skip
                        obtain ⟨rfl, h125, h126⟩ := hr124
                        have h125 : 0 ≤ b.toInt ∧ b.toInt ≤ 3 := h125
                        have h126 : 0 ≤ wh.toInt ∧ wh.toInt ≤ 7 := h126
                        refine lv_if_ne (tgt := 61) hx hb dX8_steps_55 (by decide) (fun c127 => ?_) (fun c127 => ?_)
                        · skip
                          refine lv_aload_n hx hb dX8_steps_61 rfl (lv_at hl 0 rfl) ?_
                          refine lv_iload_n hx hb dX8_steps_62 rfl (lv_at hl 1 rfl) ?_
                          refine lv_iload_n hx hb dX8_steps_63 rfl (lv_at hl 2 rfl) ?_
                          have hFc := zw_free hD hS hA
                          refine va_callv (va_runV (As := [.int b, .int kn]) (rest := []) ⟨hx, hb, hml, hown, hg⟩ (k_X8_fit l g _ ad pe ct b kn (by first | omega | decide) hI) (cwV 2 hg (z_gV mm_655 mm_657 mm_21 mm_108 mm_658) rfl rfl rfl (by decide +kernel) ⟨Nat.le_of_ble_eq_true rfl, Nat.le_of_ble_eq_true rfl⟩) ⟨(zA.pre [.ref (ad 0), .int b, .int kn] hP hK hD hN).1, va_recv hK hP (ci := 8) (q0 := 0) rfl (zw_at (by omega) hs1), (zA.pre [.ref (ad 0), .int b, .int kn] hP hK hD hN).2⟩ rfl rfl hl.1 rfl (lv_room (Nat.le_of_ble_eq_true rfl)) dX8_steps_64 ⟨Nat.le_of_ble_eq_true rfl, Nat.le_of_ble_eq_true rfl⟩) hS (fun q _ h => hFc q h) hFc (fun _ t H1 locs ht hvm hr128 hB hz1 hk1 hS => ?_)
                          obtain ⟨ct129, hP1, hD1, hI⟩ := hB
                          rw [ht] at hP1
                          have hD := hD1.weaken (fun _ _ _ h => hFc _ h)
                          generalize H1 = H at hP1 hS ⊢
                          have hP := hP1
                          refine W.widen (k := 0) (n := 0) (Nat.le_refl _) (Nat.le_refl _) ?_
                          refine lv_aload_n hx hb dX8_steps_67 rfl (lv_at hl 0 rfl) ?_
                          obtain ⟨bk132, dr131, h133, h134, h135, hs130⟩ := a8_0 hI
                          refine va_get (D := g.1) (ci := 8) (v := .ref (ad 10)) (C := RX8) (T := TX8) (N := 13) hx hb hg inG8 hown hK hP 0 (zw_at (by omega) hs130) rfl 6 (by decide) (hg _ mm_366) (fun _ h9 => h9) rfl dX8_steps_68 ?_
                          obtain ⟨lns137, liv138, lak139, fnd140, h141, h142, h143, h144, hs136⟩ := a8_10 hI
                          have hFc := zw_free hD hS hA
                          refine va_calli (va_runV (As := []) (rest := []) ⟨hx, hb, hml, hown, hg⟩ (k_X6_stepByStep l g _ ad pe ct129  hI) (cwV 0 hg (z_gV mm_755 mm_756 mm_757 mm_111 mm_758) rfl rfl rfl (by decide +kernel) ⟨Nat.le_of_ble_eq_true rfl, Nat.le_of_ble_eq_true rfl⟩) ⟨(zA.pre [.ref (ad 10)] hP hK hD hN).1, va_recv hK hP (ci := 6) (q0 := 10) rfl (zw_at (by omega) hs136), (zA.pre [.ref (ad 10)] hP hK hD hN).2⟩ rfl rfl hl.1 rfl (lv_room (Nat.le_of_ble_eq_true rfl)) dX8_steps_71 ⟨Nat.le_of_ble_eq_true rfl, Nat.le_of_ble_eq_true rfl⟩) hS (fun q _ h => hFc q h) hFc (fun r145 _ t H1 locs ht hvm hr145 hB hz1 hk1 hS => ?_)
                          obtain ⟨ct146, hP1, hD1, hI⟩ := hB
                          rw [ht] at hP1
                          have hD := hD1.weaken (fun _ _ _ h => hFc _ h)
                          generalize H1 = H at hP1 hS ⊢
                          have hP := hP1
                          refine W.widen (k := 0) (n := 0) (Nat.le_refl _) (Nat.le_refl _) ?_
                          refine lv_istore (lv' := [(4, .int r145), (0, .ref (ad 0)), (1, .int b), (2, .int kn), (3, .int wh)]) hx hb dX8_steps_74 hl (by decide) rfl (fun ls hl => ?_)
                          refine lv_iload_n hx hb dX8_steps_76 rfl (lv_at hl 4 rfl) ?_
                          refine lv_iconst (v := (-1)) hx hb dX8_steps_77 (by decide) ?_
                          refine lv_icmp_ne (tgt := 84) hx hb dX8_steps_78 (by decide) (fun c147 => ?_) (fun c147 => ?_)
                          · skip
                            have c147 : ¬ (wh.toInt = (-1)) := fun q => c147 ((z_eq rfl (by decide : ((-1) : Int32).toInt = (-1))).mpr q)
                            refine lv_iload_n hx hb dX8_steps_84 rfl (lv_at hl 4 rfl) ?_
                            refine lv_bipush (v := 8) hx hb dX8_steps_85 (by decide) ?_
                            refine lv_icmp_ne (tgt := 100) hx hb dX8_steps_87 (by decide) (fun c148 => ?_) (fun c148 => ?_)
                            · skip
                              have c148 : ¬ (wh.toInt = 8) := fun q => c148 ((z_eq rfl (by decide : (8 : Int32).toInt = 8)).mpr q)
                              refine lv_aload_n hx hb dX8_steps_100 rfl (lv_at hl 1 rfl) ?_
                              obtain ⟨bk151, dr150, h152, h153, h154, hs149⟩ := a8_0 hI
                              refine va_get (D := g.1) (ci := 8) (v := .ref (ad 10)) (C := RX8) (T := TX8) (N := 13) hx hb hg inG8 hown hK hP 0 (zw_at (by omega) hs149) rfl 6 (by decide) (hg _ mm_366) (fun _ h9 => h9) rfl dX8_steps_101 ?_
                              refine lv_iload_n hx hb dX8_steps_104 rfl (lv_at hl 4 rfl) ?_
                              obtain ⟨lns156, liv157, lak158, fnd159, h160, h161, h162, h163, hs155⟩ := a8_10 hI
                              refine zc_i (va_runV (As := [.int wh]) (rest := []) ⟨hx, hb, hml, hown, hg⟩ (k_X6_left l g ad pe ct146 wh hI) (cwV 1 hg (z_gV mm_763 mm_764 mm_765 mm_111 mm_766) rfl rfl rfl (by decide +kernel) ⟨Nat.le_of_ble_eq_true rfl, Nat.le_of_ble_eq_true rfl⟩) ⟨(zR.pre [.ref (ad 10), .int wh] hP hK hN).1, va_recv hK hP (ci := 6) (q0 := 10) rfl (zw_at (by omega) hs155), (zR.pre [.ref (ad 10), .int wh] hP hK hN).2⟩ rfl rfl hl.1 rfl (lv_room (Nat.le_of_ble_eq_true rfl)) dX8_steps_105 ⟨Nat.le_of_ble_eq_true rfl, Nat.le_of_ble_eq_true rfl⟩) (fun r164 hr164 => ?_)
                              exact W.iret (v := r164) hx hb hr (fun t ht hW => ⟨⟨r164, (), rfl, trivial, ct146, by rw [ht]; exact hP, hD, hI⟩, hS.F ht⟩) hS.2.2 dX8_steps_108
                            · skip
                              have c148 : wh.toInt = 8 := (z_eq rfl (by decide : (8 : Int32).toInt = 8)).mp c148
                              exfalso
                              omega
                          · skip
                            have c147 : wh.toInt = (-1) := (z_eq rfl (by decide : ((-1) : Int32).toInt = (-1))).mp c147
                            exfalso
                            omega
                        · skip
                          exact absurd c127 (by decide)
                      · skip
                        obtain rfl := hr124
                        refine lv_if_ne (tgt := 61) hx hb dX8_steps_55 (by decide) (fun c165 => ?_) (fun c165 => ?_)
                        · skip
                          exact absurd c165 (by decide)
                        · skip
                          refine lv_bipush (v := (-2)) hx hb dX8_steps_58 (by decide) ?_
                          have q166 : ((-2) : Int32).toInt = -2 := by decide
                          exact W.iret (v := (-2)) hx hb hr (fun t ht hW => ⟨⟨(-2), (), rfl, trivial, ct, by rw [ht]; exact hP, hD, hI⟩, hS.F ht⟩) hS.2.2 dX8_steps_60
                  · skip
                    obtain ⟨rfl, h167⟩ := hr120
                    have h167 : ¬ ((0 : Int) ≤ wh.toInt ∧ wh.toInt ≤ (7 : Int)) := h167
                    exfalso
                    omega
                · skip
                  exact absurd c119 (by decide)
              · skip
                obtain rfl := hr116
                refine lv_if_ne (tgt := 39) hx hb dX8_steps_34 (by decide) (fun c168 => ?_) (fun c168 => ?_)
                · skip
                  exact absurd c168 (by decide)
                · skip
                  refine lv_iconst (v := (-1)) hx hb dX8_steps_37 (by decide) ?_
                  have q169 : ((-1) : Int32).toInt = -1 := by decide
                  exact W.iret (v := (-1)) hx hb hr (fun t ht hW => ⟨⟨(-1), (), rfl, trivial, ct, by rw [ht]; exact hP, hD, hI⟩, hS.F ht⟩) hS.2.2 dX8_steps_38
        · skip
          exact absurd c14 (by decide)
      · skip
        obtain ⟨rfl, h170⟩ := hr11
        have h170 : ¬ (0 ≤ kn.toInt ∧ kn.toInt ≤ 255) := h170
        refine lv_if_ne (tgt := 17) hx hb dX8_steps_12 (by decide) (fun c171 => ?_) (fun c171 => ?_)
        · skip
          exact absurd c171 (by decide)
        · skip
          refine lv_iconst (v := (-1)) hx hb dX8_steps_15 (by decide) ?_
          have q172 : ((-1) : Int32).toInt = -1 := by decide
          exact W.iret (v := (-1)) hx hb hr (fun t ht hW => ⟨⟨(-1), (), rfl, trivial, ct, by rw [ht]; exact hP, hD, hI⟩, hS.F ht⟩) hS.2.2 dX8_steps_16
  · skip
    obtain rfl := hr7
    refine lv_if_eq (tgt := 15) hx hb dX8_steps_5 (by decide) (fun c173 => ?_) (fun c173 => ?_)
    · skip
      refine lv_iconst (v := (-1)) hx hb dX8_steps_15 (by decide) ?_
      have q174 : ((-1) : Int32).toInt = -1 := by decide
      exact W.iret (v := (-1)) hx hb hr (fun t ht hW => ⟨⟨(-1), (), rfl, trivial, ct, by rw [ht]; exact hP, hD, hI⟩, hS.F ht⟩) hS.2.2 dX8_steps_16
    · skip
      exact absurd c173 (by decide)

set_option maxHeartbeats 4000000 in
set_option maxRecDepth 100000 in
theorem k_X8_safe (l : Launch) (g : zG) (sz : Nat) (ad : Nat → Nat) (pe : Int32) (ct : Nat → va_E) (b : Int32) (k : Int32) (kn : Int32) (hI : Inv8 g ad pe ct) : Met l yX8_safe (zW yX8_safe cX8_safe 4 (some .int)) ({ frames := 5, cells := 0, slots := 0, locals := 117 }) (va_Pc [.ref (ad 0), .int b, .int k, .int kn] (zA g (zw 126 ad ct) sz)) (va_Qi (fun (r : Int32) (_ : Unit) => (True)) (fun _ t => ∃ ct2 : Nat → va_E, zP g (zw 126 ad ct2) t.heap ∧ va_D (va_A (zw 126 ad ct) sz) (zw 126 ad ct2) ∧ Inv8 g ad pe ct2) (va_A (zw 126 ad ct) sz)) 0 0 (va_A (zw 126 ad ct) sz) := by
  refine Met.ofW (cc := cX8_safe) (maxL := 4) (ret := (some .int)) (by decide) rfl ?_
  intro p e s m args below meth c s₁ B hml hv
  obtain ⟨rfl, hsz, hP, hK, hD0, hN⟩ := hv
  have hx := B.exec
  have hb := B.bytes
  have hr := B.returns
  have hg := zW.law (atoms_spec (ws := (zW yX8_safe cX8_safe 4 (some .int))) B.pre)
  have hown : s.vm.findClass RX8 = some m.cls := findClass_of_methodNamed B.named
  have hlocks := B.notSynchronized
  have hpe0 := hI.1
  subst hsz
  have hD := hD0.self (sz := s.heap.size)
  generalize hAe : va_A (zw 126 ad ct) s.heap.size = A at hD ⊢
  have hA : ∀ q : Nat, s.heap.size ≤ q → A q := fun q h => by rw [← hAe]; exact Or.inr h
  have hS : va_S A s.heap s.heap [] := va_S.rf
  have hl := lv_entry ([.ref (ad 0), .int b, .int k, .int kn]) (n := 4) (Nat.le_of_ble_eq_true rfl)
  rw [lg_entry_eq]
  generalize (lg_sl ([.ref (ad 0), .int b, .int k, .int kn]) ++ List.replicate (4 - (lg_sl ([.ref (ad 0), .int b, .int k, .int kn])).length) Slot.unset).toArray = ls at hl ⊢
  have hl : lv_has ls 4 [(0, .ref (ad 0)), (1, .int b), (2, .int k), (3, .int kn)] := hl
  have rg_b := z_rng b
  have rg_k := z_rng k
  have rg_kn := z_rng kn
  refine lv_aload_n hx hb dX8_safe_0 rfl (lv_at hl 0 rfl) ?_
  refine lv_iload_n hx hb dX8_safe_1 rfl (lv_at hl 1 rfl) ?_
  obtain ⟨bk3, dr2, h4, h5, h6, hs1⟩ := a8_0 hI
  refine zc_i (va_runV (As := [.int b]) (rest := []) ⟨hx, hb, hml, hown, hg⟩ (k_X8_isBook l g ad pe ct b hI) (cwV 1 hg (z_gV mm_591 mm_593 mm_20 mm_108 mm_594) rfl rfl rfl (by decide +kernel) ⟨Nat.le_of_ble_eq_true rfl, Nat.le_of_ble_eq_true rfl⟩) ⟨(zR.pre [.ref (ad 0), .int b] hP hK hN).1, va_recv hK hP (ci := 8) (q0 := 0) rfl (zw_at (by omega) hs1), (zR.pre [.ref (ad 0), .int b] hP hK hN).2⟩ rfl rfl hl.1 rfl (lv_room (Nat.le_of_ble_eq_true rfl)) dX8_safe_2 ⟨Nat.le_of_ble_eq_true rfl, Nat.le_of_ble_eq_true rfl⟩) (fun r7 hr7 => ?_)
  rcases hr7 with hr7 | hr7
  · skip
    obtain ⟨rfl, h8, h9⟩ := hr7
    have h8 : 0 ≤ b.toInt := h8
    have h9 : b.toInt ≤ 3 := h9
    refine lv_if_eq (tgt := 22) hx hb dX8_safe_5 (by decide) (fun c10 => ?_) (fun c10 => ?_)
    · skip
      exact absurd c10 (by decide)
    · skip
      refine lv_iload_n hx hb dX8_safe_8 rfl (lv_at hl 2 rfl) ?_
      refine zc_i (va_runS (As := [.int k]) (rest := []) ⟨hx, hb, hml, hown, hg⟩ (k_X8_isBar l g ad pe ct k hI) (va_cwS 1 hg (z_gS mm_772 mm_773 mm_108 mm_774) rfl rfl rfl (by decide +kernel) ⟨Nat.le_of_ble_eq_true rfl, Nat.le_of_ble_eq_true rfl⟩) (zR.pre [.int k] hP hK hN) rfl rfl hl.1 rfl (lv_room (Nat.le_of_ble_eq_true rfl)) dX8_safe_9 ⟨Nat.le_of_ble_eq_true rfl, Nat.le_of_ble_eq_true rfl⟩) (fun r11 hr11 => ?_)
      rcases hr11 with hr11 | hr11
      · skip
        obtain ⟨rfl, h12, h13⟩ := hr11
        have h12 : 1 ≤ k.toInt := h12
        have h13 : k.toInt ≤ 16 := h13
        refine lv_if_eq (tgt := 22) hx hb dX8_safe_12 (by decide) (fun c14 => ?_) (fun c14 => ?_)
        · skip
          exact absurd c14 (by decide)
        · skip
          refine lv_iload_n hx hb dX8_safe_15 rfl (lv_at hl 3 rfl) ?_
          refine zc_i (va_runS (As := [.int kn]) (rest := []) ⟨hx, hb, hml, hown, hg⟩ (k_X8_areGossips l g ad pe ct kn hI) (va_cwS 1 hg (z_gS mm_652 mm_653 mm_108 mm_654) rfl rfl rfl (by decide +kernel) ⟨Nat.le_of_ble_eq_true rfl, Nat.le_of_ble_eq_true rfl⟩) (zR.pre [.int kn] hP hK hN) rfl rfl hl.1 rfl (lv_room (Nat.le_of_ble_eq_true rfl)) dX8_safe_16 ⟨Nat.le_of_ble_eq_true rfl, Nat.le_of_ble_eq_true rfl⟩) (fun r15 hr15 => ?_)
          rcases hr15 with hr15 | hr15
          · skip
            obtain ⟨rfl, h16, h17⟩ := hr15
            have h16 : 0 ≤ kn.toInt := h16
            have h17 : kn.toInt ≤ 255 := h17
            refine lv_if_ne (tgt := 24) hx hb dX8_safe_19 (by decide) (fun c18 => ?_) (fun c18 => ?_)
            · skip
              refine lv_aload_n hx hb dX8_safe_24 rfl (lv_at hl 0 rfl) ?_
              refine lv_iload_n hx hb dX8_safe_25 rfl (lv_at hl 1 rfl) ?_
              refine lv_iload_n hx hb dX8_safe_26 rfl (lv_at hl 3 rfl) ?_
              have hFc := zw_free hD hS hA
              refine va_callv (va_runV (As := [.int b, .int kn]) (rest := []) ⟨hx, hb, hml, hown, hg⟩ (k_X8_fit l g _ ad pe ct b kn (by first | omega | decide) hI) (cwV 2 hg (z_gV mm_655 mm_657 mm_21 mm_108 mm_658) rfl rfl rfl (by decide +kernel) ⟨Nat.le_of_ble_eq_true rfl, Nat.le_of_ble_eq_true rfl⟩) ⟨(zA.pre [.ref (ad 0), .int b, .int kn] hP hK hD hN).1, va_recv hK hP (ci := 8) (q0 := 0) rfl (zw_at (by omega) hs1), (zA.pre [.ref (ad 0), .int b, .int kn] hP hK hD hN).2⟩ rfl rfl hl.1 rfl (lv_room (Nat.le_of_ble_eq_true rfl)) dX8_safe_27 ⟨Nat.le_of_ble_eq_true rfl, Nat.le_of_ble_eq_true rfl⟩) hS (fun q _ h => hFc q h) hFc (fun _ t H1 locs ht hvm hr19 hB hz1 hk1 hS => ?_)
              obtain ⟨ct20, hP1, hD1, hI⟩ := hB
              rw [ht] at hP1
              have hD := hD1.weaken (fun _ _ _ h => hFc _ h)
              generalize H1 = H at hP1 hS ⊢
              have hP := hP1
              refine W.widen (k := 0) (n := 0) (Nat.le_refl _) (Nat.le_refl _) ?_
              refine lv_aload_n hx hb dX8_safe_30 rfl (lv_at hl 0 rfl) ?_
              refine lv_iload_n hx hb dX8_safe_31 rfl (lv_at hl 1 rfl) ?_
              refine lv_iload_n hx hb dX8_safe_32 rfl (lv_at hl 2 rfl) ?_
              obtain ⟨bk23, dr22, h24, h25, h26, hs21⟩ := a8_0 hI
              have hFc := zw_free hD hS hA
              refine va_calli (va_runV (As := [.int b, .int k]) (rest := []) ⟨hx, hb, hml, hown, hg⟩ (k_X8_safeLines l g _ ad pe ct20 b k (by first | omega | decide) hI) (cwV 2 hg (z_gV mm_775 mm_777 mm_31 mm_108 mm_778) rfl rfl rfl (by decide +kernel) ⟨Nat.le_of_ble_eq_true rfl, Nat.le_of_ble_eq_true rfl⟩) ⟨(zA.pre [.ref (ad 0), .int b, .int k] hP hK hD hN).1, va_recv hK hP (ci := 8) (q0 := 0) rfl (zw_at (by omega) hs21), (zA.pre [.ref (ad 0), .int b, .int k] hP hK hD hN).2⟩ rfl rfl hl.1 rfl (lv_room (Nat.le_of_ble_eq_true rfl)) dX8_safe_33 ⟨Nat.le_of_ble_eq_true rfl, Nat.le_of_ble_eq_true rfl⟩) hS (fun q _ h => hFc q h) hFc (fun r27 _ t H1 locs ht hvm hr27 hB hz1 hk1 hS => ?_)
              obtain ⟨ct28, hP1, hD1, hI⟩ := hB
              rw [ht] at hP1
              have hD := hD1.weaken (fun _ _ _ h => hFc _ h)
              generalize H1 = H at hP1 hS ⊢
              have hP := hP1
              refine W.widen (k := 0) (n := 0) (Nat.le_refl _) (Nat.le_refl _) ?_
              exact W.iret (v := r27) hx hb hr (fun t ht hW => ⟨⟨r27, (), rfl, trivial, ct28, by rw [ht]; exact hP, hD, hI⟩, hS.F ht⟩) hS.2.2 dX8_safe_36
            · skip
              exact absurd c18 (by decide)
          · skip
            obtain ⟨rfl, h29⟩ := hr15
            have h29 : ¬ (0 ≤ kn.toInt ∧ kn.toInt ≤ 255) := h29
            refine lv_if_ne (tgt := 24) hx hb dX8_safe_19 (by decide) (fun c30 => ?_) (fun c30 => ?_)
            · skip
              exact absurd c30 (by decide)
            · skip
              refine lv_iconst (v := (-1)) hx hb dX8_safe_22 (by decide) ?_
              have q31 : ((-1) : Int32).toInt = -1 := by decide
              exact W.iret (v := (-1)) hx hb hr (fun t ht hW => ⟨⟨(-1), (), rfl, trivial, ct, by rw [ht]; exact hP, hD, hI⟩, hS.F ht⟩) hS.2.2 dX8_safe_23
      · skip
        obtain ⟨rfl, h32⟩ := hr11
        have h32 : ¬ (1 ≤ k.toInt ∧ k.toInt ≤ 16) := h32
        refine lv_if_eq (tgt := 22) hx hb dX8_safe_12 (by decide) (fun c33 => ?_) (fun c33 => ?_)
        · skip
          refine lv_iconst (v := (-1)) hx hb dX8_safe_22 (by decide) ?_
          have q34 : ((-1) : Int32).toInt = -1 := by decide
          exact W.iret (v := (-1)) hx hb hr (fun t ht hW => ⟨⟨(-1), (), rfl, trivial, ct, by rw [ht]; exact hP, hD, hI⟩, hS.F ht⟩) hS.2.2 dX8_safe_23
        · skip
          exact absurd c33 (by decide)
  · skip
    obtain rfl := hr7
    refine lv_if_eq (tgt := 22) hx hb dX8_safe_5 (by decide) (fun c35 => ?_) (fun c35 => ?_)
    · skip
      refine lv_iconst (v := (-1)) hx hb dX8_safe_22 (by decide) ?_
      have q36 : ((-1) : Int32).toInt = -1 := by decide
      exact W.iret (v := (-1)) hx hb hr (fun t ht hW => ⟨⟨(-1), (), rfl, trivial, ct, by rw [ht]; exact hP, hD, hI⟩, hS.F ht⟩) hS.2.2 dX8_safe_23
    · skip
      exact absurd c35 (by decide)
