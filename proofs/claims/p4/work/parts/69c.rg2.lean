set_option maxHeartbeats 4000000 in
set_option maxRecDepth 100000 in
theorem k_X9_giving (l : Launch) (g : zG) (sz : Nat) (ad : Nat → Nat) (me : Int32) (ct : Nat → va_E) (b : Int32) (i : Int32) (kn : Int32) (hI : IR g ad me ct) : Met l yX9_giving (zW yX9_giving cX9_giving 6 (some .int)) ({ frames := 6, cells := 0, slots := 0, locals := 148 }) (va_Pc [.ref (ad 0), .int b, .int i, .int kn] (zA g (zw 32 ad ct) sz)) (va_Qi (fun (r : Int32) (_ : Unit) => (True)) (fun _ t => ∃ ct2 : Nat → va_E, zP g (zw 32 ad ct2) t.heap ∧ va_D (va_A (zw 32 ad ct) sz) (zw 32 ad ct2) ∧ IR g ad me ct2 ∧ (ct2 5 = ct 5) ∧ (ct2 10 = ct 10)) (va_A (zw 32 ad ct) sz)) 0 0 (va_A (zw 32 ad ct) sz) := by
  refine Met.ofW (cc := cX9_giving) (maxL := 6) (ret := (some .int)) (by decide) rfl ?_
  intro p e s m args below meth c s₁ B hml hv
  obtain ⟨rfl, hsz, hP, hK, hD0, hN⟩ := hv
  have hx := B.exec
  have hb := B.bytes
  have hr := B.returns
  have hg := zW.law (atoms_spec (ws := (zW yX9_giving cX9_giving 6 (some .int))) B.pre)
  have hown : s.vm.findClass RX9 = some m.cls := findClass_of_methodNamed B.named
  have hlocks := B.notSynchronized
  have hpe0 := hI.1.1
  subst hsz
  have hD := hD0.self (sz := s.heap.size)
  generalize hAe : va_A (zw 32 ad ct) s.heap.size = A at hD ⊢
  have hA : ∀ q : Nat, s.heap.size ≤ q → A q := fun q h => by rw [← hAe]; exact Or.inr h
  have hS : va_S A s.heap s.heap [] := va_S.rf
  have hl := lv_entry ([.ref (ad 0), .int b, .int i, .int kn]) (n := 6) (Nat.le_of_ble_eq_true rfl)
  rw [lg_entry_eq]
  generalize (lg_sl ([.ref (ad 0), .int b, .int i, .int kn]) ++ List.replicate (6 - (lg_sl ([.ref (ad 0), .int b, .int i, .int kn])).length) Slot.unset).toArray = ls at hl ⊢
  have hl : lv_has ls 6 [(0, .ref (ad 0)), (1, .int b), (2, .int i), (3, .int kn)] := hl
  have hc5 : ct 5 = ct 5 := rfl
  have hc10 : ct 10 = ct 10 := rfl
  have rg_b := z_rng b
  have rg_i := z_rng i
  have rg_kn := z_rng kn
  have q0 : ((0 : Int32)).toInt = 0 := by decide
  have q1 : ((1 : Int32)).toInt = 1 := by decide
  refine lv_aload_n hx hb dX9_giving_0 rfl (lv_at hl 0 rfl) ?_
  refine lv_iload_n hx hb dX9_giving_1 rfl (lv_at hl 1 rfl) ?_
  refine lv_iload_n hx hb dX9_giving_2 rfl (lv_at hl 2 rfl) ?_
  obtain ⟨bks2, lks3, gos4, shn5, tpd6, pl07, ln08, flt9, opn10, cmy11, wtg12, nm013, mst14, sus15, cut16, h17, h18, h19, h20, h21, h22, h23, h24, h25, h26, h27, h28, h29, h30, h31, h32, h33, h34, h35, h36, hs1⟩ := a9_0 hI.1
  refine zc_i (va_runV (As := [.int b, .int i]) (rest := []) ⟨hx, hb, hml, hown, hg⟩ (k_X9_isLineN l g ad me ct b i hI) (cwV 2 hg (z_gV mm_1170 mm_1172 mm_57 mm_117 mm_1173) rfl rfl rfl (by decide +kernel) ⟨Nat.le_of_ble_eq_true rfl, Nat.le_of_ble_eq_true rfl⟩) ⟨(zR.pre [.ref (ad 0), .int b, .int i] hP hK hN).1, va_recv hK hP (ci := 9) (q0 := 0) rfl (zw_at (by omega) hs1), (zR.pre [.ref (ad 0), .int b, .int i] hP hK hN).2⟩ rfl rfl hl.1 rfl (lv_room (Nat.le_of_ble_eq_true rfl)) dX9_giving_3 ⟨Nat.le_of_ble_eq_true rfl, Nat.le_of_ble_eq_true rfl⟩) (fun r37 hr37 => ?_)
  rcases hr37 with hr37 | hr37
  · skip
    obtain ⟨rfl, h38, h39, h40⟩ := hr37
    replace h38 : 0 ≤ b.toInt ∧ b.toInt ≤ 3 := h38
    replace h39 : 0 ≤ i.toInt ∧ i.toInt ≤ 7 := h39
    replace h40 : i.toInt < (zar (ct 5) b.toInt.toNat).toInt := h40
    have hin := h40
    refine lv_if_eq (tgt := 16) hx hb dX9_giving_6 (by decide) (fun c41 => ?_) (fun c41 => ?_)
    · skip
      exact absurd c41 (by decide)
    · skip
      refine lv_iload_n hx hb dX9_giving_9 rfl (lv_at hl 3 rfl) ?_
      refine zc_i (va_runS (As := [.int kn]) (rest := []) ⟨hx, hb, hml, hown, hg⟩ (k_X9_isKnown l g ad me ct kn hI) (va_cwS 1 hg (z_gS mm_1294 mm_1295 mm_117 mm_1296) rfl rfl rfl (by decide +kernel) ⟨Nat.le_of_ble_eq_true rfl, Nat.le_of_ble_eq_true rfl⟩) (zR.pre [.int kn] hP hK hN) rfl rfl hl.1 rfl (lv_room (Nat.le_of_ble_eq_true rfl)) dX9_giving_10 ⟨Nat.le_of_ble_eq_true rfl, Nat.le_of_ble_eq_true rfl⟩) (fun r42 hr42 => ?_)
      rcases hr42 with hr42 | hr42
      · skip
        obtain ⟨rfl, h43, h44⟩ := hr42
        replace h43 : 0 ≤ kn.toInt := h43
        replace h44 : kn.toInt ≤ 255 := h44
        refine lv_if_ne (tgt := 18) hx hb dX9_giving_13 (by decide) (fun c45 => ?_) (fun c45 => ?_)
        · skip
          refine lv_aload_n hx hb dX9_giving_18 rfl (lv_at hl 0 rfl) ?_
          refine va_get (D := g.1) (ci := 9) (v := .ref (ad 10)) (C := RX9) (T := TX9) (N := 47) hx hb hg inG9 hown hK hP 0 (zw_at (by omega) hs1) rfl 14 (by decide) (hg _ mm_972) (fun _ h9 => h9) rfl dX9_giving_19 ?_
          refine lv_iload_n hx hb dX9_giving_22 rfl (lv_at hl 1 rfl) ?_
          refine lv_iload_n hx hb dX9_giving_23 rfl (lv_at hl 2 rfl) ?_
          refine zc_i (va_runS (As := [.int b, .int i]) (rest := [.ref (ad 10)]) ⟨hx, hb, hml, hown, hg⟩ (k_X9_at l g ad me ct b i (by first | omega | decide) (by first | omega | decide) hI) (va_cwS 2 hg (z_gS mm_1159 mm_1160 mm_117 mm_1161) rfl rfl rfl (by decide +kernel) ⟨Nat.le_of_ble_eq_true rfl, Nat.le_of_ble_eq_true rfl⟩) (zR.pre [.int b, .int i] hP hK hN) rfl rfl hl.1 rfl (lv_room (Nat.le_of_ble_eq_true rfl)) dX9_giving_24 ⟨Nat.le_of_ble_eq_true rfl, Nat.le_of_ble_eq_true rfl⟩) (fun r46 hr46 => ?_)
          have hr46_0 := hr46
          have hr46_0 : r46.toInt = 8 * b.toInt + i.toInt := hr46_0
          obtain ⟨f48, hp49, hs47⟩ := a9_10 hI.1
          refine va_zald hx hb hK hP 10 3 (zw_at (by omega) hs47) rfl (z_in rfl (by omega) (by omega)) dX9_giving_27 ?_
          refine lv_topi (fun y50 ey50 => ?_)
          have hy50 := hp49 _ (z_clt (x := r46) rfl (by omega) (by omega))
          rw [← ey50] at hy50
          have hy50 : y50 = 0 ∨ y50 = 1 := hy50
          have by50 := z_b01 hy50
          refine lv_if_eq (tgt := 34) hx hb dX9_giving_28 (by decide) (fun c51 => ?_) (fun c51 => ?_)
          · skip
            have c51 : y50.toInt = 0 := (z_eq rfl (by decide : (0 : Int32).toInt = 0)).mp c51
            refine lv_aload_n hx hb dX9_giving_34 rfl (lv_at hl 0 rfl) ?_
            refine lv_iload_n hx hb dX9_giving_35 rfl (lv_at hl 1 rfl) ?_
            refine lv_iload_n hx hb dX9_giving_36 rfl (lv_at hl 3 rfl) ?_
            have hFc := zw_free hD hS hA
            refine va_callv (va_runV (As := [.int b, .int kn]) (rest := []) ⟨hx, hb, hml, hown, hg⟩ (k_X9_laysFitting l g _ ad me ct b kn (by first | omega | decide) (by first | omega | decide) hI) (cwV 2 hg (z_gV mm_1329 mm_1331 mm_85 mm_117 mm_1332) rfl rfl rfl (by decide +kernel) ⟨Nat.le_of_ble_eq_true rfl, Nat.le_of_ble_eq_true rfl⟩) ⟨(zA.pre [.ref (ad 0), .int b, .int kn] hP hK hD hN).1, va_recv hK hP (ci := 9) (q0 := 0) rfl (zw_at (by omega) hs1), (zA.pre [.ref (ad 0), .int b, .int kn] hP hK hD hN).2⟩ rfl rfl hl.1 rfl (lv_room (Nat.le_of_ble_eq_true rfl)) dX9_giving_37 ⟨Nat.le_of_ble_eq_true rfl, Nat.le_of_ble_eq_true rfl⟩) hS (fun q _ h => hFc q h) hFc (fun _ t H1 locs ht hvm hr52 hB hz1 hk1 hS => ?_)
            obtain ⟨ct53, hP1, hD1, hI, hk54, hk55, hk56⟩ := hB
            rw [ht] at hP1
            have hD := hD1.weaken (fun _ _ _ h => hFc _ h)
            generalize H1 = H at hP1 hS ⊢
            have hP := hP1
            refine W.widen (k := 0) (n := 0) (Nat.le_refl _) (Nat.le_refl _) ?_
            have hc5 : ct53 5 = ct 5 := hk55.trans hc5
            have hc10 : ct53 10 = ct 10 := hk56.trans hc10
            have hs57 : ct53 0 = .inr (9, [.int me, .ref (ad 1), .ref (ad 2), .ref (ad 3), .ref (ad 4), .int bks2, .int lks3, .int gos4, .int shn5, .ref (ad 5), .ref (ad 6), .ref (ad 7), .ref (ad 8), .ref (ad 9), .ref (ad 10), .ref (ad 11), .int tpd6, .int pl07, .int ln08, .int flt9, .int opn10, .int cmy11, .int wtg12, .int nm013, .ref (ad 12), .ref (ad 13), .ref (ad 14), .ref (ad 15), .ref (ad 16), .ref (ad 17), .ref (ad 18), .ref (ad 19), .ref (ad 20), .ref (ad 21), .ref (ad 22), .ref (ad 23), .ref (ad 24), .ref (ad 25), .ref (ad 26), .ref (ad 27), .int mst14, .int sus15, .ref (ad 28), .ref (ad 29), .ref (ad 30), .ref (ad 31), .int cut16]) := hk54.trans hs1
            have hs58 : ct53 10 = .inl (g.2 3, 32, .inl f48) := hk56.trans hs47
            refine lv_aload_n hx hb dX9_giving_40 rfl (lv_at hl 0 rfl) ?_
            have k5 := hc5
            have k10 := hc10
            refine lv_iload_n hx hb dX9_giving_41 rfl (lv_at hl 1 rfl) ?_
            refine lv_iconst (v := (-1)) hx hb dX9_giving_42 (by decide) ?_
            refine lv_iconst (v := 0) hx hb dX9_giving_43 (by decide) ?_
            have hFc := zw_free hD hS hA
            refine va_calli (va_runV (As := [.int b, .int (-1), .int 0]) (rest := []) ⟨hx, hb, hml, hown, hg⟩ (k_X9_canAll l g _ ad me ct53 b (-1 : Int32) (0 : Int32) (by first | omega | decide) (by first | omega | decide) (by first | omega | decide) hI) (cwV 3 hg (z_gV mm_1357 mm_1359 mm_89 mm_117 mm_1360) rfl rfl rfl (by decide +kernel) ⟨Nat.le_of_ble_eq_true rfl, Nat.le_of_ble_eq_true rfl⟩) ⟨(zA.pre [.ref (ad 0), .int b, .int (-1), .int 0] hP hK hD hN).1, va_recv hK hP (ci := 9) (q0 := 0) rfl (zw_at (by omega) hs57), (zA.pre [.ref (ad 0), .int b, .int (-1), .int 0] hP hK hD hN).2⟩ rfl rfl hl.1 rfl (lv_room (Nat.le_of_ble_eq_true rfl)) dX9_giving_44 ⟨Nat.le_of_ble_eq_true rfl, Nat.le_of_ble_eq_true rfl⟩) hS (fun q _ h => hFc q h) hFc (fun r59 u67 t H1 locs ht hvm hr59 hB hz1 hk1 hS => ?_)
            obtain ⟨ct60, hP1, hD1, hI, hk61, hk62, hk63, hk64, hk65, hk66⟩ := hB
            rw [ht] at hP1
            have hD := hD1.weaken (fun _ _ _ h => hFc _ h)
            generalize H1 = H at hP1 hS ⊢
            have hP := hP1
            refine W.widen (k := 0) (n := 0) (Nat.le_refl _) (Nat.le_refl _) ?_
            have hc5 : ct60 5 = ct 5 := hk64.trans hc5
            have hc10 : ct60 10 = ct 10 := hk65.trans hc10
            have hs68 : ct60 0 = .inr (9, [.int me, .ref (ad 1), .ref (ad 2), .ref (ad 3), .ref (ad 4), .int bks2, .int lks3, .int gos4, .int shn5, .ref (ad 5), .ref (ad 6), .ref (ad 7), .ref (ad 8), .ref (ad 9), .ref (ad 10), .ref (ad 11), .int tpd6, .int pl07, .int ln08, .int flt9, .int opn10, .int cmy11, .int wtg12, .int nm013, .ref (ad 12), .ref (ad 13), .ref (ad 14), .ref (ad 15), .ref (ad 16), .ref (ad 17), .ref (ad 18), .ref (ad 19), .ref (ad 20), .ref (ad 21), .ref (ad 22), .ref (ad 23), .ref (ad 24), .ref (ad 25), .ref (ad 26), .ref (ad 27), .int mst14, .int sus15, .ref (ad 28), .ref (ad 29), .ref (ad 30), .ref (ad 31), .int cut16]) := hk63.trans hs57
            have hs69 : ct60 10 = .inl (g.2 3, 32, .inl f48) := hk65.trans hs58
            rcases hr59 with hr59 | hr59
            · skip
              obtain ⟨rfl, h70⟩ := hr59
              replace h70 : u67 = 1 := h70
              have hk61 := hk61 h70
              have hgv : GV (zar (ct60 20)) (zar (ct 10)) (zar (ct 5) b.toInt.toNat).toInt b.toInt me.toInt := by
                rw [hk66, ← k10, ← k5]
                exact hk61
              refine lv_if_ne (tgt := 53) hx hb dX9_giving_47 (by decide) (fun c71 => ?_) (fun c71 => ?_)
              · skip
                refine lv_iconst (v := 0) hx hb dX9_giving_53 (by decide) ?_
                refine lv_istore (lv' := [(4, .int 0), (0, .ref (ad 0)), (1, .int b), (2, .int i), (3, .int kn)]) hx hb dX9_giving_54 hl (by decide) rfl (fun ls hl => ?_)
                have loop56 : ∀ (n56 : Nat) (v4_56 : Int32) (ct72 : Nat → va_E) (H : Heap) (locs : List Loc) (ls : Array Slot), ((8 - v4_56.toInt : Int).toNat < n56) → (0 ≤ v4_56.toInt ∧ v4_56.toInt ≤ 8) → (GV (zar (ct72 20)) (zar (ct 10)) (zar (ct 5) b.toInt.toNat).toInt b.toInt me.toInt) → (ct72 5 = ct 5) → (ct72 10 = ct 10) → (IR g ad me ct72) → zP g (zw 32 ad ct72) H → va_D A (zw 32 ad ct72) → va_S A s.heap H locs → lv_has ls 6 [(4, .int v4_56), (0, .ref (ad 0)), (1, .int b), (2, .int i), (3, .int kn)] → W p l e (headSpec (zW yX9_giving cX9_giving 6 (some .int)) ({ frames := 6, cells := 0, slots := 0, locals := 148 })).room s m ([.ref (ad 0), .int b, .int i, .int kn] : List Value).toArray below meth c H locs 0 0 (MQ below (va_Qi (fun (r : Int32) (_ : Unit) => (True)) (fun _ t => ∃ ct2 : Nat → va_E, zP g (zw 32 ad ct2) t.heap ∧ va_D A (zw 32 ad ct2) ∧ IR g ad me ct2 ∧ (ct2 5 = ct 5) ∧ (ct2 10 = ct 10)) A) ([.ref (ad 0), .int b, .int i, .int kn] : List Value).toArray s 0 0 A) (F0 m 56 ls []) := by
                  intro n56
                  induction n56 with
                  | zero =>
                    intro v4_56 ct72 H locs ls hn56 b4_56 j0_56 hc5 hc10 hI hP hD hS hl
                    exact absurd hn56 (Nat.not_lt_zero _)
                  | succ n56 ih56 =>
                    intro v4_56 ct72 H locs ls hn56 b4_56 j0_56 hc5 hc10 hI hP hD hS hl
                    refine lv_iload hx hb dX9_giving_56 (lv_at hl 0 rfl) ?_
                    refine lv_iload_n hx hb dX9_giving_58 rfl (lv_at hl 3 rfl) ?_
                    refine lv_icmp_gt (tgt := 129) hx hb dX9_giving_59 (by decide) (fun c73 => ?_) (fun c73 => ?_)
                    · skip
                      have c73 : i.toInt < v4_56.toInt := (z_lt rfl rfl).mp c73
                      refine lv_iconst (v := (-1)) hx hb dX9_giving_129 (by decide) ?_
                      have q74 : ((-1) : Int32).toInt = -1 := by decide
                      exact W.iret (v := (-1)) hx hb hr (fun t ht hW => ⟨⟨(-1), (), rfl, trivial, ct72, by rw [ht]; exact hP, hD, hI, (by first | assumption | omega), (by first | assumption | omega)⟩, hS.F ht⟩) hS.2.2 dX9_giving_130
                    · skip
                      have c73 : ¬ (i.toInt < v4_56.toInt) := fun q => c73 ((z_lt rfl rfl).mpr q)
                      refine lv_aload_n hx hb dX9_giving_62 rfl (lv_at hl 1 rfl) ?_
                      obtain ⟨bks76, lks77, gos78, shn79, tpd80, pl081, ln082, flt83, opn84, cmy85, wtg86, nm087, mst88, sus89, cut90, h91, h92, h93, h94, h95, h96, h97, h98, h99, h100, h101, h102, h103, h104, h105, h106, h107, h108, h109, h110, hs75⟩ := a9_0 hI.1
                      refine va_get (D := g.1) (ci := 9) (v := .ref (ad 10)) (C := RX9) (T := TX9) (N := 47) hx hb hg inG9 hown hK hP 0 (zw_at (by omega) hs75) rfl 14 (by decide) (hg _ mm_972) (fun _ h9 => h9) rfl dX9_giving_63 ?_
                      refine lv_iload_n hx hb dX9_giving_66 rfl (lv_at hl 2 rfl) ?_
                      refine lv_iload hx hb dX9_giving_67 (lv_at hl 0 rfl) ?_
                      refine zc_i (va_runS (As := [.int b, .int v4_56]) (rest := [.ref (ad 10)]) ⟨hx, hb, hml, hown, hg⟩ (k_X9_at l g ad me ct72 b v4_56 (by first | omega | decide) (by first | omega | decide) hI) (va_cwS 2 hg (z_gS mm_1159 mm_1160 mm_117 mm_1161) rfl rfl rfl (by decide +kernel) ⟨Nat.le_of_ble_eq_true rfl, Nat.le_of_ble_eq_true rfl⟩) (zR.pre [.int b, .int v4_56] hP hK hN) rfl rfl hl.1 rfl (lv_room (Nat.le_of_ble_eq_true rfl)) dX9_giving_69 ⟨Nat.le_of_ble_eq_true rfl, Nat.le_of_ble_eq_true rfl⟩) (fun r111 hr111 => ?_)
                      have hr111_0 := hr111
                      have hr111_0 : r111.toInt = 8 * b.toInt + v4_56.toInt := hr111_0
                      obtain ⟨f113, hp114, hs112⟩ := a9_10 hI.1
                      refine va_zald hx hb hK hP 10 3 (zw_at (by omega) hs112) rfl (z_in rfl (by omega) (by omega)) dX9_giving_72 ?_
                      refine lv_topi (fun y115 ey115 => ?_)
                      have hy115 := hp114 _ (z_clt (x := r111) rfl (by omega) (by omega))
                      rw [← ey115] at hy115
                      have hy115 : y115 = 0 ∨ y115 = 1 := hy115
                      have by115 := z_b01 hy115
                      have hlv : zar (ct 10) (8 * b.toInt.toNat + v4_56.toInt.toNat) = y115 := by rw [zar_of (hc10.symm.trans hs112), ey115, z_cl (x := r111) (k := 8 * b.toInt.toNat + v4_56.toInt.toNat) (by omega)]
                      refine lv_if_eq (tgt := 79) hx hb dX9_giving_73 (by decide) (fun c116 => ?_) (fun c116 => ?_)
                      · skip
                        have c116 : y115.toInt = 0 := (z_eq rfl (by decide : (0 : Int32).toInt = 0)).mp c116
                        have hlive : zlive (zar (ct 10)) b.toInt v4_56.toInt.toNat := by unfold zlive; rw [hlv]; omega
                        refine lv_iconst (v := 0) hx hb dX9_giving_79 (by decide) ?_
                        refine lv_istore (lv' := [(5, .int 0), (4, .int v4_56), (0, .ref (ad 0)), (1, .int b), (2, .int i), (3, .int kn)]) hx hb dX9_giving_80 hl (by decide) rfl (fun ls hl => ?_)
                        have loop82 : ∀ (n82 : Nat) (v5_82 : Int32) (ct117 : Nat → va_E) (H : Heap) (locs : List Loc) (ls : Array Slot), ((16 - v5_82.toInt : Int).toNat < n82) → (0 ≤ v5_82.toInt ∧ v5_82.toInt ≤ 15) → (GVp (zar (ct117 20)) (zar (ct 10)) (zar (ct 5) b.toInt.toNat).toInt b.toInt me.toInt v4_56.toInt v5_82.toInt) → (ct117 5 = ct 5) → (ct117 10 = ct 10) → (IR g ad me ct117) → zP g (zw 32 ad ct117) H → va_D A (zw 32 ad ct117) → va_S A s.heap H locs → lv_has ls 6 [(5, .int v5_82), (4, .int v4_56), (0, .ref (ad 0)), (1, .int b), (2, .int i), (3, .int kn)] → W p l e (headSpec (zW yX9_giving cX9_giving 6 (some .int)) ({ frames := 6, cells := 0, slots := 0, locals := 148 })).room s m ([.ref (ad 0), .int b, .int i, .int kn] : List Value).toArray below meth c H locs 0 0 (MQ below (va_Qi (fun (r : Int32) (_ : Unit) => (True)) (fun _ t => ∃ ct2 : Nat → va_E, zP g (zw 32 ad ct2) t.heap ∧ va_D A (zw 32 ad ct2) ∧ IR g ad me ct2 ∧ (ct2 5 = ct 5) ∧ (ct2 10 = ct 10)) A) ([.ref (ad 0), .int b, .int i, .int kn] : List Value).toArray s 0 0 A) (F0 m 82 ls []) := by
                          intro n82
                          induction n82 with
                          | zero =>
                            intro v5_82 ct117 H locs ls hn82 b5_82 j0_82 hc5 hc10 hI hP hD hS hl
                            exact absurd hn82 (Nat.not_lt_zero _)
                          | succ n82 ih82 =>
                            intro v5_82 ct117 H locs ls hn82 b5_82 j0_82 hc5 hc10 hI hP hD hS hl
                            have hlt := GVp_lt j0_82 (by omega) (by omega) hlive
                            refine lv_aload_n hx hb dX9_giving_82 rfl (lv_at hl 2 rfl) ?_
                            refine lv_iload_n hx hb dX9_giving_83 rfl (lv_at hl 3 rfl) ?_
                            refine lv_iload hx hb dX9_giving_84 (lv_at hl 1 rfl) ?_
                            have k5 := hc5
                            have k10 := hc10
                            refine lv_iload hx hb dX9_giving_86 (lv_at hl 0 rfl) ?_
                            obtain ⟨bks119, lks120, gos121, shn122, tpd123, pl0124, ln0125, flt126, opn127, cmy128, wtg129, nm0130, mst131, sus132, cut133, h134, h135, h136, h137, h138, h139, h140, h141, h142, h143, h144, h145, h146, h147, h148, h149, h150, h151, h152, h153, hs118⟩ := a9_0 hI.1
                            have hFc := zw_free hD hS hA
                            refine va_calli (va_runV (As := [.int b, .int v4_56, .int v5_82]) (rest := []) ⟨hx, hb, hml, hown, hg⟩ (k_X9_canAll l g _ ad me ct117 b v4_56 v5_82 (by first | omega | decide) (by first | omega | decide) (by first | omega | decide) hI) (cwV 3 hg (z_gV mm_1357 mm_1359 mm_89 mm_117 mm_1360) rfl rfl rfl (by decide +kernel) ⟨Nat.le_of_ble_eq_true rfl, Nat.le_of_ble_eq_true rfl⟩) ⟨(zA.pre [.ref (ad 0), .int b, .int v4_56, .int v5_82] hP hK hD hN).1, va_recv hK hP (ci := 9) (q0 := 0) rfl (zw_at (by omega) hs118), (zA.pre [.ref (ad 0), .int b, .int v4_56, .int v5_82] hP hK hD hN).2⟩ rfl rfl hl.1 rfl (lv_room (Nat.le_of_ble_eq_true rfl)) dX9_giving_88 ⟨Nat.le_of_ble_eq_true rfl, Nat.le_of_ble_eq_true rfl⟩) hS (fun q _ h => hFc q h) hFc (fun r154 u162 t H1 locs ht hvm hr154 hB hz1 hk1 hS => ?_)
                            obtain ⟨ct155, hP1, hD1, hI, hk156, hk157, hk158, hk159, hk160, hk161⟩ := hB
                            rw [ht] at hP1
                            have hD := hD1.weaken (fun _ _ _ h => hFc _ h)
                            generalize H1 = H at hP1 hS ⊢
                            have hP := hP1
                            refine W.widen (k := 0) (n := 0) (Nat.le_refl _) (Nat.le_refl _) ?_
                            have hc5 : ct155 5 = ct 5 := hk159.trans hc5
                            have hc10 : ct155 10 = ct 10 := hk160.trans hc10
                            have hs163 : ct155 0 = .inr (9, [.int me, .ref (ad 1), .ref (ad 2), .ref (ad 3), .ref (ad 4), .int bks119, .int lks120, .int gos121, .int shn122, .ref (ad 5), .ref (ad 6), .ref (ad 7), .ref (ad 8), .ref (ad 9), .ref (ad 10), .ref (ad 11), .int tpd123, .int pl0124, .int ln0125, .int flt126, .int opn127, .int cmy128, .int wtg129, .int nm0130, .ref (ad 12), .ref (ad 13), .ref (ad 14), .ref (ad 15), .ref (ad 16), .ref (ad 17), .ref (ad 18), .ref (ad 19), .ref (ad 20), .ref (ad 21), .ref (ad 22), .ref (ad 23), .ref (ad 24), .ref (ad 25), .ref (ad 26), .ref (ad 27), .int mst131, .int sus132, .ref (ad 28), .ref (ad 29), .ref (ad 30), .ref (ad 31), .int cut133]) := hk158.trans hs118
                            rcases hr154 with hr154 | hr154
                            · skip
                              obtain ⟨rfl, h164⟩ := hr154
                              replace h164 : u162 = 1 := h164
                              have hk156 := hk156 h164
                              refine lv_if_ne (tgt := 103) hx hb dX9_giving_91 (by decide) (fun c165 => ?_) (fun c165 => ?_)
                              · skip
                                refine lv_aload_n hx hb dX9_giving_103 rfl (lv_at hl 2 rfl) ?_
                                refine va_get (D := g.1) (ci := 9) (v := .ref (ad 20)) (C := RX9) (T := TX9) (N := 47) hx hb hg inG9 hown hK hP 0 (zw_at (by omega) hs163) rfl 32 (by decide) (hg _ mm_990) (fun _ h9 => h9) rfl dX9_giving_104 ?_
                                refine lv_iload hx hb dX9_giving_107 (lv_at hl 1 rfl) ?_
                                refine lv_iconst (v := 1) hx hb dX9_giving_109 (by decide) ?_
                                refine lv_iload hx hb dX9_giving_110 (lv_at hl 0 rfl) ?_
                                refine lv_ishl hx hb dX9_giving_112 ?_
                                refine lv_topi (fun x166 ex166 => ?_)
                                have tx166 := z_shl1 (y := v5_82) rfl (by omega) (k := 15) (by decide) (by omega)
                                rw [← ex166] at tx166
                                obtain ⟨f168, hp169, hs167⟩ := a9_20 hI.1
                                refine va_iast hx hb hK hP hD hS 20 0 (zw_at (by omega) hs167) rfl (z_in rfl (by omega) (by omega)) dX9_giving_113 (fun H locs hP hD hS => ?_)
                                have hp171 : ∀ j : Nat, j < 8 → (fun x : Int32 => 0 ≤ x.toInt ∧ x.toInt ≤ 65535) ((upd f168 (Int32.toNatClampNeg v4_56) x166) j) := fun j hj => by
                                  unfold upd
                                  by_cases q : j = Int32.toNatClampNeg v4_56
                                  · rw [if_pos q]; exact (show 0 ≤ (x166 : Int32).toInt ∧ (x166 : Int32).toInt ≤ 65535 from (by first | omega | decide))
                                  · rw [if_neg q]; exact hp169 j hj
                                have hP : zP g ((zw 32 ad ct155).set 20 (ad 20, .inl (g.2 0, 8, .inl (upd f168 (Int32.toNatClampNeg v4_56) x166)))) H := hP
                                have hD : va_D A ((zw 32 ad ct155).set 20 (ad 20, .inl (g.2 0, 8, .inl (upd f168 (Int32.toNatClampNeg v4_56) x166)))) := hD
                                rw [zw_set (by omega)] at hP hD
                                obtain ⟨ct172, ec173⟩ : ∃ z : Nat → va_E, z = va_up ct155 20 (.inl (g.2 0, 8, .inl (upd f168 (Int32.toNatClampNeg v4_56) x166))) := ⟨_, rfl⟩
                                rw [← ec173] at hP hD
                                have hI : IR g ad me ct172 := by rw [ec173]; exact upR hI (by decide) (i9_20 ⟨_, hp171, rfl⟩)
                                have hc5 : ct172 5 = ct 5 := by rw [ec173]; exact (va_up_ne _ _ (by omega)).trans hc5
                                have hc10 : ct172 10 = ct 10 := by rw [ec173]; exact (va_up_ne _ _ (by omega)).trans hc10
                                have hs174 : ct172 0 = .inr (9, [.int me, .ref (ad 1), .ref (ad 2), .ref (ad 3), .ref (ad 4), .int bks119, .int lks120, .int gos121, .int shn122, .ref (ad 5), .ref (ad 6), .ref (ad 7), .ref (ad 8), .ref (ad 9), .ref (ad 10), .ref (ad 11), .int tpd123, .int pl0124, .int ln0125, .int flt126, .int opn127, .int cmy128, .int wtg129, .int nm0130, .ref (ad 12), .ref (ad 13), .ref (ad 14), .ref (ad 15), .ref (ad 16), .ref (ad 17), .ref (ad 18), .ref (ad 19), .ref (ad 20), .ref (ad 21), .ref (ad 22), .ref (ad 23), .ref (ad 24), .ref (ad 25), .ref (ad 26), .ref (ad 27), .int mst131, .int sus132, .ref (ad 28), .ref (ad 29), .ref (ad 30), .ref (ad 31), .int cut133]) := by rw [ec173, va_up_ne _ _ (by omega)]; exact hs163
                                have hs175 : ct172 20 = .inl (g.2 0, 8, .inl (upd f168 (Int32.toNatClampNeg v4_56) x166)) := by rw [ec173]; exact va_up_self _ _ _
                                have hgv2 := GV_set (F := zar (ct117 20)) (C := zar (ct 10)) (n := (zar (ct 5) b.toInt.toNat).toInt) (b := b.toInt) (pe := me.toInt) (xj := v4_56) (xp := v5_82) (v := x166) (ij := Int32.toNatClampNeg v4_56) (j := v4_56.toInt) (p := v5_82.toInt) (by omega) (by omega) (by omega) (by omega) (by omega) rfl rfl ex166 (z_clI (by omega)) (by
                                  rw [← k10, ← k5]
                                  exact hk156)
                                rw [← hk161, zar_of hs167, ← zar_of hs175] at hgv2
                                refine lv_iload hx hb dX9_giving_114 (lv_at hl 1 rfl) ?_
                                refine lv_iload_n hx hb dX9_giving_116 rfl (lv_at hl 4 rfl) ?_
                                refine lv_icmp_ne (tgt := 123) hx hb dX9_giving_117 (by decide) (fun c176 => ?_) (fun c176 => ?_)
                                · skip
                                  have c176 : ¬ (v4_56.toInt = i.toInt) := fun q => c176 ((z_eq rfl rfl).mpr q)
                                  obtain ⟨x177, ex177⟩ : ∃ y : Int32, y = v4_56 + 1 := ⟨_, rfl⟩
                                  have tx177 : x177.toInt = v4_56.toInt + 1 := by rw [ex177]; exact z_add rfl (by decide : (1 : Int32).toInt = 1) (by omega) (by omega)
                                  refine lv_iinc (v := x177) (lv' := [(4, .int x177), (5, .int v5_82), (0, .ref (ad 0)), (1, .int b), (2, .int i), (3, .int kn)]) hx hb dX9_giving_123 hl (k := 1) rfl (by rw [ex177]; rfl) (by decide) rfl (fun ls hl => ?_)
                                  refine lv_goto (tgt := 56) hx hb dX9_giving_126 (by decide) ?_
                                  exact ih56 x177 ct172 _ _ ls (by omega) (by first | assumption | omega | decide) (by first | assumption | omega | decide) (by first | assumption | omega | decide) (by first | assumption | omega | decide) hI hP hD hS (lv_sub hl [0, 2, 3, 4, 5] rfl)
                                · skip
                                  have c176 : v4_56.toInt = i.toInt := (z_eq rfl rfl).mp c176
                                  refine lv_iload hx hb dX9_giving_120 (lv_at hl 0 rfl) ?_
                                  exact W.iret (v := v5_82) hx hb hr (fun t ht hW => ⟨⟨v5_82, (), rfl, trivial, ct172, by rw [ht]; exact hP, hD, hI, (by first | assumption | omega), (by first | assumption | omega)⟩, hS.F ht⟩) hS.2.2 dX9_giving_122
                              · skip
                                exact absurd c165 (by decide)
                            · skip
                              obtain ⟨rfl, h178⟩ := hr154
                              replace h178 : u162 = 0 := h178
                              have hk157 := hk157 h178
                              have hgp2 := GVp_next (xj := v4_56) (xp := v5_82) j0_82 (by omega) (by omega) hlive (by omega) (by omega) rfl rfl (by rw [← k10, ← k5]; exact hk157)
                              rw [← hk161] at hgp2
                              have hlt2 := GVp_lt hgp2 (by omega) (by omega) hlive
                              refine lv_if_ne (tgt := 103) hx hb dX9_giving_91 (by decide) (fun c179 => ?_) (fun c179 => ?_)
                              · skip
                                exact absurd c179 (by decide)
                              · skip
                                refine lv_iload hx hb dX9_giving_94 (lv_at hl 0 rfl) ?_
                                refine lv_iconst (v := 1) hx hb dX9_giving_96 (by decide) ?_
                                refine lv_iadd hx hb dX9_giving_97 ?_
                                refine lv_topi (fun x180 ex180 => ?_)
                                have tx180 : x180.toInt = v5_82.toInt + 1 := by rw [ex180]; exact z_add rfl (by decide : (1 : Int32).toInt = 1) (by omega) (by omega)
                                refine lv_istore (lv' := [(5, .int x180), (4, .int v4_56), (0, .ref (ad 0)), (1, .int b), (2, .int i), (3, .int kn)]) hx hb dX9_giving_98 hl (by decide) rfl (fun ls hl => ?_)
                                rw [← tx180] at hgp2
                                refine lv_goto (tgt := 82) hx hb dX9_giving_100 (by decide) ?_
                                exact ih82 x180 ct155 _ _ ls (by omega) (by first | assumption | omega | decide) (by first | assumption | omega | decide) (by first | assumption | omega | decide) (by first | assumption | omega | decide) hI hP hD hS (lv_sub hl [0, 1, 2, 3, 4, 5] rfl)
                        have hgp : GVp (zar (ct72 20)) (zar (ct 10)) (zar (ct 5) b.toInt.toNat).toInt b.toInt me.toInt v4_56.toInt ((0 : Int32)).toInt := by
                          obtain ⟨mm, h1⟩ := j0_56
                          exact ⟨mm, h1, by omega⟩
                        exact loop82 ((16 - (0 : Int32).toInt : Int).toNat + 1) (0 : Int32) ct72 _ _ ls (by omega) (by first | assumption | omega | decide) (by first | assumption | omega | decide) (by first | assumption | omega | decide) (by first | assumption | omega | decide) hI hP hD hS (lv_sub hl [0, 1, 2, 3, 4, 5] rfl)
                      · skip
                        have c116 : ¬ (y115.toInt = 0) := fun q => c116 ((z_eq rfl (by decide : (0 : Int32).toInt = 0)).mpr q)
                        refine lv_goto (tgt := 123) hx hb dX9_giving_76 (by decide) ?_
                        obtain ⟨x181, ex181⟩ : ∃ y : Int32, y = v4_56 + 1 := ⟨_, rfl⟩
                        have tx181 : x181.toInt = v4_56.toInt + 1 := by rw [ex181]; exact z_add rfl (by decide : (1 : Int32).toInt = 1) (by omega) (by omega)
                        refine lv_iinc (v := x181) (lv' := [(4, .int x181), (0, .ref (ad 0)), (1, .int b), (2, .int i), (3, .int kn)]) hx hb dX9_giving_123 hl (k := 0) rfl (by rw [ex181]; rfl) (by decide) rfl (fun ls hl => ?_)
                        refine lv_goto (tgt := 56) hx hb dX9_giving_126 (by decide) ?_
                        exact ih56 x181 ct72 _ _ ls (by omega) (by first | assumption | omega | decide) (by first | assumption | omega | decide) (by first | assumption | omega | decide) (by first | assumption | omega | decide) hI hP hD hS (lv_sub hl [0, 1, 2, 3, 4] rfl)
                exact loop56 ((8 - (0 : Int32).toInt : Int).toNat + 1) (0 : Int32) ct60 _ _ ls (by omega) (by first | assumption | omega | decide) (by first | assumption | omega | decide) (by first | assumption | omega | decide) (by first | assumption | omega | decide) hI hP hD hS (lv_sub hl [0, 1, 2, 3, 4] rfl)
              · skip
                exact absurd c71 (by decide)
            · skip
              obtain ⟨rfl, h182⟩ := hr59
              replace h182 : u67 = 0 := h182
              have hk62 := hk62 h182
              refine lv_if_ne (tgt := 53) hx hb dX9_giving_47 (by decide) (fun c183 => ?_) (fun c183 => ?_)
              · skip
                exact absurd c183 (by decide)
              · skip
                refine lv_bipush (v := (-2)) hx hb dX9_giving_50 (by decide) ?_
                have q184 : ((-2) : Int32).toInt = -2 := by decide
                exact W.iret (v := (-2)) hx hb hr (fun t ht hW => ⟨⟨(-2), (), rfl, trivial, ct60, by rw [ht]; exact hP, hD, hI, (by first | assumption | omega), (by first | assumption | omega)⟩, hS.F ht⟩) hS.2.2 dX9_giving_52
          · skip
            have c51 : ¬ (y50.toInt = 0) := fun q => c51 ((z_eq rfl (by decide : (0 : Int32).toInt = 0)).mpr q)
            refine lv_bipush (v := (-2)) hx hb dX9_giving_31 (by decide) ?_
            have q185 : ((-2) : Int32).toInt = -2 := by decide
            exact W.iret (v := (-2)) hx hb hr (fun t ht hW => ⟨⟨(-2), (), rfl, trivial, ct, by rw [ht]; exact hP, hD, hI, (by first | assumption | omega), (by first | assumption | omega)⟩, hS.F ht⟩) hS.2.2 dX9_giving_33
        · skip
          exact absurd c45 (by decide)
      · skip
        obtain ⟨rfl, h186⟩ := hr42
        replace h186 : ¬ (0 ≤ kn.toInt ∧ kn.toInt ≤ 255) := h186
        refine lv_if_ne (tgt := 18) hx hb dX9_giving_13 (by decide) (fun c187 => ?_) (fun c187 => ?_)
        · skip
          exact absurd c187 (by decide)
        · skip
          refine lv_iconst (v := (-1)) hx hb dX9_giving_16 (by decide) ?_
          have q188 : ((-1) : Int32).toInt = -1 := by decide
          exact W.iret (v := (-1)) hx hb hr (fun t ht hW => ⟨⟨(-1), (), rfl, trivial, ct, by rw [ht]; exact hP, hD, hI, (by first | assumption | omega), (by first | assumption | omega)⟩, hS.F ht⟩) hS.2.2 dX9_giving_17
  · skip
    obtain rfl := hr37
    refine lv_if_eq (tgt := 16) hx hb dX9_giving_6 (by decide) (fun c189 => ?_) (fun c189 => ?_)
    · skip
      refine lv_iconst (v := (-1)) hx hb dX9_giving_16 (by decide) ?_
      have q190 : ((-1) : Int32).toInt = -1 := by decide
      exact W.iret (v := (-1)) hx hb hr (fun t ht hW => ⟨⟨(-1), (), rfl, trivial, ct, by rw [ht]; exact hP, hD, hI, (by first | assumption | omega), (by first | assumption | omega)⟩, hS.F ht⟩) hS.2.2 dX9_giving_17
    · skip
      exact absurd c189 (by decide)
