set_option maxHeartbeats 4000000 in
set_option maxRecDepth 100000 in
theorem k_X9_tooFew (l : Launch) (g : zG) (sz : Nat) (ad : Nat → Nat) (me : Int32) (ct : Nat → va_E) (b : Int32) (kn : Int32) (hI : IR g ad me ct) : Met l yX9_tooFew (zW yX9_tooFew cX9_tooFew 8 (some .int)) ({ frames := 6, cells := 0, slots := 0, locals := 148 }) (va_Pc [.ref (ad 0), .int b, .int kn] (zA g (zw 32 ad ct) sz)) (va_Qi (fun (r : Int32) (_ : Unit) => (True)) (fun _ t => ∃ ct2 : Nat → va_E, zP g (zw 32 ad ct2) t.heap ∧ va_D (va_A (zw 32 ad ct) sz) (zw 32 ad ct2) ∧ IR g ad me ct2) (va_A (zw 32 ad ct) sz)) 0 0 (va_A (zw 32 ad ct) sz) := by
  refine Met.ofW (cc := cX9_tooFew) (maxL := 8) (ret := (some .int)) (by decide) rfl ?_
  intro p e s m args below meth c s₁ B hml hv
  obtain ⟨rfl, hsz, hP, hK, hD0, hN⟩ := hv
  have hx := B.exec
  have hb := B.bytes
  have hr := B.returns
  have hg := zW.law (atoms_spec (ws := (zW yX9_tooFew cX9_tooFew 8 (some .int))) B.pre)
  have hown : s.vm.findClass RX9 = some m.cls := findClass_of_methodNamed B.named
  have hlocks := B.notSynchronized
  have hpe0 := hI.1.1
  subst hsz
  have hD := hD0.self (sz := s.heap.size)
  generalize hAe : va_A (zw 32 ad ct) s.heap.size = A at hD ⊢
  have hA : ∀ q : Nat, s.heap.size ≤ q → A q := fun q h => by rw [← hAe]; exact Or.inr h
  have hS : va_S A s.heap s.heap [] := va_S.rf
  have hl := lv_entry ([.ref (ad 0), .int b, .int kn]) (n := 8) (Nat.le_of_ble_eq_true rfl)
  rw [lg_entry_eq]
  generalize (lg_sl ([.ref (ad 0), .int b, .int kn]) ++ List.replicate (8 - (lg_sl ([.ref (ad 0), .int b, .int kn])).length) Slot.unset).toArray = ls at hl ⊢
  have hl : lv_has ls 8 [(0, .ref (ad 0)), (1, .int b), (2, .int kn)] := hl
  have rg_b := z_rng b
  have rg_kn := z_rng kn
  refine lv_aload_n hx hb dX9_tooFew_0 rfl (lv_at hl 0 rfl) ?_
  refine lv_iload_n hx hb dX9_tooFew_1 rfl (lv_at hl 1 rfl) ?_
  obtain ⟨bks2, lks3, gos4, shn5, tpd6, pl07, ln08, flt9, opn10, cmy11, wtg12, nm013, mst14, sus15, cut16, h17, h18, h19, h20, h21, h22, h23, h24, h25, h26, h27, h28, h29, h30, h31, h32, h33, h34, h35, h36, hs1⟩ := a9_0 hI.1
  refine zc_i (va_runV (As := [.int b]) (rest := []) ⟨hx, hb, hml, hown, hg⟩ (k_X9_isBook l g ad me ct b hI) (cwV 1 hg (z_gV mm_1174 mm_1176 mm_58 mm_117 mm_1177) rfl rfl rfl (by decide +kernel) ⟨Nat.le_of_ble_eq_true rfl, Nat.le_of_ble_eq_true rfl⟩) ⟨(zR.pre [.ref (ad 0), .int b] hP hK hN).1, va_recv hK hP (ci := 9) (q0 := 0) rfl (zw_at (by omega) hs1), (zR.pre [.ref (ad 0), .int b] hP hK hN).2⟩ rfl rfl hl.1 rfl (lv_room (Nat.le_of_ble_eq_true rfl)) dX9_tooFew_2 ⟨Nat.le_of_ble_eq_true rfl, Nat.le_of_ble_eq_true rfl⟩) (fun r37 hr37 => ?_)
  rcases hr37 with hr37 | hr37
  · skip
    obtain ⟨rfl, h38, h39⟩ := hr37
    replace h38 : 0 ≤ b.toInt := h38
    replace h39 : b.toInt ≤ 3 := h39
    refine lv_if_eq (tgt := 15) hx hb dX9_tooFew_5 (by decide) (fun c40 => ?_) (fun c40 => ?_)
    · skip
      exact absurd c40 (by decide)
    · skip
      refine lv_iload_n hx hb dX9_tooFew_8 rfl (lv_at hl 2 rfl) ?_
      refine zc_i (va_runS (As := [.int kn]) (rest := []) ⟨hx, hb, hml, hown, hg⟩ (k_X9_isKnown l g ad me ct kn hI) (va_cwS 1 hg (z_gS mm_1294 mm_1295 mm_117 mm_1296) rfl rfl rfl (by decide +kernel) ⟨Nat.le_of_ble_eq_true rfl, Nat.le_of_ble_eq_true rfl⟩) (zR.pre [.int kn] hP hK hN) rfl rfl hl.1 rfl (lv_room (Nat.le_of_ble_eq_true rfl)) dX9_tooFew_9 ⟨Nat.le_of_ble_eq_true rfl, Nat.le_of_ble_eq_true rfl⟩) (fun r41 hr41 => ?_)
      rcases hr41 with hr41 | hr41
      · skip
        obtain ⟨rfl, h42, h43⟩ := hr41
        replace h42 : 0 ≤ kn.toInt := h42
        replace h43 : kn.toInt ≤ 255 := h43
        refine lv_if_ne (tgt := 17) hx hb dX9_tooFew_12 (by decide) (fun c44 => ?_) (fun c44 => ?_)
        · skip
          refine lv_aload_n hx hb dX9_tooFew_17 rfl (lv_at hl 0 rfl) ?_
          refine lv_iload_n hx hb dX9_tooFew_18 rfl (lv_at hl 1 rfl) ?_
          refine lv_iload_n hx hb dX9_tooFew_19 rfl (lv_at hl 2 rfl) ?_
          have hFc := zw_free hD hS hA
          refine va_callv (va_runV (As := [.int b, .int kn]) (rest := []) ⟨hx, hb, hml, hown, hg⟩ (k_X9_laysFitting l g _ ad me ct b kn (by first | omega | decide) (by first | omega | decide) hI) (cwV 2 hg (z_gV mm_1329 mm_1331 mm_85 mm_117 mm_1332) rfl rfl rfl (by decide +kernel) ⟨Nat.le_of_ble_eq_true rfl, Nat.le_of_ble_eq_true rfl⟩) ⟨(zA.pre [.ref (ad 0), .int b, .int kn] hP hK hD hN).1, va_recv hK hP (ci := 9) (q0 := 0) rfl (zw_at (by omega) hs1), (zA.pre [.ref (ad 0), .int b, .int kn] hP hK hD hN).2⟩ rfl rfl hl.1 rfl (lv_room (Nat.le_of_ble_eq_true rfl)) dX9_tooFew_20 ⟨Nat.le_of_ble_eq_true rfl, Nat.le_of_ble_eq_true rfl⟩) hS (fun q _ h => hFc q h) hFc (fun _ t H1 locs ht hvm hr45 hB hz1 hk1 hS => ?_)
          obtain ⟨ct46, hP1, hD1, hI, hk47, hk48, hk49⟩ := hB
          rw [ht] at hP1
          have hD := hD1.weaken (fun _ _ _ h => hFc _ h)
          generalize H1 = H at hP1 hS ⊢
          have hP := hP1
          refine W.widen (k := 0) (n := 0) (Nat.le_refl _) (Nat.le_refl _) ?_
          have hs50 : ct46 0 = .inr (9, [.int me, .ref (ad 1), .ref (ad 2), .ref (ad 3), .ref (ad 4), .int bks2, .int lks3, .int gos4, .int shn5, .ref (ad 5), .ref (ad 6), .ref (ad 7), .ref (ad 8), .ref (ad 9), .ref (ad 10), .ref (ad 11), .int tpd6, .int pl07, .int ln08, .int flt9, .int opn10, .int cmy11, .int wtg12, .int nm013, .ref (ad 12), .ref (ad 13), .ref (ad 14), .ref (ad 15), .ref (ad 16), .ref (ad 17), .ref (ad 18), .ref (ad 19), .ref (ad 20), .ref (ad 21), .ref (ad 22), .ref (ad 23), .ref (ad 24), .ref (ad 25), .ref (ad 26), .ref (ad 27), .int mst14, .int sus15, .ref (ad 28), .ref (ad 29), .ref (ad 30), .ref (ad 31), .int cut16]) := hk47.trans hs1
          refine lv_iconst (v := 0) hx hb dX9_tooFew_23 (by decide) ?_
          refine lv_istore_n (lv' := [(3, .int 0), (0, .ref (ad 0)), (1, .int b), (2, .int kn)]) hx hb dX9_tooFew_24 rfl hl (by decide) rfl (fun ls hl => ?_)
          refine lv_iconst (v := 1) hx hb dX9_tooFew_25 (by decide) ?_
          refine lv_istore (lv' := [(4, .int 1), (3, .int 0), (0, .ref (ad 0)), (1, .int b), (2, .int kn)]) hx hb dX9_tooFew_26 hl (by decide) rfl (fun ls hl => ?_)
          have loop28 : ∀ (n28 : Nat) (v4_28 : Int32) (v3_28 : Int32) (ct51 : Nat → va_E) (H : Heap) (locs : List Loc) (ls : Array Slot), ((256 - v4_28.toInt : Int).toNat < n28) → (1 ≤ v4_28.toInt ∧ v4_28.toInt ≤ 256) → (0 ≤ v3_28.toInt ∧ v3_28.toInt ≤ 255) → (IR g ad me ct51) → zP g (zw 32 ad ct51) H → va_D A (zw 32 ad ct51) → va_S A s.heap H locs → lv_has ls 8 [(4, .int v4_28), (3, .int v3_28), (0, .ref (ad 0)), (1, .int b), (2, .int kn)] → W p l e (headSpec (zW yX9_tooFew cX9_tooFew 8 (some .int)) ({ frames := 6, cells := 0, slots := 0, locals := 148 })).room s m ([.ref (ad 0), .int b, .int kn] : List Value).toArray below meth c H locs 0 0 (MQ below (va_Qi (fun (r : Int32) (_ : Unit) => (True)) (fun _ t => ∃ ct2 : Nat → va_E, zP g (zw 32 ad ct2) t.heap ∧ va_D A (zw 32 ad ct2) ∧ IR g ad me ct2) A) ([.ref (ad 0), .int b, .int kn] : List Value).toArray s 0 0 A) (F0 m 28 ls []) := by
            intro n28
            induction n28 with
            | zero =>
              intro v4_28 v3_28 ct51 H locs ls hn28 b4_28 b3_28 hI hP hD hS hl
              exact absurd hn28 (Nat.not_lt_zero _)
            | succ n28 ih28 =>
              intro v4_28 v3_28 ct51 H locs ls hn28 b4_28 b3_28 hI hP hD hS hl
              refine lv_iload hx hb dX9_tooFew_28 (lv_at hl 0 rfl) ?_
              refine lv_iconst (v := 1) hx hb dX9_tooFew_30 (by decide) ?_
              refine lv_aload_n hx hb dX9_tooFew_31 rfl (lv_at hl 2 rfl) ?_
              obtain ⟨bks53, lks54, gos55, shn56, tpd57, pl058, ln059, flt60, opn61, cmy62, wtg63, nm064, mst65, sus66, cut67, h68, h69, h70, h71, h72, h73, h74, h75, h76, h77, h78, h79, h80, h81, h82, h83, h84, h85, h86, h87, hs52⟩ := a9_0 hI.1
              refine va_get (D := g.1) (ci := 9) (v := .ref (ad 5)) (C := RX9) (T := TX9) (N := 47) hx hb hg inG9 hown hK hP 0 (zw_at (by omega) hs52) rfl 9 (by decide) (hg _ mm_967) (fun _ h9 => h9) rfl dX9_tooFew_32 ?_
              refine lv_iload_n hx hb dX9_tooFew_35 rfl (lv_at hl 3 rfl) ?_
              obtain ⟨f89, hp90, hs88⟩ := a9_5 hI.1
              refine va_iald hx hb hK hP 5 0 (zw_at (by omega) hs88) rfl (z_in rfl (by omega) (by omega)) dX9_tooFew_36 ?_
              refine lv_topi (fun y91 ey91 => ?_)
              have hy91 := hp90 _ (z_clt (x := b) rfl (by omega) (by omega))
              rw [← ey91] at hy91
              have hy91 : 0 ≤ y91.toInt ∧ y91.toInt ≤ 8 := hy91
              refine lv_ishl hx hb dX9_tooFew_37 ?_
              refine lv_topi (fun x92 ex92 => ?_)
              have tx92 := z_shl1 (y := y91) rfl (by omega) (k := 8) (by decide) (by omega)
              rw [← ex92] at tx92
              refine lv_icmp_ge (tgt := 161) hx hb dX9_tooFew_38 (by decide) (fun c93 => ?_) (fun c93 => ?_)
              · skip
                have c93 : x92.toInt ≤ v4_28.toInt := (z_le rfl rfl).mp c93
                refine lv_iload_n hx hb dX9_tooFew_161 rfl (lv_at hl 1 rfl) ?_
                exact W.iret (v := v3_28) hx hb hr (fun t ht hW => ⟨⟨v3_28, (), rfl, trivial, ct51, by rw [ht]; exact hP, hD, hI⟩, hS.F ht⟩) hS.2.2 dX9_tooFew_162
              · skip
                have c93 : ¬ (x92.toInt ≤ v4_28.toInt) := fun q => c93 ((z_le rfl rfl).mpr q)
                refine lv_iconst (v := 0) hx hb dX9_tooFew_41 (by decide) ?_
                refine lv_istore (lv' := [(5, .int 0), (4, .int v4_28), (3, .int v3_28), (0, .ref (ad 0)), (1, .int b), (2, .int kn)]) hx hb dX9_tooFew_42 hl (by decide) rfl (fun ls hl => ?_)
                refine lv_iconst (v := 0) hx hb dX9_tooFew_44 (by decide) ?_
                refine lv_istore (lv' := [(6, .int 0), (5, .int 0), (4, .int v4_28), (3, .int v3_28), (0, .ref (ad 0)), (1, .int b), (2, .int kn)]) hx hb dX9_tooFew_45 hl (by decide) rfl (fun ls hl => ?_)
                refine lv_iconst (v := 0) hx hb dX9_tooFew_47 (by decide) ?_
                refine lv_istore (lv' := [(7, .int 0), (6, .int 0), (5, .int 0), (4, .int v4_28), (3, .int v3_28), (0, .ref (ad 0)), (1, .int b), (2, .int kn)]) hx hb dX9_tooFew_48 hl (by decide) rfl (fun ls hl => ?_)
                have loop50 : ∀ (n50 : Nat) (v7_50 : Int32) (v6_50 : Int32) (v5_50 : Int32) (ct94 : Nat → va_E) (H : Heap) (locs : List Loc) (ls : Array Slot), ((8 - v7_50.toInt : Int).toNat < n50) → (0 ≤ v7_50.toInt ∧ v7_50.toInt ≤ 8) → (0 ≤ v6_50.toInt ∧ v6_50.toInt ≤ 1) → (0 ≤ v5_50.toInt ∧ v5_50.toInt ≤ 65535) → (IR g ad me ct94) → zP g (zw 32 ad ct94) H → va_D A (zw 32 ad ct94) → va_S A s.heap H locs → lv_has ls 8 [(7, .int v7_50), (6, .int v6_50), (5, .int v5_50), (4, .int v4_28), (3, .int v3_28), (0, .ref (ad 0)), (1, .int b), (2, .int kn)] → W p l e (headSpec (zW yX9_tooFew cX9_tooFew 8 (some .int)) ({ frames := 6, cells := 0, slots := 0, locals := 148 })).room s m ([.ref (ad 0), .int b, .int kn] : List Value).toArray below meth c H locs 0 0 (MQ below (va_Qi (fun (r : Int32) (_ : Unit) => (True)) (fun _ t => ∃ ct2 : Nat → va_E, zP g (zw 32 ad ct2) t.heap ∧ va_D A (zw 32 ad ct2) ∧ IR g ad me ct2) A) ([.ref (ad 0), .int b, .int kn] : List Value).toArray s 0 0 A) (F0 m 50 ls []) := by
                  intro n50
                  induction n50 with
                  | zero =>
                    intro v7_50 v6_50 v5_50 ct94 H locs ls hn50 b7_50 b6_50 b5_50 hI hP hD hS hl
                    exact absurd hn50 (Nat.not_lt_zero _)
                  | succ n50 ih50 =>
                    intro v7_50 v6_50 v5_50 ct94 H locs ls hn50 b7_50 b6_50 b5_50 hI hP hD hS hl
                    refine lv_iload hx hb dX9_tooFew_50 (lv_at hl 0 rfl) ?_
                    refine lv_aload_n hx hb dX9_tooFew_52 rfl (lv_at hl 5 rfl) ?_
                    obtain ⟨bks96, lks97, gos98, shn99, tpd100, pl0101, ln0102, flt103, opn104, cmy105, wtg106, nm0107, mst108, sus109, cut110, h111, h112, h113, h114, h115, h116, h117, h118, h119, h120, h121, h122, h123, h124, h125, h126, h127, h128, h129, h130, hs95⟩ := a9_0 hI.1
                    refine va_get (D := g.1) (ci := 9) (v := .ref (ad 5)) (C := RX9) (T := TX9) (N := 47) hx hb hg inG9 hown hK hP 0 (zw_at (by omega) hs95) rfl 9 (by decide) (hg _ mm_967) (fun _ h9 => h9) rfl dX9_tooFew_53 ?_
                    refine lv_iload_n hx hb dX9_tooFew_56 rfl (lv_at hl 6 rfl) ?_
                    obtain ⟨f132, hp133, hs131⟩ := a9_5 hI.1
                    refine va_iald hx hb hK hP 5 0 (zw_at (by omega) hs131) rfl (z_in rfl (by omega) (by omega)) dX9_tooFew_57 ?_
                    refine lv_topi (fun y134 ey134 => ?_)
                    have hy134 := hp133 _ (z_clt (x := b) rfl (by omega) (by omega))
                    rw [← ey134] at hy134
                    have hy134 : 0 ≤ y134.toInt ∧ y134.toInt ≤ 8 := hy134
                    refine lv_icmp_ge (tgt := 118) hx hb dX9_tooFew_58 (by decide) (fun c135 => ?_) (fun c135 => ?_)
                    · skip
                      have c135 : y134.toInt ≤ v7_50.toInt := (z_le rfl rfl).mp c135
                      refine lv_iload hx hb dX9_tooFew_118 (lv_at hl 1 rfl) ?_
                      refine lv_if_ne (tgt := 155) hx hb dX9_tooFew_120 (by decide) (fun c136 => ?_) (fun c136 => ?_)
                      · skip
                        have c136 : ¬ (v6_50.toInt = 0) := fun q => c136 ((z_eq rfl (by decide : (0 : Int32).toInt = 0)).mpr q)
                        obtain ⟨x137, ex137⟩ : ∃ y : Int32, y = v4_28 + 1 := ⟨_, rfl⟩
                        have tx137 : x137.toInt = v4_28.toInt + 1 := by rw [ex137]; exact z_add rfl (by decide : (1 : Int32).toInt = 1) (by omega) (by omega)
                        refine lv_iinc (v := x137) (lv' := [(4, .int x137), (7, .int v7_50), (6, .int v6_50), (5, .int v5_50), (3, .int v3_28), (0, .ref (ad 0)), (1, .int b), (2, .int kn)]) hx hb dX9_tooFew_155 hl (k := 3) rfl (by rw [ex137]; rfl) (by decide) rfl (fun ls hl => ?_)
                        refine lv_goto (tgt := 28) hx hb dX9_tooFew_158 (by decide) ?_
                        exact ih28 x137 v3_28 ct94 _ _ ls (by omega) (by first | assumption | omega | decide) (by first | assumption | omega | decide) hI hP hD hS (lv_sub hl [0, 4, 5, 6, 7] rfl)
                      · skip
                        have c136 : v6_50.toInt = 0 := (z_eq rfl (by decide : (0 : Int32).toInt = 0)).mp c136
                        refine lv_iload hx hb dX9_tooFew_123 (lv_at hl 2 rfl) ?_
                        refine zc_i (va_runS (As := [.int v5_50]) (rest := []) ⟨hx, hb, hml, hown, hg⟩ (k_X9_bits l g ad me ct94 v5_50 hI) (va_cwS 1 hg (z_gS mm_1373 mm_1374 mm_117 mm_1375) rfl rfl rfl (by decide +kernel) ⟨Nat.le_of_ble_eq_true rfl, Nat.le_of_ble_eq_true rfl⟩) (zR.pre [.int v5_50] hP hK hN) rfl rfl hl.1 rfl (lv_room (Nat.le_of_ble_eq_true rfl)) dX9_tooFew_125 ⟨Nat.le_of_ble_eq_true rfl, Nat.le_of_ble_eq_true rfl⟩) (fun r138 hr138 => ?_)
                        obtain ⟨hr138_0, hr138_1⟩ := hr138
                        have hr138_0 : 0 ≤ r138.toInt := hr138_0
                        have hr138_1 : r138.toInt ≤ 16 := hr138_1
                        refine lv_iload hx hb dX9_tooFew_128 (lv_at hl 3 rfl) ?_
                        refine zc_i (va_runS (As := [.int v4_28]) (rest := [.int r138]) ⟨hx, hb, hml, hown, hg⟩ (k_X9_bits l g ad me ct94 v4_28 hI) (va_cwS 1 hg (z_gS mm_1373 mm_1374 mm_117 mm_1375) rfl rfl rfl (by decide +kernel) ⟨Nat.le_of_ble_eq_true rfl, Nat.le_of_ble_eq_true rfl⟩) (zR.pre [.int v4_28] hP hK hN) rfl rfl hl.1 rfl (lv_room (Nat.le_of_ble_eq_true rfl)) dX9_tooFew_130 ⟨Nat.le_of_ble_eq_true rfl, Nat.le_of_ble_eq_true rfl⟩) (fun r139 hr139 => ?_)
                        obtain ⟨hr139_0, hr139_1⟩ := hr139
                        have hr139_0 : 0 ≤ r139.toInt := hr139_0
                        have hr139_1 : r139.toInt ≤ 16 := hr139_1
                        refine lv_icmp_ge (tgt := 155) hx hb dX9_tooFew_133 (by decide) (fun c140 => ?_) (fun c140 => ?_)
                        · skip
                          have c140 : r139.toInt ≤ r138.toInt := (z_le rfl rfl).mp c140
                          obtain ⟨x141, ex141⟩ : ∃ y : Int32, y = v4_28 + 1 := ⟨_, rfl⟩
                          have tx141 : x141.toInt = v4_28.toInt + 1 := by rw [ex141]; exact z_add rfl (by decide : (1 : Int32).toInt = 1) (by omega) (by omega)
                          refine lv_iinc (v := x141) (lv' := [(4, .int x141), (7, .int v7_50), (6, .int v6_50), (5, .int v5_50), (3, .int v3_28), (0, .ref (ad 0)), (1, .int b), (2, .int kn)]) hx hb dX9_tooFew_155 hl (k := 3) rfl (by rw [ex141]; rfl) (by decide) rfl (fun ls hl => ?_)
                          refine lv_goto (tgt := 28) hx hb dX9_tooFew_158 (by decide) ?_
                          exact ih28 x141 v3_28 ct94 _ _ ls (by omega) (by first | assumption | omega | decide) (by first | assumption | omega | decide) hI hP hD hS (lv_sub hl [0, 4, 5, 6, 7] rfl)
                        · skip
                          have c140 : ¬ (r139.toInt ≤ r138.toInt) := fun q => c140 ((z_le rfl rfl).mpr q)
                          refine lv_iload_n hx hb dX9_tooFew_136 rfl (lv_at hl 4 rfl) ?_
                          refine lv_if_eq (tgt := 152) hx hb dX9_tooFew_137 (by decide) (fun c142 => ?_) (fun c142 => ?_)
                          · skip
                            have c142 : v3_28.toInt = 0 := (z_eq rfl (by decide : (0 : Int32).toInt = 0)).mp c142
                            refine lv_iload hx hb dX9_tooFew_152 (lv_at hl 3 rfl) ?_
                            refine lv_istore_n (lv' := [(3, .int v4_28), (7, .int v7_50), (6, .int v6_50), (5, .int v5_50), (4, .int v4_28), (0, .ref (ad 0)), (1, .int b), (2, .int kn)]) hx hb dX9_tooFew_154 rfl hl (by decide) rfl (fun ls hl => ?_)
                            obtain ⟨x143, ex143⟩ : ∃ y : Int32, y = v4_28 + 1 := ⟨_, rfl⟩
                            have tx143 : x143.toInt = v4_28.toInt + 1 := by rw [ex143]; exact z_add rfl (by decide : (1 : Int32).toInt = 1) (by omega) (by omega)
                            refine lv_iinc (v := x143) (lv' := [(4, .int x143), (3, .int v4_28), (7, .int v7_50), (6, .int v6_50), (5, .int v5_50), (0, .ref (ad 0)), (1, .int b), (2, .int kn)]) hx hb dX9_tooFew_155 hl (k := 4) rfl (by rw [ex143]; rfl) (by decide) rfl (fun ls hl => ?_)
                            refine lv_goto (tgt := 28) hx hb dX9_tooFew_158 (by decide) ?_
                            exact ih28 x143 v4_28 ct94 _ _ ls (by omega) (by first | assumption | omega | decide) (by first | assumption | omega | decide) hI hP hD hS (lv_sub hl [0, 1, 5, 6, 7] rfl)
                          · skip
                            have c142 : ¬ (v3_28.toInt = 0) := fun q => c142 ((z_eq rfl (by decide : (0 : Int32).toInt = 0)).mpr q)
                            refine lv_iload hx hb dX9_tooFew_140 (lv_at hl 3 rfl) ?_
                            refine zc_i (va_runS (As := [.int v4_28]) (rest := []) ⟨hx, hb, hml, hown, hg⟩ (k_X9_bits l g ad me ct94 v4_28 hI) (va_cwS 1 hg (z_gS mm_1373 mm_1374 mm_117 mm_1375) rfl rfl rfl (by decide +kernel) ⟨Nat.le_of_ble_eq_true rfl, Nat.le_of_ble_eq_true rfl⟩) (zR.pre [.int v4_28] hP hK hN) rfl rfl hl.1 rfl (lv_room (Nat.le_of_ble_eq_true rfl)) dX9_tooFew_142 ⟨Nat.le_of_ble_eq_true rfl, Nat.le_of_ble_eq_true rfl⟩) (fun r144 hr144 => ?_)
                            obtain ⟨hr144_0, hr144_1⟩ := hr144
                            have hr144_0 : 0 ≤ r144.toInt := hr144_0
                            have hr144_1 : r144.toInt ≤ 16 := hr144_1
                            refine lv_iload_n hx hb dX9_tooFew_145 rfl (lv_at hl 4 rfl) ?_
                            refine zc_i (va_runS (As := [.int v3_28]) (rest := [.int r144]) ⟨hx, hb, hml, hown, hg⟩ (k_X9_bits l g ad me ct94 v3_28 hI) (va_cwS 1 hg (z_gS mm_1373 mm_1374 mm_117 mm_1375) rfl rfl rfl (by decide +kernel) ⟨Nat.le_of_ble_eq_true rfl, Nat.le_of_ble_eq_true rfl⟩) (zR.pre [.int v3_28] hP hK hN) rfl rfl hl.1 rfl (lv_room (Nat.le_of_ble_eq_true rfl)) dX9_tooFew_146 ⟨Nat.le_of_ble_eq_true rfl, Nat.le_of_ble_eq_true rfl⟩) (fun r145 hr145 => ?_)
                            obtain ⟨hr145_0, hr145_1⟩ := hr145
                            have hr145_0 : 0 ≤ r145.toInt := hr145_0
                            have hr145_1 : r145.toInt ≤ 16 := hr145_1
                            refine lv_icmp_ge (tgt := 155) hx hb dX9_tooFew_149 (by decide) (fun c146 => ?_) (fun c146 => ?_)
                            · skip
                              have c146 : r145.toInt ≤ r144.toInt := (z_le rfl rfl).mp c146
                              obtain ⟨x147, ex147⟩ : ∃ y : Int32, y = v4_28 + 1 := ⟨_, rfl⟩
                              have tx147 : x147.toInt = v4_28.toInt + 1 := by rw [ex147]; exact z_add rfl (by decide : (1 : Int32).toInt = 1) (by omega) (by omega)
                              refine lv_iinc (v := x147) (lv' := [(4, .int x147), (7, .int v7_50), (6, .int v6_50), (5, .int v5_50), (3, .int v3_28), (0, .ref (ad 0)), (1, .int b), (2, .int kn)]) hx hb dX9_tooFew_155 hl (k := 3) rfl (by rw [ex147]; rfl) (by decide) rfl (fun ls hl => ?_)
                              refine lv_goto (tgt := 28) hx hb dX9_tooFew_158 (by decide) ?_
                              exact ih28 x147 v3_28 ct94 _ _ ls (by omega) (by first | assumption | omega | decide) (by first | assumption | omega | decide) hI hP hD hS (lv_sub hl [0, 4, 5, 6, 7] rfl)
                            · skip
                              have c146 : ¬ (r145.toInt ≤ r144.toInt) := fun q => c146 ((z_le rfl rfl).mpr q)
                              refine lv_iload hx hb dX9_tooFew_152 (lv_at hl 3 rfl) ?_
                              refine lv_istore_n (lv' := [(3, .int v4_28), (7, .int v7_50), (6, .int v6_50), (5, .int v5_50), (4, .int v4_28), (0, .ref (ad 0)), (1, .int b), (2, .int kn)]) hx hb dX9_tooFew_154 rfl hl (by decide) rfl (fun ls hl => ?_)
                              obtain ⟨x148, ex148⟩ : ∃ y : Int32, y = v4_28 + 1 := ⟨_, rfl⟩
                              have tx148 : x148.toInt = v4_28.toInt + 1 := by rw [ex148]; exact z_add rfl (by decide : (1 : Int32).toInt = 1) (by omega) (by omega)
                              refine lv_iinc (v := x148) (lv' := [(4, .int x148), (3, .int v4_28), (7, .int v7_50), (6, .int v6_50), (5, .int v5_50), (0, .ref (ad 0)), (1, .int b), (2, .int kn)]) hx hb dX9_tooFew_155 hl (k := 4) rfl (by rw [ex148]; rfl) (by decide) rfl (fun ls hl => ?_)
                              refine lv_goto (tgt := 28) hx hb dX9_tooFew_158 (by decide) ?_
                              exact ih28 x148 v4_28 ct94 _ _ ls (by omega) (by first | assumption | omega | decide) (by first | assumption | omega | decide) hI hP hD hS (lv_sub hl [0, 1, 5, 6, 7] rfl)
                    · skip
                      have c135 : ¬ (y134.toInt ≤ v7_50.toInt) := fun q => c135 ((z_le rfl rfl).mpr q)
                      refine lv_iload hx hb dX9_tooFew_61 (lv_at hl 3 rfl) ?_
                      refine lv_iload hx hb dX9_tooFew_63 (lv_at hl 0 rfl) ?_
                      refine lv_ishr hx hb dX9_tooFew_65 ?_
                      refine lv_topi (fun x149 ex149 => ?_)
                      have tx149 := z_shr (x := v4_28) rfl (by omega) v7_50
                      rw [← ex149] at tx149
                      refine lv_iconst (v := 1) hx hb dX9_tooFew_66 (by decide) ?_
                      refine lv_iand hx hb dX9_tooFew_67 ?_
                      refine lv_topi (fun x150 ex150 => ?_)
                      have tx150 := z_andr (x := x149) (y := 1) (by decide : (1 : Int32).toInt = 1) (by omega)
                      rw [← ex150] at tx150
                      refine lv_if_ne (tgt := 74) hx hb dX9_tooFew_68 (by decide) (fun c151 => ?_) (fun c151 => ?_)
                      · skip
                        have c151 : ¬ (x150.toInt = 0) := fun q => c151 ((z_eq rfl (by decide : (0 : Int32).toInt = 0)).mpr q)
                        refine lv_iload hx hb dX9_tooFew_74 (lv_at hl 1 rfl) ?_
                        refine lv_if_ne (tgt := 93) hx hb dX9_tooFew_76 (by decide) (fun c152 => ?_) (fun c152 => ?_)
                        · skip
                          have c152 : ¬ (v6_50.toInt = 0) := fun q => c152 ((z_eq rfl (by decide : (0 : Int32).toInt = 0)).mpr q)
                          refine lv_iconst (v := 1) hx hb dX9_tooFew_93 (by decide) ?_
                          refine lv_goto (tgt := 98) hx hb dX9_tooFew_94 (by decide) ?_
                          refine lv_istore (lv' := [(6, .int 1), (7, .int v7_50), (5, .int v5_50), (4, .int v4_28), (3, .int v3_28), (0, .ref (ad 0)), (1, .int b), (2, .int kn)]) hx hb dX9_tooFew_98 hl (by decide) rfl (fun ls hl => ?_)
                          refine lv_iload hx hb dX9_tooFew_100 (lv_at hl 2 rfl) ?_
                          refine lv_aload_n hx hb dX9_tooFew_102 rfl (lv_at hl 5 rfl) ?_
                          refine va_get (D := g.1) (ci := 9) (v := .ref (ad 20)) (C := RX9) (T := TX9) (N := 47) hx hb hg inG9 hown hK hP 0 (zw_at (by omega) hs95) rfl 32 (by decide) (hg _ mm_990) (fun _ h9 => h9) rfl dX9_tooFew_103 ?_
                          refine lv_iload hx hb dX9_tooFew_106 (lv_at hl 1 rfl) ?_
                          obtain ⟨f154, hp155, hs153⟩ := a9_20 hI.1
                          refine va_iald hx hb hK hP 20 0 (zw_at (by omega) hs153) rfl (z_in rfl (by omega) (by omega)) dX9_tooFew_108 ?_
                          refine lv_topi (fun y156 ey156 => ?_)
                          have hy156 := hp155 _ (z_clt (x := v7_50) rfl (by omega) (by omega))
                          rw [← ey156] at hy156
                          have hy156 : 0 ≤ y156.toInt ∧ y156.toInt ≤ 65535 := hy156
                          refine lv_ior hx hb dX9_tooFew_109 ?_
                          refine lv_topi (fun x157 ex157 => ?_)
                          have tx157 := z_or (x := v5_50) (y := y156) rfl rfl (k := 16) (N := 65536) (by decide) (by decide) (by omega) (by omega) (by omega) (by omega)
                          rw [← ex157] at tx157
                          refine lv_istore (lv' := [(5, .int x157), (6, .int 1), (7, .int v7_50), (4, .int v4_28), (3, .int v3_28), (0, .ref (ad 0)), (1, .int b), (2, .int kn)]) hx hb dX9_tooFew_110 hl (by decide) rfl (fun ls hl => ?_)
                          obtain ⟨x158, ex158⟩ : ∃ y : Int32, y = v7_50 + 1 := ⟨_, rfl⟩
                          have tx158 : x158.toInt = v7_50.toInt + 1 := by rw [ex158]; exact z_add rfl (by decide : (1 : Int32).toInt = 1) (by omega) (by omega)
                          refine lv_iinc (v := x158) (lv' := [(7, .int x158), (5, .int x157), (6, .int 1), (4, .int v4_28), (3, .int v3_28), (0, .ref (ad 0)), (1, .int b), (2, .int kn)]) hx hb dX9_tooFew_112 hl (k := 2) rfl (by rw [ex158]; rfl) (by decide) rfl (fun ls hl => ?_)
                          refine lv_goto (tgt := 50) hx hb dX9_tooFew_115 (by decide) ?_
                          exact ih50 x158 (1 : Int32) x157 ct94 _ _ ls (by omega) (by first | assumption | omega | decide) (by first | assumption | omega | decide) (by first | assumption | omega | decide) hI hP hD hS (lv_sub hl [0, 2, 1, 3, 4, 5, 6, 7] rfl)
                        · skip
                          have c152 : v6_50.toInt = 0 := (z_eq rfl (by decide : (0 : Int32).toInt = 0)).mp c152
                          refine lv_aload_n hx hb dX9_tooFew_79 rfl (lv_at hl 5 rfl) ?_
                          refine va_get (D := g.1) (ci := 9) (v := .ref (ad 10)) (C := RX9) (T := TX9) (N := 47) hx hb hg inG9 hown hK hP 0 (zw_at (by omega) hs95) rfl 14 (by decide) (hg _ mm_972) (fun _ h9 => h9) rfl dX9_tooFew_80 ?_
                          refine lv_iload_n hx hb dX9_tooFew_83 rfl (lv_at hl 6 rfl) ?_
                          refine lv_iload hx hb dX9_tooFew_84 (lv_at hl 0 rfl) ?_
                          refine zc_i (va_runS (As := [.int b, .int v7_50]) (rest := [.ref (ad 10)]) ⟨hx, hb, hml, hown, hg⟩ (k_X9_at l g ad me ct94 b v7_50 (by first | omega | decide) (by first | omega | decide) hI) (va_cwS 2 hg (z_gS mm_1159 mm_1160 mm_117 mm_1161) rfl rfl rfl (by decide +kernel) ⟨Nat.le_of_ble_eq_true rfl, Nat.le_of_ble_eq_true rfl⟩) (zR.pre [.int b, .int v7_50] hP hK hN) rfl rfl hl.1 rfl (lv_room (Nat.le_of_ble_eq_true rfl)) dX9_tooFew_86 ⟨Nat.le_of_ble_eq_true rfl, Nat.le_of_ble_eq_true rfl⟩) (fun r159 hr159 => ?_)
                          have hr159_0 := hr159
                          have hr159_0 : r159.toInt = 8 * b.toInt + v7_50.toInt := hr159_0
                          obtain ⟨f161, hp162, hs160⟩ := a9_10 hI.1
                          refine va_zald hx hb hK hP 10 3 (zw_at (by omega) hs160) rfl (z_in rfl (by omega) (by omega)) dX9_tooFew_89 ?_
                          refine lv_topi (fun y163 ey163 => ?_)
                          have hy163 := hp162 _ (z_clt (x := r159) rfl (by omega) (by omega))
                          rw [← ey163] at hy163
                          have hy163 : y163 = 0 ∨ y163 = 1 := hy163
                          have by163 := z_b01 hy163
                          refine lv_if_eq (tgt := 97) hx hb dX9_tooFew_90 (by decide) (fun c164 => ?_) (fun c164 => ?_)
                          · skip
                            have c164 : y163.toInt = 0 := (z_eq rfl (by decide : (0 : Int32).toInt = 0)).mp c164
                            refine lv_iconst (v := 0) hx hb dX9_tooFew_97 (by decide) ?_
                            refine lv_istore (lv' := [(6, .int 0), (7, .int v7_50), (5, .int v5_50), (4, .int v4_28), (3, .int v3_28), (0, .ref (ad 0)), (1, .int b), (2, .int kn)]) hx hb dX9_tooFew_98 hl (by decide) rfl (fun ls hl => ?_)
                            refine lv_iload hx hb dX9_tooFew_100 (lv_at hl 2 rfl) ?_
                            refine lv_aload_n hx hb dX9_tooFew_102 rfl (lv_at hl 5 rfl) ?_
                            refine va_get (D := g.1) (ci := 9) (v := .ref (ad 20)) (C := RX9) (T := TX9) (N := 47) hx hb hg inG9 hown hK hP 0 (zw_at (by omega) hs95) rfl 32 (by decide) (hg _ mm_990) (fun _ h9 => h9) rfl dX9_tooFew_103 ?_
                            refine lv_iload hx hb dX9_tooFew_106 (lv_at hl 1 rfl) ?_
                            obtain ⟨f166, hp167, hs165⟩ := a9_20 hI.1
                            refine va_iald hx hb hK hP 20 0 (zw_at (by omega) hs165) rfl (z_in rfl (by omega) (by omega)) dX9_tooFew_108 ?_
                            refine lv_topi (fun y168 ey168 => ?_)
                            have hy168 := hp167 _ (z_clt (x := v7_50) rfl (by omega) (by omega))
                            rw [← ey168] at hy168
                            have hy168 : 0 ≤ y168.toInt ∧ y168.toInt ≤ 65535 := hy168
                            refine lv_ior hx hb dX9_tooFew_109 ?_
                            refine lv_topi (fun x169 ex169 => ?_)
                            have tx169 := z_or (x := v5_50) (y := y168) rfl rfl (k := 16) (N := 65536) (by decide) (by decide) (by omega) (by omega) (by omega) (by omega)
                            rw [← ex169] at tx169
                            refine lv_istore (lv' := [(5, .int x169), (6, .int 0), (7, .int v7_50), (4, .int v4_28), (3, .int v3_28), (0, .ref (ad 0)), (1, .int b), (2, .int kn)]) hx hb dX9_tooFew_110 hl (by decide) rfl (fun ls hl => ?_)
                            obtain ⟨x170, ex170⟩ : ∃ y : Int32, y = v7_50 + 1 := ⟨_, rfl⟩
                            have tx170 : x170.toInt = v7_50.toInt + 1 := by rw [ex170]; exact z_add rfl (by decide : (1 : Int32).toInt = 1) (by omega) (by omega)
                            refine lv_iinc (v := x170) (lv' := [(7, .int x170), (5, .int x169), (6, .int 0), (4, .int v4_28), (3, .int v3_28), (0, .ref (ad 0)), (1, .int b), (2, .int kn)]) hx hb dX9_tooFew_112 hl (k := 2) rfl (by rw [ex170]; rfl) (by decide) rfl (fun ls hl => ?_)
                            refine lv_goto (tgt := 50) hx hb dX9_tooFew_115 (by decide) ?_
                            exact ih50 x170 (0 : Int32) x169 ct94 _ _ ls (by omega) (by first | assumption | omega | decide) (by first | assumption | omega | decide) (by first | assumption | omega | decide) hI hP hD hS (lv_sub hl [0, 2, 1, 3, 4, 5, 6, 7] rfl)
                          · skip
                            have c164 : ¬ (y163.toInt = 0) := fun q => c164 ((z_eq rfl (by decide : (0 : Int32).toInt = 0)).mpr q)
                            refine lv_iconst (v := 1) hx hb dX9_tooFew_93 (by decide) ?_
                            refine lv_goto (tgt := 98) hx hb dX9_tooFew_94 (by decide) ?_
                            refine lv_istore (lv' := [(6, .int 1), (7, .int v7_50), (5, .int v5_50), (4, .int v4_28), (3, .int v3_28), (0, .ref (ad 0)), (1, .int b), (2, .int kn)]) hx hb dX9_tooFew_98 hl (by decide) rfl (fun ls hl => ?_)
                            refine lv_iload hx hb dX9_tooFew_100 (lv_at hl 2 rfl) ?_
                            refine lv_aload_n hx hb dX9_tooFew_102 rfl (lv_at hl 5 rfl) ?_
                            refine va_get (D := g.1) (ci := 9) (v := .ref (ad 20)) (C := RX9) (T := TX9) (N := 47) hx hb hg inG9 hown hK hP 0 (zw_at (by omega) hs95) rfl 32 (by decide) (hg _ mm_990) (fun _ h9 => h9) rfl dX9_tooFew_103 ?_
                            refine lv_iload hx hb dX9_tooFew_106 (lv_at hl 1 rfl) ?_
                            obtain ⟨f172, hp173, hs171⟩ := a9_20 hI.1
                            refine va_iald hx hb hK hP 20 0 (zw_at (by omega) hs171) rfl (z_in rfl (by omega) (by omega)) dX9_tooFew_108 ?_
                            refine lv_topi (fun y174 ey174 => ?_)
                            have hy174 := hp173 _ (z_clt (x := v7_50) rfl (by omega) (by omega))
                            rw [← ey174] at hy174
                            have hy174 : 0 ≤ y174.toInt ∧ y174.toInt ≤ 65535 := hy174
                            refine lv_ior hx hb dX9_tooFew_109 ?_
                            refine lv_topi (fun x175 ex175 => ?_)
                            have tx175 := z_or (x := v5_50) (y := y174) rfl rfl (k := 16) (N := 65536) (by decide) (by decide) (by omega) (by omega) (by omega) (by omega)
                            rw [← ex175] at tx175
                            refine lv_istore (lv' := [(5, .int x175), (6, .int 1), (7, .int v7_50), (4, .int v4_28), (3, .int v3_28), (0, .ref (ad 0)), (1, .int b), (2, .int kn)]) hx hb dX9_tooFew_110 hl (by decide) rfl (fun ls hl => ?_)
                            obtain ⟨x176, ex176⟩ : ∃ y : Int32, y = v7_50 + 1 := ⟨_, rfl⟩
                            have tx176 : x176.toInt = v7_50.toInt + 1 := by rw [ex176]; exact z_add rfl (by decide : (1 : Int32).toInt = 1) (by omega) (by omega)
                            refine lv_iinc (v := x176) (lv' := [(7, .int x176), (5, .int x175), (6, .int 1), (4, .int v4_28), (3, .int v3_28), (0, .ref (ad 0)), (1, .int b), (2, .int kn)]) hx hb dX9_tooFew_112 hl (k := 2) rfl (by rw [ex176]; rfl) (by decide) rfl (fun ls hl => ?_)
                            refine lv_goto (tgt := 50) hx hb dX9_tooFew_115 (by decide) ?_
                            exact ih50 x176 (1 : Int32) x175 ct94 _ _ ls (by omega) (by first | assumption | omega | decide) (by first | assumption | omega | decide) (by first | assumption | omega | decide) hI hP hD hS (lv_sub hl [0, 2, 1, 3, 4, 5, 6, 7] rfl)
                      · skip
                        have c151 : x150.toInt = 0 := (z_eq rfl (by decide : (0 : Int32).toInt = 0)).mp c151
                        refine lv_goto (tgt := 112) hx hb dX9_tooFew_71 (by decide) ?_
                        obtain ⟨x177, ex177⟩ : ∃ y : Int32, y = v7_50 + 1 := ⟨_, rfl⟩
                        have tx177 : x177.toInt = v7_50.toInt + 1 := by rw [ex177]; exact z_add rfl (by decide : (1 : Int32).toInt = 1) (by omega) (by omega)
                        refine lv_iinc (v := x177) (lv' := [(7, .int x177), (6, .int v6_50), (5, .int v5_50), (4, .int v4_28), (3, .int v3_28), (0, .ref (ad 0)), (1, .int b), (2, .int kn)]) hx hb dX9_tooFew_112 hl (k := 0) rfl (by rw [ex177]; rfl) (by decide) rfl (fun ls hl => ?_)
                        refine lv_goto (tgt := 50) hx hb dX9_tooFew_115 (by decide) ?_
                        exact ih50 x177 v6_50 v5_50 ct94 _ _ ls (by omega) (by first | assumption | omega | decide) (by first | assumption | omega | decide) (by first | assumption | omega | decide) hI hP hD hS (lv_sub hl [0, 1, 2, 3, 4, 5, 6, 7] rfl)
                exact loop50 ((8 - (0 : Int32).toInt : Int).toNat + 1) (0 : Int32) (0 : Int32) (0 : Int32) ct51 _ _ ls (by omega) (by first | assumption | omega | decide) (by first | assumption | omega | decide) (by first | assumption | omega | decide) hI hP hD hS (lv_sub hl [0, 1, 2, 3, 4, 5, 6, 7] rfl)
          exact loop28 ((256 - (1 : Int32).toInt : Int).toNat + 1) (1 : Int32) (0 : Int32) ct46 _ _ ls (by omega) (by first | assumption | omega | decide) (by first | assumption | omega | decide) hI hP hD hS (lv_sub hl [0, 1, 2, 3, 4] rfl)
        · skip
          exact absurd c44 (by decide)
      · skip
        obtain ⟨rfl, h178⟩ := hr41
        replace h178 : ¬ (0 ≤ kn.toInt ∧ kn.toInt ≤ 255) := h178
        refine lv_if_ne (tgt := 17) hx hb dX9_tooFew_12 (by decide) (fun c179 => ?_) (fun c179 => ?_)
        · skip
          exact absurd c179 (by decide)
        · skip
          refine lv_iconst (v := (-1)) hx hb dX9_tooFew_15 (by decide) ?_
          have q180 : ((-1) : Int32).toInt = -1 := by decide
          exact W.iret (v := (-1)) hx hb hr (fun t ht hW => ⟨⟨(-1), (), rfl, trivial, ct, by rw [ht]; exact hP, hD, hI⟩, hS.F ht⟩) hS.2.2 dX9_tooFew_16
  · skip
    obtain rfl := hr37
    refine lv_if_eq (tgt := 15) hx hb dX9_tooFew_5 (by decide) (fun c181 => ?_) (fun c181 => ?_)
    · skip
      refine lv_iconst (v := (-1)) hx hb dX9_tooFew_15 (by decide) ?_
      have q182 : ((-1) : Int32).toInt = -1 := by decide
      exact W.iret (v := (-1)) hx hb hr (fun t ht hW => ⟨⟨(-1), (), rfl, trivial, ct, by rw [ht]; exact hP, hD, hI⟩, hS.F ht⟩) hS.2.2 dX9_tooFew_16
    · skip
      exact absurd c181 (by decide)

set_option maxHeartbeats 4000000 in
set_option maxRecDepth 100000 in
theorem k_X9_isFound (l : Launch) (g : zG) (ad : Nat → Nat) (me : Int32) (ct : Nat → va_E) (b : Int32) (i : Int32) (hl_b : 0 ≤ b.toInt ∧ b.toInt ≤ 3) (hl_i : 0 ≤ i.toInt ∧ i.toInt ≤ 7) (hI : IR g ad me ct) : Met l yX9_isFound (zW yX9_isFound cX9_isFound 3 (some .boolean)) ({ frames := 1, cells := 0, slots := 0, locals := 22 }) (va_Pc [.ref (ad 0), .int b, .int i] (zR g (zw 32 ad ct))) (vp_Si (fun r : Int32 => (r = 1 ∧ ((zar (ct 10) (8 * b.toInt.toNat + i.toInt.toNat)).toInt = 0 ∧ zpop (zar (ct 27) i.toInt.toNat) 16 = 1)) ∨ (r = 0 ∧ (¬ ((zar (ct 10) (8 * b.toInt.toNat + i.toInt.toNat)).toInt = 0 ∧ zpop (zar (ct 27) i.toInt.toNat) 16 = 1))))) 0 0 (fun _ => False) := by
  refine Met.ofW (cc := cX9_isFound) (maxL := 3) (ret := (some .boolean)) (by decide) rfl ?_
  intro p e s m args below meth c s₁ B hml hv
  obtain ⟨rfl, hP, hK, hN⟩ := hv
  have hx := B.exec
  have hb := B.bytes
  have hr := B.returns
  have hg := zW.law (atoms_spec (ws := (zW yX9_isFound cX9_isFound 3 (some .boolean))) B.pre)
  have hown : s.vm.findClass RX9 = some m.cls := findClass_of_methodNamed B.named
  have hlocks := B.notSynchronized
  have hpe0 := hI.1.1
  have hl := lv_entry ([.ref (ad 0), .int b, .int i]) (n := 3) (Nat.le_of_ble_eq_true rfl)
  rw [lg_entry_eq]
  generalize (lg_sl ([.ref (ad 0), .int b, .int i]) ++ List.replicate (3 - (lg_sl ([.ref (ad 0), .int b, .int i])).length) Slot.unset).toArray = ls at hl ⊢
  have hl : lv_has ls 3 [(0, .ref (ad 0)), (1, .int b), (2, .int i)] := hl
  refine lv_aload_n hx hb dX9_isFound_0 rfl (lv_at hl 0 rfl) ?_
  obtain ⟨bks2, lks3, gos4, shn5, tpd6, pl07, ln08, flt9, opn10, cmy11, wtg12, nm013, mst14, sus15, cut16, h17, h18, h19, h20, h21, h22, h23, h24, h25, h26, h27, h28, h29, h30, h31, h32, h33, h34, h35, h36, hs1⟩ := a9_0 hI.1
  refine va_get (D := g.1) (ci := 9) (v := .ref (ad 10)) (C := RX9) (T := TX9) (N := 47) hx hb hg inG9 hown hK hP 0 (zw_at (by omega) hs1) rfl 14 (by decide) (hg _ mm_972) (fun _ h9 => h9) rfl dX9_isFound_1 ?_
  refine lv_iload_n hx hb dX9_isFound_4 rfl (lv_at hl 1 rfl) ?_
  refine lv_iload_n hx hb dX9_isFound_5 rfl (lv_at hl 2 rfl) ?_
  refine zc_i (va_runS (As := [.int b, .int i]) (rest := [.ref (ad 10)]) ⟨hx, hb, hml, hown, hg⟩ (k_X9_at l g ad me ct b i (by first | omega | decide) (by first | omega | decide) hI) (va_cwS 2 hg (z_gS mm_1159 mm_1160 mm_117 mm_1161) rfl rfl rfl (by decide +kernel) ⟨Nat.le_of_ble_eq_true rfl, Nat.le_of_ble_eq_true rfl⟩) (zR.pre [.int b, .int i] hP hK hN) rfl rfl hl.1 rfl (lv_room (Nat.le_of_ble_eq_true rfl)) dX9_isFound_6 ⟨Nat.le_of_ble_eq_true rfl, Nat.le_of_ble_eq_true rfl⟩) (fun r37 hr37 => ?_)
  have hr37_0 := hr37
  have hr37_0 : r37.toInt = 8 * b.toInt + i.toInt := hr37_0
  obtain ⟨f39, hp40, hs38⟩ := a9_10 hI.1
  refine va_zald hx hb hK hP 10 3 (zw_at (by omega) hs38) rfl (z_in rfl (by omega) (by omega)) dX9_isFound_9 ?_
  refine lv_topi (fun y41 ey41 => ?_)
  have hy41 := hp40 _ (z_clt (x := r37) rfl (by omega) (by omega))
  rw [← ey41] at hy41
  have hy41 : y41 = 0 ∨ y41 = 1 := hy41
  have by41 := z_b01 hy41
  have hlv : zar (ct 10) (8 * b.toInt.toNat + i.toInt.toNat) = y41 := by rw [zar_of hs38, ey41, z_cl (x := r37) (k := 8 * b.toInt.toNat + i.toInt.toNat) (by omega)]
  refine lv_if_ne (tgt := 30) hx hb dX9_isFound_10 (by decide) (fun c42 => ?_) (fun c42 => ?_)
  · skip
    have c42 : ¬ (y41.toInt = 0) := fun q => c42 ((z_eq rfl (by decide : (0 : Int32).toInt = 0)).mpr q)
    refine lv_iconst (v := 0) hx hb dX9_isFound_30 (by decide) ?_
    have q43 : (0 : Int32).toInt = 0 := by decide
    exact W.zret (v := 0) hx hb hr rfl (fun t ht hW => ⟨0, rfl, Or.inr ⟨rfl, fun q => by rw [hlv] at q; omega⟩, ht⟩) (fun q hq => by cases hq) dX9_isFound_31
  · skip
    have c42 : y41.toInt = 0 := (z_eq rfl (by decide : (0 : Int32).toInt = 0)).mp c42
    refine lv_aload_n hx hb dX9_isFound_13 rfl (lv_at hl 0 rfl) ?_
    refine va_get (D := g.1) (ci := 9) (v := .ref (ad 27)) (C := RX9) (T := TX9) (N := 47) hx hb hg inG9 hown hK hP 0 (zw_at (by omega) hs1) rfl 39 (by decide) (hg _ mm_997) (fun _ h9 => h9) rfl dX9_isFound_14 ?_
    refine lv_iload_n hx hb dX9_isFound_17 rfl (lv_at hl 2 rfl) ?_
    obtain ⟨f45, hs44⟩ := a9_27 hI.1
    refine va_iald hx hb hK hP 27 0 (zw_at (by omega) hs44) rfl (z_in rfl (by omega) (by omega)) dX9_isFound_18 ?_
    refine lv_topi (fun y46 ey46 => ?_)
    have hbv : zar (ct 27) i.toInt.toNat = y46 := by rw [zar_of hs44, ey46, z_cl (x := i) (k := i.toInt.toNat) (by omega)]
    refine zc_i (va_runS (As := [.int y46]) (rest := []) ⟨hx, hb, hml, hown, hg⟩ (k_X9_bitsv l g ad me ct y46 hI) (va_cwS 1 hg (z_gS mm_1373 mm_1374 mm_117 mm_1375) rfl rfl rfl (by decide +kernel) ⟨Nat.le_of_ble_eq_true rfl, Nat.le_of_ble_eq_true rfl⟩) (zR.pre [.int y46] hP hK hN) rfl rfl hl.1 rfl (lv_room (Nat.le_of_ble_eq_true rfl)) dX9_isFound_19 ⟨Nat.le_of_ble_eq_true rfl, Nat.le_of_ble_eq_true rfl⟩) (fun r47 hr47 => ?_)
    obtain ⟨hr47_0, hr47_1, hr47_2⟩ := hr47
    have hr47_0 : 0 ≤ r47.toInt := hr47_0
    have hr47_1 : r47.toInt ≤ 16 := hr47_1
    have hr47_2 : r47.toInt = zpop y46 16 := hr47_2
    refine lv_iconst (v := 1) hx hb dX9_isFound_22 (by decide) ?_
    refine lv_icmp_ne (tgt := 30) hx hb dX9_isFound_23 (by decide) (fun c48 => ?_) (fun c48 => ?_)
    · skip
      have c48 : ¬ (r47.toInt = 1) := fun q => c48 ((z_eq rfl (by decide : (1 : Int32).toInt = 1)).mpr q)
      refine lv_iconst (v := 0) hx hb dX9_isFound_30 (by decide) ?_
      have q49 : (0 : Int32).toInt = 0 := by decide
      exact W.zret (v := 0) hx hb hr rfl (fun t ht hW => ⟨0, rfl, Or.inr ⟨rfl, fun q => by rw [hlv, hbv] at q; omega⟩, ht⟩) (fun q hq => by cases hq) dX9_isFound_31
    · skip
      have c48 : r47.toInt = 1 := (z_eq rfl (by decide : (1 : Int32).toInt = 1)).mp c48
      refine lv_iconst (v := 1) hx hb dX9_isFound_26 (by decide) ?_
      refine lv_goto (tgt := 31) hx hb dX9_isFound_27 (by decide) ?_
      have q50 : (1 : Int32).toInt = 1 := by decide
      exact W.zret (v := 1) hx hb hr rfl (fun t ht hW => ⟨1, rfl, Or.inl ⟨rfl, by rw [hlv]; omega, by rw [hbv]; omega⟩, ht⟩) (fun q hq => by cases hq) dX9_isFound_31

set_option maxHeartbeats 4000000 in
set_option maxRecDepth 100000 in
theorem k_X9_foundNow (l : Launch) (g : zG) (ad : Nat → Nat) (me : Int32) (ct : Nat → va_E) (b : Int32) (hl_b : 0 ≤ b.toInt ∧ b.toInt ≤ 3) (hI : IR g ad me ct) : Met l yX9_foundNow (zW yX9_foundNow cX9_foundNow 4 (some .int)) ({ frames := 2, cells := 0, slots := 0, locals := 44 }) (va_Pc [.ref (ad 0), .int b] (zR g (zw 32 ad ct))) (vp_Si (fun r : Int32 => ((0 ≤ r.toInt) ∧ (r.toInt ≤ 255) ∧ (r = zfn (zar (ct 10)) (zar (ct 27)) b.toInt (zar (ct 5) b.toInt.toNat).toInt.toNat)))) 0 0 (fun _ => False) := by
  refine Met.ofW (cc := cX9_foundNow) (maxL := 4) (ret := (some .int)) (by decide) rfl ?_
  intro p e s m args below meth c s₁ B hml hv
  obtain ⟨rfl, hP, hK, hN⟩ := hv
  have hx := B.exec
  have hb := B.bytes
  have hr := B.returns
  have hg := zW.law (atoms_spec (ws := (zW yX9_foundNow cX9_foundNow 4 (some .int))) B.pre)
  have hown : s.vm.findClass RX9 = some m.cls := findClass_of_methodNamed B.named
  have hlocks := B.notSynchronized
  have hpe0 := hI.1.1
  have hl := lv_entry ([.ref (ad 0), .int b]) (n := 4) (Nat.le_of_ble_eq_true rfl)
  rw [lg_entry_eq]
  generalize (lg_sl ([.ref (ad 0), .int b]) ++ List.replicate (4 - (lg_sl ([.ref (ad 0), .int b])).length) Slot.unset).toArray = ls at hl ⊢
  have hl : lv_has ls 4 [(0, .ref (ad 0)), (1, .int b)] := hl
  have q0 : ((0 : Int32)).toInt = 0 := by decide
  have q1 : ((1 : Int32)).toInt = 1 := by decide
  refine lv_iconst (v := 0) hx hb dX9_foundNow_0 (by decide) ?_
  refine lv_istore_n (lv' := [(2, .int 0), (0, .ref (ad 0)), (1, .int b)]) hx hb dX9_foundNow_1 rfl hl (by decide) rfl (fun ls hl => ?_)
  refine lv_iconst (v := 0) hx hb dX9_foundNow_2 (by decide) ?_
  refine lv_istore_n (lv' := [(3, .int 0), (2, .int 0), (0, .ref (ad 0)), (1, .int b)]) hx hb dX9_foundNow_3 rfl hl (by decide) rfl (fun ls hl => ?_)
  have loop4 : ∀ (n4 : Nat) (v3_4 : Int32) (v2_4 : Int32) (ls : Array Slot), ((8 - v3_4.toInt : Int).toNat < n4) → (0 ≤ v3_4.toInt ∧ v3_4.toInt ≤ 8) → (0 ≤ v2_4.toInt ∧ v2_4.toInt ≤ 255) → (v2_4 = zfn (zar (ct 10)) (zar (ct 27)) b.toInt v3_4.toInt.toNat) → (v3_4.toInt ≤ (zar (ct 5) b.toInt.toNat).toInt) → lv_has ls 4 [(3, .int v3_4), (2, .int v2_4), (0, .ref (ad 0)), (1, .int b)] → W p l e (headSpec (zW yX9_foundNow cX9_foundNow 4 (some .int)) ({ frames := 2, cells := 0, slots := 0, locals := 44 })).room s m ([.ref (ad 0), .int b] : List Value).toArray below meth c s.heap [] 0 0 (MQ below (vp_Si (fun r : Int32 => ((0 ≤ r.toInt) ∧ (r.toInt ≤ 255) ∧ (r = zfn (zar (ct 10)) (zar (ct 27)) b.toInt (zar (ct 5) b.toInt.toNat).toInt.toNat)))) ([.ref (ad 0), .int b] : List Value).toArray s 0 0 (fun _ => False)) (F0 m 4 ls []) := by
    intro n4
    induction n4 with
    | zero =>
      intro v3_4 v2_4 ls hn4 b3_4 b2_4 j0_4 j1_4 hl
      exact absurd hn4 (Nat.not_lt_zero _)
    | succ n4 ih4 =>
      intro v3_4 v2_4 ls hn4 b3_4 b2_4 j0_4 j1_4 hl
      refine lv_iload_n hx hb dX9_foundNow_4 rfl (lv_at hl 0 rfl) ?_
      refine lv_aload_n hx hb dX9_foundNow_5 rfl (lv_at hl 2 rfl) ?_
      obtain ⟨bks2, lks3, gos4, shn5, tpd6, pl07, ln08, flt9, opn10, cmy11, wtg12, nm013, mst14, sus15, cut16, h17, h18, h19, h20, h21, h22, h23, h24, h25, h26, h27, h28, h29, h30, h31, h32, h33, h34, h35, h36, hs1⟩ := a9_0 hI.1
      refine va_get (D := g.1) (ci := 9) (v := .ref (ad 5)) (C := RX9) (T := TX9) (N := 47) hx hb hg inG9 hown hK hP 0 (zw_at (by omega) hs1) rfl 9 (by decide) (hg _ mm_967) (fun _ h9 => h9) rfl dX9_foundNow_6 ?_
      refine lv_iload_n hx hb dX9_foundNow_9 rfl (lv_at hl 3 rfl) ?_
      obtain ⟨f38, hp39, hs37⟩ := a9_5 hI.1
      refine va_iald hx hb hK hP 5 0 (zw_at (by omega) hs37) rfl (z_in rfl (by omega) (by omega)) dX9_foundNow_10 ?_
      refine lv_topi (fun y40 ey40 => ?_)
      have hy40 := hp39 _ (z_clt (x := b) rfl (by omega) (by omega))
      rw [← ey40] at hy40
      have hy40 : 0 ≤ y40.toInt ∧ y40.toInt ≤ 8 := hy40
      have hn5 : zar (ct 5) b.toInt.toNat = y40 := by rw [zar_of hs37, ey40, z_cl (x := b) (k := b.toInt.toNat) (by omega)]
      have hn5i : (zar (ct 5) b.toInt.toNat).toInt = y40.toInt := by rw [hn5]
      refine lv_icmp_ge (tgt := 39) hx hb dX9_foundNow_11 (by decide) (fun c41 => ?_) (fun c41 => ?_)
      · skip
        have c41 : y40.toInt ≤ v3_4.toInt := (z_le rfl rfl).mp c41
        refine lv_iload_n hx hb dX9_foundNow_39 rfl (lv_at hl 1 rfl) ?_
        exact W.iret (v := v2_4) hx hb hr (fun t ht hW => ⟨v2_4, rfl, ⟨by omega, by omega, by rw [hn5, show y40.toInt.toNat = v3_4.toInt.toNat by omega]; exact j0_4⟩, ht⟩) (fun q hq => by cases hq) dX9_foundNow_40
      · skip
        have c41 : ¬ (y40.toInt ≤ v3_4.toInt) := fun q => c41 ((z_le rfl rfl).mpr q)
        refine lv_aload_n hx hb dX9_foundNow_14 rfl (lv_at hl 2 rfl) ?_
        refine lv_iload_n hx hb dX9_foundNow_15 rfl (lv_at hl 3 rfl) ?_
        refine lv_iload_n hx hb dX9_foundNow_16 rfl (lv_at hl 0 rfl) ?_
        refine zc_i (va_runV (As := [.int b, .int v3_4]) (rest := []) ⟨hx, hb, hml, hown, hg⟩ (k_X9_isFound l g ad me ct b v3_4 (by first | omega | decide) (by first | omega | decide) hI) (cwV 2 hg (z_gV mm_1392 mm_1394 mm_94 mm_117 mm_1395) rfl rfl rfl (by decide +kernel) ⟨Nat.le_of_ble_eq_true rfl, Nat.le_of_ble_eq_true rfl⟩) ⟨(zR.pre [.ref (ad 0), .int b, .int v3_4] hP hK hN).1, va_recv hK hP (ci := 9) (q0 := 0) rfl (zw_at (by omega) hs1), (zR.pre [.ref (ad 0), .int b, .int v3_4] hP hK hN).2⟩ rfl rfl hl.1 rfl (lv_room (Nat.le_of_ble_eq_true rfl)) dX9_foundNow_17 ⟨Nat.le_of_ble_eq_true rfl, Nat.le_of_ble_eq_true rfl⟩) (fun r42 hr42 => ?_)
        rcases hr42 with hr42 | hr42
        · skip
          obtain ⟨rfl, h43⟩ := hr42
          replace h43 : (zar (ct 10) (8 * b.toInt.toNat + v3_4.toInt.toNat)).toInt = 0 ∧ zpop (zar (ct 27) v3_4.toInt.toNat) 16 = 1 := h43
          refine lv_if_eq (tgt := 31) hx hb dX9_foundNow_20 (by decide) (fun c44 => ?_) (fun c44 => ?_)
          · skip
            exact absurd c44 (by decide)
          · skip
            refine lv_iload_n hx hb dX9_foundNow_23 rfl (lv_at hl 1 rfl) ?_
            refine lv_iconst (v := 1) hx hb dX9_foundNow_24 (by decide) ?_
            refine lv_iload_n hx hb dX9_foundNow_25 rfl (lv_at hl 0 rfl) ?_
            refine lv_ishl hx hb dX9_foundNow_26 ?_
            refine lv_topi (fun x45 ex45 => ?_)
            have tx45 := z_shl1 (y := v3_4) rfl (by omega) (k := 7) (by decide) (by omega)
            rw [← ex45] at tx45
            refine lv_ior hx hb dX9_foundNow_27 ?_
            refine lv_topi (fun x46 ex46 => ?_)
            have tx46 := z_or (x := v2_4) (y := x45) rfl rfl (k := 8) (N := 256) (by decide) (by decide) (by omega) (by omega) (by omega) (by omega)
            rw [← ex46] at tx46
            refine lv_goto (tgt := 32) hx hb dX9_foundNow_28 (by decide) ?_
            refine lv_istore_n (lv' := [(2, .int x46), (3, .int v3_4), (0, .ref (ad 0)), (1, .int b)]) hx hb dX9_foundNow_32 rfl hl (by decide) rfl (fun ls hl => ?_)
            have hzf : x46 = zfn (zar (ct 10)) (zar (ct 27)) b.toInt (v3_4.toInt.toNat + 1) := by
              rw [ex46, ex45]
              exact zfn_1 h43 j0_4 (by omega)
            obtain ⟨x47, ex47⟩ : ∃ y : Int32, y = v3_4 + 1 := ⟨_, rfl⟩
            have tx47 : x47.toInt = v3_4.toInt + 1 := by rw [ex47]; exact z_add rfl (by decide : (1 : Int32).toInt = 1) (by omega) (by omega)
            refine lv_iinc (v := x47) (lv' := [(3, .int x47), (2, .int x46), (0, .ref (ad 0)), (1, .int b)]) hx hb dX9_foundNow_33 hl (k := 1) rfl (by rw [ex47]; rfl) (by decide) rfl (fun ls hl => ?_)
            rw [show v3_4.toInt.toNat + 1 = x47.toInt.toNat by omega] at hzf
            refine lv_goto (tgt := 4) hx hb dX9_foundNow_36 (by decide) ?_
            exact ih4 x47 x46 ls (by omega) (by first | assumption | omega | decide) (by first | assumption | omega | decide) (by first | assumption | omega | decide) (by first | assumption | omega | decide) (lv_sub hl [0, 1, 2, 3] rfl)
        · skip
          obtain ⟨rfl, h48⟩ := hr42
          replace h48 : ¬ ((zar (ct 10) (8 * b.toInt.toNat + v3_4.toInt.toNat)).toInt = 0 ∧ zpop (zar (ct 27) v3_4.toInt.toNat) 16 = 1) := h48
          refine lv_if_eq (tgt := 31) hx hb dX9_foundNow_20 (by decide) (fun c49 => ?_) (fun c49 => ?_)
          · skip
            refine lv_iload_n hx hb dX9_foundNow_31 rfl (lv_at hl 1 rfl) ?_
            refine lv_istore_n (lv' := [(2, .int v2_4), (3, .int v3_4), (0, .ref (ad 0)), (1, .int b)]) hx hb dX9_foundNow_32 rfl hl (by decide) rfl (fun ls hl => ?_)
            have hzf : v2_4 = zfn (zar (ct 10)) (zar (ct 27)) b.toInt (v3_4.toInt.toNat + 1) := zfn_0 h48 j0_4
            obtain ⟨x50, ex50⟩ : ∃ y : Int32, y = v3_4 + 1 := ⟨_, rfl⟩
            have tx50 : x50.toInt = v3_4.toInt + 1 := by rw [ex50]; exact z_add rfl (by decide : (1 : Int32).toInt = 1) (by omega) (by omega)
            refine lv_iinc (v := x50) (lv' := [(3, .int x50), (2, .int v2_4), (0, .ref (ad 0)), (1, .int b)]) hx hb dX9_foundNow_33 hl (k := 1) rfl (by rw [ex50]; rfl) (by decide) rfl (fun ls hl => ?_)
            rw [show v3_4.toInt.toNat + 1 = x50.toInt.toNat by omega] at hzf
            refine lv_goto (tgt := 4) hx hb dX9_foundNow_36 (by decide) ?_
            exact ih4 x50 v2_4 ls (by omega) (by first | assumption | omega | decide) (by first | assumption | omega | decide) (by first | assumption | omega | decide) (by first | assumption | omega | decide) (lv_sub hl [0, 1, 2, 3] rfl)
          · skip
            exact absurd c49 (by decide)
  obtain ⟨f52, hp53, hs51⟩ := a9_5 hI.1
  have hzf0 : (0 : Int32) = zfn (zar (ct 10)) (zar (ct 27)) b.toInt ((0 : Int32)).toInt.toNat := rfl
  have hn0 : 0 ≤ (zar (ct 5) b.toInt.toNat).toInt := by rw [zar_of hs51]; exact (hp53 b.toInt.toNat (by omega)).1
  exact loop4 ((8 - (0 : Int32).toInt : Int).toNat + 1) (0 : Int32) (0 : Int32) ls (by omega) (by first | assumption | omega | decide) (by first | assumption | omega | decide) (by first | assumption | omega | decide) (by first | assumption | omega | decide) (lv_sub hl [0, 1, 2, 3] rfl)

set_option maxHeartbeats 4000000 in
set_option maxRecDepth 100000 in
theorem k_X9_rounds (l : Launch) (g : zG) (sz : Nat) (ad : Nat → Nat) (me : Int32) (ct : Nat → va_E) (b : Int32) (hl_b : 0 ≤ b.toInt ∧ b.toInt ≤ 3) (hI : IR g ad me ct) : Met l yX9_rounds (zW yX9_rounds cX9_rounds 5 (some .boolean)) ({ frames := 2, cells := 0, slots := 0, locals := 44 }) (va_Pc [.ref (ad 0), .int b] (zA g (zw 32 ad ct) sz)) (va_Qi (fun (r : Int32) (u : Int32) => ((u = r) ∧ (0 ≤ r.toInt ∧ r.toInt ≤ 1))) (fun (u : Int32) t => ∃ ct2 : Nat → va_E, zP g (zw 32 ad ct2) t.heap ∧ va_D (va_A (zw 32 ad ct) sz) (zw 32 ad ct2) ∧ IR g ad me ct2 ∧ (rnl (zar (ct 20)) (zar (ct2 20)) u.toInt) ∧ (ct2 5 = ct 5) ∧ (ct2 10 = ct 10)) (va_A (zw 32 ad ct) sz)) 0 0 (va_A (zw 32 ad ct) sz) := by
  refine Met.ofW (cc := cX9_rounds) (maxL := 5) (ret := (some .boolean)) (by decide) rfl ?_
  intro p e s m args below meth c s₁ B hml hv
  obtain ⟨rfl, hsz, hP, hK, hD0, hN⟩ := hv
  have hx := B.exec
  have hb := B.bytes
  have hr := B.returns
  have hg := zW.law (atoms_spec (ws := (zW yX9_rounds cX9_rounds 5 (some .boolean))) B.pre)
  have hown : s.vm.findClass RX9 = some m.cls := findClass_of_methodNamed B.named
  have hlocks := B.notSynchronized
  have hpe0 := hI.1.1
  subst hsz
  have hD := hD0.self (sz := s.heap.size)
  generalize hAe : va_A (zw 32 ad ct) s.heap.size = A at hD ⊢
  have hA : ∀ q : Nat, s.heap.size ≤ q → A q := fun q h => by rw [← hAe]; exact Or.inr h
  have hS : va_S A s.heap s.heap [] := va_S.rf
  have hl := lv_entry ([.ref (ad 0), .int b]) (n := 5) (Nat.le_of_ble_eq_true rfl)
  rw [lg_entry_eq]
  generalize (lg_sl ([.ref (ad 0), .int b]) ++ List.replicate (5 - (lg_sl ([.ref (ad 0), .int b])).length) Slot.unset).toArray = ls at hl ⊢
  have hl : lv_has ls 5 [(0, .ref (ad 0)), (1, .int b)] := hl
  have hc5 : ct 5 = ct 5 := rfl
  have hc10 : ct 10 = ct 10 := rfl
  have q0 : ((0 : Int32)).toInt = 0 := by decide
  have q1 : ((1 : Int32)).toInt = 1 := by decide
  obtain ⟨f2, hp3, hs1⟩ := a9_20 hI.1
  have hz20 : zar (ct 20) = f2 := zar_of hs1
  refine lv_iconst (v := 0) hx hb dX9_rounds_0 (by decide) ?_
  refine lv_istore_n (lv' := [(2, .int 0), (0, .ref (ad 0)), (1, .int b)]) hx hb dX9_rounds_1 rfl hl (by decide) rfl (fun ls hl => ?_)
  obtain ⟨bks5, lks6, gos7, shn8, tpd9, pl010, ln011, flt12, opn13, cmy14, wtg15, nm016, mst17, sus18, cut19, h20, h21, h22, h23, h24, h25, h26, h27, h28, h29, h30, h31, h32, h33, h34, h35, h36, h37, h38, h39, hs4⟩ := a9_0 hI.1
  obtain ⟨f41, hp42, hs40⟩ := a9_5 hI.1
  have loop2 : ∀ (n2 : Nat) (v2_2 : Int32) (ct43 : Nat → va_E) (H : Heap) (locs : List Loc) (ls : Array Slot), ((8 - v2_2.toInt : Int).toNat < n2) → (0 ≤ v2_2.toInt ∧ v2_2.toInt ≤ 8) → (∀ j : Nat, (j : Int) < v2_2.toInt → zar (ct43 27) j = zar (ct 20) j) → (ct43 5 = ct 5) → (ct43 10 = ct 10) → (ct43 5 = .inl (g.2 0, 4, .inl f41)) → (ct43 20 = .inl (g.2 0, 8, .inl f2)) → (IR g ad me ct43) → zP g (zw 32 ad ct43) H → va_D A (zw 32 ad ct43) → va_S A s.heap H locs → lv_has ls 5 [(2, .int v2_2), (0, .ref (ad 0)), (1, .int b)] → W p l e (headSpec (zW yX9_rounds cX9_rounds 5 (some .boolean)) ({ frames := 2, cells := 0, slots := 0, locals := 44 })).room s m ([.ref (ad 0), .int b] : List Value).toArray below meth c H locs 0 0 (MQ below (va_Qi (fun (r : Int32) (u : Int32) => ((u = r) ∧ (0 ≤ r.toInt ∧ r.toInt ≤ 1))) (fun (u : Int32) t => ∃ ct2 : Nat → va_E, zP g (zw 32 ad ct2) t.heap ∧ va_D A (zw 32 ad ct2) ∧ IR g ad me ct2 ∧ (rnl (zar (ct 20)) (zar (ct2 20)) u.toInt) ∧ (ct2 5 = ct 5) ∧ (ct2 10 = ct 10)) A) ([.ref (ad 0), .int b] : List Value).toArray s 0 0 A) (F0 m 2 ls []) := by
    intro n2
    induction n2 with
    | zero =>
      intro v2_2 ct43 H locs ls hn2 b2_2 j0_2 hc5 hc10 kp5_2 kp20_2 hI hP hD hS hl
      exact absurd hn2 (Nat.not_lt_zero _)
    | succ n2 ih2 =>
      intro v2_2 ct43 H locs ls hn2 b2_2 j0_2 hc5 hc10 kp5_2 kp20_2 hI hP hD hS hl
      refine lv_iload_n hx hb dX9_rounds_2 rfl (lv_at hl 0 rfl) ?_
      refine lv_aload_n hx hb dX9_rounds_3 rfl (lv_at hl 1 rfl) ?_
      obtain ⟨bks45, lks46, gos47, shn48, tpd49, pl050, ln051, flt52, opn53, cmy54, wtg55, nm056, mst57, sus58, cut59, h60, h61, h62, h63, h64, h65, h66, h67, h68, h69, h70, h71, h72, h73, h74, h75, h76, h77, h78, h79, hs44⟩ := a9_0 hI.1
      refine va_get (D := g.1) (ci := 9) (v := .ref (ad 5)) (C := RX9) (T := TX9) (N := 47) hx hb hg inG9 hown hK hP 0 (zw_at (by omega) hs44) rfl 9 (by decide) (hg _ mm_967) (fun _ h9 => h9) rfl dX9_rounds_4 ?_
      refine lv_iload_n hx hb dX9_rounds_7 rfl (lv_at hl 2 rfl) ?_
      refine va_iald hx hb hK hP 5 0 (zw_at (by omega) kp5_2) rfl (z_in rfl (by omega) (by omega)) dX9_rounds_8 ?_
      refine lv_topi (fun y80 ey80 => ?_)
      have hy80 := hp42 _ (z_clt (x := b) rfl (by omega) (by omega))
      rw [← ey80] at hy80
      have hy80 : 0 ≤ y80.toInt ∧ y80.toInt ≤ 8 := hy80
      refine lv_icmp_ge (tgt := 30) hx hb dX9_rounds_9 (by decide) (fun c81 => ?_) (fun c81 => ?_)
      · skip
        have c81 : y80.toInt ≤ v2_2.toInt := (z_le rfl rfl).mp c81
        obtain ⟨f83, hs82⟩ := a9_27 hI.1
        have hB : ∀ j : Nat, (j : Int) < y80.toInt → f83 j = zar (ct 20) j := fun j hj => by rw [← zar_of hs82]; exact j0_2 j (by omega)
        refine lv_iconst (v := 0) hx hb dX9_rounds_30 (by decide) ?_
        refine lv_istore_n (lv' := [(2, .int 0), (0, .ref (ad 0)), (1, .int b)]) hx hb dX9_rounds_31 rfl hl (by decide) rfl (fun ls hl => ?_)
        refine lv_iconst (v := 0) hx hb dX9_rounds_32 (by decide) ?_
        refine lv_istore_n (lv' := [(3, .int 0), (2, .int 0), (0, .ref (ad 0)), (1, .int b)]) hx hb dX9_rounds_33 rfl hl (by decide) rfl (fun ls hl => ?_)
        have loop34 : ∀ (n34 : Nat) (v3_34 : Int32) (v2_34 : Int32) (ct84 : Nat → va_E) (H : Heap) (locs : List Loc) (ls : Array Slot), ((8 - v3_34.toInt : Int).toNat < n34) → (0 ≤ v3_34.toInt ∧ v3_34.toInt ≤ 8) → (0 ≤ v2_34.toInt ∧ v2_34.toInt ≤ 1) → (rnl (zar (ct 20)) (zar (ct84 20)) v2_34.toInt) → (ct84 5 = ct 5) → (ct84 10 = ct 10) → (ct84 5 = .inl (g.2 0, 4, .inl f41)) → (ct84 27 = .inl (g.2 0, 8, .inl f83)) → (IR g ad me ct84) → zP g (zw 32 ad ct84) H → va_D A (zw 32 ad ct84) → va_S A s.heap H locs → lv_has ls 5 [(3, .int v3_34), (2, .int v2_34), (0, .ref (ad 0)), (1, .int b)] → W p l e (headSpec (zW yX9_rounds cX9_rounds 5 (some .boolean)) ({ frames := 2, cells := 0, slots := 0, locals := 44 })).room s m ([.ref (ad 0), .int b] : List Value).toArray below meth c H locs 0 0 (MQ below (va_Qi (fun (r : Int32) (u : Int32) => ((u = r) ∧ (0 ≤ r.toInt ∧ r.toInt ≤ 1))) (fun (u : Int32) t => ∃ ct2 : Nat → va_E, zP g (zw 32 ad ct2) t.heap ∧ va_D A (zw 32 ad ct2) ∧ IR g ad me ct2 ∧ (rnl (zar (ct 20)) (zar (ct2 20)) u.toInt) ∧ (ct2 5 = ct 5) ∧ (ct2 10 = ct 10)) A) ([.ref (ad 0), .int b] : List Value).toArray s 0 0 A) (F0 m 34 ls []) := by
          intro n34
          induction n34 with
          | zero =>
            intro v3_34 v2_34 ct84 H locs ls hn34 b3_34 b2_34 j0_34 hc5 hc10 kp5_34 kp27_34 hI hP hD hS hl
            exact absurd hn34 (Nat.not_lt_zero _)
          | succ n34 ih34 =>
            intro v3_34 v2_34 ct84 H locs ls hn34 b3_34 b2_34 j0_34 hc5 hc10 kp5_34 kp27_34 hI hP hD hS hl
            refine lv_iload_n hx hb dX9_rounds_34 rfl (lv_at hl 0 rfl) ?_
            refine lv_aload_n hx hb dX9_rounds_35 rfl (lv_at hl 2 rfl) ?_
            obtain ⟨bks86, lks87, gos88, shn89, tpd90, pl091, ln092, flt93, opn94, cmy95, wtg96, nm097, mst98, sus99, cut100, h101, h102, h103, h104, h105, h106, h107, h108, h109, h110, h111, h112, h113, h114, h115, h116, h117, h118, h119, h120, hs85⟩ := a9_0 hI.1
            refine va_get (D := g.1) (ci := 9) (v := .ref (ad 5)) (C := RX9) (T := TX9) (N := 47) hx hb hg inG9 hown hK hP 0 (zw_at (by omega) hs85) rfl 9 (by decide) (hg _ mm_967) (fun _ h9 => h9) rfl dX9_rounds_36 ?_
            refine lv_iload_n hx hb dX9_rounds_39 rfl (lv_at hl 3 rfl) ?_
            refine va_iald hx hb hK hP 5 0 (zw_at (by omega) kp5_34) rfl (z_in rfl (by omega) (by omega)) dX9_rounds_40 ?_
            refine lv_topi (fun y121 ey121 => ?_)
            obtain rfl : y80 = y121 := ey80.trans ey121.symm
            refine lv_icmp_ge (tgt := 133) hx hb dX9_rounds_41 (by decide) (fun c122 => ?_) (fun c122 => ?_)
            · skip
              have c122 : y80.toInt ≤ v3_34.toInt := (z_le rfl rfl).mp c122
              refine lv_iload_n hx hb dX9_rounds_133 rfl (lv_at hl 1 rfl) ?_
              exact W.zret (v := v2_34) hx hb hr (by rcases (z_01 (x := v2_34) (by omega) (by omega)) with q | q <;> rw [q] <;> rfl) (fun t ht hW => ⟨⟨v2_34, v2_34, rfl, ⟨rfl, by omega⟩, ct84, by rw [ht]; exact hP, hD, hI, (j0_34), (by first | assumption | omega), (by first | assumption | omega)⟩, hS.F ht⟩) hS.2.2 dX9_rounds_134
            · skip
              have c122 : ¬ (y80.toInt ≤ v3_34.toInt) := fun q => c122 ((z_le rfl rfl).mpr q)
              refine lv_iconst (v := 0) hx hb dX9_rounds_44 (by decide) ?_
              refine lv_istore (lv' := [(4, .int 0), (3, .int v3_34), (2, .int v2_34), (0, .ref (ad 0)), (1, .int b)]) hx hb dX9_rounds_45 hl (by decide) rfl (fun ls hl => ?_)
              have loop47 : ∀ (n47 : Nat) (v4_47 : Int32) (ct123 : Nat → va_E) (H : Heap) (locs : List Loc) (ls : Array Slot), ((8 - v4_47.toInt : Int).toNat < n47) → (0 ≤ v4_47.toInt ∧ v4_47.toInt ≤ 8) → (rnl (zar (ct 20)) (zar (ct123 20)) v2_34.toInt) → (ct123 5 = ct 5) → (ct123 10 = ct 10) → (ct123 5 = .inl (g.2 0, 4, .inl f41)) → (ct123 27 = .inl (g.2 0, 8, .inl f83)) → (IR g ad me ct123) → zP g (zw 32 ad ct123) H → va_D A (zw 32 ad ct123) → va_S A s.heap H locs → lv_has ls 5 [(4, .int v4_47), (3, .int v3_34), (2, .int v2_34), (0, .ref (ad 0)), (1, .int b)] → W p l e (headSpec (zW yX9_rounds cX9_rounds 5 (some .boolean)) ({ frames := 2, cells := 0, slots := 0, locals := 44 })).room s m ([.ref (ad 0), .int b] : List Value).toArray below meth c H locs 0 0 (MQ below (va_Qi (fun (r : Int32) (u : Int32) => ((u = r) ∧ (0 ≤ r.toInt ∧ r.toInt ≤ 1))) (fun (u : Int32) t => ∃ ct2 : Nat → va_E, zP g (zw 32 ad ct2) t.heap ∧ va_D A (zw 32 ad ct2) ∧ IR g ad me ct2 ∧ (rnl (zar (ct 20)) (zar (ct2 20)) u.toInt) ∧ (ct2 5 = ct 5) ∧ (ct2 10 = ct 10)) A) ([.ref (ad 0), .int b] : List Value).toArray s 0 0 A) (F0 m 47 ls []) := by
                intro n47
                induction n47 with
                | zero =>
                  intro v4_47 ct123 H locs ls hn47 b4_47 j0_47 hc5 hc10 kp5_47 kp27_47 hI hP hD hS hl
                  exact absurd hn47 (Nat.not_lt_zero _)
                | succ n47 ih47 =>
                  intro v4_47 ct123 H locs ls hn47 b4_47 j0_47 hc5 hc10 kp5_47 kp27_47 hI hP hD hS hl
                  refine lv_iload hx hb dX9_rounds_47 (lv_at hl 0 rfl) ?_
                  refine lv_aload_n hx hb dX9_rounds_49 rfl (lv_at hl 3 rfl) ?_
                  obtain ⟨bks125, lks126, gos127, shn128, tpd129, pl0130, ln0131, flt132, opn133, cmy134, wtg135, nm0136, mst137, sus138, cut139, h140, h141, h142, h143, h144, h145, h146, h147, h148, h149, h150, h151, h152, h153, h154, h155, h156, h157, h158, h159, hs124⟩ := a9_0 hI.1
                  refine va_get (D := g.1) (ci := 9) (v := .ref (ad 5)) (C := RX9) (T := TX9) (N := 47) hx hb hg inG9 hown hK hP 0 (zw_at (by omega) hs124) rfl 9 (by decide) (hg _ mm_967) (fun _ h9 => h9) rfl dX9_rounds_50 ?_
                  refine lv_iload_n hx hb dX9_rounds_53 rfl (lv_at hl 4 rfl) ?_
                  refine va_iald hx hb hK hP 5 0 (zw_at (by omega) kp5_47) rfl (z_in rfl (by omega) (by omega)) dX9_rounds_54 ?_
                  refine lv_topi (fun y160 ey160 => ?_)
                  obtain rfl : y80 = y160 := ey80.trans ey160.symm
                  refine lv_icmp_ge (tgt := 102) hx hb dX9_rounds_55 (by decide) (fun c161 => ?_) (fun c161 => ?_)
                  · skip
                    have c161 : y80.toInt ≤ v4_47.toInt := (z_le rfl rfl).mp c161
                    refine lv_iload_n hx hb dX9_rounds_102 rfl (lv_at hl 2 rfl) ?_
                    refine lv_if_ne (tgt := 121) hx hb dX9_rounds_103 (by decide) (fun c162 => ?_) (fun c162 => ?_)
                    · skip
                      have c162 : ¬ (v2_34.toInt = 0) := fun q => c162 ((z_eq rfl (by decide : (0 : Int32).toInt = 0)).mpr q)
                      refine lv_iconst (v := 1) hx hb dX9_rounds_121 (by decide) ?_
                      refine lv_goto (tgt := 126) hx hb dX9_rounds_122 (by decide) ?_
                      refine lv_istore_n (lv' := [(2, .int 1), (4, .int v4_47), (3, .int v3_34), (0, .ref (ad 0)), (1, .int b)]) hx hb dX9_rounds_126 rfl hl (by decide) rfl (fun ls hl => ?_)
                      obtain ⟨x163, ex163⟩ : ∃ y : Int32, y = v3_34 + 1 := ⟨_, rfl⟩
                      have tx163 : x163.toInt = v3_34.toInt + 1 := by rw [ex163]; exact z_add rfl (by decide : (1 : Int32).toInt = 1) (by omega) (by omega)
                      refine lv_iinc (v := x163) (lv' := [(3, .int x163), (2, .int 1), (4, .int v4_47), (0, .ref (ad 0)), (1, .int b)]) hx hb dX9_rounds_127 hl (k := 2) rfl (by rw [ex163]; rfl) (by decide) rfl (fun ls hl => ?_)
                      have hrl3 : rnl (zar (ct 20)) (zar (ct123 20)) ((1 : Int32)).toInt := rnl_keep j0_47 (fun _ => by omega)
                      refine lv_goto (tgt := 34) hx hb dX9_rounds_130 (by decide) ?_
                      exact ih34 x163 (1 : Int32) ct123 _ _ ls (by omega) (by first | assumption | omega | decide) (by first | assumption | omega | decide) (by first | assumption | omega | decide) (by first | assumption | omega | decide) (by first | assumption | omega | decide) kp5_47 kp27_47 hI hP hD hS (lv_sub hl [0, 1, 3, 4] rfl)
                    · skip
                      have c162 : v2_34.toInt = 0 := (z_eq rfl (by decide : (0 : Int32).toInt = 0)).mp c162
                      refine lv_aload_n hx hb dX9_rounds_106 rfl (lv_at hl 3 rfl) ?_
                      refine va_get (D := g.1) (ci := 9) (v := .ref (ad 20)) (C := RX9) (T := TX9) (N := 47) hx hb hg inG9 hown hK hP 0 (zw_at (by omega) hs124) rfl 32 (by decide) (hg _ mm_990) (fun _ h9 => h9) rfl dX9_rounds_107 ?_
                      refine lv_iload_n hx hb dX9_rounds_110 rfl (lv_at hl 1 rfl) ?_
                      obtain ⟨f165, hp166, hs164⟩ := a9_20 hI.1
                      refine va_iald hx hb hK hP 20 0 (zw_at (by omega) hs164) rfl (z_in rfl (by omega) (by omega)) dX9_rounds_111 ?_
                      refine lv_topi (fun y167 ey167 => ?_)
                      have hy167 := hp166 _ (z_clt (x := v3_34) rfl (by omega) (by omega))
                      rw [← ey167] at hy167
                      have hy167 : 0 ≤ y167.toInt ∧ y167.toInt ≤ 65535 := hy167
                      refine lv_aload_n hx hb dX9_rounds_112 rfl (lv_at hl 3 rfl) ?_
                      refine va_get (D := g.1) (ci := 9) (v := .ref (ad 27)) (C := RX9) (T := TX9) (N := 47) hx hb hg inG9 hown hK hP 0 (zw_at (by omega) hs124) rfl 39 (by decide) (hg _ mm_997) (fun _ h9 => h9) rfl dX9_rounds_113 ?_
                      refine lv_iload_n hx hb dX9_rounds_116 rfl (lv_at hl 1 rfl) ?_
                      refine va_iald hx hb hK hP 27 0 (zw_at (by omega) kp27_47) rfl (z_in rfl (by omega) (by omega)) dX9_rounds_117 ?_
                      refine lv_topi (fun y168 ey168 => ?_)
                      have hbi : zar (ct 20) v3_34.toInt.toNat = y168 := by rw [← hB v3_34.toInt.toNat (by omega), ey168, z_cl (x := v3_34) (k := v3_34.toInt.toNat) (by omega)]
                      have hfi : zar (ct123 20) v3_34.toInt.toNat = y167 := by rw [zar_of hs164, ey167, z_cl (x := v3_34) (k := v3_34.toInt.toNat) (by omega)]
                      refine lv_icmp_eq (tgt := 125) hx hb dX9_rounds_118 (by decide) (fun c169 => ?_) (fun c169 => ?_)
                      · skip
                        have c169 : y167.toInt = y168.toInt := (z_eq rfl rfl).mp c169
                        refine lv_iconst (v := 0) hx hb dX9_rounds_125 (by decide) ?_
                        refine lv_istore_n (lv' := [(2, .int 0), (4, .int v4_47), (3, .int v3_34), (0, .ref (ad 0)), (1, .int b)]) hx hb dX9_rounds_126 rfl hl (by decide) rfl (fun ls hl => ?_)
                        obtain ⟨x170, ex170⟩ : ∃ y : Int32, y = v3_34 + 1 := ⟨_, rfl⟩
                        have tx170 : x170.toInt = v3_34.toInt + 1 := by rw [ex170]; exact z_add rfl (by decide : (1 : Int32).toInt = 1) (by omega) (by omega)
                        refine lv_iinc (v := x170) (lv' := [(3, .int x170), (2, .int 0), (4, .int v4_47), (0, .ref (ad 0)), (1, .int b)]) hx hb dX9_rounds_127 hl (k := 2) rfl (by rw [ex170]; rfl) (by decide) rfl (fun ls hl => ?_)
                        have hrl3 : rnl (zar (ct 20)) (zar (ct123 20)) ((0 : Int32)).toInt := rnl_keep j0_47 (fun q => by omega)
                        refine lv_goto (tgt := 34) hx hb dX9_rounds_130 (by decide) ?_
                        exact ih34 x170 (0 : Int32) ct123 _ _ ls (by omega) (by first | assumption | omega | decide) (by first | assumption | omega | decide) (by first | assumption | omega | decide) (by first | assumption | omega | decide) (by first | assumption | omega | decide) kp5_47 kp27_47 hI hP hD hS (lv_sub hl [0, 1, 3, 4] rfl)
                      · skip
                        have c169 : ¬ (y167.toInt = y168.toInt) := fun q => c169 ((z_eq rfl rfl).mpr q)
                        refine lv_iconst (v := 1) hx hb dX9_rounds_121 (by decide) ?_
                        refine lv_goto (tgt := 126) hx hb dX9_rounds_122 (by decide) ?_
                        refine lv_istore_n (lv' := [(2, .int 1), (4, .int v4_47), (3, .int v3_34), (0, .ref (ad 0)), (1, .int b)]) hx hb dX9_rounds_126 rfl hl (by decide) rfl (fun ls hl => ?_)
                        obtain ⟨x171, ex171⟩ : ∃ y : Int32, y = v3_34 + 1 := ⟨_, rfl⟩
                        have tx171 : x171.toInt = v3_34.toInt + 1 := by rw [ex171]; exact z_add rfl (by decide : (1 : Int32).toInt = 1) (by omega) (by omega)
                        refine lv_iinc (v := x171) (lv' := [(3, .int x171), (2, .int 1), (4, .int v4_47), (0, .ref (ad 0)), (1, .int b)]) hx hb dX9_rounds_127 hl (k := 2) rfl (by rw [ex171]; rfl) (by decide) rfl (fun ls hl => ?_)
                        have hrl3 : rnl (zar (ct 20)) (zar (ct123 20)) ((1 : Int32)).toInt := rnl_some (i := v3_34.toInt.toNat) j0_47 (by omega) (by rw [hfi, hbi]; omega)
                        refine lv_goto (tgt := 34) hx hb dX9_rounds_130 (by decide) ?_
                        exact ih34 x171 (1 : Int32) ct123 _ _ ls (by omega) (by first | assumption | omega | decide) (by first | assumption | omega | decide) (by first | assumption | omega | decide) (by first | assumption | omega | decide) (by first | assumption | omega | decide) kp5_47 kp27_47 hI hP hD hS (lv_sub hl [0, 1, 3, 4] rfl)
                  · skip
                    have c161 : ¬ (y80.toInt ≤ v4_47.toInt) := fun q => c161 ((z_le rfl rfl).mpr q)
                    refine lv_iload hx hb dX9_rounds_58 (lv_at hl 0 rfl) ?_
                    refine lv_iload_n hx hb dX9_rounds_60 rfl (lv_at hl 1 rfl) ?_
                    refine lv_icmp_eq (tgt := 96) hx hb dX9_rounds_61 (by decide) (fun c172 => ?_) (fun c172 => ?_)
                    · skip
                      have c172 : v4_47.toInt = v3_34.toInt := (z_eq rfl rfl).mp c172
                      obtain ⟨x173, ex173⟩ : ∃ y : Int32, y = v4_47 + 1 := ⟨_, rfl⟩
                      have tx173 : x173.toInt = v4_47.toInt + 1 := by rw [ex173]; exact z_add rfl (by decide : (1 : Int32).toInt = 1) (by omega) (by omega)
                      refine lv_iinc (v := x173) (lv' := [(4, .int x173), (3, .int v3_34), (2, .int v2_34), (0, .ref (ad 0)), (1, .int b)]) hx hb dX9_rounds_96 hl (k := 0) rfl (by rw [ex173]; rfl) (by decide) rfl (fun ls hl => ?_)
                      refine lv_goto (tgt := 47) hx hb dX9_rounds_99 (by decide) ?_
                      exact ih47 x173 ct123 _ _ ls (by omega) (by first | assumption | omega | decide) (by first | assumption | omega | decide) (by first | assumption | omega | decide) (by first | assumption | omega | decide) kp5_47 kp27_47 hI hP hD hS (lv_sub hl [0, 1, 2, 3, 4] rfl)
                    · skip
                      have c172 : ¬ (v4_47.toInt = v3_34.toInt) := fun q => c172 ((z_eq rfl rfl).mpr q)
                      refine lv_aload_n hx hb dX9_rounds_64 rfl (lv_at hl 3 rfl) ?_
                      refine lv_iload_n hx hb dX9_rounds_65 rfl (lv_at hl 4 rfl) ?_
                      refine lv_iload hx hb dX9_rounds_66 (lv_at hl 0 rfl) ?_
                      refine zc_i (va_runV (As := [.int b, .int v4_47]) (rest := []) ⟨hx, hb, hml, hown, hg⟩ (k_X9_isFound l g ad me ct123 b v4_47 (by first | omega | decide) (by first | omega | decide) hI) (cwV 2 hg (z_gV mm_1392 mm_1394 mm_94 mm_117 mm_1395) rfl rfl rfl (by decide +kernel) ⟨Nat.le_of_ble_eq_true rfl, Nat.le_of_ble_eq_true rfl⟩) ⟨(zR.pre [.ref (ad 0), .int b, .int v4_47] hP hK hN).1, va_recv hK hP (ci := 9) (q0 := 0) rfl (zw_at (by omega) hs124), (zR.pre [.ref (ad 0), .int b, .int v4_47] hP hK hN).2⟩ rfl rfl hl.1 rfl (lv_room (Nat.le_of_ble_eq_true rfl)) dX9_rounds_68 ⟨Nat.le_of_ble_eq_true rfl, Nat.le_of_ble_eq_true rfl⟩) (fun r174 hr174 => ?_)
                      rcases hr174 with hr174 | hr174
                      · skip
                        obtain ⟨rfl, h175⟩ := hr174
                        replace h175 : (zar (ct123 10) (8 * b.toInt.toNat + v4_47.toInt.toNat)).toInt = 0 ∧ zpop (zar (ct123 27) v4_47.toInt.toNat) 16 = 1 := h175
                        refine lv_if_eq (tgt := 96) hx hb dX9_rounds_71 (by decide) (fun c176 => ?_) (fun c176 => ?_)
                        · skip
                          exact absurd c176 (by decide)
                        · skip
                          refine lv_aload_n hx hb dX9_rounds_74 rfl (lv_at hl 3 rfl) ?_
                          refine va_get (D := g.1) (ci := 9) (v := .ref (ad 20)) (C := RX9) (T := TX9) (N := 47) hx hb hg inG9 hown hK hP 0 (zw_at (by omega) hs124) rfl 32 (by decide) (hg _ mm_990) (fun _ h9 => h9) rfl dX9_rounds_75 ?_
                          refine lv_iload_n hx hb dX9_rounds_78 rfl (lv_at hl 1 rfl) ?_
                          refine lv_aload_n hx hb dX9_rounds_79 rfl (lv_at hl 3 rfl) ?_
                          refine va_get (D := g.1) (ci := 9) (v := .ref (ad 20)) (C := RX9) (T := TX9) (N := 47) hx hb hg inG9 hown hK hP 0 (zw_at (by omega) hs124) rfl 32 (by decide) (hg _ mm_990) (fun _ h9 => h9) rfl dX9_rounds_80 ?_
                          refine lv_iload_n hx hb dX9_rounds_83 rfl (lv_at hl 1 rfl) ?_
                          obtain ⟨f178, hp179, hs177⟩ := a9_20 hI.1
                          refine va_iald hx hb hK hP 20 0 (zw_at (by omega) hs177) rfl (z_in rfl (by omega) (by omega)) dX9_rounds_84 ?_
                          refine lv_topi (fun y180 ey180 => ?_)
                          have hy180 := hp179 _ (z_clt (x := v3_34) rfl (by omega) (by omega))
                          rw [← ey180] at hy180
                          have hy180 : 0 ≤ y180.toInt ∧ y180.toInt ≤ 65535 := hy180
                          refine lv_aload_n hx hb dX9_rounds_85 rfl (lv_at hl 3 rfl) ?_
                          refine va_get (D := g.1) (ci := 9) (v := .ref (ad 27)) (C := RX9) (T := TX9) (N := 47) hx hb hg inG9 hown hK hP 0 (zw_at (by omega) hs124) rfl 39 (by decide) (hg _ mm_997) (fun _ h9 => h9) rfl dX9_rounds_86 ?_
                          refine lv_iload hx hb dX9_rounds_89 (lv_at hl 0 rfl) ?_
                          refine va_iald hx hb hK hP 27 0 (zw_at (by omega) kp27_47) rfl (z_in rfl (by omega) (by omega)) dX9_rounds_91 ?_
                          refine lv_topi (fun y181 ey181 => ?_)
                          refine lv_iconst (v := (-1)) hx hb dX9_rounds_92 (by decide) ?_
                          refine lv_ixor hx hb dX9_rounds_93 ?_
                          refine lv_topi (fun x182 ex182 => ?_)
                          refine lv_iand hx hb dX9_rounds_94 ?_
                          refine lv_topi (fun x183 ex183 => ?_)
                          have tx183 := z_andl (x := y180) (y := x182) rfl (by omega)
                          rw [← ex183] at tx183
                          refine va_iast hx hb hK hP hD hS 20 0 (zw_at (by omega) hs177) rfl (z_in rfl (by omega) (by omega)) dX9_rounds_95 (fun H locs hP hD hS => ?_)
                          have hp185 : ∀ j : Nat, j < 8 → (fun x : Int32 => 0 ≤ x.toInt ∧ x.toInt ≤ 65535) ((upd f178 (Int32.toNatClampNeg v3_34) x183) j) := fun j hj => by
                            unfold upd
                            by_cases q : j = Int32.toNatClampNeg v3_34
                            · rw [if_pos q]; exact (show 0 ≤ (x183 : Int32).toInt ∧ (x183 : Int32).toInt ≤ 65535 from (by first | omega | decide))
                            · rw [if_neg q]; exact hp179 j hj
                          have hP : zP g ((zw 32 ad ct123).set 20 (ad 20, .inl (g.2 0, 8, .inl (upd f178 (Int32.toNatClampNeg v3_34) x183)))) H := hP
                          have hD : va_D A ((zw 32 ad ct123).set 20 (ad 20, .inl (g.2 0, 8, .inl (upd f178 (Int32.toNatClampNeg v3_34) x183)))) := hD
                          rw [zw_set (by omega)] at hP hD
                          obtain ⟨ct186, ec187⟩ : ∃ z : Nat → va_E, z = va_up ct123 20 (.inl (g.2 0, 8, .inl (upd f178 (Int32.toNatClampNeg v3_34) x183))) := ⟨_, rfl⟩
                          rw [← ec187] at hP hD
                          have hI : IR g ad me ct186 := by rw [ec187]; exact upR hI (by decide) (i9_20 ⟨_, hp185, rfl⟩)
                          have hc5 : ct186 5 = ct 5 := by rw [ec187]; exact (va_up_ne _ _ (by omega)).trans hc5
                          have hc10 : ct186 10 = ct 10 := by rw [ec187]; exact (va_up_ne _ _ (by omega)).trans hc10
                          have hs188 : ct186 5 = .inl (g.2 0, 4, .inl f41) := by rw [ec187, va_up_ne _ _ (by omega)]; exact kp5_47
                          have hs189 : ct186 27 = .inl (g.2 0, 8, .inl f83) := by rw [ec187, va_up_ne _ _ (by omega)]; exact kp27_47
                          have hs190 : ct186 0 = .inr (9, [.int me, .ref (ad 1), .ref (ad 2), .ref (ad 3), .ref (ad 4), .int bks125, .int lks126, .int gos127, .int shn128, .ref (ad 5), .ref (ad 6), .ref (ad 7), .ref (ad 8), .ref (ad 9), .ref (ad 10), .ref (ad 11), .int tpd129, .int pl0130, .int ln0131, .int flt132, .int opn133, .int cmy134, .int wtg135, .int nm0136, .ref (ad 12), .ref (ad 13), .ref (ad 14), .ref (ad 15), .ref (ad 16), .ref (ad 17), .ref (ad 18), .ref (ad 19), .ref (ad 20), .ref (ad 21), .ref (ad 22), .ref (ad 23), .ref (ad 24), .ref (ad 25), .ref (ad 26), .ref (ad 27), .int mst137, .int sus138, .ref (ad 28), .ref (ad 29), .ref (ad 30), .ref (ad 31), .int cut139]) := by rw [ec187, va_up_ne _ _ (by omega)]; exact hs124
                          have hs191 : ct186 20 = .inl (g.2 0, 8, .inl (upd f178 (Int32.toNatClampNeg v3_34) x183)) := by rw [ec187]; exact va_up_self _ _ _
                          have hrl2 : rnl (zar (ct 20)) (zar (ct186 20)) v2_34.toInt := by
                            rw [zar_of hs191]
                            exact rnl_upd (by rw [← zar_of hs177]; exact j0_47) (by rw [← ey180]; omega)
                          obtain ⟨x192, ex192⟩ : ∃ y : Int32, y = v4_47 + 1 := ⟨_, rfl⟩
                          have tx192 : x192.toInt = v4_47.toInt + 1 := by rw [ex192]; exact z_add rfl (by decide : (1 : Int32).toInt = 1) (by omega) (by omega)
                          refine lv_iinc (v := x192) (lv' := [(4, .int x192), (3, .int v3_34), (2, .int v2_34), (0, .ref (ad 0)), (1, .int b)]) hx hb dX9_rounds_96 hl (k := 0) rfl (by rw [ex192]; rfl) (by decide) rfl (fun ls hl => ?_)
                          refine lv_goto (tgt := 47) hx hb dX9_rounds_99 (by decide) ?_
                          exact ih47 x192 ct186 _ _ ls (by omega) (by first | assumption | omega | decide) (by first | assumption | omega | decide) (by first | assumption | omega | decide) (by first | assumption | omega | decide) hs188 hs189 hI hP hD hS (lv_sub hl [0, 1, 2, 3, 4] rfl)
                      · skip
                        obtain ⟨rfl, h193⟩ := hr174
                        replace h193 : ¬ ((zar (ct123 10) (8 * b.toInt.toNat + v4_47.toInt.toNat)).toInt = 0 ∧ zpop (zar (ct123 27) v4_47.toInt.toNat) 16 = 1) := h193
                        refine lv_if_eq (tgt := 96) hx hb dX9_rounds_71 (by decide) (fun c194 => ?_) (fun c194 => ?_)
                        · skip
                          obtain ⟨x195, ex195⟩ : ∃ y : Int32, y = v4_47 + 1 := ⟨_, rfl⟩
                          have tx195 : x195.toInt = v4_47.toInt + 1 := by rw [ex195]; exact z_add rfl (by decide : (1 : Int32).toInt = 1) (by omega) (by omega)
                          refine lv_iinc (v := x195) (lv' := [(4, .int x195), (3, .int v3_34), (2, .int v2_34), (0, .ref (ad 0)), (1, .int b)]) hx hb dX9_rounds_96 hl (k := 0) rfl (by rw [ex195]; rfl) (by decide) rfl (fun ls hl => ?_)
                          refine lv_goto (tgt := 47) hx hb dX9_rounds_99 (by decide) ?_
                          exact ih47 x195 ct123 _ _ ls (by omega) (by first | assumption | omega | decide) (by first | assumption | omega | decide) (by first | assumption | omega | decide) (by first | assumption | omega | decide) kp5_47 kp27_47 hI hP hD hS (lv_sub hl [0, 1, 2, 3, 4] rfl)
                        · skip
                          exact absurd c194 (by decide)
              exact loop47 ((8 - (0 : Int32).toInt : Int).toNat + 1) (0 : Int32) ct84 _ _ ls (by omega) (by first | assumption | omega | decide) (by first | assumption | omega | decide) (by first | assumption | omega | decide) (by first | assumption | omega | decide) kp5_34 kp27_34 hI hP hD hS (lv_sub hl [0, 1, 2, 3, 4] rfl)
        have hrl : rnl (zar (ct 20)) (zar (ct43 20)) ((0 : Int32)).toInt := by
          rw [zar_of kp20_2, hz20]
          exact rnl_start
        exact loop34 ((8 - (0 : Int32).toInt : Int).toNat + 1) (0 : Int32) (0 : Int32) ct43 _ _ ls (by omega) (by first | assumption | omega | decide) (by first | assumption | omega | decide) (by first | assumption | omega | decide) (by first | assumption | omega | decide) (by first | assumption | omega | decide) kp5_2 hs82 hI hP hD hS (lv_sub hl [0, 1, 2, 3] rfl)
      · skip
        have c81 : ¬ (y80.toInt ≤ v2_2.toInt) := fun q => c81 ((z_le rfl rfl).mpr q)
        refine lv_aload_n hx hb dX9_rounds_12 rfl (lv_at hl 1 rfl) ?_
        refine va_get (D := g.1) (ci := 9) (v := .ref (ad 27)) (C := RX9) (T := TX9) (N := 47) hx hb hg inG9 hown hK hP 0 (zw_at (by omega) hs44) rfl 39 (by decide) (hg _ mm_997) (fun _ h9 => h9) rfl dX9_rounds_13 ?_
        refine lv_iload_n hx hb dX9_rounds_16 rfl (lv_at hl 0 rfl) ?_
        refine lv_aload_n hx hb dX9_rounds_17 rfl (lv_at hl 1 rfl) ?_
        refine va_get (D := g.1) (ci := 9) (v := .ref (ad 20)) (C := RX9) (T := TX9) (N := 47) hx hb hg inG9 hown hK hP 0 (zw_at (by omega) hs44) rfl 32 (by decide) (hg _ mm_990) (fun _ h9 => h9) rfl dX9_rounds_18 ?_
        refine lv_iload_n hx hb dX9_rounds_21 rfl (lv_at hl 0 rfl) ?_
        refine va_iald hx hb hK hP 20 0 (zw_at (by omega) kp20_2) rfl (z_in rfl (by omega) (by omega)) dX9_rounds_22 ?_
        refine lv_topi (fun y196 ey196 => ?_)
        have hy196 := hp3 _ (z_clt (x := v2_2) rfl (by omega) (by omega))
        rw [← ey196] at hy196
        have hy196 : 0 ≤ y196.toInt ∧ y196.toInt ≤ 65535 := hy196
        obtain ⟨f198, hs197⟩ := a9_27 hI.1
        refine va_iast hx hb hK hP hD hS 27 0 (zw_at (by omega) hs197) rfl (z_in rfl (by omega) (by omega)) dX9_rounds_23 (fun H locs hP hD hS => ?_)
        have hP : zP g ((zw 32 ad ct43).set 27 (ad 27, .inl (g.2 0, 8, .inl (upd f198 (Int32.toNatClampNeg v2_2) y196)))) H := hP
        have hD : va_D A ((zw 32 ad ct43).set 27 (ad 27, .inl (g.2 0, 8, .inl (upd f198 (Int32.toNatClampNeg v2_2) y196)))) := hD
        rw [zw_set (by omega)] at hP hD
        obtain ⟨ct200, ec201⟩ : ∃ z : Nat → va_E, z = va_up ct43 27 (.inl (g.2 0, 8, .inl (upd f198 (Int32.toNatClampNeg v2_2) y196))) := ⟨_, rfl⟩
        rw [← ec201] at hP hD
        have hI : IR g ad me ct200 := by rw [ec201]; exact upR hI (by decide) (i9_27 ⟨_, rfl⟩)
        have hc5 : ct200 5 = ct 5 := by rw [ec201]; exact (va_up_ne _ _ (by omega)).trans hc5
        have hc10 : ct200 10 = ct 10 := by rw [ec201]; exact (va_up_ne _ _ (by omega)).trans hc10
        have hs202 : ct200 5 = .inl (g.2 0, 4, .inl f41) := by rw [ec201, va_up_ne _ _ (by omega)]; exact kp5_2
        have hs203 : ct200 20 = .inl (g.2 0, 8, .inl f2) := by rw [ec201, va_up_ne _ _ (by omega)]; exact kp20_2
        have hs204 : ct200 0 = .inr (9, [.int me, .ref (ad 1), .ref (ad 2), .ref (ad 3), .ref (ad 4), .int bks45, .int lks46, .int gos47, .int shn48, .ref (ad 5), .ref (ad 6), .ref (ad 7), .ref (ad 8), .ref (ad 9), .ref (ad 10), .ref (ad 11), .int tpd49, .int pl050, .int ln051, .int flt52, .int opn53, .int cmy54, .int wtg55, .int nm056, .ref (ad 12), .ref (ad 13), .ref (ad 14), .ref (ad 15), .ref (ad 16), .ref (ad 17), .ref (ad 18), .ref (ad 19), .ref (ad 20), .ref (ad 21), .ref (ad 22), .ref (ad 23), .ref (ad 24), .ref (ad 25), .ref (ad 26), .ref (ad 27), .int mst57, .int sus58, .ref (ad 28), .ref (ad 29), .ref (ad 30), .ref (ad 31), .int cut59]) := by rw [ec201, va_up_ne _ _ (by omega)]; exact hs44
        have hs205 : ct200 27 = .inl (g.2 0, 8, .inl (upd f198 (Int32.toNatClampNeg v2_2) y196)) := by rw [ec201]; exact va_up_self _ _ _
        have hfl : ∀ j : Nat, (j : Int) < v2_2.toInt + 1 → zar (ct200 27) j = zar (ct 20) j := fun j hj => by
          rw [zar_of hs205]
          by_cases q : (j : Int) = v2_2.toInt
          · rw [z_cl (x := v2_2) (k := j) (by omega), upd_sm, ey196, z_cl (x := v2_2) (k := j) (by omega), hz20]
          · rw [upd_other (by have := z_clI (x := v2_2) (by omega); omega), ← zar_of hs197]
            exact j0_2 j (by omega)
        obtain ⟨x206, ex206⟩ : ∃ y : Int32, y = v2_2 + 1 := ⟨_, rfl⟩
        have tx206 : x206.toInt = v2_2.toInt + 1 := by rw [ex206]; exact z_add rfl (by decide : (1 : Int32).toInt = 1) (by omega) (by omega)
        refine lv_iinc (v := x206) (lv' := [(2, .int x206), (0, .ref (ad 0)), (1, .int b)]) hx hb dX9_rounds_24 hl (k := 0) rfl (by rw [ex206]; rfl) (by decide) rfl (fun ls hl => ?_)
        have hfl2 : ∀ j : Nat, (j : Int) < x206.toInt → zar (ct200 27) j = zar (ct 20) j := fun j hj => hfl j (by omega)
        refine lv_goto (tgt := 2) hx hb dX9_rounds_27 (by decide) ?_
        exact ih2 x206 ct200 _ _ ls (by omega) (by first | assumption | omega | decide) (by first | assumption | omega | decide) (by first | assumption | omega | decide) (by first | assumption | omega | decide) hs202 hs203 hI hP hD hS (lv_sub hl [0, 1, 2] rfl)
  have hb0 : ∀ j : Nat, (j : Int) < ((0 : Int32)).toInt → zar (ct 27) j = zar (ct 20) j := fun j hj => by omega
  exact loop2 ((8 - (0 : Int32).toInt : Int).toNat + 1) (0 : Int32) ct _ _ ls (by omega) (by first | assumption | omega | decide) (by first | assumption | omega | decide) (by first | assumption | omega | decide) (by first | assumption | omega | decide) hs40 hs1 hI hP hD hS (lv_sub hl [0, 1, 2] rfl)
