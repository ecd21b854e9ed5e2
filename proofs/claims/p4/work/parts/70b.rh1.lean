set_option maxHeartbeats 4000000 in
set_option maxRecDepth 100000 in
theorem k_X9_steps (l : Launch) (g : zG) (sz : Nat) (ad : Nat → Nat) (me : Int32) (ct : Nat → va_E) (b : Int32) (kn : Int32) (wh : Int32) (hI : IR g ad me ct) : Met l yX9_steps (zW yX9_steps cX9_steps 7 (some .int)) ({ frames := 6, cells := 0, slots := 0, locals := 148 }) (va_Pc [.ref (ad 0), .int b, .int kn, .int wh] (zA g (zw 32 ad ct) sz)) (va_Qi (fun (r : Int32) (_ : Unit) => (True)) (fun _ t => ∃ ct2 : Nat → va_E, zP g (zw 32 ad ct2) t.heap ∧ va_D (va_A (zw 32 ad ct) sz) (zw 32 ad ct2) ∧ IR g ad me ct2) (va_A (zw 32 ad ct) sz)) 0 0 (va_A (zw 32 ad ct) sz) := by
  refine Met.ofW (cc := cX9_steps) (maxL := 7) (ret := (some .int)) (by decide) rfl ?_
  intro p e s m args below meth c s₁ B hml hv
  obtain ⟨rfl, hsz, hP, hK, hD0, hN⟩ := hv
  have hx := B.exec
  have hb := B.bytes
  have hr := B.returns
  have hg := zW.law (atoms_spec (ws := (zW yX9_steps cX9_steps 7 (some .int))) B.pre)
  have hown : s.vm.findClass RX9 = some m.cls := findClass_of_methodNamed B.named
  have hlocks := B.notSynchronized
  have hpe0 := hI.1.1
  subst hsz
  have hD := hD0.self (sz := s.heap.size)
  generalize hAe : va_A (zw 32 ad ct) s.heap.size = A at hD ⊢
  have hA : ∀ q : Nat, s.heap.size ≤ q → A q := fun q h => by rw [← hAe]; exact Or.inr h
  have hS : va_S A s.heap s.heap [] := va_S.rf
  have hl := lv_entry ([.ref (ad 0), .int b, .int kn, .int wh]) (n := 7) (Nat.le_of_ble_eq_true rfl)
  rw [lg_entry_eq]
  generalize (lg_sl ([.ref (ad 0), .int b, .int kn, .int wh]) ++ List.replicate (7 - (lg_sl ([.ref (ad 0), .int b, .int kn, .int wh])).length) Slot.unset).toArray = ls at hl ⊢
  have hl : lv_has ls 7 [(0, .ref (ad 0)), (1, .int b), (2, .int kn), (3, .int wh)] := hl
  have rg_b := z_rng b
  have rg_kn := z_rng kn
  have rg_wh := z_rng wh
  have q0 : ((0 : Int32)).toInt = 0 := by decide
  have q1 : ((1 : Int32)).toInt = 1 := by decide
  refine lv_aload_n hx hb dX9_steps_0 rfl (lv_at hl 0 rfl) ?_
  refine lv_iload_n hx hb dX9_steps_1 rfl (lv_at hl 1 rfl) ?_
  obtain ⟨bks2, lks3, gos4, shn5, tpd6, pl07, ln08, flt9, opn10, cmy11, wtg12, nm013, mst14, sus15, cut16, h17, h18, h19, h20, h21, h22, h23, h24, h25, h26, h27, h28, h29, h30, h31, h32, h33, h34, h35, h36, hs1⟩ := a9_0 hI.1
  refine zc_i (va_runV (As := [.int b]) (rest := []) ⟨hx, hb, hml, hown, hg⟩ (k_X9_isBook l g ad me ct b hI) (cwV 1 hg (z_gV mm_1174 mm_1176 mm_58 mm_117 mm_1177) rfl rfl rfl (by decide +kernel) ⟨Nat.le_of_ble_eq_true rfl, Nat.le_of_ble_eq_true rfl⟩) ⟨(zR.pre [.ref (ad 0), .int b] hP hK hN).1, va_recv hK hP (ci := 9) (q0 := 0) rfl (zw_at (by omega) hs1), (zR.pre [.ref (ad 0), .int b] hP hK hN).2⟩ rfl rfl hl.1 rfl (lv_room (Nat.le_of_ble_eq_true rfl)) dX9_steps_2 ⟨Nat.le_of_ble_eq_true rfl, Nat.le_of_ble_eq_true rfl⟩) (fun r37 hr37 => ?_)
  rcases hr37 with hr37 | hr37
  · skip
    obtain ⟨rfl, h38, h39⟩ := hr37
    replace h38 : 0 ≤ b.toInt := h38
    replace h39 : b.toInt ≤ 3 := h39
    refine lv_if_eq (tgt := 35) hx hb dX9_steps_5 (by decide) (fun c40 => ?_) (fun c40 => ?_)
    · skip
      exact absurd c40 (by decide)
    · skip
      refine lv_iload_n hx hb dX9_steps_8 rfl (lv_at hl 2 rfl) ?_
      refine zc_i (va_runS (As := [.int kn]) (rest := []) ⟨hx, hb, hml, hown, hg⟩ (k_X9_isKnown l g ad me ct kn hI) (va_cwS 1 hg (z_gS mm_1294 mm_1295 mm_117 mm_1296) rfl rfl rfl (by decide +kernel) ⟨Nat.le_of_ble_eq_true rfl, Nat.le_of_ble_eq_true rfl⟩) (zR.pre [.int kn] hP hK hN) rfl rfl hl.1 rfl (lv_room (Nat.le_of_ble_eq_true rfl)) dX9_steps_9 ⟨Nat.le_of_ble_eq_true rfl, Nat.le_of_ble_eq_true rfl⟩) (fun r41 hr41 => ?_)
      rcases hr41 with hr41 | hr41
      · skip
        obtain ⟨rfl, h42, h43⟩ := hr41
        replace h42 : 0 ≤ kn.toInt := h42
        replace h43 : kn.toInt ≤ 255 := h43
        refine lv_if_eq (tgt := 35) hx hb dX9_steps_12 (by decide) (fun c44 => ?_) (fun c44 => ?_)
        · skip
          exact absurd c44 (by decide)
        · skip
          refine lv_iload_n hx hb dX9_steps_15 rfl (lv_at hl 3 rfl) ?_
          refine lv_iconst (v := (-1)) hx hb dX9_steps_16 (by decide) ?_
          refine lv_icmp_eq (tgt := 37) hx hb dX9_steps_17 (by decide) (fun c45 => ?_) (fun c45 => ?_)
          · skip
            have c45 : wh.toInt = (-1) := (z_eq rfl (by decide : ((-1) : Int32).toInt = (-1))).mp c45
            refine lv_aload_n hx hb dX9_steps_37 rfl (lv_at hl 0 rfl) ?_
            refine lv_iload_n hx hb dX9_steps_38 rfl (lv_at hl 1 rfl) ?_
            refine lv_iload_n hx hb dX9_steps_39 rfl (lv_at hl 2 rfl) ?_
            have hFc := zw_free hD hS hA
            refine va_callv (va_runV (As := [.int b, .int kn]) (rest := []) ⟨hx, hb, hml, hown, hg⟩ (k_X9_laysFitting l g _ ad me ct b kn (by first | omega | decide) (by first | omega | decide) hI) (cwV 2 hg (z_gV mm_1329 mm_1331 mm_85 mm_117 mm_1332) rfl rfl rfl (by decide +kernel) ⟨Nat.le_of_ble_eq_true rfl, Nat.le_of_ble_eq_true rfl⟩) ⟨(zA.pre [.ref (ad 0), .int b, .int kn] hP hK hD hN).1, va_recv hK hP (ci := 9) (q0 := 0) rfl (zw_at (by omega) hs1), (zA.pre [.ref (ad 0), .int b, .int kn] hP hK hD hN).2⟩ rfl rfl hl.1 rfl (lv_room (Nat.le_of_ble_eq_true rfl)) dX9_steps_40 ⟨Nat.le_of_ble_eq_true rfl, Nat.le_of_ble_eq_true rfl⟩) hS (fun q _ h => hFc q h) hFc (fun _ t H1 locs ht hvm hr46 hB hz1 hk1 hS => ?_)
            obtain ⟨ct47, hP1, hD1, hI, hk48, hk49, hk50⟩ := hB
            rw [ht] at hP1
            have hD := hD1.weaken (fun _ _ _ h => hFc _ h)
            generalize H1 = H at hP1 hS ⊢
            have hP := hP1
            refine W.widen (k := 0) (n := 0) (Nat.le_refl _) (Nat.le_refl _) ?_
            have hs51 : ct47 0 = .inr (9, [.int me, .ref (ad 1), .ref (ad 2), .ref (ad 3), .ref (ad 4), .int bks2, .int lks3, .int gos4, .int shn5, .ref (ad 5), .ref (ad 6), .ref (ad 7), .ref (ad 8), .ref (ad 9), .ref (ad 10), .ref (ad 11), .int tpd6, .int pl07, .int ln08, .int flt9, .int opn10, .int cmy11, .int wtg12, .int nm013, .ref (ad 12), .ref (ad 13), .ref (ad 14), .ref (ad 15), .ref (ad 16), .ref (ad 17), .ref (ad 18), .ref (ad 19), .ref (ad 20), .ref (ad 21), .ref (ad 22), .ref (ad 23), .ref (ad 24), .ref (ad 25), .ref (ad 26), .ref (ad 27), .int mst14, .int sus15, .ref (ad 28), .ref (ad 29), .ref (ad 30), .ref (ad 31), .int cut16]) := hk48.trans hs1
            refine lv_iconst (v := 0) hx hb dX9_steps_43 (by decide) ?_
            refine lv_istore (lv' := [(4, .int 0), (0, .ref (ad 0)), (1, .int b), (2, .int kn), (3, .int wh)]) hx hb dX9_steps_44 hl (by decide) rfl (fun ls hl => ?_)
            refine lv_iconst (v := 0) hx hb dX9_steps_46 (by decide) ?_
            refine lv_istore (lv' := [(5, .int 0), (4, .int 0), (0, .ref (ad 0)), (1, .int b), (2, .int kn), (3, .int wh)]) hx hb dX9_steps_47 hl (by decide) rfl (fun ls hl => ?_)
            refine lv_iconst (v := 1) hx hb dX9_steps_49 (by decide) ?_
            refine lv_istore (lv' := [(6, .int 1), (5, .int 0), (4, .int 0), (0, .ref (ad 0)), (1, .int b), (2, .int kn), (3, .int wh)]) hx hb dX9_steps_50 hl (by decide) rfl (fun ls hl => ?_)
            have loop52 : ∀ (n52 : Nat) (v6_52 : Int32) (v5_52 : Int32) (v4_52 : Int32) (ct52 : Nat → va_E) (H : Heap) (locs : List Loc) (ls : Array Slot), ((zsum (zar (ct52 20)) 8 + (255 - v5_52.toInt) + v6_52.toInt : Int).toNat < n52) → (0 ≤ v5_52.toInt ∧ v5_52.toInt ≤ 255) → (0 ≤ v6_52.toInt ∧ v6_52.toInt ≤ 1) → (IR g ad me ct52) → zP g (zw 32 ad ct52) H → va_D A (zw 32 ad ct52) → va_S A s.heap H locs → lv_has ls 7 [(6, .int v6_52), (5, .int v5_52), (4, .int v4_52), (0, .ref (ad 0)), (1, .int b), (2, .int kn), (3, .int wh)] → W p l e (headSpec (zW yX9_steps cX9_steps 7 (some .int)) ({ frames := 6, cells := 0, slots := 0, locals := 148 })).room s m ([.ref (ad 0), .int b, .int kn, .int wh] : List Value).toArray below meth c H locs 0 0 (MQ below (va_Qi (fun (r : Int32) (_ : Unit) => (True)) (fun _ t => ∃ ct2 : Nat → va_E, zP g (zw 32 ad ct2) t.heap ∧ va_D A (zw 32 ad ct2) ∧ IR g ad me ct2) A) ([.ref (ad 0), .int b, .int kn, .int wh] : List Value).toArray s 0 0 A) (F0 m 52 ls []) := by
              intro n52
              induction n52 with
              | zero =>
                intro v6_52 v5_52 v4_52 ct52 H locs ls hn52 b5_52 b6_52 hI hP hD hS hl
                exact absurd hn52 (Nat.not_lt_zero _)
              | succ n52 ih52 =>
                intro v6_52 v5_52 v4_52 ct52 H locs ls hn52 b5_52 b6_52 hI hP hD hS hl
                obtain ⟨f54, hp55, hs53⟩ := a9_20 hI.1
                have hzs0 := zsum_0 (f := zar (ct52 20)) (n := 8) (fun k hk => by rw [zar_of hs53]; exact (hp55 k hk).1)
                refine lv_iload hx hb dX9_steps_52 (lv_at hl 0 rfl) ?_
                refine lv_if_eq (tgt := 114) hx hb dX9_steps_54 (by decide) (fun c56 => ?_) (fun c56 => ?_)
                · skip
                  have c56 : v6_52.toInt = 0 := (z_eq rfl (by decide : (0 : Int32).toInt = 0)).mp c56
                  refine lv_iload_n hx hb dX9_steps_114 rfl (lv_at hl 6 rfl) ?_
                  refine lv_iconst (v := (-1)) hx hb dX9_steps_115 (by decide) ?_
                  refine lv_icmp_ne (tgt := 122) hx hb dX9_steps_116 (by decide) (fun c57 => ?_) (fun c57 => ?_)
                  · skip
                    have c57 : ¬ (wh.toInt = (-1)) := fun q => c57 ((z_eq rfl (by decide : ((-1) : Int32).toInt = (-1))).mpr q)
                    refine lv_iload_n hx hb dX9_steps_122 rfl (lv_at hl 6 rfl) ?_
                    refine lv_bipush (v := 8) hx hb dX9_steps_123 (by decide) ?_
                    refine lv_icmp_ge (tgt := 153) hx hb dX9_steps_125 (by decide) (fun c58 => ?_) (fun c58 => ?_)
                    · skip
                      have c58 : 8 ≤ wh.toInt := (z_le (by decide : (8 : Int32).toInt = 8) rfl).mp c58
                      exfalso
                      omega
                    · skip
                      have c58 : ¬ (8 ≤ wh.toInt) := fun q => c58 ((z_le (by decide : (8 : Int32).toInt = 8) rfl).mpr q)
                      refine lv_aload_n hx hb dX9_steps_128 rfl (lv_at hl 3 rfl) ?_
                      obtain ⟨bks60, lks61, gos62, shn63, tpd64, pl065, ln066, flt67, opn68, cmy69, wtg70, nm071, mst72, sus73, cut74, h75, h76, h77, h78, h79, h80, h81, h82, h83, h84, h85, h86, h87, h88, h89, h90, h91, h92, h93, h94, hs59⟩ := a9_0 hI.1
                      refine va_get (D := g.1) (ci := 9) (v := .ref (ad 10)) (C := RX9) (T := TX9) (N := 47) hx hb hg inG9 hown hK hP 0 (zw_at (by omega) hs59) rfl 14 (by decide) (hg _ mm_972) (fun _ h9 => h9) rfl dX9_steps_129 ?_
                      refine lv_iload_n hx hb dX9_steps_132 rfl (lv_at hl 4 rfl) ?_
                      refine lv_iload_n hx hb dX9_steps_133 rfl (lv_at hl 6 rfl) ?_
                      refine zc_i (va_runS (As := [.int b, .int wh]) (rest := [.ref (ad 10)]) ⟨hx, hb, hml, hown, hg⟩ (k_X9_at l g ad me ct52 b wh (by first | omega | decide) (by first | omega | decide) hI) (va_cwS 2 hg (z_gS mm_1159 mm_1160 mm_117 mm_1161) rfl rfl rfl (by decide +kernel) ⟨Nat.le_of_ble_eq_true rfl, Nat.le_of_ble_eq_true rfl⟩) (zR.pre [.int b, .int wh] hP hK hN) rfl rfl hl.1 rfl (lv_room (Nat.le_of_ble_eq_true rfl)) dX9_steps_134 ⟨Nat.le_of_ble_eq_true rfl, Nat.le_of_ble_eq_true rfl⟩) (fun r95 hr95 => ?_)
                      have hr95_0 := hr95
                      have hr95_0 : r95.toInt = 8 * b.toInt + wh.toInt := hr95_0
                      obtain ⟨f97, hp98, hs96⟩ := a9_10 hI.1
                      refine va_zald hx hb hK hP 10 3 (zw_at (by omega) hs96) rfl (z_in rfl (by omega) (by omega)) dX9_steps_137 ?_
                      refine lv_topi (fun y99 ey99 => ?_)
                      have hy99 := hp98 _ (z_clt (x := r95) rfl (by omega) (by omega))
                      rw [← ey99] at hy99
                      have hy99 : y99 = 0 ∨ y99 = 1 := hy99
                      have by99 := z_b01 hy99
                      refine lv_if_eq (tgt := 146) hx hb dX9_steps_138 (by decide) (fun c100 => ?_) (fun c100 => ?_)
                      · skip
                        have c100 : y99.toInt = 0 := (z_eq rfl (by decide : (0 : Int32).toInt = 0)).mp c100
                        refine lv_aload_n hx hb dX9_steps_146 rfl (lv_at hl 3 rfl) ?_
                        refine va_get (D := g.1) (ci := 9) (v := .ref (ad 20)) (C := RX9) (T := TX9) (N := 47) hx hb hg inG9 hown hK hP 0 (zw_at (by omega) hs59) rfl 32 (by decide) (hg _ mm_990) (fun _ h9 => h9) rfl dX9_steps_147 ?_
                        refine lv_iload_n hx hb dX9_steps_150 rfl (lv_at hl 6 rfl) ?_
                        refine va_iald hx hb hK hP 20 0 (zw_at (by omega) hs53) rfl (z_in rfl (by omega) (by omega)) dX9_steps_151 ?_
                        refine lv_topi (fun y101 ey101 => ?_)
                        have hy101 := hp55 _ (z_clt (x := wh) rfl (by omega) (by omega))
                        rw [← ey101] at hy101
                        have hy101 : 0 ≤ y101.toInt ∧ y101.toInt ≤ 65535 := hy101
                        exact W.iret (v := y101) hx hb hr (fun t ht hW => ⟨⟨y101, (), rfl, trivial, ct52, by rw [ht]; exact hP, hD, hI⟩, hS.F ht⟩) hS.2.2 dX9_steps_152
                      · skip
                        have c100 : ¬ (y99.toInt = 0) := fun q => c100 ((z_eq rfl (by decide : (0 : Int32).toInt = 0)).mpr q)
                        refine lv_bipush (v := (-2)) hx hb dX9_steps_141 (by decide) ?_
                        refine lv_goto (tgt := 152) hx hb dX9_steps_143 (by decide) ?_
                        have q102 : ((-2) : Int32).toInt = -2 := by decide
                        exact W.iret (v := (-2)) hx hb hr (fun t ht hW => ⟨⟨(-2), (), rfl, trivial, ct52, by rw [ht]; exact hP, hD, hI⟩, hS.F ht⟩) hS.2.2 dX9_steps_152
                  · skip
                    have c57 : wh.toInt = (-1) := (z_eq rfl (by decide : ((-1) : Int32).toInt = (-1))).mp c57
                    refine lv_iload hx hb dX9_steps_119 (lv_at hl 2 rfl) ?_
                    exact W.iret (v := v4_52) hx hb hr (fun t ht hW => ⟨⟨v4_52, (), rfl, trivial, ct52, by rw [ht]; exact hP, hD, hI⟩, hS.F ht⟩) hS.2.2 dX9_steps_121
                · skip
                  have c56 : ¬ (v6_52.toInt = 0) := fun q => c56 ((z_eq rfl (by decide : (0 : Int32).toInt = 0)).mpr q)
                  refine lv_aload_n hx hb dX9_steps_57 rfl (lv_at hl 3 rfl) ?_
                  refine lv_iload_n hx hb dX9_steps_58 rfl (lv_at hl 4 rfl) ?_
                  obtain ⟨bks104, lks105, gos106, shn107, tpd108, pl0109, ln0110, flt111, opn112, cmy113, wtg114, nm0115, mst116, sus117, cut118, h119, h120, h121, h122, h123, h124, h125, h126, h127, h128, h129, h130, h131, h132, h133, h134, h135, h136, h137, h138, hs103⟩ := a9_0 hI.1
                  have hFc := zw_free hD hS hA
                  refine va_calli (va_runV (As := [.int b]) (rest := []) ⟨hx, hb, hml, hown, hg⟩ (k_X9_rounds l g _ ad me ct52 b (by first | omega | decide) hI) (cwV 1 hg (z_gV mm_1388 mm_1390 mm_93 mm_117 mm_1391) rfl rfl rfl (by decide +kernel) ⟨Nat.le_of_ble_eq_true rfl, Nat.le_of_ble_eq_true rfl⟩) ⟨(zA.pre [.ref (ad 0), .int b] hP hK hD hN).1, va_recv hK hP (ci := 9) (q0 := 0) rfl (zw_at (by omega) hs103), (zA.pre [.ref (ad 0), .int b] hP hK hD hN).2⟩ rfl rfl hl.1 rfl (lv_room (Nat.le_of_ble_eq_true rfl)) dX9_steps_59 ⟨Nat.le_of_ble_eq_true rfl, Nat.le_of_ble_eq_true rfl⟩) hS (fun q _ h => hFc q h) hFc (fun r139 u144 t H1 locs ht hvm hr139 hB hz1 hk1 hS => ?_)
                  obtain ⟨ct140, hP1, hD1, hI, hk141, hk142, hk143⟩ := hB
                  rw [ht] at hP1
                  have hD := hD1.weaken (fun _ _ _ h => hFc _ h)
                  generalize H1 = H at hP1 hS ⊢
                  have hP := hP1
                  refine W.widen (k := 0) (n := 0) (Nat.le_refl _) (Nat.le_refl _) ?_
                  obtain ⟨h145, h146⟩ := hr139
                  replace h145 : u144 = r139 := h145
                  replace h146 : 0 ≤ r139.toInt ∧ r139.toInt ≤ 1 := h146
                  have hzle := rnl_le hk141
                  refine lv_if_ne (tgt := 78) hx hb dX9_steps_62 (by decide) (fun c147 => ?_) (fun c147 => ?_)
                  · skip
                    have c147 : ¬ (r139.toInt = 0) := fun q => c147 ((z_eq rfl (by decide : (0 : Int32).toInt = 0)).mpr q)
                    have hzlt := rnl_lt hk141 (by rw [h145]; omega)
                    refine lv_iconst (v := 1) hx hb dX9_steps_78 (by decide) ?_
                    refine lv_goto (tgt := 83) hx hb dX9_steps_79 (by decide) ?_
                    refine lv_istore (lv' := [(6, .int 1), (5, .int v5_52), (4, .int v4_52), (0, .ref (ad 0)), (1, .int b), (2, .int kn), (3, .int wh)]) hx hb dX9_steps_83 hl (by decide) rfl (fun ls hl => ?_)
                    refine lv_iload hx hb dX9_steps_85 (lv_at hl 1 rfl) ?_
                    refine lv_aload_n hx hb dX9_steps_87 rfl (lv_at hl 3 rfl) ?_
                    refine lv_iload_n hx hb dX9_steps_88 rfl (lv_at hl 4 rfl) ?_
                    obtain ⟨bks149, lks150, gos151, shn152, tpd153, pl0154, ln0155, flt156, opn157, cmy158, wtg159, nm0160, mst161, sus162, cut163, h164, h165, h166, h167, h168, h169, h170, h171, h172, h173, h174, h175, h176, h177, h178, h179, h180, h181, h182, h183, hs148⟩ := a9_0 hI.1
                    refine zc_i (va_runV (As := [.int b]) (rest := [.int v5_52]) ⟨hx, hb, hml, hown, hg⟩ (k_X9_foundNow l g ad me ct140 b (by first | omega | decide) hI) (cwV 1 hg (z_gV mm_1396 mm_1398 mm_95 mm_117 mm_1399) rfl rfl rfl (by decide +kernel) ⟨Nat.le_of_ble_eq_true rfl, Nat.le_of_ble_eq_true rfl⟩) ⟨(zR.pre [.ref (ad 0), .int b] hP hK hN).1, va_recv hK hP (ci := 9) (q0 := 0) rfl (zw_at (by omega) hs148), (zR.pre [.ref (ad 0), .int b] hP hK hN).2⟩ rfl rfl hl.1 rfl (lv_room (Nat.le_of_ble_eq_true rfl)) dX9_steps_89 ⟨Nat.le_of_ble_eq_true rfl, Nat.le_of_ble_eq_true rfl⟩) (fun r184 hr184 => ?_)
                    obtain ⟨hr184_0, hr184_1, hr184_2⟩ := hr184
                    have hr184_0 : 0 ≤ r184.toInt := hr184_0
                    have hr184_1 : r184.toInt ≤ 255 := hr184_1
                    have hr184_2 : r184 = zfn (zar (ct140 10)) (zar (ct140 27)) b.toInt (zar (ct140 5) b.toInt.toNat).toInt.toNat := hr184_2
                    refine lv_ior hx hb dX9_steps_92 ?_
                    refine lv_topi (fun x185 ex185 => ?_)
                    have tx185 := z_or (x := v5_52) (y := r184) rfl rfl (k := 8) (N := 256) (by decide) (by decide) (by omega) (by omega) (by omega) (by omega)
                    rw [← ex185] at tx185
                    have hor := z_orle (n := 8) (x := v5_52) (y := r184) (by decide) (by omega) (by omega) (by omega) (by omega)
                    rw [← ex185] at hor
                    refine lv_istore (lv' := [(5, .int x185), (6, .int 1), (4, .int v4_52), (0, .ref (ad 0)), (1, .int b), (2, .int kn), (3, .int wh)]) hx hb dX9_steps_93 hl (by decide) rfl (fun ls hl => ?_)
                    refine lv_iload hx hb dX9_steps_95 (lv_at hl 1 rfl) ?_
                    refine lv_if_eq (tgt := 107) hx hb dX9_steps_97 (by decide) (fun c186 => ?_) (fun c186 => ?_)
                    · skip
                      exact absurd c186 (by decide)
                    · skip
                      refine lv_iload hx hb dX9_steps_100 (lv_at hl 2 rfl) ?_
                      refine lv_iconst (v := 1) hx hb dX9_steps_102 (by decide) ?_
                      refine lv_iadd hx hb dX9_steps_103 ?_
                      refine lv_topi (fun x187 ex187 => ?_)
                      refine lv_goto (tgt := 109) hx hb dX9_steps_104 (by decide) ?_
                      refine lv_istore (lv' := [(4, .int x187), (5, .int x185), (6, .int 1), (0, .ref (ad 0)), (1, .int b), (2, .int kn), (3, .int wh)]) hx hb dX9_steps_109 hl (by decide) rfl (fun ls hl => ?_)
                      refine lv_goto (tgt := 52) hx hb dX9_steps_111 (by decide) ?_
                      exact ih52 (1 : Int32) x185 x187 ct140 _ _ ls (by omega) (by first | assumption | omega | decide) (by first | assumption | omega | decide) hI hP hD hS (lv_sub hl [2, 1, 0, 3, 4, 5, 6] rfl)
                  · skip
                    have c147 : r139.toInt = 0 := (z_eq rfl (by decide : (0 : Int32).toInt = 0)).mp c147
                    refine lv_aload_n hx hb dX9_steps_65 rfl (lv_at hl 3 rfl) ?_
                    refine lv_iload_n hx hb dX9_steps_66 rfl (lv_at hl 4 rfl) ?_
                    obtain ⟨bks189, lks190, gos191, shn192, tpd193, pl0194, ln0195, flt196, opn197, cmy198, wtg199, nm0200, mst201, sus202, cut203, h204, h205, h206, h207, h208, h209, h210, h211, h212, h213, h214, h215, h216, h217, h218, h219, h220, h221, h222, h223, hs188⟩ := a9_0 hI.1
                    refine zc_i (va_runV (As := [.int b]) (rest := []) ⟨hx, hb, hml, hown, hg⟩ (k_X9_foundNow l g ad me ct140 b (by first | omega | decide) hI) (cwV 1 hg (z_gV mm_1396 mm_1398 mm_95 mm_117 mm_1399) rfl rfl rfl (by decide +kernel) ⟨Nat.le_of_ble_eq_true rfl, Nat.le_of_ble_eq_true rfl⟩) ⟨(zR.pre [.ref (ad 0), .int b] hP hK hN).1, va_recv hK hP (ci := 9) (q0 := 0) rfl (zw_at (by omega) hs188), (zR.pre [.ref (ad 0), .int b] hP hK hN).2⟩ rfl rfl hl.1 rfl (lv_room (Nat.le_of_ble_eq_true rfl)) dX9_steps_67 ⟨Nat.le_of_ble_eq_true rfl, Nat.le_of_ble_eq_true rfl⟩) (fun r224 hr224 => ?_)
                    obtain ⟨hr224_0, hr224_1, hr224_2⟩ := hr224
                    have hr224_0 : 0 ≤ r224.toInt := hr224_0
                    have hr224_1 : r224.toInt ≤ 255 := hr224_1
                    have hr224_2 : r224 = zfn (zar (ct140 10)) (zar (ct140 27)) b.toInt (zar (ct140 5) b.toInt.toNat).toInt.toNat := hr224_2
                    refine lv_iload hx hb dX9_steps_70 (lv_at hl 1 rfl) ?_
                    refine lv_iconst (v := (-1)) hx hb dX9_steps_72 (by decide) ?_
                    refine lv_ixor hx hb dX9_steps_73 ?_
                    refine lv_topi (fun x225 ex225 => ?_)
                    refine lv_iand hx hb dX9_steps_74 ?_
                    refine lv_topi (fun x226 ex226 => ?_)
                    have tx226 := z_andl (x := r224) (y := x225) rfl (by omega)
                    rw [← ex226] at tx226
                    refine lv_if_eq (tgt := 82) hx hb dX9_steps_75 (by decide) (fun c227 => ?_) (fun c227 => ?_)
                    · skip
                      have c227 : x226.toInt = 0 := (z_eq rfl (by decide : (0 : Int32).toInt = 0)).mp c227
                      refine lv_iconst (v := 0) hx hb dX9_steps_82 (by decide) ?_
                      refine lv_istore (lv' := [(6, .int 0), (5, .int v5_52), (4, .int v4_52), (0, .ref (ad 0)), (1, .int b), (2, .int kn), (3, .int wh)]) hx hb dX9_steps_83 hl (by decide) rfl (fun ls hl => ?_)
                      refine lv_iload hx hb dX9_steps_85 (lv_at hl 1 rfl) ?_
                      refine lv_aload_n hx hb dX9_steps_87 rfl (lv_at hl 3 rfl) ?_
                      refine lv_iload_n hx hb dX9_steps_88 rfl (lv_at hl 4 rfl) ?_
                      refine zc_i (va_runV (As := [.int b]) (rest := [.int v5_52]) ⟨hx, hb, hml, hown, hg⟩ (k_X9_foundNow l g ad me ct140 b (by first | omega | decide) hI) (cwV 1 hg (z_gV mm_1396 mm_1398 mm_95 mm_117 mm_1399) rfl rfl rfl (by decide +kernel) ⟨Nat.le_of_ble_eq_true rfl, Nat.le_of_ble_eq_true rfl⟩) ⟨(zR.pre [.ref (ad 0), .int b] hP hK hN).1, va_recv hK hP (ci := 9) (q0 := 0) rfl (zw_at (by omega) hs188), (zR.pre [.ref (ad 0), .int b] hP hK hN).2⟩ rfl rfl hl.1 rfl (lv_room (Nat.le_of_ble_eq_true rfl)) dX9_steps_89 ⟨Nat.le_of_ble_eq_true rfl, Nat.le_of_ble_eq_true rfl⟩) (fun r228 hr228 => ?_)
                      obtain ⟨hr228_0, hr228_1, hr228_2⟩ := hr228
                      have hr228_0 : 0 ≤ r228.toInt := hr228_0
                      have hr228_1 : r228.toInt ≤ 255 := hr228_1
                      have hr228_2 : r228 = zfn (zar (ct140 10)) (zar (ct140 27)) b.toInt (zar (ct140 5) b.toInt.toNat).toInt.toNat := hr228_2
                      refine lv_ior hx hb dX9_steps_92 ?_
                      refine lv_topi (fun x229 ex229 => ?_)
                      have tx229 := z_or (x := v5_52) (y := r228) rfl rfl (k := 8) (N := 256) (by decide) (by decide) (by omega) (by omega) (by omega) (by omega)
                      rw [← ex229] at tx229
                      have hor := z_orle (n := 8) (x := v5_52) (y := r228) (by decide) (by omega) (by omega) (by omega) (by omega)
                      rw [← ex229] at hor
                      refine lv_istore (lv' := [(5, .int x229), (6, .int 0), (4, .int v4_52), (0, .ref (ad 0)), (1, .int b), (2, .int kn), (3, .int wh)]) hx hb dX9_steps_93 hl (by decide) rfl (fun ls hl => ?_)
                      refine lv_iload hx hb dX9_steps_95 (lv_at hl 1 rfl) ?_
                      refine lv_if_eq (tgt := 107) hx hb dX9_steps_97 (by decide) (fun c230 => ?_) (fun c230 => ?_)
                      · skip
                        refine lv_iload hx hb dX9_steps_107 (lv_at hl 2 rfl) ?_
                        refine lv_istore (lv' := [(4, .int v4_52), (5, .int x229), (6, .int 0), (0, .ref (ad 0)), (1, .int b), (2, .int kn), (3, .int wh)]) hx hb dX9_steps_109 hl (by decide) rfl (fun ls hl => ?_)
                        refine lv_goto (tgt := 52) hx hb dX9_steps_111 (by decide) ?_
                        exact ih52 (0 : Int32) x229 v4_52 ct140 _ _ ls (by omega) (by first | assumption | omega | decide) (by first | assumption | omega | decide) hI hP hD hS (lv_sub hl [2, 1, 0, 3, 4, 5, 6] rfl)
                      · skip
                        exact absurd c230 (by decide)
                    · skip
                      have c227 : ¬ (x226.toInt = 0) := fun q => c227 ((z_eq rfl (by decide : (0 : Int32).toInt = 0)).mpr q)
                      refine lv_iconst (v := 1) hx hb dX9_steps_78 (by decide) ?_
                      refine lv_goto (tgt := 83) hx hb dX9_steps_79 (by decide) ?_
                      refine lv_istore (lv' := [(6, .int 1), (5, .int v5_52), (4, .int v4_52), (0, .ref (ad 0)), (1, .int b), (2, .int kn), (3, .int wh)]) hx hb dX9_steps_83 hl (by decide) rfl (fun ls hl => ?_)
                      refine lv_iload hx hb dX9_steps_85 (lv_at hl 1 rfl) ?_
                      refine lv_aload_n hx hb dX9_steps_87 rfl (lv_at hl 3 rfl) ?_
                      refine lv_iload_n hx hb dX9_steps_88 rfl (lv_at hl 4 rfl) ?_
                      refine zc_i (va_runV (As := [.int b]) (rest := [.int v5_52]) ⟨hx, hb, hml, hown, hg⟩ (k_X9_foundNow l g ad me ct140 b (by first | omega | decide) hI) (cwV 1 hg (z_gV mm_1396 mm_1398 mm_95 mm_117 mm_1399) rfl rfl rfl (by decide +kernel) ⟨Nat.le_of_ble_eq_true rfl, Nat.le_of_ble_eq_true rfl⟩) ⟨(zR.pre [.ref (ad 0), .int b] hP hK hN).1, va_recv hK hP (ci := 9) (q0 := 0) rfl (zw_at (by omega) hs188), (zR.pre [.ref (ad 0), .int b] hP hK hN).2⟩ rfl rfl hl.1 rfl (lv_room (Nat.le_of_ble_eq_true rfl)) dX9_steps_89 ⟨Nat.le_of_ble_eq_true rfl, Nat.le_of_ble_eq_true rfl⟩) (fun r231 hr231 => ?_)
                      obtain ⟨hr231_0, hr231_1, hr231_2⟩ := hr231
                      have hr231_0 : 0 ≤ r231.toInt := hr231_0
                      have hr231_1 : r231.toInt ≤ 255 := hr231_1
                      have hr231_2 : r231 = zfn (zar (ct140 10)) (zar (ct140 27)) b.toInt (zar (ct140 5) b.toInt.toNat).toInt.toNat := hr231_2
                      refine lv_ior hx hb dX9_steps_92 ?_
                      refine lv_topi (fun x232 ex232 => ?_)
                      have tx232 := z_or (x := v5_52) (y := r231) rfl rfl (k := 8) (N := 256) (by decide) (by decide) (by omega) (by omega) (by omega) (by omega)
                      rw [← ex232] at tx232
                      have hor := z_orlt (n := 8) (x := v5_52) (y := r231) (by decide) (by omega) (by omega) (by omega) (by omega) (by
                        rw [show r231 = r224 from hr231_2.trans hr224_2.symm, ← ex225, ← ex226]
                        exact c227)
                      rw [← ex232] at hor
                      refine lv_istore (lv' := [(5, .int x232), (6, .int 1), (4, .int v4_52), (0, .ref (ad 0)), (1, .int b), (2, .int kn), (3, .int wh)]) hx hb dX9_steps_93 hl (by decide) rfl (fun ls hl => ?_)
                      refine lv_iload hx hb dX9_steps_95 (lv_at hl 1 rfl) ?_
                      refine lv_if_eq (tgt := 107) hx hb dX9_steps_97 (by decide) (fun c233 => ?_) (fun c233 => ?_)
                      · skip
                        exact absurd c233 (by decide)
                      · skip
                        refine lv_iload hx hb dX9_steps_100 (lv_at hl 2 rfl) ?_
                        refine lv_iconst (v := 1) hx hb dX9_steps_102 (by decide) ?_
                        refine lv_iadd hx hb dX9_steps_103 ?_
                        refine lv_topi (fun x234 ex234 => ?_)
                        refine lv_goto (tgt := 109) hx hb dX9_steps_104 (by decide) ?_
                        refine lv_istore (lv' := [(4, .int x234), (5, .int x232), (6, .int 1), (0, .ref (ad 0)), (1, .int b), (2, .int kn), (3, .int wh)]) hx hb dX9_steps_109 hl (by decide) rfl (fun ls hl => ?_)
                        refine lv_goto (tgt := 52) hx hb dX9_steps_111 (by decide) ?_
                        exact ih52 (1 : Int32) x232 x234 ct140 _ _ ls (by omega) (by first | assumption | omega | decide) (by first | assumption | omega | decide) hI hP hD hS (lv_sub hl [2, 1, 0, 3, 4, 5, 6] rfl)
            exact loop52 ((zsum (zar (ct47 20)) 8 + (255 - (0 : Int32).toInt) + (1 : Int32).toInt : Int).toNat + 1) (1 : Int32) (0 : Int32) (0 : Int32) ct47 _ _ ls (by omega) (by first | assumption | omega | decide) (by first | assumption | omega | decide) hI hP hD hS (lv_sub hl [0, 1, 2, 3, 4, 5, 6] rfl)
          · skip
            have c45 : ¬ (wh.toInt = (-1)) := fun q => c45 ((z_eq rfl (by decide : ((-1) : Int32).toInt = (-1))).mpr q)
            refine lv_iload_n hx hb dX9_steps_20 rfl (lv_at hl 3 rfl) ?_
            refine lv_bipush (v := 8) hx hb dX9_steps_21 (by decide) ?_
            refine lv_icmp_eq (tgt := 37) hx hb dX9_steps_23 (by decide) (fun c235 => ?_) (fun c235 => ?_)
            · skip
              have c235 : wh.toInt = 8 := (z_eq rfl (by decide : (8 : Int32).toInt = 8)).mp c235
              refine lv_aload_n hx hb dX9_steps_37 rfl (lv_at hl 0 rfl) ?_
              refine lv_iload_n hx hb dX9_steps_38 rfl (lv_at hl 1 rfl) ?_
              refine lv_iload_n hx hb dX9_steps_39 rfl (lv_at hl 2 rfl) ?_
              have hFc := zw_free hD hS hA
              refine va_callv (va_runV (As := [.int b, .int kn]) (rest := []) ⟨hx, hb, hml, hown, hg⟩ (k_X9_laysFitting l g _ ad me ct b kn (by first | omega | decide) (by first | omega | decide) hI) (cwV 2 hg (z_gV mm_1329 mm_1331 mm_85 mm_117 mm_1332) rfl rfl rfl (by decide +kernel) ⟨Nat.le_of_ble_eq_true rfl, Nat.le_of_ble_eq_true rfl⟩) ⟨(zA.pre [.ref (ad 0), .int b, .int kn] hP hK hD hN).1, va_recv hK hP (ci := 9) (q0 := 0) rfl (zw_at (by omega) hs1), (zA.pre [.ref (ad 0), .int b, .int kn] hP hK hD hN).2⟩ rfl rfl hl.1 rfl (lv_room (Nat.le_of_ble_eq_true rfl)) dX9_steps_40 ⟨Nat.le_of_ble_eq_true rfl, Nat.le_of_ble_eq_true rfl⟩) hS (fun q _ h => hFc q h) hFc (fun _ t H1 locs ht hvm hr236 hB hz1 hk1 hS => ?_)
              obtain ⟨ct237, hP1, hD1, hI, hk238, hk239, hk240⟩ := hB
              rw [ht] at hP1
              have hD := hD1.weaken (fun _ _ _ h => hFc _ h)
              generalize H1 = H at hP1 hS ⊢
              have hP := hP1
              refine W.widen (k := 0) (n := 0) (Nat.le_refl _) (Nat.le_refl _) ?_
              have hs241 : ct237 0 = .inr (9, [.int me, .ref (ad 1), .ref (ad 2), .ref (ad 3), .ref (ad 4), .int bks2, .int lks3, .int gos4, .int shn5, .ref (ad 5), .ref (ad 6), .ref (ad 7), .ref (ad 8), .ref (ad 9), .ref (ad 10), .ref (ad 11), .int tpd6, .int pl07, .int ln08, .int flt9, .int opn10, .int cmy11, .int wtg12, .int nm013, .ref (ad 12), .ref (ad 13), .ref (ad 14), .ref (ad 15), .ref (ad 16), .ref (ad 17), .ref (ad 18), .ref (ad 19), .ref (ad 20), .ref (ad 21), .ref (ad 22), .ref (ad 23), .ref (ad 24), .ref (ad 25), .ref (ad 26), .ref (ad 27), .int mst14, .int sus15, .ref (ad 28), .ref (ad 29), .ref (ad 30), .ref (ad 31), .int cut16]) := hk238.trans hs1
              refine lv_iconst (v := 0) hx hb dX9_steps_43 (by decide) ?_
              refine lv_istore (lv' := [(4, .int 0), (0, .ref (ad 0)), (1, .int b), (2, .int kn), (3, .int wh)]) hx hb dX9_steps_44 hl (by decide) rfl (fun ls hl => ?_)
              refine lv_iconst (v := 0) hx hb dX9_steps_46 (by decide) ?_
              refine lv_istore (lv' := [(5, .int 0), (4, .int 0), (0, .ref (ad 0)), (1, .int b), (2, .int kn), (3, .int wh)]) hx hb dX9_steps_47 hl (by decide) rfl (fun ls hl => ?_)
              refine lv_iconst (v := 1) hx hb dX9_steps_49 (by decide) ?_
              refine lv_istore (lv' := [(6, .int 1), (5, .int 0), (4, .int 0), (0, .ref (ad 0)), (1, .int b), (2, .int kn), (3, .int wh)]) hx hb dX9_steps_50 hl (by decide) rfl (fun ls hl => ?_)
              have loop52 : ∀ (n52 : Nat) (v6_52 : Int32) (v5_52 : Int32) (v4_52 : Int32) (ct242 : Nat → va_E) (H : Heap) (locs : List Loc) (ls : Array Slot), ((zsum (zar (ct242 20)) 8 + (255 - v5_52.toInt) + v6_52.toInt : Int).toNat < n52) → (0 ≤ v5_52.toInt ∧ v5_52.toInt ≤ 255) → (0 ≤ v6_52.toInt ∧ v6_52.toInt ≤ 1) → (IR g ad me ct242) → zP g (zw 32 ad ct242) H → va_D A (zw 32 ad ct242) → va_S A s.heap H locs → lv_has ls 7 [(6, .int v6_52), (5, .int v5_52), (4, .int v4_52), (0, .ref (ad 0)), (1, .int b), (2, .int kn), (3, .int wh)] → W p l e (headSpec (zW yX9_steps cX9_steps 7 (some .int)) ({ frames := 6, cells := 0, slots := 0, locals := 148 })).room s m ([.ref (ad 0), .int b, .int kn, .int wh] : List Value).toArray below meth c H locs 0 0 (MQ below (va_Qi (fun (r : Int32) (_ : Unit) => (True)) (fun _ t => ∃ ct2 : Nat → va_E, zP g (zw 32 ad ct2) t.heap ∧ va_D A (zw 32 ad ct2) ∧ IR g ad me ct2) A) ([.ref (ad 0), .int b, .int kn, .int wh] : List Value).toArray s 0 0 A) (F0 m 52 ls []) := by
                intro n52
                induction n52 with
                | zero =>
                  intro v6_52 v5_52 v4_52 ct242 H locs ls hn52 b5_52 b6_52 hI hP hD hS hl
                  exact absurd hn52 (Nat.not_lt_zero _)
                | succ n52 ih52 =>
                  intro v6_52 v5_52 v4_52 ct242 H locs ls hn52 b5_52 b6_52 hI hP hD hS hl
                  obtain ⟨f244, hp245, hs243⟩ := a9_20 hI.1
                  have hzs0 := zsum_0 (f := zar (ct242 20)) (n := 8) (fun k hk => by rw [zar_of hs243]; exact (hp245 k hk).1)
                  refine lv_iload hx hb dX9_steps_52 (lv_at hl 0 rfl) ?_
                  refine lv_if_eq (tgt := 114) hx hb dX9_steps_54 (by decide) (fun c246 => ?_) (fun c246 => ?_)
                  · skip
                    have c246 : v6_52.toInt = 0 := (z_eq rfl (by decide : (0 : Int32).toInt = 0)).mp c246
                    refine lv_iload_n hx hb dX9_steps_114 rfl (lv_at hl 6 rfl) ?_
                    refine lv_iconst (v := (-1)) hx hb dX9_steps_115 (by decide) ?_
                    refine lv_icmp_ne (tgt := 122) hx hb dX9_steps_116 (by decide) (fun c247 => ?_) (fun c247 => ?_)
                    · skip
                      have c247 : ¬ (wh.toInt = (-1)) := fun q => c247 ((z_eq rfl (by decide : ((-1) : Int32).toInt = (-1))).mpr q)
                      refine lv_iload_n hx hb dX9_steps_122 rfl (lv_at hl 6 rfl) ?_
                      refine lv_bipush (v := 8) hx hb dX9_steps_123 (by decide) ?_
                      refine lv_icmp_ge (tgt := 153) hx hb dX9_steps_125 (by decide) (fun c248 => ?_) (fun c248 => ?_)
                      · skip
                        have c248 : 8 ≤ wh.toInt := (z_le (by decide : (8 : Int32).toInt = 8) rfl).mp c248
                        refine lv_iload hx hb dX9_steps_153 (lv_at hl 1 rfl) ?_
                        exact W.iret (v := v5_52) hx hb hr (fun t ht hW => ⟨⟨v5_52, (), rfl, trivial, ct242, by rw [ht]; exact hP, hD, hI⟩, hS.F ht⟩) hS.2.2 dX9_steps_155
                      · skip
                        have c248 : ¬ (8 ≤ wh.toInt) := fun q => c248 ((z_le (by decide : (8 : Int32).toInt = 8) rfl).mpr q)
                        exfalso
                        omega
                    · skip
                      have c247 : wh.toInt = (-1) := (z_eq rfl (by decide : ((-1) : Int32).toInt = (-1))).mp c247
                      exfalso
                      omega
                  · skip
                    have c246 : ¬ (v6_52.toInt = 0) := fun q => c246 ((z_eq rfl (by decide : (0 : Int32).toInt = 0)).mpr q)
                    refine lv_aload_n hx hb dX9_steps_57 rfl (lv_at hl 3 rfl) ?_
                    refine lv_iload_n hx hb dX9_steps_58 rfl (lv_at hl 4 rfl) ?_
                    obtain ⟨bks250, lks251, gos252, shn253, tpd254, pl0255, ln0256, flt257, opn258, cmy259, wtg260, nm0261, mst262, sus263, cut264, h265, h266, h267, h268, h269, h270, h271, h272, h273, h274, h275, h276, h277, h278, h279, h280, h281, h282, h283, h284, hs249⟩ := a9_0 hI.1
                    have hFc := zw_free hD hS hA
                    refine va_calli (va_runV (As := [.int b]) (rest := []) ⟨hx, hb, hml, hown, hg⟩ (k_X9_rounds l g _ ad me ct242 b (by first | omega | decide) hI) (cwV 1 hg (z_gV mm_1388 mm_1390 mm_93 mm_117 mm_1391) rfl rfl rfl (by decide +kernel) ⟨Nat.le_of_ble_eq_true rfl, Nat.le_of_ble_eq_true rfl⟩) ⟨(zA.pre [.ref (ad 0), .int b] hP hK hD hN).1, va_recv hK hP (ci := 9) (q0 := 0) rfl (zw_at (by omega) hs249), (zA.pre [.ref (ad 0), .int b] hP hK hD hN).2⟩ rfl rfl hl.1 rfl (lv_room (Nat.le_of_ble_eq_true rfl)) dX9_steps_59 ⟨Nat.le_of_ble_eq_true rfl, Nat.le_of_ble_eq_true rfl⟩) hS (fun q _ h => hFc q h) hFc (fun r285 u290 t H1 locs ht hvm hr285 hB hz1 hk1 hS => ?_)
                    obtain ⟨ct286, hP1, hD1, hI, hk287, hk288, hk289⟩ := hB
                    rw [ht] at hP1
                    have hD := hD1.weaken (fun _ _ _ h => hFc _ h)
                    generalize H1 = H at hP1 hS ⊢
                    have hP := hP1
                    refine W.widen (k := 0) (n := 0) (Nat.le_refl _) (Nat.le_refl _) ?_
                    obtain ⟨h291, h292⟩ := hr285
                    replace h291 : u290 = r285 := h291
                    replace h292 : 0 ≤ r285.toInt ∧ r285.toInt ≤ 1 := h292
                    have hzle := rnl_le hk287
                    refine lv_if_ne (tgt := 78) hx hb dX9_steps_62 (by decide) (fun c293 => ?_) (fun c293 => ?_)
                    · skip
                      have c293 : ¬ (r285.toInt = 0) := fun q => c293 ((z_eq rfl (by decide : (0 : Int32).toInt = 0)).mpr q)
                      have hzlt := rnl_lt hk287 (by rw [h291]; omega)
                      refine lv_iconst (v := 1) hx hb dX9_steps_78 (by decide) ?_
                      refine lv_goto (tgt := 83) hx hb dX9_steps_79 (by decide) ?_
                      refine lv_istore (lv' := [(6, .int 1), (5, .int v5_52), (4, .int v4_52), (0, .ref (ad 0)), (1, .int b), (2, .int kn), (3, .int wh)]) hx hb dX9_steps_83 hl (by decide) rfl (fun ls hl => ?_)
                      refine lv_iload hx hb dX9_steps_85 (lv_at hl 1 rfl) ?_
                      refine lv_aload_n hx hb dX9_steps_87 rfl (lv_at hl 3 rfl) ?_
                      refine lv_iload_n hx hb dX9_steps_88 rfl (lv_at hl 4 rfl) ?_
                      obtain ⟨bks295, lks296, gos297, shn298, tpd299, pl0300, ln0301, flt302, opn303, cmy304, wtg305, nm0306, mst307, sus308, cut309, h310, h311, h312, h313, h314, h315, h316, h317, h318, h319, h320, h321, h322, h323, h324, h325, h326, h327, h328, h329, hs294⟩ := a9_0 hI.1
                      refine zc_i (va_runV (As := [.int b]) (rest := [.int v5_52]) ⟨hx, hb, hml, hown, hg⟩ (k_X9_foundNow l g ad me ct286 b (by first | omega | decide) hI) (cwV 1 hg (z_gV mm_1396 mm_1398 mm_95 mm_117 mm_1399) rfl rfl rfl (by decide +kernel) ⟨Nat.le_of_ble_eq_true rfl, Nat.le_of_ble_eq_true rfl⟩) ⟨(zR.pre [.ref (ad 0), .int b] hP hK hN).1, va_recv hK hP (ci := 9) (q0 := 0) rfl (zw_at (by omega) hs294), (zR.pre [.ref (ad 0), .int b] hP hK hN).2⟩ rfl rfl hl.1 rfl (lv_room (Nat.le_of_ble_eq_true rfl)) dX9_steps_89 ⟨Nat.le_of_ble_eq_true rfl, Nat.le_of_ble_eq_true rfl⟩) (fun r330 hr330 => ?_)
                      obtain ⟨hr330_0, hr330_1, hr330_2⟩ := hr330
                      have hr330_0 : 0 ≤ r330.toInt := hr330_0
                      have hr330_1 : r330.toInt ≤ 255 := hr330_1
                      have hr330_2 : r330 = zfn (zar (ct286 10)) (zar (ct286 27)) b.toInt (zar (ct286 5) b.toInt.toNat).toInt.toNat := hr330_2
                      refine lv_ior hx hb dX9_steps_92 ?_
                      refine lv_topi (fun x331 ex331 => ?_)
                      have tx331 := z_or (x := v5_52) (y := r330) rfl rfl (k := 8) (N := 256) (by decide) (by decide) (by omega) (by omega) (by omega) (by omega)
                      rw [← ex331] at tx331
                      have hor := z_orle (n := 8) (x := v5_52) (y := r330) (by decide) (by omega) (by omega) (by omega) (by omega)
                      rw [← ex331] at hor
                      refine lv_istore (lv' := [(5, .int x331), (6, .int 1), (4, .int v4_52), (0, .ref (ad 0)), (1, .int b), (2, .int kn), (3, .int wh)]) hx hb dX9_steps_93 hl (by decide) rfl (fun ls hl => ?_)
                      refine lv_iload hx hb dX9_steps_95 (lv_at hl 1 rfl) ?_
                      refine lv_if_eq (tgt := 107) hx hb dX9_steps_97 (by decide) (fun c332 => ?_) (fun c332 => ?_)
                      · skip
                        exact absurd c332 (by decide)
                      · skip
                        refine lv_iload hx hb dX9_steps_100 (lv_at hl 2 rfl) ?_
                        refine lv_iconst (v := 1) hx hb dX9_steps_102 (by decide) ?_
                        refine lv_iadd hx hb dX9_steps_103 ?_
                        refine lv_topi (fun x333 ex333 => ?_)
                        refine lv_goto (tgt := 109) hx hb dX9_steps_104 (by decide) ?_
                        refine lv_istore (lv' := [(4, .int x333), (5, .int x331), (6, .int 1), (0, .ref (ad 0)), (1, .int b), (2, .int kn), (3, .int wh)]) hx hb dX9_steps_109 hl (by decide) rfl (fun ls hl => ?_)
                        refine lv_goto (tgt := 52) hx hb dX9_steps_111 (by decide) ?_
                        exact ih52 (1 : Int32) x331 x333 ct286 _ _ ls (by omega) (by first | assumption | omega | decide) (by first | assumption | omega | decide) hI hP hD hS (lv_sub hl [2, 1, 0, 3, 4, 5, 6] rfl)
                    · skip
                      have c293 : r285.toInt = 0 := (z_eq rfl (by decide : (0 : Int32).toInt = 0)).mp c293
                      refine lv_aload_n hx hb dX9_steps_65 rfl (lv_at hl 3 rfl) ?_
                      refine lv_iload_n hx hb dX9_steps_66 rfl (lv_at hl 4 rfl) ?_
                      obtain ⟨bks335, lks336, gos337, shn338, tpd339, pl0340, ln0341, flt342, opn343, cmy344, wtg345, nm0346, mst347, sus348, cut349, h350, h351, h352, h353, h354, h355, h356, h357, h358, h359, h360, h361, h362, h363, h364, h365, h366, h367, h368, h369, hs334⟩ := a9_0 hI.1
                      refine zc_i (va_runV (As := [.int b]) (rest := []) ⟨hx, hb, hml, hown, hg⟩ (k_X9_foundNow l g ad me ct286 b (by first | omega | decide) hI) (cwV 1 hg (z_gV mm_1396 mm_1398 mm_95 mm_117 mm_1399) rfl rfl rfl (by decide +kernel) ⟨Nat.le_of_ble_eq_true rfl, Nat.le_of_ble_eq_true rfl⟩) ⟨(zR.pre [.ref (ad 0), .int b] hP hK hN).1, va_recv hK hP (ci := 9) (q0 := 0) rfl (zw_at (by omega) hs334), (zR.pre [.ref (ad 0), .int b] hP hK hN).2⟩ rfl rfl hl.1 rfl (lv_room (Nat.le_of_ble_eq_true rfl)) dX9_steps_67 ⟨Nat.le_of_ble_eq_true rfl, Nat.le_of_ble_eq_true rfl⟩) (fun r370 hr370 => ?_)
                      obtain ⟨hr370_0, hr370_1, hr370_2⟩ := hr370
                      have hr370_0 : 0 ≤ r370.toInt := hr370_0
                      have hr370_1 : r370.toInt ≤ 255 := hr370_1
                      have hr370_2 : r370 = zfn (zar (ct286 10)) (zar (ct286 27)) b.toInt (zar (ct286 5) b.toInt.toNat).toInt.toNat := hr370_2
                      refine lv_iload hx hb dX9_steps_70 (lv_at hl 1 rfl) ?_
                      refine lv_iconst (v := (-1)) hx hb dX9_steps_72 (by decide) ?_
                      refine lv_ixor hx hb dX9_steps_73 ?_
                      refine lv_topi (fun x371 ex371 => ?_)
                      refine lv_iand hx hb dX9_steps_74 ?_
                      refine lv_topi (fun x372 ex372 => ?_)
                      have tx372 := z_andl (x := r370) (y := x371) rfl (by omega)
                      rw [← ex372] at tx372
                      refine lv_if_eq (tgt := 82) hx hb dX9_steps_75 (by decide) (fun c373 => ?_) (fun c373 => ?_)
                      · skip
                        have c373 : x372.toInt = 0 := (z_eq rfl (by decide : (0 : Int32).toInt = 0)).mp c373
                        refine lv_iconst (v := 0) hx hb dX9_steps_82 (by decide) ?_
                        refine lv_istore (lv' := [(6, .int 0), (5, .int v5_52), (4, .int v4_52), (0, .ref (ad 0)), (1, .int b), (2, .int kn), (3, .int wh)]) hx hb dX9_steps_83 hl (by decide) rfl (fun ls hl => ?_)
                        refine lv_iload hx hb dX9_steps_85 (lv_at hl 1 rfl) ?_
                        refine lv_aload_n hx hb dX9_steps_87 rfl (lv_at hl 3 rfl) ?_
                        refine lv_iload_n hx hb dX9_steps_88 rfl (lv_at hl 4 rfl) ?_
                        refine zc_i (va_runV (As := [.int b]) (rest := [.int v5_52]) ⟨hx, hb, hml, hown, hg⟩ (k_X9_foundNow l g ad me ct286 b (by first | omega | decide) hI) (cwV 1 hg (z_gV mm_1396 mm_1398 mm_95 mm_117 mm_1399) rfl rfl rfl (by decide +kernel) ⟨Nat.le_of_ble_eq_true rfl, Nat.le_of_ble_eq_true rfl⟩) ⟨(zR.pre [.ref (ad 0), .int b] hP hK hN).1, va_recv hK hP (ci := 9) (q0 := 0) rfl (zw_at (by omega) hs334), (zR.pre [.ref (ad 0), .int b] hP hK hN).2⟩ rfl rfl hl.1 rfl (lv_room (Nat.le_of_ble_eq_true rfl)) dX9_steps_89 ⟨Nat.le_of_ble_eq_true rfl, Nat.le_of_ble_eq_true rfl⟩) (fun r374 hr374 => ?_)
                        obtain ⟨hr374_0, hr374_1, hr374_2⟩ := hr374
                        have hr374_0 : 0 ≤ r374.toInt := hr374_0
                        have hr374_1 : r374.toInt ≤ 255 := hr374_1
                        have hr374_2 : r374 = zfn (zar (ct286 10)) (zar (ct286 27)) b.toInt (zar (ct286 5) b.toInt.toNat).toInt.toNat := hr374_2
                        refine lv_ior hx hb dX9_steps_92 ?_
                        refine lv_topi (fun x375 ex375 => ?_)
                        have tx375 := z_or (x := v5_52) (y := r374) rfl rfl (k := 8) (N := 256) (by decide) (by decide) (by omega) (by omega) (by omega) (by omega)
                        rw [← ex375] at tx375
                        have hor := z_orle (n := 8) (x := v5_52) (y := r374) (by decide) (by omega) (by omega) (by omega) (by omega)
                        rw [← ex375] at hor
                        refine lv_istore (lv' := [(5, .int x375), (6, .int 0), (4, .int v4_52), (0, .ref (ad 0)), (1, .int b), (2, .int kn), (3, .int wh)]) hx hb dX9_steps_93 hl (by decide) rfl (fun ls hl => ?_)
                        refine lv_iload hx hb dX9_steps_95 (lv_at hl 1 rfl) ?_
                        refine lv_if_eq (tgt := 107) hx hb dX9_steps_97 (by decide) (fun c376 => ?_) (fun c376 => ?_)
                        · skip
                          refine lv_iload hx hb dX9_steps_107 (lv_at hl 2 rfl) ?_
                          refine lv_istore (lv' := [(4, .int v4_52), (5, .int x375), (6, .int 0), (0, .ref (ad 0)), (1, .int b), (2, .int kn), (3, .int wh)]) hx hb dX9_steps_109 hl (by decide) rfl (fun ls hl => ?_)
                          refine lv_goto (tgt := 52) hx hb dX9_steps_111 (by decide) ?_
                          exact ih52 (0 : Int32) x375 v4_52 ct286 _ _ ls (by omega) (by first | assumption | omega | decide) (by first | assumption | omega | decide) hI hP hD hS (lv_sub hl [2, 1, 0, 3, 4, 5, 6] rfl)
                        · skip
                          exact absurd c376 (by decide)
                      · skip
                        have c373 : ¬ (x372.toInt = 0) := fun q => c373 ((z_eq rfl (by decide : (0 : Int32).toInt = 0)).mpr q)
                        refine lv_iconst (v := 1) hx hb dX9_steps_78 (by decide) ?_
                        refine lv_goto (tgt := 83) hx hb dX9_steps_79 (by decide) ?_
                        refine lv_istore (lv' := [(6, .int 1), (5, .int v5_52), (4, .int v4_52), (0, .ref (ad 0)), (1, .int b), (2, .int kn), (3, .int wh)]) hx hb dX9_steps_83 hl (by decide) rfl (fun ls hl => ?_)
                        refine lv_iload hx hb dX9_steps_85 (lv_at hl 1 rfl) ?_
                        refine lv_aload_n hx hb dX9_steps_87 rfl (lv_at hl 3 rfl) ?_
                        refine lv_iload_n hx hb dX9_steps_88 rfl (lv_at hl 4 rfl) ?_
                        refine zc_i (va_runV (As := [.int b]) (rest := [.int v5_52]) ⟨hx, hb, hml, hown, hg⟩ (k_X9_foundNow l g ad me ct286 b (by first | omega | decide) hI) (cwV 1 hg (z_gV mm_1396 mm_1398 mm_95 mm_117 mm_1399) rfl rfl rfl (by decide +kernel) ⟨Nat.le_of_ble_eq_true rfl, Nat.le_of_ble_eq_true rfl⟩) ⟨(zR.pre [.ref (ad 0), .int b] hP hK hN).1, va_recv hK hP (ci := 9) (q0 := 0) rfl (zw_at (by omega) hs334), (zR.pre [.ref (ad 0), .int b] hP hK hN).2⟩ rfl rfl hl.1 rfl (lv_room (Nat.le_of_ble_eq_true rfl)) dX9_steps_89 ⟨Nat.le_of_ble_eq_true rfl, Nat.le_of_ble_eq_true rfl⟩) (fun r377 hr377 => ?_)
                        obtain ⟨hr377_0, hr377_1, hr377_2⟩ := hr377
                        have hr377_0 : 0 ≤ r377.toInt := hr377_0
                        have hr377_1 : r377.toInt ≤ 255 := hr377_1
                        have hr377_2 : r377 = zfn (zar (ct286 10)) (zar (ct286 27)) b.toInt (zar (ct286 5) b.toInt.toNat).toInt.toNat := hr377_2
                        refine lv_ior hx hb dX9_steps_92 ?_
                        refine lv_topi (fun x378 ex378 => ?_)
                        have tx378 := z_or (x := v5_52) (y := r377) rfl rfl (k := 8) (N := 256) (by decide) (by decide) (by omega) (by omega) (by omega) (by omega)
                        rw [← ex378] at tx378
                        have hor := z_orlt (n := 8) (x := v5_52) (y := r377) (by decide) (by omega) (by omega) (by omega) (by omega) (by
                          rw [show r377 = r370 from hr377_2.trans hr370_2.symm, ← ex371, ← ex372]
                          exact c373)
                        rw [← ex378] at hor
                        refine lv_istore (lv' := [(5, .int x378), (6, .int 1), (4, .int v4_52), (0, .ref (ad 0)), (1, .int b), (2, .int kn), (3, .int wh)]) hx hb dX9_steps_93 hl (by decide) rfl (fun ls hl => ?_)
                        refine lv_iload hx hb dX9_steps_95 (lv_at hl 1 rfl) ?_
                        refine lv_if_eq (tgt := 107) hx hb dX9_steps_97 (by decide) (fun c379 => ?_) (fun c379 => ?_)
                        · skip
                          exact absurd c379 (by decide)
                        · skip
                          refine lv_iload hx hb dX9_steps_100 (lv_at hl 2 rfl) ?_
                          refine lv_iconst (v := 1) hx hb dX9_steps_102 (by decide) ?_
                          refine lv_iadd hx hb dX9_steps_103 ?_
                          refine lv_topi (fun x380 ex380 => ?_)
                          refine lv_goto (tgt := 109) hx hb dX9_steps_104 (by decide) ?_
                          refine lv_istore (lv' := [(4, .int x380), (5, .int x378), (6, .int 1), (0, .ref (ad 0)), (1, .int b), (2, .int kn), (3, .int wh)]) hx hb dX9_steps_109 hl (by decide) rfl (fun ls hl => ?_)
                          refine lv_goto (tgt := 52) hx hb dX9_steps_111 (by decide) ?_
                          exact ih52 (1 : Int32) x378 x380 ct286 _ _ ls (by omega) (by first | assumption | omega | decide) (by first | assumption | omega | decide) hI hP hD hS (lv_sub hl [2, 1, 0, 3, 4, 5, 6] rfl)
              exact loop52 ((zsum (zar (ct237 20)) 8 + (255 - (0 : Int32).toInt) + (1 : Int32).toInt : Int).toNat + 1) (1 : Int32) (0 : Int32) (0 : Int32) ct237 _ _ ls (by omega) (by first | assumption | omega | decide) (by first | assumption | omega | decide) hI hP hD hS (lv_sub hl [0, 1, 2, 3, 4, 5, 6] rfl)
            · skip
              have c235 : ¬ (wh.toInt = 8) := fun q => c235 ((z_eq rfl (by decide : (8 : Int32).toInt = 8)).mpr q)
              refine lv_aload_n hx hb dX9_steps_26 rfl (lv_at hl 0 rfl) ?_
              refine lv_iload_n hx hb dX9_steps_27 rfl (lv_at hl 1 rfl) ?_
              refine lv_iload_n hx hb dX9_steps_28 rfl (lv_at hl 3 rfl) ?_
              refine zc_i (va_runV (As := [.int b, .int wh]) (rest := []) ⟨hx, hb, hml, hown, hg⟩ (k_X9_isLine l g ad me ct b wh hI) (cwV 2 hg (z_gV mm_1170 mm_1172 mm_57 mm_117 mm_1173) rfl rfl rfl (by decide +kernel) ⟨Nat.le_of_ble_eq_true rfl, Nat.le_of_ble_eq_true rfl⟩) ⟨(zR.pre [.ref (ad 0), .int b, .int wh] hP hK hN).1, va_recv hK hP (ci := 9) (q0 := 0) rfl (zw_at (by omega) hs1), (zR.pre [.ref (ad 0), .int b, .int wh] hP hK hN).2⟩ rfl rfl hl.1 rfl (lv_room (Nat.le_of_ble_eq_true rfl)) dX9_steps_29 ⟨Nat.le_of_ble_eq_true rfl, Nat.le_of_ble_eq_true rfl⟩) (fun r381 hr381 => ?_)
              rcases hr381 with hr381 | hr381
              · skip
                obtain ⟨rfl, h382, h383⟩ := hr381
                replace h382 : 0 ≤ b.toInt ∧ b.toInt ≤ 3 := h382
                replace h383 : 0 ≤ wh.toInt ∧ wh.toInt ≤ 7 := h383
                refine lv_if_ne (tgt := 37) hx hb dX9_steps_32 (by decide) (fun c384 => ?_) (fun c384 => ?_)
                · skip
                  refine lv_aload_n hx hb dX9_steps_37 rfl (lv_at hl 0 rfl) ?_
                  refine lv_iload_n hx hb dX9_steps_38 rfl (lv_at hl 1 rfl) ?_
                  refine lv_iload_n hx hb dX9_steps_39 rfl (lv_at hl 2 rfl) ?_
                  have hFc := zw_free hD hS hA
                  refine va_callv (va_runV (As := [.int b, .int kn]) (rest := []) ⟨hx, hb, hml, hown, hg⟩ (k_X9_laysFitting l g _ ad me ct b kn (by first | omega | decide) (by first | omega | decide) hI) (cwV 2 hg (z_gV mm_1329 mm_1331 mm_85 mm_117 mm_1332) rfl rfl rfl (by decide +kernel) ⟨Nat.le_of_ble_eq_true rfl, Nat.le_of_ble_eq_true rfl⟩) ⟨(zA.pre [.ref (ad 0), .int b, .int kn] hP hK hD hN).1, va_recv hK hP (ci := 9) (q0 := 0) rfl (zw_at (by omega) hs1), (zA.pre [.ref (ad 0), .int b, .int kn] hP hK hD hN).2⟩ rfl rfl hl.1 rfl (lv_room (Nat.le_of_ble_eq_true rfl)) dX9_steps_40 ⟨Nat.le_of_ble_eq_true rfl, Nat.le_of_ble_eq_true rfl⟩) hS (fun q _ h => hFc q h) hFc (fun _ t H1 locs ht hvm hr385 hB hz1 hk1 hS => ?_)
                  obtain ⟨ct386, hP1, hD1, hI, hk387, hk388, hk389⟩ := hB
                  rw [ht] at hP1
                  have hD := hD1.weaken (fun _ _ _ h => hFc _ h)
                  generalize H1 = H at hP1 hS ⊢
                  have hP := hP1
                  refine W.widen (k := 0) (n := 0) (Nat.le_refl _) (Nat.le_refl _) ?_
                  have hs390 : ct386 0 = .inr (9, [.int me, .ref (ad 1), .ref (ad 2), .ref (ad 3), .ref (ad 4), .int bks2, .int lks3, .int gos4, .int shn5, .ref (ad 5), .ref (ad 6), .ref (ad 7), .ref (ad 8), .ref (ad 9), .ref (ad 10), .ref (ad 11), .int tpd6, .int pl07, .int ln08, .int flt9, .int opn10, .int cmy11, .int wtg12, .int nm013, .ref (ad 12), .ref (ad 13), .ref (ad 14), .ref (ad 15), .ref (ad 16), .ref (ad 17), .ref (ad 18), .ref (ad 19), .ref (ad 20), .ref (ad 21), .ref (ad 22), .ref (ad 23), .ref (ad 24), .ref (ad 25), .ref (ad 26), .ref (ad 27), .int mst14, .int sus15, .ref (ad 28), .ref (ad 29), .ref (ad 30), .ref (ad 31), .int cut16]) := hk387.trans hs1
                  refine lv_iconst (v := 0) hx hb dX9_steps_43 (by decide) ?_
                  refine lv_istore (lv' := [(4, .int 0), (0, .ref (ad 0)), (1, .int b), (2, .int kn), (3, .int wh)]) hx hb dX9_steps_44 hl (by decide) rfl (fun ls hl => ?_)
                  refine lv_iconst (v := 0) hx hb dX9_steps_46 (by decide) ?_
                  refine lv_istore (lv' := [(5, .int 0), (4, .int 0), (0, .ref (ad 0)), (1, .int b), (2, .int kn), (3, .int wh)]) hx hb dX9_steps_47 hl (by decide) rfl (fun ls hl => ?_)
                  refine lv_iconst (v := 1) hx hb dX9_steps_49 (by decide) ?_
                  refine lv_istore (lv' := [(6, .int 1), (5, .int 0), (4, .int 0), (0, .ref (ad 0)), (1, .int b), (2, .int kn), (3, .int wh)]) hx hb dX9_steps_50 hl (by decide) rfl (fun ls hl => ?_)
                  have loop52 : ∀ (n52 : Nat) (v6_52 : Int32) (v5_52 : Int32) (v4_52 : Int32) (ct391 : Nat → va_E) (H : Heap) (locs : List Loc) (ls : Array Slot), ((zsum (zar (ct391 20)) 8 + (255 - v5_52.toInt) + v6_52.toInt : Int).toNat < n52) → (0 ≤ v5_52.toInt ∧ v5_52.toInt ≤ 255) → (0 ≤ v6_52.toInt ∧ v6_52.toInt ≤ 1) → (IR g ad me ct391) → zP g (zw 32 ad ct391) H → va_D A (zw 32 ad ct391) → va_S A s.heap H locs → lv_has ls 7 [(6, .int v6_52), (5, .int v5_52), (4, .int v4_52), (0, .ref (ad 0)), (1, .int b), (2, .int kn), (3, .int wh)] → W p l e (headSpec (zW yX9_steps cX9_steps 7 (some .int)) ({ frames := 6, cells := 0, slots := 0, locals := 148 })).room s m ([.ref (ad 0), .int b, .int kn, .int wh] : List Value).toArray below meth c H locs 0 0 (MQ below (va_Qi (fun (r : Int32) (_ : Unit) => (True)) (fun _ t => ∃ ct2 : Nat → va_E, zP g (zw 32 ad ct2) t.heap ∧ va_D A (zw 32 ad ct2) ∧ IR g ad me ct2) A) ([.ref (ad 0), .int b, .int kn, .int wh] : List Value).toArray s 0 0 A) (F0 m 52 ls []) := by
                    intro n52
                    induction n52 with
                    | zero =>
                      intro v6_52 v5_52 v4_52 ct391 H locs ls hn52 b5_52 b6_52 hI hP hD hS hl
                      exact absurd hn52 (Nat.not_lt_zero _)
                    | succ n52 ih52 =>
                      intro v6_52 v5_52 v4_52 ct391 H locs ls hn52 b5_52 b6_52 hI hP hD hS hl
                      obtain ⟨f393, hp394, hs392⟩ := a9_20 hI.1
                      have hzs0 := zsum_0 (f := zar (ct391 20)) (n := 8) (fun k hk => by rw [zar_of hs392]; exact (hp394 k hk).1)
                      refine lv_iload hx hb dX9_steps_52 (lv_at hl 0 rfl) ?_
                      refine lv_if_eq (tgt := 114) hx hb dX9_steps_54 (by decide) (fun c395 => ?_) (fun c395 => ?_)
                      · skip
                        have c395 : v6_52.toInt = 0 := (z_eq rfl (by decide : (0 : Int32).toInt = 0)).mp c395
                        refine lv_iload_n hx hb dX9_steps_114 rfl (lv_at hl 6 rfl) ?_
                        refine lv_iconst (v := (-1)) hx hb dX9_steps_115 (by decide) ?_
                        refine lv_icmp_ne (tgt := 122) hx hb dX9_steps_116 (by decide) (fun c396 => ?_) (fun c396 => ?_)
                        · skip
                          have c396 : ¬ (wh.toInt = (-1)) := fun q => c396 ((z_eq rfl (by decide : ((-1) : Int32).toInt = (-1))).mpr q)
                          refine lv_iload_n hx hb dX9_steps_122 rfl (lv_at hl 6 rfl) ?_
                          refine lv_bipush (v := 8) hx hb dX9_steps_123 (by decide) ?_
                          refine lv_icmp_ge (tgt := 153) hx hb dX9_steps_125 (by decide) (fun c397 => ?_) (fun c397 => ?_)
                          · skip
                            have c397 : 8 ≤ wh.toInt := (z_le (by decide : (8 : Int32).toInt = 8) rfl).mp c397
                            exfalso
                            omega
                          · skip
                            have c397 : ¬ (8 ≤ wh.toInt) := fun q => c397 ((z_le (by decide : (8 : Int32).toInt = 8) rfl).mpr q)
                            refine lv_aload_n hx hb dX9_steps_128 rfl (lv_at hl 3 rfl) ?_
                            obtain ⟨bks399, lks400, gos401, shn402, tpd403, pl0404, ln0405, flt406, opn407, cmy408, wtg409, nm0410, mst411, sus412, cut413, h414, h415, h416, h417, h418, h419, h420, h421, h422, h423, h424, h425, h426, h427, h428, h429, h430, h431, h432, h433, hs398⟩ := a9_0 hI.1
                            refine va_get (D := g.1) (ci := 9) (v := .ref (ad 10)) (C := RX9) (T := TX9) (N := 47) hx hb hg inG9 hown hK hP 0 (zw_at (by omega) hs398) rfl 14 (by decide) (hg _ mm_972) (fun _ h9 => h9) rfl dX9_steps_129 ?_
                            refine lv_iload_n hx hb dX9_steps_132 rfl (lv_at hl 4 rfl) ?_
                            refine lv_iload_n hx hb dX9_steps_133 rfl (lv_at hl 6 rfl) ?_
                            refine zc_i (va_runS (As := [.int b, .int wh]) (rest := [.ref (ad 10)]) ⟨hx, hb, hml, hown, hg⟩ (k_X9_at l g ad me ct391 b wh (by first | omega | decide) (by first | omega | decide) hI) (va_cwS 2 hg (z_gS mm_1159 mm_1160 mm_117 mm_1161) rfl rfl rfl (by decide +kernel) ⟨Nat.le_of_ble_eq_true rfl, Nat.le_of_ble_eq_true rfl⟩) (zR.pre [.int b, .int wh] hP hK hN) rfl rfl hl.1 rfl (lv_room (Nat.le_of_ble_eq_true rfl)) dX9_steps_134 ⟨Nat.le_of_ble_eq_true rfl, Nat.le_of_ble_eq_true rfl⟩) (fun r434 hr434 => ?_)
                            have hr434_0 := hr434
                            have hr434_0 : r434.toInt = 8 * b.toInt + wh.toInt := hr434_0
                            obtain ⟨f436, hp437, hs435⟩ := a9_10 hI.1
                            refine va_zald hx hb hK hP 10 3 (zw_at (by omega) hs435) rfl (z_in rfl (by omega) (by omega)) dX9_steps_137 ?_
                            refine lv_topi (fun y438 ey438 => ?_)
                            have hy438 := hp437 _ (z_clt (x := r434) rfl (by omega) (by omega))
                            rw [← ey438] at hy438
                            have hy438 : y438 = 0 ∨ y438 = 1 := hy438
                            have by438 := z_b01 hy438
                            refine lv_if_eq (tgt := 146) hx hb dX9_steps_138 (by decide) (fun c439 => ?_) (fun c439 => ?_)
                            · skip
                              have c439 : y438.toInt = 0 := (z_eq rfl (by decide : (0 : Int32).toInt = 0)).mp c439
                              refine lv_aload_n hx hb dX9_steps_146 rfl (lv_at hl 3 rfl) ?_
                              refine va_get (D := g.1) (ci := 9) (v := .ref (ad 20)) (C := RX9) (T := TX9) (N := 47) hx hb hg inG9 hown hK hP 0 (zw_at (by omega) hs398) rfl 32 (by decide) (hg _ mm_990) (fun _ h9 => h9) rfl dX9_steps_147 ?_
                              refine lv_iload_n hx hb dX9_steps_150 rfl (lv_at hl 6 rfl) ?_
                              refine va_iald hx hb hK hP 20 0 (zw_at (by omega) hs392) rfl (z_in rfl (by omega) (by omega)) dX9_steps_151 ?_
                              refine lv_topi (fun y440 ey440 => ?_)
                              have hy440 := hp394 _ (z_clt (x := wh) rfl (by omega) (by omega))
                              rw [← ey440] at hy440
                              have hy440 : 0 ≤ y440.toInt ∧ y440.toInt ≤ 65535 := hy440
                              exact W.iret (v := y440) hx hb hr (fun t ht hW => ⟨⟨y440, (), rfl, trivial, ct391, by rw [ht]; exact hP, hD, hI⟩, hS.F ht⟩) hS.2.2 dX9_steps_152
                            · skip
                              have c439 : ¬ (y438.toInt = 0) := fun q => c439 ((z_eq rfl (by decide : (0 : Int32).toInt = 0)).mpr q)
                              refine lv_bipush (v := (-2)) hx hb dX9_steps_141 (by decide) ?_
                              refine lv_goto (tgt := 152) hx hb dX9_steps_143 (by decide) ?_
                              have q441 : ((-2) : Int32).toInt = -2 := by decide
                              exact W.iret (v := (-2)) hx hb hr (fun t ht hW => ⟨⟨(-2), (), rfl, trivial, ct391, by rw [ht]; exact hP, hD, hI⟩, hS.F ht⟩) hS.2.2 dX9_steps_152
                        · skip
                          have c396 : wh.toInt = (-1) := (z_eq rfl (by decide : ((-1) : Int32).toInt = (-1))).mp c396
                          exfalso
                          omega
                      · skip
                        have c395 : ¬ (v6_52.toInt = 0) := fun q => c395 ((z_eq rfl (by decide : (0 : Int32).toInt = 0)).mpr q)
                        refine lv_aload_n hx hb dX9_steps_57 rfl (lv_at hl 3 rfl) ?_
                        refine lv_iload_n hx hb dX9_steps_58 rfl (lv_at hl 4 rfl) ?_
                        obtain ⟨bks443, lks444, gos445, shn446, tpd447, pl0448, ln0449, flt450, opn451, cmy452, wtg453, nm0454, mst455, sus456, cut457, h458, h459, h460, h461, h462, h463, h464, h465, h466, h467, h468, h469, h470, h471, h472, h473, h474, h475, h476, h477, hs442⟩ := a9_0 hI.1
                        have hFc := zw_free hD hS hA
                        refine va_calli (va_runV (As := [.int b]) (rest := []) ⟨hx, hb, hml, hown, hg⟩ (k_X9_rounds l g _ ad me ct391 b (by first | omega | decide) hI) (cwV 1 hg (z_gV mm_1388 mm_1390 mm_93 mm_117 mm_1391) rfl rfl rfl (by decide +kernel) ⟨Nat.le_of_ble_eq_true rfl, Nat.le_of_ble_eq_true rfl⟩) ⟨(zA.pre [.ref (ad 0), .int b] hP hK hD hN).1, va_recv hK hP (ci := 9) (q0 := 0) rfl (zw_at (by omega) hs442), (zA.pre [.ref (ad 0), .int b] hP hK hD hN).2⟩ rfl rfl hl.1 rfl (lv_room (Nat.le_of_ble_eq_true rfl)) dX9_steps_59 ⟨Nat.le_of_ble_eq_true rfl, Nat.le_of_ble_eq_true rfl⟩) hS (fun q _ h => hFc q h) hFc (fun r478 u483 t H1 locs ht hvm hr478 hB hz1 hk1 hS => ?_)
                        obtain ⟨ct479, hP1, hD1, hI, hk480, hk481, hk482⟩ := hB
                        rw [ht] at hP1
                        have hD := hD1.weaken (fun _ _ _ h => hFc _ h)
                        generalize H1 = H at hP1 hS ⊢
                        have hP := hP1
                        refine W.widen (k := 0) (n := 0) (Nat.le_refl _) (Nat.le_refl _) ?_
                        obtain ⟨h484, h485⟩ := hr478
                        replace h484 : u483 = r478 := h484
                        replace h485 : 0 ≤ r478.toInt ∧ r478.toInt ≤ 1 := h485
                        have hzle := rnl_le hk480
                        refine lv_if_ne (tgt := 78) hx hb dX9_steps_62 (by decide) (fun c486 => ?_) (fun c486 => ?_)
                        · skip
                          have c486 : ¬ (r478.toInt = 0) := fun q => c486 ((z_eq rfl (by decide : (0 : Int32).toInt = 0)).mpr q)
                          have hzlt := rnl_lt hk480 (by rw [h484]; omega)
                          refine lv_iconst (v := 1) hx hb dX9_steps_78 (by decide) ?_
                          refine lv_goto (tgt := 83) hx hb dX9_steps_79 (by decide) ?_
                          refine lv_istore (lv' := [(6, .int 1), (5, .int v5_52), (4, .int v4_52), (0, .ref (ad 0)), (1, .int b), (2, .int kn), (3, .int wh)]) hx hb dX9_steps_83 hl (by decide) rfl (fun ls hl => ?_)
                          refine lv_iload hx hb dX9_steps_85 (lv_at hl 1 rfl) ?_
                          refine lv_aload_n hx hb dX9_steps_87 rfl (lv_at hl 3 rfl) ?_
                          refine lv_iload_n hx hb dX9_steps_88 rfl (lv_at hl 4 rfl) ?_
                          obtain ⟨bks488, lks489, gos490, shn491, tpd492, pl0493, ln0494, flt495, opn496, cmy497, wtg498, nm0499, mst500, sus501, cut502, h503, h504, h505, h506, h507, h508, h509, h510, h511, h512, h513, h514, h515, h516, h517, h518, h519, h520, h521, h522, hs487⟩ := a9_0 hI.1
                          refine zc_i (va_runV (As := [.int b]) (rest := [.int v5_52]) ⟨hx, hb, hml, hown, hg⟩ (k_X9_foundNow l g ad me ct479 b (by first | omega | decide) hI) (cwV 1 hg (z_gV mm_1396 mm_1398 mm_95 mm_117 mm_1399) rfl rfl rfl (by decide +kernel) ⟨Nat.le_of_ble_eq_true rfl, Nat.le_of_ble_eq_true rfl⟩) ⟨(zR.pre [.ref (ad 0), .int b] hP hK hN).1, va_recv hK hP (ci := 9) (q0 := 0) rfl (zw_at (by omega) hs487), (zR.pre [.ref (ad 0), .int b] hP hK hN).2⟩ rfl rfl hl.1 rfl (lv_room (Nat.le_of_ble_eq_true rfl)) dX9_steps_89 ⟨Nat.le_of_ble_eq_true rfl, Nat.le_of_ble_eq_true rfl⟩) (fun r523 hr523 => ?_)
                          obtain ⟨hr523_0, hr523_1, hr523_2⟩ := hr523
                          have hr523_0 : 0 ≤ r523.toInt := hr523_0
                          have hr523_1 : r523.toInt ≤ 255 := hr523_1
                          have hr523_2 : r523 = zfn (zar (ct479 10)) (zar (ct479 27)) b.toInt (zar (ct479 5) b.toInt.toNat).toInt.toNat := hr523_2
                          refine lv_ior hx hb dX9_steps_92 ?_
                          refine lv_topi (fun x524 ex524 => ?_)
                          have tx524 := z_or (x := v5_52) (y := r523) rfl rfl (k := 8) (N := 256) (by decide) (by decide) (by omega) (by omega) (by omega) (by omega)
                          rw [← ex524] at tx524
                          have hor := z_orle (n := 8) (x := v5_52) (y := r523) (by decide) (by omega) (by omega) (by omega) (by omega)
                          rw [← ex524] at hor
                          refine lv_istore (lv' := [(5, .int x524), (6, .int 1), (4, .int v4_52), (0, .ref (ad 0)), (1, .int b), (2, .int kn), (3, .int wh)]) hx hb dX9_steps_93 hl (by decide) rfl (fun ls hl => ?_)
                          refine lv_iload hx hb dX9_steps_95 (lv_at hl 1 rfl) ?_
                          refine lv_if_eq (tgt := 107) hx hb dX9_steps_97 (by decide) (fun c525 => ?_) (fun c525 => ?_)
                          · skip
                            exact absurd c525 (by decide)
                          · skip
                            refine lv_iload hx hb dX9_steps_100 (lv_at hl 2 rfl) ?_
                            refine lv_iconst (v := 1) hx hb dX9_steps_102 (by decide) ?_
                            refine lv_iadd hx hb dX9_steps_103 ?_
                            refine lv_topi (fun x526 ex526 => ?_)
                            refine lv_goto (tgt := 109) hx hb dX9_steps_104 (by decide) ?_
                            refine lv_istore (lv' := [(4, .int x526), (5, .int x524), (6, .int 1), (0, .ref (ad 0)), (1, .int b), (2, .int kn), (3, .int wh)]) hx hb dX9_steps_109 hl (by decide) rfl (fun ls hl => ?_)
                            refine lv_goto (tgt := 52) hx hb dX9_steps_111 (by decide) ?_
                            exact ih52 (1 : Int32) x524 x526 ct479 _ _ ls (by omega) (by first | assumption | omega | decide) (by first | assumption | omega | decide) hI hP hD hS (lv_sub hl [2, 1, 0, 3, 4, 5, 6] rfl)
                        · skip
                          have c486 : r478.toInt = 0 := (z_eq rfl (by decide : (0 : Int32).toInt = 0)).mp c486
                          refine lv_aload_n hx hb dX9_steps_65 rfl (lv_at hl 3 rfl) ?_
                          refine lv_iload_n hx hb dX9_steps_66 rfl (lv_at hl 4 rfl) ?_
                          obtain ⟨bks528, lks529, gos530, shn531, tpd532, pl0533, ln0534, flt535, opn536, cmy537, wtg538, nm0539, mst540, sus541, cut542, h543, h544, h545, h546, h547, h548, h549, h550, h551, h552, h553, h554, h555, h556, h557, h558, h559, h560, h561, h562, hs527⟩ := a9_0 hI.1
                          refine zc_i (va_runV (As := [.int b]) (rest := []) ⟨hx, hb, hml, hown, hg⟩ (k_X9_foundNow l g ad me ct479 b (by first | omega | decide) hI) (cwV 1 hg (z_gV mm_1396 mm_1398 mm_95 mm_117 mm_1399) rfl rfl rfl (by decide +kernel) ⟨Nat.le_of_ble_eq_true rfl, Nat.le_of_ble_eq_true rfl⟩) ⟨(zR.pre [.ref (ad 0), .int b] hP hK hN).1, va_recv hK hP (ci := 9) (q0 := 0) rfl (zw_at (by omega) hs527), (zR.pre [.ref (ad 0), .int b] hP hK hN).2⟩ rfl rfl hl.1 rfl (lv_room (Nat.le_of_ble_eq_true rfl)) dX9_steps_67 ⟨Nat.le_of_ble_eq_true rfl, Nat.le_of_ble_eq_true rfl⟩) (fun r563 hr563 => ?_)
                          obtain ⟨hr563_0, hr563_1, hr563_2⟩ := hr563
                          have hr563_0 : 0 ≤ r563.toInt := hr563_0
                          have hr563_1 : r563.toInt ≤ 255 := hr563_1
                          have hr563_2 : r563 = zfn (zar (ct479 10)) (zar (ct479 27)) b.toInt (zar (ct479 5) b.toInt.toNat).toInt.toNat := hr563_2
                          refine lv_iload hx hb dX9_steps_70 (lv_at hl 1 rfl) ?_
                          refine lv_iconst (v := (-1)) hx hb dX9_steps_72 (by decide) ?_
                          refine lv_ixor hx hb dX9_steps_73 ?_
                          refine lv_topi (fun x564 ex564 => ?_)
                          refine lv_iand hx hb dX9_steps_74 ?_
                          refine lv_topi (fun x565 ex565 => ?_)
                          have tx565 := z_andl (x := r563) (y := x564) rfl (by omega)
                          rw [← ex565] at tx565
                          refine lv_if_eq (tgt := 82) hx hb dX9_steps_75 (by decide) (fun c566 => ?_) (fun c566 => ?_)
                          · skip
                            have c566 : x565.toInt = 0 := (z_eq rfl (by decide : (0 : Int32).toInt = 0)).mp c566
                            refine lv_iconst (v := 0) hx hb dX9_steps_82 (by decide) ?_
                            refine lv_istore (lv' := [(6, .int 0), (5, .int v5_52), (4, .int v4_52), (0, .ref (ad 0)), (1, .int b), (2, .int kn), (3, .int wh)]) hx hb dX9_steps_83 hl (by decide) rfl (fun ls hl => ?_)
                            refine lv_iload hx hb dX9_steps_85 (lv_at hl 1 rfl) ?_
                            refine lv_aload_n hx hb dX9_steps_87 rfl (lv_at hl 3 rfl) ?_
                            refine lv_iload_n hx hb dX9_steps_88 rfl (lv_at hl 4 rfl) ?_
                            refine zc_i (va_runV (As := [.int b]) (rest := [.int v5_52]) ⟨hx, hb, hml, hown, hg⟩ (k_X9_foundNow l g ad me ct479 b (by first | omega | decide) hI) (cwV 1 hg (z_gV mm_1396 mm_1398 mm_95 mm_117 mm_1399) rfl rfl rfl (by decide +kernel) ⟨Nat.le_of_ble_eq_true rfl, Nat.le_of_ble_eq_true rfl⟩) ⟨(zR.pre [.ref (ad 0), .int b] hP hK hN).1, va_recv hK hP (ci := 9) (q0 := 0) rfl (zw_at (by omega) hs527), (zR.pre [.ref (ad 0), .int b] hP hK hN).2⟩ rfl rfl hl.1 rfl (lv_room (Nat.le_of_ble_eq_true rfl)) dX9_steps_89 ⟨Nat.le_of_ble_eq_true rfl, Nat.le_of_ble_eq_true rfl⟩) (fun r567 hr567 => ?_)
                            obtain ⟨hr567_0, hr567_1, hr567_2⟩ := hr567
                            have hr567_0 : 0 ≤ r567.toInt := hr567_0
                            have hr567_1 : r567.toInt ≤ 255 := hr567_1
                            have hr567_2 : r567 = zfn (zar (ct479 10)) (zar (ct479 27)) b.toInt (zar (ct479 5) b.toInt.toNat).toInt.toNat := hr567_2
                            refine lv_ior hx hb dX9_steps_92 ?_
                            refine lv_topi (fun x568 ex568 => ?_)
                            have tx568 := z_or (x := v5_52) (y := r567) rfl rfl (k := 8) (N := 256) (by decide) (by decide) (by omega) (by omega) (by omega) (by omega)
                            rw [← ex568] at tx568
                            have hor := z_orle (n := 8) (x := v5_52) (y := r567) (by decide) (by omega) (by omega) (by omega) (by omega)
                            rw [← ex568] at hor
                            refine lv_istore (lv' := [(5, .int x568), (6, .int 0), (4, .int v4_52), (0, .ref (ad 0)), (1, .int b), (2, .int kn), (3, .int wh)]) hx hb dX9_steps_93 hl (by decide) rfl (fun ls hl => ?_)
                            refine lv_iload hx hb dX9_steps_95 (lv_at hl 1 rfl) ?_
                            refine lv_if_eq (tgt := 107) hx hb dX9_steps_97 (by decide) (fun c569 => ?_) (fun c569 => ?_)
                            · skip
                              refine lv_iload hx hb dX9_steps_107 (lv_at hl 2 rfl) ?_
                              refine lv_istore (lv' := [(4, .int v4_52), (5, .int x568), (6, .int 0), (0, .ref (ad 0)), (1, .int b), (2, .int kn), (3, .int wh)]) hx hb dX9_steps_109 hl (by decide) rfl (fun ls hl => ?_)
                              refine lv_goto (tgt := 52) hx hb dX9_steps_111 (by decide) ?_
                              exact ih52 (0 : Int32) x568 v4_52 ct479 _ _ ls (by omega) (by first | assumption | omega | decide) (by first | assumption | omega | decide) hI hP hD hS (lv_sub hl [2, 1, 0, 3, 4, 5, 6] rfl)
                            · skip
                              exact absurd c569 (by decide)
                          · skip
                            have c566 : ¬ (x565.toInt = 0) := fun q => c566 ((z_eq rfl (by decide : (0 : Int32).toInt = 0)).mpr q)
                            refine lv_iconst (v := 1) hx hb dX9_steps_78 (by decide) ?_
                            refine lv_goto (tgt := 83) hx hb dX9_steps_79 (by decide) ?_
                            refine lv_istore (lv' := [(6, .int 1), (5, .int v5_52), (4, .int v4_52), (0, .ref (ad 0)), (1, .int b), (2, .int kn), (3, .int wh)]) hx hb dX9_steps_83 hl (by decide) rfl (fun ls hl => ?_)
                            refine lv_iload hx hb dX9_steps_85 (lv_at hl 1 rfl) ?_
                            refine lv_aload_n hx hb dX9_steps_87 rfl (lv_at hl 3 rfl) ?_
                            refine lv_iload_n hx hb dX9_steps_88 rfl (lv_at hl 4 rfl) ?_
                            refine zc_i (va_runV (As := [.int b]) (rest := [.int v5_52]) ⟨hx, hb, hml, hown, hg⟩ (k_X9_foundNow l g ad me ct479 b (by first | omega | decide) hI) (cwV 1 hg (z_gV mm_1396 mm_1398 mm_95 mm_117 mm_1399) rfl rfl rfl (by decide +kernel) ⟨Nat.le_of_ble_eq_true rfl, Nat.le_of_ble_eq_true rfl⟩) ⟨(zR.pre [.ref (ad 0), .int b] hP hK hN).1, va_recv hK hP (ci := 9) (q0 := 0) rfl (zw_at (by omega) hs527), (zR.pre [.ref (ad 0), .int b] hP hK hN).2⟩ rfl rfl hl.1 rfl (lv_room (Nat.le_of_ble_eq_true rfl)) dX9_steps_89 ⟨Nat.le_of_ble_eq_true rfl, Nat.le_of_ble_eq_true rfl⟩) (fun r570 hr570 => ?_)
                            obtain ⟨hr570_0, hr570_1, hr570_2⟩ := hr570
                            have hr570_0 : 0 ≤ r570.toInt := hr570_0
                            have hr570_1 : r570.toInt ≤ 255 := hr570_1
                            have hr570_2 : r570 = zfn (zar (ct479 10)) (zar (ct479 27)) b.toInt (zar (ct479 5) b.toInt.toNat).toInt.toNat := hr570_2
                            refine lv_ior hx hb dX9_steps_92 ?_
                            refine lv_topi (fun x571 ex571 => ?_)
                            have tx571 := z_or (x := v5_52) (y := r570) rfl rfl (k := 8) (N := 256) (by decide) (by decide) (by omega) (by omega) (by omega) (by omega)
                            rw [← ex571] at tx571
                            have hor := z_orlt (n := 8) (x := v5_52) (y := r570) (by decide) (by omega) (by omega) (by omega) (by omega) (by
                              rw [show r570 = r563 from hr570_2.trans hr563_2.symm, ← ex564, ← ex565]
                              exact c566)
                            rw [← ex571] at hor
                            refine lv_istore (lv' := [(5, .int x571), (6, .int 1), (4, .int v4_52), (0, .ref (ad 0)), (1, .int b), (2, .int kn), (3, .int wh)]) hx hb dX9_steps_93 hl (by decide) rfl (fun ls hl => ?_)
                            refine lv_iload hx hb dX9_steps_95 (lv_at hl 1 rfl) ?_
                            refine lv_if_eq (tgt := 107) hx hb dX9_steps_97 (by decide) (fun c572 => ?_) (fun c572 => ?_)
                            · skip
                              exact absurd c572 (by decide)
                            · skip
                              refine lv_iload hx hb dX9_steps_100 (lv_at hl 2 rfl) ?_
                              refine lv_iconst (v := 1) hx hb dX9_steps_102 (by decide) ?_
                              refine lv_iadd hx hb dX9_steps_103 ?_
                              refine lv_topi (fun x573 ex573 => ?_)
                              refine lv_goto (tgt := 109) hx hb dX9_steps_104 (by decide) ?_
                              refine lv_istore (lv' := [(4, .int x573), (5, .int x571), (6, .int 1), (0, .ref (ad 0)), (1, .int b), (2, .int kn), (3, .int wh)]) hx hb dX9_steps_109 hl (by decide) rfl (fun ls hl => ?_)
                              refine lv_goto (tgt := 52) hx hb dX9_steps_111 (by decide) ?_
                              exact ih52 (1 : Int32) x571 x573 ct479 _ _ ls (by omega) (by first | assumption | omega | decide) (by first | assumption | omega | decide) hI hP hD hS (lv_sub hl [2, 1, 0, 3, 4, 5, 6] rfl)
                  exact loop52 ((zsum (zar (ct386 20)) 8 + (255 - (0 : Int32).toInt) + (1 : Int32).toInt : Int).toNat + 1) (1 : Int32) (0 : Int32) (0 : Int32) ct386 _ _ ls (by omega) (by first | assumption | omega | decide) (by first | assumption | omega | decide) hI hP hD hS (lv_sub hl [0, 1, 2, 3, 4, 5, 6] rfl)
                · skip
                  exact absurd c384 (by decide)
              · skip
                obtain rfl := hr381
                refine lv_if_ne (tgt := 37) hx hb dX9_steps_32 (by decide) (fun c574 => ?_) (fun c574 => ?_)
                · skip
                  exact absurd c574 (by decide)
                · skip
                  refine lv_iconst (v := (-1)) hx hb dX9_steps_35 (by decide) ?_
                  have q575 : ((-1) : Int32).toInt = -1 := by decide
                  exact W.iret (v := (-1)) hx hb hr (fun t ht hW => ⟨⟨(-1), (), rfl, trivial, ct, by rw [ht]; exact hP, hD, hI⟩, hS.F ht⟩) hS.2.2 dX9_steps_36
      · skip
        obtain ⟨rfl, h576⟩ := hr41
        replace h576 : ¬ (0 ≤ kn.toInt ∧ kn.toInt ≤ 255) := h576
        refine lv_if_eq (tgt := 35) hx hb dX9_steps_12 (by decide) (fun c577 => ?_) (fun c577 => ?_)
        · skip
          refine lv_iconst (v := (-1)) hx hb dX9_steps_35 (by decide) ?_
          have q578 : ((-1) : Int32).toInt = -1 := by decide
          exact W.iret (v := (-1)) hx hb hr (fun t ht hW => ⟨⟨(-1), (), rfl, trivial, ct, by rw [ht]; exact hP, hD, hI⟩, hS.F ht⟩) hS.2.2 dX9_steps_36
        · skip
          exact absurd c577 (by decide)
  · skip
    obtain rfl := hr37
    refine lv_if_eq (tgt := 35) hx hb dX9_steps_5 (by decide) (fun c579 => ?_) (fun c579 => ?_)
    · skip
      refine lv_iconst (v := (-1)) hx hb dX9_steps_35 (by decide) ?_
      have q580 : ((-1) : Int32).toInt = -1 := by decide
      exact W.iret (v := (-1)) hx hb hr (fun t ht hW => ⟨⟨(-1), (), rfl, trivial, ct, by rw [ht]; exact hP, hD, hI⟩, hS.F ht⟩) hS.2.2 dX9_steps_36
    · skip
      exact absurd c579 (by decide)

set_option maxHeartbeats 4000000 in
set_option maxRecDepth 100000 in
theorem k_X9_safeOf (l : Launch) (g : zG) (sz : Nat) (ad : Nat → Nat) (me : Int32) (ct : Nat → va_E) (b : Int32) (k : Int32) (kn : Int32) (hl_b : 0 ≤ b.toInt ∧ b.toInt ≤ 3) (hl_kn : 0 ≤ kn.toInt ∧ kn.toInt ≤ 255) (hI : IR g ad me ct) : Met l yX9_safeOf (zW yX9_safeOf cX9_safeOf 7 (some .int)) ({ frames := 6, cells := 0, slots := 0, locals := 148 }) (va_Pc [.ref (ad 0), .int b, .int k, .int kn] (zA g (zw 32 ad ct) sz)) (va_Qi (fun (r : Int32) (_ : Unit) => ((0 ≤ r.toInt) ∧ (r.toInt ≤ 255))) (fun _ t => ∃ ct2 : Nat → va_E, zP g (zw 32 ad ct2) t.heap ∧ va_D (va_A (zw 32 ad ct) sz) (zw 32 ad ct2) ∧ IR g ad me ct2 ∧ (ct2 5 = ct 5) ∧ (ct2 10 = ct 10)) (va_A (zw 32 ad ct) sz)) 0 0 (va_A (zw 32 ad ct) sz) := by
  refine Met.ofW (cc := cX9_safeOf) (maxL := 7) (ret := (some .int)) (by decide) rfl ?_
  intro p e s m args below meth c s₁ B hml hv
  obtain ⟨rfl, hsz, hP, hK, hD0, hN⟩ := hv
  have hx := B.exec
  have hb := B.bytes
  have hr := B.returns
  have hg := zW.law (atoms_spec (ws := (zW yX9_safeOf cX9_safeOf 7 (some .int))) B.pre)
  have hown : s.vm.findClass RX9 = some m.cls := findClass_of_methodNamed B.named
  have hlocks := B.notSynchronized
  have hpe0 := hI.1.1
  subst hsz
  have hD := hD0.self (sz := s.heap.size)
  generalize hAe : va_A (zw 32 ad ct) s.heap.size = A at hD ⊢
  have hA : ∀ q : Nat, s.heap.size ≤ q → A q := fun q h => by rw [← hAe]; exact Or.inr h
  have hS : va_S A s.heap s.heap [] := va_S.rf
  have hl := lv_entry ([.ref (ad 0), .int b, .int k, .int kn]) (n := 7) (Nat.le_of_ble_eq_true rfl)
  rw [lg_entry_eq]
  generalize (lg_sl ([.ref (ad 0), .int b, .int k, .int kn]) ++ List.replicate (7 - (lg_sl ([.ref (ad 0), .int b, .int k, .int kn])).length) Slot.unset).toArray = ls at hl ⊢
  have hl : lv_has ls 7 [(0, .ref (ad 0)), (1, .int b), (2, .int k), (3, .int kn)] := hl
  have hc5 : ct 5 = ct 5 := rfl
  have hc10 : ct 10 = ct 10 := rfl
  have rg_k := z_rng k
  refine lv_aload_n hx hb dX9_safeOf_0 rfl (lv_at hl 0 rfl) ?_
  refine lv_iload_n hx hb dX9_safeOf_1 rfl (lv_at hl 1 rfl) ?_
  refine lv_iload_n hx hb dX9_safeOf_2 rfl (lv_at hl 3 rfl) ?_
  obtain ⟨bks2, lks3, gos4, shn5, tpd6, pl07, ln08, flt9, opn10, cmy11, wtg12, nm013, mst14, sus15, cut16, h17, h18, h19, h20, h21, h22, h23, h24, h25, h26, h27, h28, h29, h30, h31, h32, h33, h34, h35, h36, hs1⟩ := a9_0 hI.1
  have hFc := zw_free hD hS hA
  refine va_callv (va_runV (As := [.int b, .int kn]) (rest := []) ⟨hx, hb, hml, hown, hg⟩ (k_X9_laysFitting l g _ ad me ct b kn (by first | omega | decide) (by first | omega | decide) hI) (cwV 2 hg (z_gV mm_1329 mm_1331 mm_85 mm_117 mm_1332) rfl rfl rfl (by decide +kernel) ⟨Nat.le_of_ble_eq_true rfl, Nat.le_of_ble_eq_true rfl⟩) ⟨(zA.pre [.ref (ad 0), .int b, .int kn] hP hK hD hN).1, va_recv hK hP (ci := 9) (q0 := 0) rfl (zw_at (by omega) hs1), (zA.pre [.ref (ad 0), .int b, .int kn] hP hK hD hN).2⟩ rfl rfl hl.1 rfl (lv_room (Nat.le_of_ble_eq_true rfl)) dX9_safeOf_3 ⟨Nat.le_of_ble_eq_true rfl, Nat.le_of_ble_eq_true rfl⟩) hS (fun q _ h => hFc q h) hFc (fun _ t H1 locs ht hvm hr37 hB hz1 hk1 hS => ?_)
  obtain ⟨ct38, hP1, hD1, hI, hk39, hk40, hk41⟩ := hB
  rw [ht] at hP1
  have hD := hD1.weaken (fun _ _ _ h => hFc _ h)
  generalize H1 = H at hP1 hS ⊢
  have hP := hP1
  refine W.widen (k := 0) (n := 0) (Nat.le_refl _) (Nat.le_refl _) ?_
  have hc5 : ct38 5 = ct 5 := hk40.trans hc5
  have hc10 : ct38 10 = ct 10 := hk41.trans hc10
  have hs42 : ct38 0 = .inr (9, [.int me, .ref (ad 1), .ref (ad 2), .ref (ad 3), .ref (ad 4), .int bks2, .int lks3, .int gos4, .int shn5, .ref (ad 5), .ref (ad 6), .ref (ad 7), .ref (ad 8), .ref (ad 9), .ref (ad 10), .ref (ad 11), .int tpd6, .int pl07, .int ln08, .int flt9, .int opn10, .int cmy11, .int wtg12, .int nm013, .ref (ad 12), .ref (ad 13), .ref (ad 14), .ref (ad 15), .ref (ad 16), .ref (ad 17), .ref (ad 18), .ref (ad 19), .ref (ad 20), .ref (ad 21), .ref (ad 22), .ref (ad 23), .ref (ad 24), .ref (ad 25), .ref (ad 26), .ref (ad 27), .int mst14, .int sus15, .ref (ad 28), .ref (ad 29), .ref (ad 30), .ref (ad 31), .int cut16]) := hk39.trans hs1
  refine lv_iconst (v := 0) hx hb dX9_safeOf_6 (by decide) ?_
  refine lv_istore (lv' := [(4, .int 0), (0, .ref (ad 0)), (1, .int b), (2, .int k), (3, .int kn)]) hx hb dX9_safeOf_7 hl (by decide) rfl (fun ls hl => ?_)
  refine lv_iconst (v := 0) hx hb dX9_safeOf_9 (by decide) ?_
  refine lv_istore (lv' := [(5, .int 0), (4, .int 0), (0, .ref (ad 0)), (1, .int b), (2, .int k), (3, .int kn)]) hx hb dX9_safeOf_10 hl (by decide) rfl (fun ls hl => ?_)
  have loop12 : ∀ (n12 : Nat) (v5_12 : Int32) (v4_12 : Int32) (ct43 : Nat → va_E) (H : Heap) (locs : List Loc) (ls : Array Slot), ((8 - v5_12.toInt : Int).toNat < n12) → (0 ≤ v5_12.toInt ∧ v5_12.toInt ≤ 8) → (0 ≤ v4_12.toInt ∧ v4_12.toInt ≤ 255) → (ct43 5 = ct 5) → (ct43 10 = ct 10) → (IR g ad me ct43) → zP g (zw 32 ad ct43) H → va_D A (zw 32 ad ct43) → va_S A s.heap H locs → lv_has ls 7 [(5, .int v5_12), (4, .int v4_12), (0, .ref (ad 0)), (1, .int b), (2, .int k), (3, .int kn)] → W p l e (headSpec (zW yX9_safeOf cX9_safeOf 7 (some .int)) ({ frames := 6, cells := 0, slots := 0, locals := 148 })).room s m ([.ref (ad 0), .int b, .int k, .int kn] : List Value).toArray below meth c H locs 0 0 (MQ below (va_Qi (fun (r : Int32) (_ : Unit) => ((0 ≤ r.toInt) ∧ (r.toInt ≤ 255))) (fun _ t => ∃ ct2 : Nat → va_E, zP g (zw 32 ad ct2) t.heap ∧ va_D A (zw 32 ad ct2) ∧ IR g ad me ct2 ∧ (ct2 5 = ct 5) ∧ (ct2 10 = ct 10)) A) ([.ref (ad 0), .int b, .int k, .int kn] : List Value).toArray s 0 0 A) (F0 m 12 ls []) := by
    intro n12
    induction n12 with
    | zero =>
      intro v5_12 v4_12 ct43 H locs ls hn12 b5_12 b4_12 hc5 hc10 hI hP hD hS hl
      exact absurd hn12 (Nat.not_lt_zero _)
    | succ n12 ih12 =>
      intro v5_12 v4_12 ct43 H locs ls hn12 b5_12 b4_12 hc5 hc10 hI hP hD hS hl
      refine lv_iload hx hb dX9_safeOf_12 (lv_at hl 0 rfl) ?_
      refine lv_aload_n hx hb dX9_safeOf_14 rfl (lv_at hl 2 rfl) ?_
      obtain ⟨bks45, lks46, gos47, shn48, tpd49, pl050, ln051, flt52, opn53, cmy54, wtg55, nm056, mst57, sus58, cut59, h60, h61, h62, h63, h64, h65, h66, h67, h68, h69, h70, h71, h72, h73, h74, h75, h76, h77, h78, h79, hs44⟩ := a9_0 hI.1
      refine va_get (D := g.1) (ci := 9) (v := .ref (ad 5)) (C := RX9) (T := TX9) (N := 47) hx hb hg inG9 hown hK hP 0 (zw_at (by omega) hs44) rfl 9 (by decide) (hg _ mm_967) (fun _ h9 => h9) rfl dX9_safeOf_15 ?_
      refine lv_iload_n hx hb dX9_safeOf_18 rfl (lv_at hl 3 rfl) ?_
      obtain ⟨f81, hp82, hs80⟩ := a9_5 hI.1
      refine va_iald hx hb hK hP 5 0 (zw_at (by omega) hs80) rfl (z_in rfl (by omega) (by omega)) dX9_safeOf_19 ?_
      refine lv_topi (fun y83 ey83 => ?_)
      have hy83 := hp82 _ (z_clt (x := b) rfl (by omega) (by omega))
      rw [← ey83] at hy83
      have hy83 : 0 ≤ y83.toInt ∧ y83.toInt ≤ 8 := hy83
      refine lv_icmp_ge (tgt := 94) hx hb dX9_safeOf_20 (by decide) (fun c84 => ?_) (fun c84 => ?_)
      · skip
        have c84 : y83.toInt ≤ v5_12.toInt := (z_le rfl rfl).mp c84
        refine lv_iload hx hb dX9_safeOf_94 (lv_at hl 1 rfl) ?_
        exact W.iret (v := v4_12) hx hb hr (fun t ht hW => ⟨⟨v4_12, (), rfl, ⟨by first | omega | decide, by first | omega | decide⟩, ct43, by rw [ht]; exact hP, hD, hI, (by first | assumption | omega), (by first | assumption | omega)⟩, hS.F ht⟩) hS.2.2 dX9_safeOf_96
      · skip
        have c84 : ¬ (y83.toInt ≤ v5_12.toInt) := fun q => c84 ((z_le rfl rfl).mpr q)
        refine lv_aload_n hx hb dX9_safeOf_23 rfl (lv_at hl 2 rfl) ?_
        refine va_get (D := g.1) (ci := 9) (v := .ref (ad 10)) (C := RX9) (T := TX9) (N := 47) hx hb hg inG9 hown hK hP 0 (zw_at (by omega) hs44) rfl 14 (by decide) (hg _ mm_972) (fun _ h9 => h9) rfl dX9_safeOf_24 ?_
        refine lv_iload_n hx hb dX9_safeOf_27 rfl (lv_at hl 3 rfl) ?_
        refine lv_iload hx hb dX9_safeOf_28 (lv_at hl 0 rfl) ?_
        refine zc_i (va_runS (As := [.int b, .int v5_12]) (rest := [.ref (ad 10)]) ⟨hx, hb, hml, hown, hg⟩ (k_X9_at l g ad me ct43 b v5_12 (by first | omega | decide) (by first | omega | decide) hI) (va_cwS 2 hg (z_gS mm_1159 mm_1160 mm_117 mm_1161) rfl rfl rfl (by decide +kernel) ⟨Nat.le_of_ble_eq_true rfl, Nat.le_of_ble_eq_true rfl⟩) (zR.pre [.int b, .int v5_12] hP hK hN) rfl rfl hl.1 rfl (lv_room (Nat.le_of_ble_eq_true rfl)) dX9_safeOf_30 ⟨Nat.le_of_ble_eq_true rfl, Nat.le_of_ble_eq_true rfl⟩) (fun r85 hr85 => ?_)
        have hr85_0 := hr85
        have hr85_0 : r85.toInt = 8 * b.toInt + v5_12.toInt := hr85_0
        obtain ⟨f87, hp88, hs86⟩ := a9_10 hI.1
        refine va_zald hx hb hK hP 10 3 (zw_at (by omega) hs86) rfl (z_in rfl (by omega) (by omega)) dX9_safeOf_33 ?_
        refine lv_topi (fun y89 ey89 => ?_)
        have hy89 := hp88 _ (z_clt (x := r85) rfl (by omega) (by omega))
        rw [← ey89] at hy89
        have hy89 : y89 = 0 ∨ y89 = 1 := hy89
        have by89 := z_b01 hy89
        refine lv_if_eq (tgt := 40) hx hb dX9_safeOf_34 (by decide) (fun c90 => ?_) (fun c90 => ?_)
        · skip
          have c90 : y89.toInt = 0 := (z_eq rfl (by decide : (0 : Int32).toInt = 0)).mp c90
          refine lv_aload_n hx hb dX9_safeOf_40 rfl (lv_at hl 2 rfl) ?_
          refine lv_iload_n hx hb dX9_safeOf_41 rfl (lv_at hl 3 rfl) ?_
          refine lv_iload hx hb dX9_safeOf_42 (lv_at hl 0 rfl) ?_
          have hFc := zw_free hD hS hA
          refine va_calli (va_runV (As := [.int b, .int v5_12]) (rest := []) ⟨hx, hb, hml, hown, hg⟩ (k_X9_maybe l g _ ad me ct43 b v5_12 (by first | omega | decide) (by first | omega | decide) hI) (cwV 2 hg (z_gV mm_1369 mm_1371 mm_92 mm_117 mm_1372) rfl rfl rfl (by decide +kernel) ⟨Nat.le_of_ble_eq_true rfl, Nat.le_of_ble_eq_true rfl⟩) ⟨(zA.pre [.ref (ad 0), .int b, .int v5_12] hP hK hD hN).1, va_recv hK hP (ci := 9) (q0 := 0) rfl (zw_at (by omega) hs44), (zA.pre [.ref (ad 0), .int b, .int v5_12] hP hK hD hN).2⟩ rfl rfl hl.1 rfl (lv_room (Nat.le_of_ble_eq_true rfl)) dX9_safeOf_44 ⟨Nat.le_of_ble_eq_true rfl, Nat.le_of_ble_eq_true rfl⟩) hS (fun q _ h => hFc q h) hFc (fun r91 _ t H1 locs ht hvm hr91 hB hz1 hk1 hS => ?_)
          obtain ⟨ct92, hP1, hD1, hI, hk93, hk94, hk95, hk96⟩ := hB
          rw [ht] at hP1
          have hD := hD1.weaken (fun _ _ _ h => hFc _ h)
          generalize H1 = H at hP1 hS ⊢
          have hP := hP1
          refine W.widen (k := 0) (n := 0) (Nat.le_refl _) (Nat.le_refl _) ?_
          have hc5 : ct92 5 = ct 5 := hk94.trans hc5
          have hc10 : ct92 10 = ct 10 := hk95.trans hc10
          have hs97 : ct92 0 = .inr (9, [.int me, .ref (ad 1), .ref (ad 2), .ref (ad 3), .ref (ad 4), .int bks45, .int lks46, .int gos47, .int shn48, .ref (ad 5), .ref (ad 6), .ref (ad 7), .ref (ad 8), .ref (ad 9), .ref (ad 10), .ref (ad 11), .int tpd49, .int pl050, .int ln051, .int flt52, .int opn53, .int cmy54, .int wtg55, .int nm056, .ref (ad 12), .ref (ad 13), .ref (ad 14), .ref (ad 15), .ref (ad 16), .ref (ad 17), .ref (ad 18), .ref (ad 19), .ref (ad 20), .ref (ad 21), .ref (ad 22), .ref (ad 23), .ref (ad 24), .ref (ad 25), .ref (ad 26), .ref (ad 27), .int mst57, .int sus58, .ref (ad 28), .ref (ad 29), .ref (ad 30), .ref (ad 31), .int cut59]) := hk93.trans hs44
          have hs98 : ct92 5 = .inl (g.2 0, 4, .inl f81) := hk94.trans hs80
          have hs99 : ct92 10 = .inl (g.2 3, 32, .inl f87) := hk95.trans hs86
          obtain ⟨hr91_0, hr91_1⟩ := hr91
          have hr91_0 : 0 ≤ r91.toInt := hr91_0
          have hr91_1 : r91.toInt ≤ 65535 := hr91_1
          refine zc_i (va_runS (As := [.int r91]) (rest := []) ⟨hx, hb, hml, hown, hg⟩ (k_X9_bits l g ad me ct92 r91 hI) (va_cwS 1 hg (z_gS mm_1373 mm_1374 mm_117 mm_1375) rfl rfl rfl (by decide +kernel) ⟨Nat.le_of_ble_eq_true rfl, Nat.le_of_ble_eq_true rfl⟩) (zR.pre [.int r91] hP hK hN) rfl rfl hl.1 rfl (lv_room (Nat.le_of_ble_eq_true rfl)) dX9_safeOf_47 ⟨Nat.le_of_ble_eq_true rfl, Nat.le_of_ble_eq_true rfl⟩) (fun r100 hr100 => ?_)
          obtain ⟨hr100_0, hr100_1⟩ := hr100
          have hr100_0 : 0 ≤ r100.toInt := hr100_0
          have hr100_1 : r100.toInt ≤ 16 := hr100_1
          refine lv_istore (lv' := [(6, .int r100), (5, .int v5_12), (4, .int v4_12), (0, .ref (ad 0)), (1, .int b), (2, .int k), (3, .int kn)]) hx hb dX9_safeOf_50 hl (by decide) rfl (fun ls hl => ?_)
          refine lv_iload hx hb dX9_safeOf_52 (lv_at hl 0 rfl) ?_
          refine lv_iload_n hx hb dX9_safeOf_54 rfl (lv_at hl 5 rfl) ?_
          refine lv_icmp_lt (tgt := 88) hx hb dX9_safeOf_55 (by decide) (fun c101 => ?_) (fun c101 => ?_)
          · skip
            have c101 : r100.toInt < k.toInt := (z_lt rfl rfl).mp c101
            obtain ⟨x102, ex102⟩ : ∃ y : Int32, y = v5_12 + 1 := ⟨_, rfl⟩
            have tx102 : x102.toInt = v5_12.toInt + 1 := by rw [ex102]; exact z_add rfl (by decide : (1 : Int32).toInt = 1) (by omega) (by omega)
            refine lv_iinc (v := x102) (lv' := [(5, .int x102), (6, .int r100), (4, .int v4_12), (0, .ref (ad 0)), (1, .int b), (2, .int k), (3, .int kn)]) hx hb dX9_safeOf_88 hl (k := 1) rfl (by rw [ex102]; rfl) (by decide) rfl (fun ls hl => ?_)
            refine lv_goto (tgt := 12) hx hb dX9_safeOf_91 (by decide) ?_
            exact ih12 x102 v4_12 ct92 _ _ ls (by omega) (by first | assumption | omega | decide) (by first | assumption | omega | decide) (by first | assumption | omega | decide) (by first | assumption | omega | decide) hI hP hD hS (lv_sub hl [0, 2, 3, 4, 5, 6] rfl)
          · skip
            have c101 : ¬ (r100.toInt < k.toInt) := fun q => c101 ((z_lt rfl rfl).mpr q)
            refine lv_iload hx hb dX9_safeOf_58 (lv_at hl 0 rfl) ?_
            refine lv_aload_n hx hb dX9_safeOf_60 rfl (lv_at hl 3 rfl) ?_
            refine va_get (D := g.1) (ci := 9) (v := .ref (ad 4)) (C := RX9) (T := TX9) (N := 47) hx hb hg inG9 hown hK hP 0 (zw_at (by omega) hs97) rfl 4 (by decide) (hg _ mm_962) (fun _ h9 => h9) rfl dX9_safeOf_61 ?_
            refine lv_aload_n hx hb dX9_safeOf_64 rfl (lv_at hl 3 rfl) ?_
            refine va_get (D := g.1) (ci := 9) (v := .ref (ad 6)) (C := RX9) (T := TX9) (N := 47) hx hb hg inG9 hown hK hP 0 (zw_at (by omega) hs97) rfl 10 (by decide) (hg _ mm_968) (fun _ h9 => h9) rfl dX9_safeOf_65 ?_
            refine lv_iload_n hx hb dX9_safeOf_68 rfl (lv_at hl 4 rfl) ?_
            refine lv_iload hx hb dX9_safeOf_69 (lv_at hl 1 rfl) ?_
            refine zc_i (va_runS (As := [.int b, .int v5_12]) (rest := [.ref (ad 6), .ref (ad 4), .int r100]) ⟨hx, hb, hml, hown, hg⟩ (k_X9_at l g ad me ct92 b v5_12 (by first | omega | decide) (by first | omega | decide) hI) (va_cwS 2 hg (z_gS mm_1159 mm_1160 mm_117 mm_1161) rfl rfl rfl (by decide +kernel) ⟨Nat.le_of_ble_eq_true rfl, Nat.le_of_ble_eq_true rfl⟩) (zR.pre [.int b, .int v5_12] hP hK hN) rfl rfl hl.1 rfl (lv_room (Nat.le_of_ble_eq_true rfl)) dX9_safeOf_71 ⟨Nat.le_of_ble_eq_true rfl, Nat.le_of_ble_eq_true rfl⟩) (fun r103 hr103 => ?_)
            have hr103_0 := hr103
            have hr103_0 : r103.toInt = 8 * b.toInt + v5_12.toInt := hr103_0
            obtain ⟨f105, hp106, hs104⟩ := a9_6 hI.1
            refine va_iald hx hb hK hP 6 0 (zw_at (by omega) hs104) rfl (z_in rfl (by omega) (by omega)) dX9_safeOf_74 ?_
            refine lv_topi (fun y107 ey107 => ?_)
            have hy107 := hp106 _ (z_clt (x := r103) rfl (by omega) (by omega))
            rw [← ey107] at hy107
            have hy107 : 0 ≤ y107.toInt ∧ y107.toInt ≤ 15 := hy107
            obtain ⟨f109, hs108⟩ := a9_4 hI.1
            refine va_iald hx hb hK hP 4 0 (zw_at (by omega) hs108) rfl (z_in rfl (by omega) (by omega)) dX9_safeOf_75 ?_
            refine lv_topi (fun y110 ey110 => ?_)
            refine lv_icmp_lt (tgt := 88) hx hb dX9_safeOf_76 (by decide) (fun c111 => ?_) (fun c111 => ?_)
            · skip
              have c111 : r100.toInt < y110.toInt := (z_lt rfl rfl).mp c111
              obtain ⟨x112, ex112⟩ : ∃ y : Int32, y = v5_12 + 1 := ⟨_, rfl⟩
              have tx112 : x112.toInt = v5_12.toInt + 1 := by rw [ex112]; exact z_add rfl (by decide : (1 : Int32).toInt = 1) (by omega) (by omega)
              refine lv_iinc (v := x112) (lv' := [(5, .int x112), (6, .int r100), (4, .int v4_12), (0, .ref (ad 0)), (1, .int b), (2, .int k), (3, .int kn)]) hx hb dX9_safeOf_88 hl (k := 1) rfl (by rw [ex112]; rfl) (by decide) rfl (fun ls hl => ?_)
              refine lv_goto (tgt := 12) hx hb dX9_safeOf_91 (by decide) ?_
              exact ih12 x112 v4_12 ct92 _ _ ls (by omega) (by first | assumption | omega | decide) (by first | assumption | omega | decide) (by first | assumption | omega | decide) (by first | assumption | omega | decide) hI hP hD hS (lv_sub hl [0, 2, 3, 4, 5, 6] rfl)
            · skip
              have c111 : ¬ (r100.toInt < y110.toInt) := fun q => c111 ((z_lt rfl rfl).mpr q)
              refine lv_iload hx hb dX9_safeOf_79 (lv_at hl 2 rfl) ?_
              refine lv_iconst (v := 1) hx hb dX9_safeOf_81 (by decide) ?_
              refine lv_iload hx hb dX9_safeOf_82 (lv_at hl 1 rfl) ?_
              refine lv_ishl hx hb dX9_safeOf_84 ?_
              refine lv_topi (fun x113 ex113 => ?_)
              have tx113 := z_shl1 (y := v5_12) rfl (by omega) (k := 7) (by decide) (by omega)
              rw [← ex113] at tx113
              refine lv_ior hx hb dX9_safeOf_85 ?_
              refine lv_topi (fun x114 ex114 => ?_)
              have tx114 := z_or (x := v4_12) (y := x113) rfl rfl (k := 8) (N := 256) (by decide) (by decide) (by omega) (by omega) (by omega) (by omega)
              rw [← ex114] at tx114
              refine lv_istore (lv' := [(4, .int x114), (6, .int r100), (5, .int v5_12), (0, .ref (ad 0)), (1, .int b), (2, .int k), (3, .int kn)]) hx hb dX9_safeOf_86 hl (by decide) rfl (fun ls hl => ?_)
              obtain ⟨x115, ex115⟩ : ∃ y : Int32, y = v5_12 + 1 := ⟨_, rfl⟩
              have tx115 : x115.toInt = v5_12.toInt + 1 := by rw [ex115]; exact z_add rfl (by decide : (1 : Int32).toInt = 1) (by omega) (by omega)
              refine lv_iinc (v := x115) (lv' := [(5, .int x115), (4, .int x114), (6, .int r100), (0, .ref (ad 0)), (1, .int b), (2, .int k), (3, .int kn)]) hx hb dX9_safeOf_88 hl (k := 2) rfl (by rw [ex115]; rfl) (by decide) rfl (fun ls hl => ?_)
              refine lv_goto (tgt := 12) hx hb dX9_safeOf_91 (by decide) ?_
              exact ih12 x115 x114 ct92 _ _ ls (by omega) (by first | assumption | omega | decide) (by first | assumption | omega | decide) (by first | assumption | omega | decide) (by first | assumption | omega | decide) hI hP hD hS (lv_sub hl [0, 1, 3, 4, 5, 6] rfl)
        · skip
          have c90 : ¬ (y89.toInt = 0) := fun q => c90 ((z_eq rfl (by decide : (0 : Int32).toInt = 0)).mpr q)
          refine lv_goto (tgt := 88) hx hb dX9_safeOf_37 (by decide) ?_
          obtain ⟨x116, ex116⟩ : ∃ y : Int32, y = v5_12 + 1 := ⟨_, rfl⟩
          have tx116 : x116.toInt = v5_12.toInt + 1 := by rw [ex116]; exact z_add rfl (by decide : (1 : Int32).toInt = 1) (by omega) (by omega)
          refine lv_iinc (v := x116) (lv' := [(5, .int x116), (4, .int v4_12), (0, .ref (ad 0)), (1, .int b), (2, .int k), (3, .int kn)]) hx hb dX9_safeOf_88 hl (k := 0) rfl (by rw [ex116]; rfl) (by decide) rfl (fun ls hl => ?_)
          refine lv_goto (tgt := 12) hx hb dX9_safeOf_91 (by decide) ?_
          exact ih12 x116 v4_12 ct43 _ _ ls (by omega) (by first | assumption | omega | decide) (by first | assumption | omega | decide) (by first | assumption | omega | decide) (by first | assumption | omega | decide) hI hP hD hS (lv_sub hl [0, 1, 2, 3, 4, 5] rfl)
  exact loop12 ((8 - (0 : Int32).toInt : Int).toNat + 1) (0 : Int32) (0 : Int32) ct38 _ _ ls (by omega) (by first | assumption | omega | decide) (by first | assumption | omega | decide) (by first | assumption | omega | decide) (by first | assumption | omega | decide) hI hP hD hS (lv_sub hl [0, 1, 2, 3, 4, 5] rfl)

set_option maxHeartbeats 4000000 in
set_option maxRecDepth 100000 in
theorem k_X9_safe (l : Launch) (g : zG) (sz : Nat) (ad : Nat → Nat) (me : Int32) (ct : Nat → va_E) (b : Int32) (k : Int32) (kn : Int32) (hI : IR g ad me ct) : Met l yX9_safe (zW yX9_safe cX9_safe 4 (some .int)) ({ frames := 7, cells := 0, slots := 0, locals := 174 }) (va_Pc [.ref (ad 0), .int b, .int k, .int kn] (zA g (zw 32 ad ct) sz)) (va_Qi (fun (r : Int32) (_ : Unit) => (True)) (fun _ t => ∃ ct2 : Nat → va_E, zP g (zw 32 ad ct2) t.heap ∧ va_D (va_A (zw 32 ad ct) sz) (zw 32 ad ct2) ∧ IR g ad me ct2) (va_A (zw 32 ad ct) sz)) 0 0 (va_A (zw 32 ad ct) sz) := by
  refine Met.ofW (cc := cX9_safe) (maxL := 4) (ret := (some .int)) (by decide) rfl ?_
  intro p e s m args below meth c s₁ B hml hv
  obtain ⟨rfl, hsz, hP, hK, hD0, hN⟩ := hv
  have hx := B.exec
  have hb := B.bytes
  have hr := B.returns
  have hg := zW.law (atoms_spec (ws := (zW yX9_safe cX9_safe 4 (some .int))) B.pre)
  have hown : s.vm.findClass RX9 = some m.cls := findClass_of_methodNamed B.named
  have hlocks := B.notSynchronized
  have hpe0 := hI.1.1
  subst hsz
  have hD := hD0.self (sz := s.heap.size)
  generalize hAe : va_A (zw 32 ad ct) s.heap.size = A at hD ⊢
  have hA : ∀ q : Nat, s.heap.size ≤ q → A q := fun q h => by rw [← hAe]; exact Or.inr h
  have hS : va_S A s.heap s.heap [] := va_S.rf
  have hl := lv_entry ([.ref (ad 0), .int b, .int k, .int kn]) (n := 4) (Nat.le_of_ble_eq_true rfl)
  rw [lg_entry_eq]
  generalize (lg_sl ([.ref (ad 0), .int b, .int k, .int kn]) ++ List.replicate (4 - (lg_sl ([.ref (ad 0), .int b, .int k, .int kn])).length) Slot.unset).toArray = ls at hl ⊢
  have hl : lv_has ls 4 [(0, .ref (ad 0)), (1, .int b), (2, .int k), (3, .int kn)] := hl
  have rg_b := z_rng b
  have rg_k := z_rng k
  have rg_kn := z_rng kn
  refine lv_aload_n hx hb dX9_safe_0 rfl (lv_at hl 0 rfl) ?_
  refine lv_iload_n hx hb dX9_safe_1 rfl (lv_at hl 1 rfl) ?_
  obtain ⟨bks2, lks3, gos4, shn5, tpd6, pl07, ln08, flt9, opn10, cmy11, wtg12, nm013, mst14, sus15, cut16, h17, h18, h19, h20, h21, h22, h23, h24, h25, h26, h27, h28, h29, h30, h31, h32, h33, h34, h35, h36, hs1⟩ := a9_0 hI.1
  refine zc_i (va_runV (As := [.int b]) (rest := []) ⟨hx, hb, hml, hown, hg⟩ (k_X9_isBook l g ad me ct b hI) (cwV 1 hg (z_gV mm_1174 mm_1176 mm_58 mm_117 mm_1177) rfl rfl rfl (by decide +kernel) ⟨Nat.le_of_ble_eq_true rfl, Nat.le_of_ble_eq_true rfl⟩) ⟨(zR.pre [.ref (ad 0), .int b] hP hK hN).1, va_recv hK hP (ci := 9) (q0 := 0) rfl (zw_at (by omega) hs1), (zR.pre [.ref (ad 0), .int b] hP hK hN).2⟩ rfl rfl hl.1 rfl (lv_room (Nat.le_of_ble_eq_true rfl)) dX9_safe_2 ⟨Nat.le_of_ble_eq_true rfl, Nat.le_of_ble_eq_true rfl⟩) (fun r37 hr37 => ?_)
  rcases hr37 with hr37 | hr37
  · skip
    obtain ⟨rfl, h38, h39⟩ := hr37
    replace h38 : 0 ≤ b.toInt := h38
    replace h39 : b.toInt ≤ 3 := h39
    refine lv_if_eq (tgt := 32) hx hb dX9_safe_5 (by decide) (fun c40 => ?_) (fun c40 => ?_)
    · skip
      exact absurd c40 (by decide)
    · skip
      refine lv_iload_n hx hb dX9_safe_8 rfl (lv_at hl 2 rfl) ?_
      refine zc_i (va_runS (As := [.int k]) (rest := []) ⟨hx, hb, hml, hown, hg⟩ (k_X9_isMany l g ad me ct k hI) (va_cwS 1 hg (z_gS mm_1404 mm_1405 mm_117 mm_1406) rfl rfl rfl (by decide +kernel) ⟨Nat.le_of_ble_eq_true rfl, Nat.le_of_ble_eq_true rfl⟩) (zR.pre [.int k] hP hK hN) rfl rfl hl.1 rfl (lv_room (Nat.le_of_ble_eq_true rfl)) dX9_safe_9 ⟨Nat.le_of_ble_eq_true rfl, Nat.le_of_ble_eq_true rfl⟩) (fun r41 hr41 => ?_)
      rcases hr41 with hr41 | hr41
      · skip
        obtain ⟨rfl, h42, h43⟩ := hr41
        replace h42 : 1 ≤ k.toInt := h42
        replace h43 : k.toInt ≤ 16 := h43
        refine lv_if_eq (tgt := 32) hx hb dX9_safe_12 (by decide) (fun c44 => ?_) (fun c44 => ?_)
        · skip
          exact absurd c44 (by decide)
        · skip
          refine lv_iload_n hx hb dX9_safe_15 rfl (lv_at hl 3 rfl) ?_
          refine zc_i (va_runS (As := [.int kn]) (rest := []) ⟨hx, hb, hml, hown, hg⟩ (k_X9_isKnown l g ad me ct kn hI) (va_cwS 1 hg (z_gS mm_1294 mm_1295 mm_117 mm_1296) rfl rfl rfl (by decide +kernel) ⟨Nat.le_of_ble_eq_true rfl, Nat.le_of_ble_eq_true rfl⟩) (zR.pre [.int kn] hP hK hN) rfl rfl hl.1 rfl (lv_room (Nat.le_of_ble_eq_true rfl)) dX9_safe_16 ⟨Nat.le_of_ble_eq_true rfl, Nat.le_of_ble_eq_true rfl⟩) (fun r45 hr45 => ?_)
          rcases hr45 with hr45 | hr45
          · skip
            obtain ⟨rfl, h46, h47⟩ := hr45
            replace h46 : 0 ≤ kn.toInt := h46
            replace h47 : kn.toInt ≤ 255 := h47
            refine lv_if_eq (tgt := 32) hx hb dX9_safe_19 (by decide) (fun c48 => ?_) (fun c48 => ?_)
            · skip
              exact absurd c48 (by decide)
            · skip
              refine lv_aload_n hx hb dX9_safe_22 rfl (lv_at hl 0 rfl) ?_
              refine lv_iload_n hx hb dX9_safe_23 rfl (lv_at hl 1 rfl) ?_
              refine lv_iload_n hx hb dX9_safe_24 rfl (lv_at hl 2 rfl) ?_
              refine lv_iload_n hx hb dX9_safe_25 rfl (lv_at hl 3 rfl) ?_
              have hFc := zw_free hD hS hA
              refine va_calli (va_runV (As := [.int b, .int k, .int kn]) (rest := []) ⟨hx, hb, hml, hown, hg⟩ (k_X9_safeOf l g _ ad me ct b k kn (by first | omega | decide) (by first | omega | decide) hI) (cwV 3 hg (z_gV mm_1407 mm_1409 mm_96 mm_117 mm_1410) rfl rfl rfl (by decide +kernel) ⟨Nat.le_of_ble_eq_true rfl, Nat.le_of_ble_eq_true rfl⟩) ⟨(zA.pre [.ref (ad 0), .int b, .int k, .int kn] hP hK hD hN).1, va_recv hK hP (ci := 9) (q0 := 0) rfl (zw_at (by omega) hs1), (zA.pre [.ref (ad 0), .int b, .int k, .int kn] hP hK hD hN).2⟩ rfl rfl hl.1 rfl (lv_room (Nat.le_of_ble_eq_true rfl)) dX9_safe_26 ⟨Nat.le_of_ble_eq_true rfl, Nat.le_of_ble_eq_true rfl⟩) hS (fun q _ h => hFc q h) hFc (fun r49 _ t H1 locs ht hvm hr49 hB hz1 hk1 hS => ?_)
              obtain ⟨ct50, hP1, hD1, hI, hk51, hk52⟩ := hB
              rw [ht] at hP1
              have hD := hD1.weaken (fun _ _ _ h => hFc _ h)
              generalize H1 = H at hP1 hS ⊢
              have hP := hP1
              refine W.widen (k := 0) (n := 0) (Nat.le_refl _) (Nat.le_refl _) ?_
              obtain ⟨hr49_0, hr49_1⟩ := hr49
              have hr49_0 : 0 ≤ r49.toInt := hr49_0
              have hr49_1 : r49.toInt ≤ 255 := hr49_1
              refine lv_goto (tgt := 33) hx hb dX9_safe_29 (by decide) ?_
              exact W.iret (v := r49) hx hb hr (fun t ht hW => ⟨⟨r49, (), rfl, trivial, ct50, by rw [ht]; exact hP, hD, hI⟩, hS.F ht⟩) hS.2.2 dX9_safe_33
          · skip
            obtain ⟨rfl, h53⟩ := hr45
            replace h53 : ¬ (0 ≤ kn.toInt ∧ kn.toInt ≤ 255) := h53
            refine lv_if_eq (tgt := 32) hx hb dX9_safe_19 (by decide) (fun c54 => ?_) (fun c54 => ?_)
            · skip
              refine lv_iconst (v := (-1)) hx hb dX9_safe_32 (by decide) ?_
              have q55 : ((-1) : Int32).toInt = -1 := by decide
              exact W.iret (v := (-1)) hx hb hr (fun t ht hW => ⟨⟨(-1), (), rfl, trivial, ct, by rw [ht]; exact hP, hD, hI⟩, hS.F ht⟩) hS.2.2 dX9_safe_33
            · skip
              exact absurd c54 (by decide)
      · skip
        obtain ⟨rfl, h56⟩ := hr41
        replace h56 : ¬ (1 ≤ k.toInt ∧ k.toInt ≤ 16) := h56
        refine lv_if_eq (tgt := 32) hx hb dX9_safe_12 (by decide) (fun c57 => ?_) (fun c57 => ?_)
        · skip
          refine lv_iconst (v := (-1)) hx hb dX9_safe_32 (by decide) ?_
          have q58 : ((-1) : Int32).toInt = -1 := by decide
          exact W.iret (v := (-1)) hx hb hr (fun t ht hW => ⟨⟨(-1), (), rfl, trivial, ct, by rw [ht]; exact hP, hD, hI⟩, hS.F ht⟩) hS.2.2 dX9_safe_33
        · skip
          exact absurd c57 (by decide)
  · skip
    obtain rfl := hr37
    refine lv_if_eq (tgt := 32) hx hb dX9_safe_5 (by decide) (fun c59 => ?_) (fun c59 => ?_)
    · skip
      refine lv_iconst (v := (-1)) hx hb dX9_safe_32 (by decide) ?_
      have q60 : ((-1) : Int32).toInt = -1 := by decide
      exact W.iret (v := (-1)) hx hb hr (fun t ht hW => ⟨⟨(-1), (), rfl, trivial, ct, by rw [ht]; exact hP, hD, hI⟩, hS.F ht⟩) hS.2.2 dX9_safe_33
    · skip
      exact absurd c59 (by decide)
