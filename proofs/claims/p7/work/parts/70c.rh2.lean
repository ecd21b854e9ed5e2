set_option maxHeartbeats 4000000 in
set_option maxRecDepth 100000 in
theorem k_X9_linesOf (l : Launch) (g : zG) (sz : Nat) (ad : Nat → Nat) (me : Int32) (ct : Nat → va_E) (b : Int32) (p0 : Int32) (kn : Int32) (hI : IR g ad me ct) : Met l yX9_linesOf (zW yX9_linesOf cX9_linesOf 6 (some .int)) ({ frames := 6, cells := 0, slots := 0, locals := 148 }) (va_Pc [.ref (ad 0), .int b, .int p0, .int kn] (zA g (zw 32 ad ct) sz)) (va_Qi (fun (r : Int32) (_ : Unit) => (True)) (fun _ t => ∃ ct2 : Nat → va_E, zP g (zw 32 ad ct2) t.heap ∧ va_D (va_A (zw 32 ad ct) sz) (zw 32 ad ct2) ∧ IR g ad me ct2) (va_A (zw 32 ad ct) sz)) 0 0 (va_A (zw 32 ad ct) sz) := by
  refine Met.ofW (cc := cX9_linesOf) (maxL := 6) (ret := (some .int)) (by decide) rfl ?_
  intro p e s m args below meth c s₁ B hml hv
  obtain ⟨rfl, hsz, hP, hK, hD0, hN⟩ := hv
  have hx := B.exec
  have hb := B.bytes
  have hr := B.returns
  have hg := zW.law (atoms_spec (ws := (zW yX9_linesOf cX9_linesOf 6 (some .int))) B.pre)
  have hown : s.vm.findClass RX9 = some m.cls := findClass_of_methodNamed B.named
  have hlocks := B.notSynchronized
  have hpe0 := hI.1.1
  subst hsz
  have hD := hD0.self (sz := s.heap.size)
  generalize hAe : va_A (zw 32 ad ct) s.heap.size = A at hD ⊢
  have hA : ∀ q : Nat, s.heap.size ≤ q → A q := fun q h => by rw [← hAe]; exact Or.inr h
  have hS : va_S A s.heap s.heap [] := va_S.rf
  have hl := lv_entry ([.ref (ad 0), .int b, .int p0, .int kn]) (n := 6) (Nat.le_of_ble_eq_true rfl)
  rw [lg_entry_eq]
  generalize (lg_sl ([.ref (ad 0), .int b, .int p0, .int kn]) ++ List.replicate (6 - (lg_sl ([.ref (ad 0), .int b, .int p0, .int kn])).length) Slot.unset).toArray = ls at hl ⊢
  have hl : lv_has ls 6 [(0, .ref (ad 0)), (1, .int b), (2, .int p0), (3, .int kn)] := hl
  have rg_b := z_rng b
  have rg_p0 := z_rng p0
  have rg_kn := z_rng kn
  refine lv_aload_n hx hb dX9_linesOf_0 rfl (lv_at hl 0 rfl) ?_
  refine lv_iload_n hx hb dX9_linesOf_1 rfl (lv_at hl 1 rfl) ?_
  obtain ⟨bks2, lks3, gos4, shn5, tpd6, pl07, ln08, flt9, opn10, cmy11, wtg12, nm013, mst14, sus15, cut16, h17, h18, h19, h20, h21, h22, h23, h24, h25, h26, h27, h28, h29, h30, h31, h32, h33, h34, h35, h36, hs1⟩ := a9_0 hI.1
  refine zc_i (va_runV (As := [.int b]) (rest := []) ⟨hx, hb, hml, hown, hg⟩ (k_X9_isBook l g ad me ct b hI) (cwV 1 hg (z_gV mm_1174 mm_1176 mm_58 mm_117 mm_1177) rfl rfl rfl (by decide +kernel) ⟨Nat.le_of_ble_eq_true rfl, Nat.le_of_ble_eq_true rfl⟩) ⟨(zR.pre [.ref (ad 0), .int b] hP hK hN).1, va_recv hK hP (ci := 9) (q0 := 0) rfl (zw_at (by omega) hs1), (zR.pre [.ref (ad 0), .int b] hP hK hN).2⟩ rfl rfl hl.1 rfl (lv_room (Nat.le_of_ble_eq_true rfl)) dX9_linesOf_2 ⟨Nat.le_of_ble_eq_true rfl, Nat.le_of_ble_eq_true rfl⟩) (fun r37 hr37 => ?_)
  rcases hr37 with hr37 | hr37
  · skip
    obtain ⟨rfl, h38, h39⟩ := hr37
    replace h38 : 0 ≤ b.toInt := h38
    replace h39 : b.toInt ≤ 3 := h39
    refine lv_if_eq (tgt := 23) hx hb dX9_linesOf_5 (by decide) (fun c40 => ?_) (fun c40 => ?_)
    · skip
      exact absurd c40 (by decide)
    · skip
      refine lv_aload_n hx hb dX9_linesOf_8 rfl (lv_at hl 0 rfl) ?_
      refine lv_iload_n hx hb dX9_linesOf_9 rfl (lv_at hl 2 rfl) ?_
      refine zc_i (va_runV (As := [.int p0]) (rest := []) ⟨hx, hb, hml, hown, hg⟩ (k_X9_isPerson l g ad me ct p0 hI) (cwV 1 hg (z_gV mm_1124 mm_1126 mm_51 mm_117 mm_1127) rfl rfl rfl (by decide +kernel) ⟨Nat.le_of_ble_eq_true rfl, Nat.le_of_ble_eq_true rfl⟩) ⟨(zR.pre [.ref (ad 0), .int p0] hP hK hN).1, va_recv hK hP (ci := 9) (q0 := 0) rfl (zw_at (by omega) hs1), (zR.pre [.ref (ad 0), .int p0] hP hK hN).2⟩ rfl rfl hl.1 rfl (lv_room (Nat.le_of_ble_eq_true rfl)) dX9_linesOf_10 ⟨Nat.le_of_ble_eq_true rfl, Nat.le_of_ble_eq_true rfl⟩) (fun r41 hr41 => ?_)
      rcases hr41 with hr41 | hr41
      · skip
        obtain ⟨rfl, h42, h43⟩ := hr41
        replace h42 : 0 ≤ p0.toInt := h42
        replace h43 : p0.toInt < me.toInt := h43
        refine lv_if_eq (tgt := 23) hx hb dX9_linesOf_13 (by decide) (fun c44 => ?_) (fun c44 => ?_)
        · skip
          exact absurd c44 (by decide)
        · skip
          refine lv_iload_n hx hb dX9_linesOf_16 rfl (lv_at hl 3 rfl) ?_
          refine zc_i (va_runS (As := [.int kn]) (rest := []) ⟨hx, hb, hml, hown, hg⟩ (k_X9_isKnown l g ad me ct kn hI) (va_cwS 1 hg (z_gS mm_1294 mm_1295 mm_117 mm_1296) rfl rfl rfl (by decide +kernel) ⟨Nat.le_of_ble_eq_true rfl, Nat.le_of_ble_eq_true rfl⟩) (zR.pre [.int kn] hP hK hN) rfl rfl hl.1 rfl (lv_room (Nat.le_of_ble_eq_true rfl)) dX9_linesOf_17 ⟨Nat.le_of_ble_eq_true rfl, Nat.le_of_ble_eq_true rfl⟩) (fun r45 hr45 => ?_)
          rcases hr45 with hr45 | hr45
          · skip
            obtain ⟨rfl, h46, h47⟩ := hr45
            replace h46 : 0 ≤ kn.toInt := h46
            replace h47 : kn.toInt ≤ 255 := h47
            refine lv_if_ne (tgt := 25) hx hb dX9_linesOf_20 (by decide) (fun c48 => ?_) (fun c48 => ?_)
            · skip
              refine lv_aload_n hx hb dX9_linesOf_25 rfl (lv_at hl 0 rfl) ?_
              refine lv_iload_n hx hb dX9_linesOf_26 rfl (lv_at hl 1 rfl) ?_
              refine lv_iload_n hx hb dX9_linesOf_27 rfl (lv_at hl 3 rfl) ?_
              have hFc := zw_free hD hS hA
              refine va_callv (va_runV (As := [.int b, .int kn]) (rest := []) ⟨hx, hb, hml, hown, hg⟩ (k_X9_laysFitting l g _ ad me ct b kn (by first | omega | decide) (by first | omega | decide) hI) (cwV 2 hg (z_gV mm_1329 mm_1331 mm_85 mm_117 mm_1332) rfl rfl rfl (by decide +kernel) ⟨Nat.le_of_ble_eq_true rfl, Nat.le_of_ble_eq_true rfl⟩) ⟨(zA.pre [.ref (ad 0), .int b, .int kn] hP hK hD hN).1, va_recv hK hP (ci := 9) (q0 := 0) rfl (zw_at (by omega) hs1), (zA.pre [.ref (ad 0), .int b, .int kn] hP hK hD hN).2⟩ rfl rfl hl.1 rfl (lv_room (Nat.le_of_ble_eq_true rfl)) dX9_linesOf_28 ⟨Nat.le_of_ble_eq_true rfl, Nat.le_of_ble_eq_true rfl⟩) hS (fun q _ h => hFc q h) hFc (fun _ t H1 locs ht hvm hr49 hB hz1 hk1 hS => ?_)
              obtain ⟨ct50, hP1, hD1, hI, hk51, hk52, hk53⟩ := hB
              rw [ht] at hP1
              have hD := hD1.weaken (fun _ _ _ h => hFc _ h)
              generalize H1 = H at hP1 hS ⊢
              have hP := hP1
              refine W.widen (k := 0) (n := 0) (Nat.le_refl _) (Nat.le_refl _) ?_
              have hs54 : ct50 0 = .inr (9, [.int me, .ref (ad 1), .ref (ad 2), .ref (ad 3), .ref (ad 4), .int bks2, .int lks3, .int gos4, .int shn5, .ref (ad 5), .ref (ad 6), .ref (ad 7), .ref (ad 8), .ref (ad 9), .ref (ad 10), .ref (ad 11), .int tpd6, .int pl07, .int ln08, .int flt9, .int opn10, .int cmy11, .int wtg12, .int nm013, .ref (ad 12), .ref (ad 13), .ref (ad 14), .ref (ad 15), .ref (ad 16), .ref (ad 17), .ref (ad 18), .ref (ad 19), .ref (ad 20), .ref (ad 21), .ref (ad 22), .ref (ad 23), .ref (ad 24), .ref (ad 25), .ref (ad 26), .ref (ad 27), .int mst14, .int sus15, .ref (ad 28), .ref (ad 29), .ref (ad 30), .ref (ad 31), .int cut16]) := hk51.trans hs1
              refine lv_iconst (v := 0) hx hb dX9_linesOf_31 (by decide) ?_
              refine lv_istore (lv' := [(4, .int 0), (0, .ref (ad 0)), (1, .int b), (2, .int p0), (3, .int kn)]) hx hb dX9_linesOf_32 hl (by decide) rfl (fun ls hl => ?_)
              refine lv_iconst (v := 0) hx hb dX9_linesOf_34 (by decide) ?_
              refine lv_istore (lv' := [(5, .int 0), (4, .int 0), (0, .ref (ad 0)), (1, .int b), (2, .int p0), (3, .int kn)]) hx hb dX9_linesOf_35 hl (by decide) rfl (fun ls hl => ?_)
              have loop37 : ∀ (n37 : Nat) (v5_37 : Int32) (v4_37 : Int32) (ct55 : Nat → va_E) (H : Heap) (locs : List Loc) (ls : Array Slot), ((8 - v5_37.toInt : Int).toNat < n37) → (0 ≤ v5_37.toInt ∧ v5_37.toInt ≤ 8) → (IR g ad me ct55) → zP g (zw 32 ad ct55) H → va_D A (zw 32 ad ct55) → va_S A s.heap H locs → lv_has ls 6 [(5, .int v5_37), (4, .int v4_37), (0, .ref (ad 0)), (1, .int b), (2, .int p0), (3, .int kn)] → W p l e (headSpec (zW yX9_linesOf cX9_linesOf 6 (some .int)) ({ frames := 6, cells := 0, slots := 0, locals := 148 })).room s m ([.ref (ad 0), .int b, .int p0, .int kn] : List Value).toArray below meth c H locs 0 0 (MQ below (va_Qi (fun (r : Int32) (_ : Unit) => (True)) (fun _ t => ∃ ct2 : Nat → va_E, zP g (zw 32 ad ct2) t.heap ∧ va_D A (zw 32 ad ct2) ∧ IR g ad me ct2) A) ([.ref (ad 0), .int b, .int p0, .int kn] : List Value).toArray s 0 0 A) (F0 m 37 ls []) := by
                intro n37
                induction n37 with
                | zero =>
                  intro v5_37 v4_37 ct55 H locs ls hn37 b5_37 hI hP hD hS hl
                  exact absurd hn37 (Nat.not_lt_zero _)
                | succ n37 ih37 =>
                  intro v5_37 v4_37 ct55 H locs ls hn37 b5_37 hI hP hD hS hl
                  refine lv_iload hx hb dX9_linesOf_37 (lv_at hl 0 rfl) ?_
                  refine lv_aload_n hx hb dX9_linesOf_39 rfl (lv_at hl 2 rfl) ?_
                  obtain ⟨bks57, lks58, gos59, shn60, tpd61, pl062, ln063, flt64, opn65, cmy66, wtg67, nm068, mst69, sus70, cut71, h72, h73, h74, h75, h76, h77, h78, h79, h80, h81, h82, h83, h84, h85, h86, h87, h88, h89, h90, h91, hs56⟩ := a9_0 hI.1
                  refine va_get (D := g.1) (ci := 9) (v := .ref (ad 5)) (C := RX9) (T := TX9) (N := 47) hx hb hg inG9 hown hK hP 0 (zw_at (by omega) hs56) rfl 9 (by decide) (hg _ mm_967) (fun _ h9 => h9) rfl dX9_linesOf_40 ?_
                  refine lv_iload_n hx hb dX9_linesOf_43 rfl (lv_at hl 3 rfl) ?_
                  obtain ⟨f93, hp94, hs92⟩ := a9_5 hI.1
                  refine va_iald hx hb hK hP 5 0 (zw_at (by omega) hs92) rfl (z_in rfl (by omega) (by omega)) dX9_linesOf_44 ?_
                  refine lv_topi (fun y95 ey95 => ?_)
                  have hy95 := hp94 _ (z_clt (x := b) rfl (by omega) (by omega))
                  rw [← ey95] at hy95
                  have hy95 : 0 ≤ y95.toInt ∧ y95.toInt ≤ 8 := hy95
                  refine lv_icmp_ge (tgt := 88) hx hb dX9_linesOf_45 (by decide) (fun c96 => ?_) (fun c96 => ?_)
                  · skip
                    have c96 : y95.toInt ≤ v5_37.toInt := (z_le rfl rfl).mp c96
                    refine lv_iload hx hb dX9_linesOf_88 (lv_at hl 1 rfl) ?_
                    exact W.iret (v := v4_37) hx hb hr (fun t ht hW => ⟨⟨v4_37, (), rfl, trivial, ct55, by rw [ht]; exact hP, hD, hI⟩, hS.F ht⟩) hS.2.2 dX9_linesOf_90
                  · skip
                    have c96 : ¬ (y95.toInt ≤ v5_37.toInt) := fun q => c96 ((z_le rfl rfl).mpr q)
                    refine lv_aload_n hx hb dX9_linesOf_48 rfl (lv_at hl 2 rfl) ?_
                    refine va_get (D := g.1) (ci := 9) (v := .ref (ad 10)) (C := RX9) (T := TX9) (N := 47) hx hb hg inG9 hown hK hP 0 (zw_at (by omega) hs56) rfl 14 (by decide) (hg _ mm_972) (fun _ h9 => h9) rfl dX9_linesOf_49 ?_
                    refine lv_iload_n hx hb dX9_linesOf_52 rfl (lv_at hl 3 rfl) ?_
                    refine lv_iload hx hb dX9_linesOf_53 (lv_at hl 0 rfl) ?_
                    refine zc_i (va_runS (As := [.int b, .int v5_37]) (rest := [.ref (ad 10)]) ⟨hx, hb, hml, hown, hg⟩ (k_X9_at l g ad me ct55 b v5_37 (by first | omega | decide) (by first | omega | decide) hI) (va_cwS 2 hg (z_gS mm_1159 mm_1160 mm_117 mm_1161) rfl rfl rfl (by decide +kernel) ⟨Nat.le_of_ble_eq_true rfl, Nat.le_of_ble_eq_true rfl⟩) (zR.pre [.int b, .int v5_37] hP hK hN) rfl rfl hl.1 rfl (lv_room (Nat.le_of_ble_eq_true rfl)) dX9_linesOf_55 ⟨Nat.le_of_ble_eq_true rfl, Nat.le_of_ble_eq_true rfl⟩) (fun r97 hr97 => ?_)
                    have hr97_0 := hr97
                    have hr97_0 : r97.toInt = 8 * b.toInt + v5_37.toInt := hr97_0
                    obtain ⟨f99, hp100, hs98⟩ := a9_10 hI.1
                    refine va_zald hx hb hK hP 10 3 (zw_at (by omega) hs98) rfl (z_in rfl (by omega) (by omega)) dX9_linesOf_58 ?_
                    refine lv_topi (fun y101 ey101 => ?_)
                    have hy101 := hp100 _ (z_clt (x := r97) rfl (by omega) (by omega))
                    rw [← ey101] at hy101
                    have hy101 : y101 = 0 ∨ y101 = 1 := hy101
                    have by101 := z_b01 hy101
                    refine lv_if_ne (tgt := 82) hx hb dX9_linesOf_59 (by decide) (fun c102 => ?_) (fun c102 => ?_)
                    · skip
                      have c102 : ¬ (y101.toInt = 0) := fun q => c102 ((z_eq rfl (by decide : (0 : Int32).toInt = 0)).mpr q)
                      obtain ⟨x103, ex103⟩ : ∃ y : Int32, y = v5_37 + 1 := ⟨_, rfl⟩
                      have tx103 : x103.toInt = v5_37.toInt + 1 := by rw [ex103]; exact z_add rfl (by decide : (1 : Int32).toInt = 1) (by omega) (by omega)
                      refine lv_iinc (v := x103) (lv' := [(5, .int x103), (4, .int v4_37), (0, .ref (ad 0)), (1, .int b), (2, .int p0), (3, .int kn)]) hx hb dX9_linesOf_82 hl (k := 0) rfl (by rw [ex103]; rfl) (by decide) rfl (fun ls hl => ?_)
                      refine lv_goto (tgt := 37) hx hb dX9_linesOf_85 (by decide) ?_
                      exact ih37 x103 v4_37 ct55 _ _ ls (by omega) (by first | assumption | omega | decide) hI hP hD hS (lv_sub hl [0, 1, 2, 3, 4, 5] rfl)
                    · skip
                      have c102 : y101.toInt = 0 := (z_eq rfl (by decide : (0 : Int32).toInt = 0)).mp c102
                      refine lv_aload_n hx hb dX9_linesOf_62 rfl (lv_at hl 2 rfl) ?_
                      refine lv_iload_n hx hb dX9_linesOf_63 rfl (lv_at hl 3 rfl) ?_
                      refine lv_iload hx hb dX9_linesOf_64 (lv_at hl 0 rfl) ?_
                      refine lv_iload_n hx hb dX9_linesOf_66 rfl (lv_at hl 4 rfl) ?_
                      have hFc := zw_free hD hS hA
                      refine va_calli (va_runV (As := [.int b, .int v5_37, .int p0]) (rest := []) ⟨hx, hb, hml, hown, hg⟩ (k_X9_canAll l g _ ad me ct55 b v5_37 p0 (by first | omega | decide) (by first | omega | decide) (by first | omega | decide) hI) (cwV 3 hg (z_gV mm_1357 mm_1359 mm_89 mm_117 mm_1360) rfl rfl rfl (by decide +kernel) ⟨Nat.le_of_ble_eq_true rfl, Nat.le_of_ble_eq_true rfl⟩) ⟨(zA.pre [.ref (ad 0), .int b, .int v5_37, .int p0] hP hK hD hN).1, va_recv hK hP (ci := 9) (q0 := 0) rfl (zw_at (by omega) hs56), (zA.pre [.ref (ad 0), .int b, .int v5_37, .int p0] hP hK hD hN).2⟩ rfl rfl hl.1 rfl (lv_room (Nat.le_of_ble_eq_true rfl)) dX9_linesOf_67 ⟨Nat.le_of_ble_eq_true rfl, Nat.le_of_ble_eq_true rfl⟩) hS (fun q _ h => hFc q h) hFc (fun r104 u112 t H1 locs ht hvm hr104 hB hz1 hk1 hS => ?_)
                      obtain ⟨ct105, hP1, hD1, hI, hk106, hk107, hk108, hk109, hk110, hk111⟩ := hB
                      rw [ht] at hP1
                      have hD := hD1.weaken (fun _ _ _ h => hFc _ h)
                      generalize H1 = H at hP1 hS ⊢
                      have hP := hP1
                      refine W.widen (k := 0) (n := 0) (Nat.le_refl _) (Nat.le_refl _) ?_
                      have hs113 : ct105 0 = .inr (9, [.int me, .ref (ad 1), .ref (ad 2), .ref (ad 3), .ref (ad 4), .int bks57, .int lks58, .int gos59, .int shn60, .ref (ad 5), .ref (ad 6), .ref (ad 7), .ref (ad 8), .ref (ad 9), .ref (ad 10), .ref (ad 11), .int tpd61, .int pl062, .int ln063, .int flt64, .int opn65, .int cmy66, .int wtg67, .int nm068, .ref (ad 12), .ref (ad 13), .ref (ad 14), .ref (ad 15), .ref (ad 16), .ref (ad 17), .ref (ad 18), .ref (ad 19), .ref (ad 20), .ref (ad 21), .ref (ad 22), .ref (ad 23), .ref (ad 24), .ref (ad 25), .ref (ad 26), .ref (ad 27), .int mst69, .int sus70, .ref (ad 28), .ref (ad 29), .ref (ad 30), .ref (ad 31), .int cut71]) := hk108.trans hs56
                      have hs114 : ct105 5 = .inl (g.2 0, 4, .inl f93) := hk109.trans hs92
                      have hs115 : ct105 10 = .inl (g.2 3, 32, .inl f99) := hk110.trans hs98
                      rcases hr104 with hr104 | hr104
                      · skip
                        obtain ⟨rfl, h116⟩ := hr104
                        replace h116 : u112 = 1 := h116
                        have hk106 := hk106 h116
                        refine lv_if_eq (tgt := 82) hx hb dX9_linesOf_70 (by decide) (fun c117 => ?_) (fun c117 => ?_)
                        · skip
                          exact absurd c117 (by decide)
                        · skip
                          refine lv_iload hx hb dX9_linesOf_73 (lv_at hl 1 rfl) ?_
                          refine lv_iconst (v := 1) hx hb dX9_linesOf_75 (by decide) ?_
                          refine lv_iload hx hb dX9_linesOf_76 (lv_at hl 0 rfl) ?_
                          refine lv_ishl hx hb dX9_linesOf_78 ?_
                          refine lv_topi (fun x118 ex118 => ?_)
                          have tx118 := z_shl1 (y := v5_37) rfl (by omega) (k := 7) (by decide) (by omega)
                          rw [← ex118] at tx118
                          refine lv_ior hx hb dX9_linesOf_79 ?_
                          refine lv_topi (fun x119 ex119 => ?_)
                          refine lv_istore (lv' := [(4, .int x119), (5, .int v5_37), (0, .ref (ad 0)), (1, .int b), (2, .int p0), (3, .int kn)]) hx hb dX9_linesOf_80 hl (by decide) rfl (fun ls hl => ?_)
                          obtain ⟨x120, ex120⟩ : ∃ y : Int32, y = v5_37 + 1 := ⟨_, rfl⟩
                          have tx120 : x120.toInt = v5_37.toInt + 1 := by rw [ex120]; exact z_add rfl (by decide : (1 : Int32).toInt = 1) (by omega) (by omega)
                          refine lv_iinc (v := x120) (lv' := [(5, .int x120), (4, .int x119), (0, .ref (ad 0)), (1, .int b), (2, .int p0), (3, .int kn)]) hx hb dX9_linesOf_82 hl (k := 1) rfl (by rw [ex120]; rfl) (by decide) rfl (fun ls hl => ?_)
                          refine lv_goto (tgt := 37) hx hb dX9_linesOf_85 (by decide) ?_
                          exact ih37 x120 x119 ct105 _ _ ls (by omega) (by first | assumption | omega | decide) hI hP hD hS (lv_sub hl [0, 1, 2, 3, 4, 5] rfl)
                      · skip
                        obtain ⟨rfl, h121⟩ := hr104
                        replace h121 : u112 = 0 := h121
                        have hk107 := hk107 h121
                        refine lv_if_eq (tgt := 82) hx hb dX9_linesOf_70 (by decide) (fun c122 => ?_) (fun c122 => ?_)
                        · skip
                          obtain ⟨x123, ex123⟩ : ∃ y : Int32, y = v5_37 + 1 := ⟨_, rfl⟩
                          have tx123 : x123.toInt = v5_37.toInt + 1 := by rw [ex123]; exact z_add rfl (by decide : (1 : Int32).toInt = 1) (by omega) (by omega)
                          refine lv_iinc (v := x123) (lv' := [(5, .int x123), (4, .int v4_37), (0, .ref (ad 0)), (1, .int b), (2, .int p0), (3, .int kn)]) hx hb dX9_linesOf_82 hl (k := 0) rfl (by rw [ex123]; rfl) (by decide) rfl (fun ls hl => ?_)
                          refine lv_goto (tgt := 37) hx hb dX9_linesOf_85 (by decide) ?_
                          exact ih37 x123 v4_37 ct105 _ _ ls (by omega) (by first | assumption | omega | decide) hI hP hD hS (lv_sub hl [0, 1, 2, 3, 4, 5] rfl)
                        · skip
                          exact absurd c122 (by decide)
              exact loop37 ((8 - (0 : Int32).toInt : Int).toNat + 1) (0 : Int32) (0 : Int32) ct50 _ _ ls (by omega) (by first | assumption | omega | decide) hI hP hD hS (lv_sub hl [0, 1, 2, 3, 4, 5] rfl)
            · skip
              exact absurd c48 (by decide)
          · skip
            obtain ⟨rfl, h124⟩ := hr45
            replace h124 : ¬ (0 ≤ kn.toInt ∧ kn.toInt ≤ 255) := h124
            refine lv_if_ne (tgt := 25) hx hb dX9_linesOf_20 (by decide) (fun c125 => ?_) (fun c125 => ?_)
            · skip
              exact absurd c125 (by decide)
            · skip
              refine lv_iconst (v := (-1)) hx hb dX9_linesOf_23 (by decide) ?_
              have q126 : ((-1) : Int32).toInt = -1 := by decide
              exact W.iret (v := (-1)) hx hb hr (fun t ht hW => ⟨⟨(-1), (), rfl, trivial, ct, by rw [ht]; exact hP, hD, hI⟩, hS.F ht⟩) hS.2.2 dX9_linesOf_24
      · skip
        obtain ⟨rfl, h127⟩ := hr41
        replace h127 : ¬ (0 ≤ p0.toInt ∧ p0.toInt < me.toInt) := h127
        refine lv_if_eq (tgt := 23) hx hb dX9_linesOf_13 (by decide) (fun c128 => ?_) (fun c128 => ?_)
        · skip
          refine lv_iconst (v := (-1)) hx hb dX9_linesOf_23 (by decide) ?_
          have q129 : ((-1) : Int32).toInt = -1 := by decide
          exact W.iret (v := (-1)) hx hb hr (fun t ht hW => ⟨⟨(-1), (), rfl, trivial, ct, by rw [ht]; exact hP, hD, hI⟩, hS.F ht⟩) hS.2.2 dX9_linesOf_24
        · skip
          exact absurd c128 (by decide)
  · skip
    obtain rfl := hr37
    refine lv_if_eq (tgt := 23) hx hb dX9_linesOf_5 (by decide) (fun c130 => ?_) (fun c130 => ?_)
    · skip
      refine lv_iconst (v := (-1)) hx hb dX9_linesOf_23 (by decide) ?_
      have q131 : ((-1) : Int32).toInt = -1 := by decide
      exact W.iret (v := (-1)) hx hb hr (fun t ht hW => ⟨⟨(-1), (), rfl, trivial, ct, by rw [ht]; exact hP, hD, hI⟩, hS.F ht⟩) hS.2.2 dX9_linesOf_24
    · skip
      exact absurd c130 (by decide)

set_option maxHeartbeats 4000000 in
set_option maxRecDepth 100000 in
theorem k_X9_isSure (l : Launch) (g : zG) (sz : Nat) (ad : Nat → Nat) (me : Int32) (ct : Nat → va_E) (b : Int32) (i : Int32) (kn : Int32) (hl_b : 0 ≤ b.toInt ∧ b.toInt ≤ 3) (hl_i : 0 ≤ i.toInt ∧ i.toInt ≤ 7) (hl_kn : 0 ≤ kn.toInt ∧ kn.toInt ≤ 255) (hI : IR g ad me ct) : Met l yX9_isSure (zW yX9_isSure cX9_isSure 5 (some .boolean)) ({ frames := 6, cells := 0, slots := 0, locals := 148 }) (va_Pc [.ref (ad 0), .int b, .int i, .int kn] (zA g (zw 32 ad ct) sz)) (va_Qi (fun (r : Int32) (_ : Unit) => (r = 1) ∨ (r = 0)) (fun _ t => ∃ ct2 : Nat → va_E, zP g (zw 32 ad ct2) t.heap ∧ va_D (va_A (zw 32 ad ct) sz) (zw 32 ad ct2) ∧ IR g ad me ct2) (va_A (zw 32 ad ct) sz)) 0 0 (va_A (zw 32 ad ct) sz) := by
  refine Met.ofW (cc := cX9_isSure) (maxL := 5) (ret := (some .boolean)) (by decide) rfl ?_
  intro p e s m args below meth c s₁ B hml hv
  obtain ⟨rfl, hsz, hP, hK, hD0, hN⟩ := hv
  have hx := B.exec
  have hb := B.bytes
  have hr := B.returns
  have hg := zW.law (atoms_spec (ws := (zW yX9_isSure cX9_isSure 5 (some .boolean))) B.pre)
  have hown : s.vm.findClass RX9 = some m.cls := findClass_of_methodNamed B.named
  have hlocks := B.notSynchronized
  have hpe0 := hI.1.1
  subst hsz
  have hD := hD0.self (sz := s.heap.size)
  generalize hAe : va_A (zw 32 ad ct) s.heap.size = A at hD ⊢
  have hA : ∀ q : Nat, s.heap.size ≤ q → A q := fun q h => by rw [← hAe]; exact Or.inr h
  have hS : va_S A s.heap s.heap [] := va_S.rf
  have hl := lv_entry ([.ref (ad 0), .int b, .int i, .int kn]) (n := 5) (Nat.le_of_ble_eq_true rfl)
  rw [lg_entry_eq]
  generalize (lg_sl ([.ref (ad 0), .int b, .int i, .int kn]) ++ List.replicate (5 - (lg_sl ([.ref (ad 0), .int b, .int i, .int kn])).length) Slot.unset).toArray = ls at hl ⊢
  have hl : lv_has ls 5 [(0, .ref (ad 0)), (1, .int b), (2, .int i), (3, .int kn)] := hl
  have q0 : ((0 : Int32)).toInt = 0 := by decide
  have q1 : ((1 : Int32)).toInt = 1 := by decide
  refine lv_aload_n hx hb dX9_isSure_0 rfl (lv_at hl 0 rfl) ?_
  refine lv_iload_n hx hb dX9_isSure_1 rfl (lv_at hl 1 rfl) ?_
  refine lv_iload_n hx hb dX9_isSure_2 rfl (lv_at hl 3 rfl) ?_
  obtain ⟨bks2, lks3, gos4, shn5, tpd6, pl07, ln08, flt9, opn10, cmy11, wtg12, nm013, mst14, sus15, cut16, h17, h18, h19, h20, h21, h22, h23, h24, h25, h26, h27, h28, h29, h30, h31, h32, h33, h34, h35, h36, hs1⟩ := a9_0 hI.1
  have z40_hs1 : zfi 40 (ct 0) = mst14.toInt := by rw [hs1]; rfl
  have hFc := zw_free hD hS hA
  refine va_callv (va_runV (As := [.int b, .int kn]) (rest := []) ⟨hx, hb, hml, hown, hg⟩ (k_X9_laysFitting l g _ ad me ct b kn (by first | omega | decide) (by first | omega | decide) hI) (cwV 2 hg (z_gV mm_1329 mm_1331 mm_85 mm_117 mm_1332) rfl rfl rfl (by decide +kernel) ⟨Nat.le_of_ble_eq_true rfl, Nat.le_of_ble_eq_true rfl⟩) ⟨(zA.pre [.ref (ad 0), .int b, .int kn] hP hK hD hN).1, va_recv hK hP (ci := 9) (q0 := 0) rfl (zw_at (by omega) hs1), (zA.pre [.ref (ad 0), .int b, .int kn] hP hK hD hN).2⟩ rfl rfl hl.1 rfl (lv_room (Nat.le_of_ble_eq_true rfl)) dX9_isSure_3 ⟨Nat.le_of_ble_eq_true rfl, Nat.le_of_ble_eq_true rfl⟩) hS (fun q _ h => hFc q h) hFc (fun _ t H1 locs ht hvm hr37 hB hz1 hk1 hS => ?_)
  obtain ⟨ct38, hP1, hD1, hI, hk39, hk40, hk41⟩ := hB
  rw [ht] at hP1
  have hD := hD1.weaken (fun _ _ _ h => hFc _ h)
  generalize H1 = H at hP1 hS ⊢
  have hP := hP1
  refine W.widen (k := 0) (n := 0) (Nat.le_refl _) (Nat.le_refl _) ?_
  have hs42 : ct38 0 = .inr (9, [.int me, .ref (ad 1), .ref (ad 2), .ref (ad 3), .ref (ad 4), .int bks2, .int lks3, .int gos4, .int shn5, .ref (ad 5), .ref (ad 6), .ref (ad 7), .ref (ad 8), .ref (ad 9), .ref (ad 10), .ref (ad 11), .int tpd6, .int pl07, .int ln08, .int flt9, .int opn10, .int cmy11, .int wtg12, .int nm013, .ref (ad 12), .ref (ad 13), .ref (ad 14), .ref (ad 15), .ref (ad 16), .ref (ad 17), .ref (ad 18), .ref (ad 19), .ref (ad 20), .ref (ad 21), .ref (ad 22), .ref (ad 23), .ref (ad 24), .ref (ad 25), .ref (ad 26), .ref (ad 27), .int mst14, .int sus15, .ref (ad 28), .ref (ad 29), .ref (ad 30), .ref (ad 31), .int cut16]) := hk39.trans hs1
  refine lv_aload_n hx hb dX9_isSure_6 rfl (lv_at hl 0 rfl) ?_
  refine lv_iload_n hx hb dX9_isSure_7 rfl (lv_at hl 1 rfl) ?_
  refine lv_iload_n hx hb dX9_isSure_8 rfl (lv_at hl 2 rfl) ?_
  have hFc := zw_free hD hS hA
  refine va_calli (va_runV (As := [.int b, .int i]) (rest := []) ⟨hx, hb, hml, hown, hg⟩ (k_X9_maybe l g _ ad me ct38 b i (by first | omega | decide) (by first | omega | decide) hI) (cwV 2 hg (z_gV mm_1369 mm_1371 mm_92 mm_117 mm_1372) rfl rfl rfl (by decide +kernel) ⟨Nat.le_of_ble_eq_true rfl, Nat.le_of_ble_eq_true rfl⟩) ⟨(zA.pre [.ref (ad 0), .int b, .int i] hP hK hD hN).1, va_recv hK hP (ci := 9) (q0 := 0) rfl (zw_at (by omega) hs42), (zA.pre [.ref (ad 0), .int b, .int i] hP hK hD hN).2⟩ rfl rfl hl.1 rfl (lv_room (Nat.le_of_ble_eq_true rfl)) dX9_isSure_9 ⟨Nat.le_of_ble_eq_true rfl, Nat.le_of_ble_eq_true rfl⟩) hS (fun q _ h => hFc q h) hFc (fun r43 _ t H1 locs ht hvm hr43 hB hz1 hk1 hS => ?_)
  obtain ⟨ct44, hP1, hD1, hI, hk45, hk46, hk47, hk48⟩ := hB
  rw [ht] at hP1
  have hD := hD1.weaken (fun _ _ _ h => hFc _ h)
  generalize H1 = H at hP1 hS ⊢
  have hP := hP1
  refine W.widen (k := 0) (n := 0) (Nat.le_refl _) (Nat.le_refl _) ?_
  have hs49 : ct44 0 = .inr (9, [.int me, .ref (ad 1), .ref (ad 2), .ref (ad 3), .ref (ad 4), .int bks2, .int lks3, .int gos4, .int shn5, .ref (ad 5), .ref (ad 6), .ref (ad 7), .ref (ad 8), .ref (ad 9), .ref (ad 10), .ref (ad 11), .int tpd6, .int pl07, .int ln08, .int flt9, .int opn10, .int cmy11, .int wtg12, .int nm013, .ref (ad 12), .ref (ad 13), .ref (ad 14), .ref (ad 15), .ref (ad 16), .ref (ad 17), .ref (ad 18), .ref (ad 19), .ref (ad 20), .ref (ad 21), .ref (ad 22), .ref (ad 23), .ref (ad 24), .ref (ad 25), .ref (ad 26), .ref (ad 27), .int mst14, .int sus15, .ref (ad 28), .ref (ad 29), .ref (ad 30), .ref (ad 31), .int cut16]) := hk45.trans hs42
  obtain ⟨hr43_0, hr43_1⟩ := hr43
  have hr43_0 : 0 ≤ r43.toInt := hr43_0
  have hr43_1 : r43.toInt ≤ 65535 := hr43_1
  refine lv_istore (lv' := [(4, .int r43), (0, .ref (ad 0)), (1, .int b), (2, .int i), (3, .int kn)]) hx hb dX9_isSure_12 hl (by decide) rfl (fun ls hl => ?_)
  refine lv_aload_n hx hb dX9_isSure_14 rfl (lv_at hl 1 rfl) ?_
  refine lv_iconst (v := 0) hx hb dX9_isSure_15 (by decide) ?_
  refine va_put (D := g.1) (ci := 9) (v := .int 0) (ty := .int) (C := RX9) (T := TX9) (N := 47) hx hb hg inG9 tyX9 tyX9_ok nmX9 hown hK hP hD hS 0 (zw_at (by omega) hs49) rfl 40 (by decide) (hg _ mm_998) (fun _ h9 => h9) rfl (by decide +kernel) rfl rfl (Nat.le_of_ble_eq_true rfl) dX9_isSure_16 (fun H locs hP hD hS => ?_)
  have hP : zP g ((zw 32 ad ct44).set 0 (ad 0, .inr (9, [.int me, .ref (ad 1), .ref (ad 2), .ref (ad 3), .ref (ad 4), .int bks2, .int lks3, .int gos4, .int shn5, .ref (ad 5), .ref (ad 6), .ref (ad 7), .ref (ad 8), .ref (ad 9), .ref (ad 10), .ref (ad 11), .int tpd6, .int pl07, .int ln08, .int flt9, .int opn10, .int cmy11, .int wtg12, .int nm013, .ref (ad 12), .ref (ad 13), .ref (ad 14), .ref (ad 15), .ref (ad 16), .ref (ad 17), .ref (ad 18), .ref (ad 19), .ref (ad 20), .ref (ad 21), .ref (ad 22), .ref (ad 23), .ref (ad 24), .ref (ad 25), .ref (ad 26), .ref (ad 27), .int 0, .int sus15, .ref (ad 28), .ref (ad 29), .ref (ad 30), .ref (ad 31), .int cut16]))) H := hP
  have hD : va_D A ((zw 32 ad ct44).set 0 (ad 0, .inr (9, [.int me, .ref (ad 1), .ref (ad 2), .ref (ad 3), .ref (ad 4), .int bks2, .int lks3, .int gos4, .int shn5, .ref (ad 5), .ref (ad 6), .ref (ad 7), .ref (ad 8), .ref (ad 9), .ref (ad 10), .ref (ad 11), .int tpd6, .int pl07, .int ln08, .int flt9, .int opn10, .int cmy11, .int wtg12, .int nm013, .ref (ad 12), .ref (ad 13), .ref (ad 14), .ref (ad 15), .ref (ad 16), .ref (ad 17), .ref (ad 18), .ref (ad 19), .ref (ad 20), .ref (ad 21), .ref (ad 22), .ref (ad 23), .ref (ad 24), .ref (ad 25), .ref (ad 26), .ref (ad 27), .int 0, .int sus15, .ref (ad 28), .ref (ad 29), .ref (ad 30), .ref (ad 31), .int cut16]))) := hD
  rw [zw_set (by omega)] at hP hD
  obtain ⟨ct50, ec51⟩ : ∃ z : Nat → va_E, z = va_up ct44 0 (.inr (9, [.int me, .ref (ad 1), .ref (ad 2), .ref (ad 3), .ref (ad 4), .int bks2, .int lks3, .int gos4, .int shn5, .ref (ad 5), .ref (ad 6), .ref (ad 7), .ref (ad 8), .ref (ad 9), .ref (ad 10), .ref (ad 11), .int tpd6, .int pl07, .int ln08, .int flt9, .int opn10, .int cmy11, .int wtg12, .int nm013, .ref (ad 12), .ref (ad 13), .ref (ad 14), .ref (ad 15), .ref (ad 16), .ref (ad 17), .ref (ad 18), .ref (ad 19), .ref (ad 20), .ref (ad 21), .ref (ad 22), .ref (ad 23), .ref (ad 24), .ref (ad 25), .ref (ad 26), .ref (ad 27), .int 0, .int sus15, .ref (ad 28), .ref (ad 29), .ref (ad 30), .ref (ad 31), .int cut16])) := ⟨_, rfl⟩
  rw [← ec51] at hP hD
  have hI : IR g ad me ct50 := by rw [ec51]; exact upR hI (by decide) (i9_0 ⟨(bks2 : Int32), (lks3 : Int32), (gos4 : Int32), (shn5 : Int32), (tpd6 : Int32), (pl07 : Int32), (ln08 : Int32), (flt9 : Int32), (opn10 : Int32), (cmy11 : Int32), (wtg12 : Int32), (nm013 : Int32), (0 : Int32), (sus15 : Int32), (cut16 : Int32), (by first | omega | decide), (by first | omega | decide), (by first | omega | decide), (by first | omega | decide), (by first | omega | decide), (by first | omega | decide), (by first | omega | decide), (by first | omega | decide), (by first | omega | decide), (by first | omega | decide), (by first | omega | decide), (by first | omega | decide), (by first | omega | decide), (by first | omega | decide), (by first | omega | decide), (by first | omega | decide), (by first | omega | decide), (by first | omega | decide), (by first | omega | decide), (by first | omega | decide), rfl⟩)
  have hs52 : ct50 0 = .inr (9, [.int me, .ref (ad 1), .ref (ad 2), .ref (ad 3), .ref (ad 4), .int bks2, .int lks3, .int gos4, .int shn5, .ref (ad 5), .ref (ad 6), .ref (ad 7), .ref (ad 8), .ref (ad 9), .ref (ad 10), .ref (ad 11), .int tpd6, .int pl07, .int ln08, .int flt9, .int opn10, .int cmy11, .int wtg12, .int nm013, .ref (ad 12), .ref (ad 13), .ref (ad 14), .ref (ad 15), .ref (ad 16), .ref (ad 17), .ref (ad 18), .ref (ad 19), .ref (ad 20), .ref (ad 21), .ref (ad 22), .ref (ad 23), .ref (ad 24), .ref (ad 25), .ref (ad 26), .ref (ad 27), .int 0, .int sus15, .ref (ad 28), .ref (ad 29), .ref (ad 30), .ref (ad 31), .int cut16]) := by rw [ec51]; exact va_up_self _ _ _
  have z40_hs52 : zfi 40 (ct50 0) = (0 : Int32).toInt := by rw [hs52]; rfl
  have loop19 : ∀ (n19 : Nat) (ct53 : Nat → va_E) (H : Heap) (locs : List Loc) (ls : Array Slot), ((me.toInt - zfi 40 (ct53 0) : Int).toNat < n19) → (0 ≤ zfi 40 (ct53 0) ∧ zfi 40 (ct53 0) ≤ 16) → (IR g ad me ct53) → zP g (zw 32 ad ct53) H → va_D A (zw 32 ad ct53) → va_S A s.heap H locs → lv_has ls 5 [(4, .int r43), (0, .ref (ad 0)), (1, .int b), (2, .int i), (3, .int kn)] → W p l e (headSpec (zW yX9_isSure cX9_isSure 5 (some .boolean)) ({ frames := 6, cells := 0, slots := 0, locals := 148 })).room s m ([.ref (ad 0), .int b, .int i, .int kn] : List Value).toArray below meth c H locs 0 0 (MQ below (va_Qi (fun (r : Int32) (_ : Unit) => (r = 1) ∨ (r = 0)) (fun _ t => ∃ ct2 : Nat → va_E, zP g (zw 32 ad ct2) t.heap ∧ va_D A (zw 32 ad ct2) ∧ IR g ad me ct2) A) ([.ref (ad 0), .int b, .int i, .int kn] : List Value).toArray s 0 0 A) (F0 m 19 ls []) := by
    intro n19
    induction n19 with
    | zero =>
      intro ct53 H locs ls hn19 j0_19 hI hP hD hS hl
      exact absurd hn19 (Nat.not_lt_zero _)
    | succ n19 ih19 =>
      intro ct53 H locs ls hn19 j0_19 hI hP hD hS hl
      obtain ⟨bks55, lks56, gos57, shn58, tpd59, pl060, ln061, flt62, opn63, cmy64, wtg65, nm066, mst67, sus68, cut69, h70, h71, h72, h73, h74, h75, h76, h77, h78, h79, h80, h81, h82, h83, h84, h85, h86, h87, h88, h89, hs54⟩ := a9_0 hI.1
      have z40_hs54 : zfi 40 (ct53 0) = mst67.toInt := by rw [hs54]; rfl
      refine lv_aload_n hx hb dX9_isSure_19 rfl (lv_at hl 1 rfl) ?_
      refine va_get (D := g.1) (ci := 9) (v := .int mst67) (C := RX9) (T := TX9) (N := 47) hx hb hg inG9 hown hK hP 0 (zw_at (by omega) hs54) rfl 40 (by decide) (hg _ mm_998) (fun _ h9 => h9) rfl dX9_isSure_20 ?_
      refine lv_aload_n hx hb dX9_isSure_23 rfl (lv_at hl 1 rfl) ?_
      refine va_get (D := g.1) (ci := 9) (v := .int me) (C := RX9) (T := TX9) (N := 47) hx hb hg inG9 hown hK hP 0 (zw_at (by omega) hs54) rfl 0 (by decide) (hg _ mm_958) (fun _ h9 => h9) rfl dX9_isSure_24 ?_
      refine lv_icmp_ge (tgt := 54) hx hb dX9_isSure_27 (by decide) (fun c90 => ?_) (fun c90 => ?_)
      · skip
        have c90 : me.toInt ≤ mst67.toInt := (z_le rfl rfl).mp c90
        refine lv_iload hx hb dX9_isSure_54 (lv_at hl 0 rfl) ?_
        refine zc_i (va_runS (As := [.int r43]) (rest := []) ⟨hx, hb, hml, hown, hg⟩ (k_X9_bits l g ad me ct53 r43 hI) (va_cwS 1 hg (z_gS mm_1373 mm_1374 mm_117 mm_1375) rfl rfl rfl (by decide +kernel) ⟨Nat.le_of_ble_eq_true rfl, Nat.le_of_ble_eq_true rfl⟩) (zR.pre [.int r43] hP hK hN) rfl rfl hl.1 rfl (lv_room (Nat.le_of_ble_eq_true rfl)) dX9_isSure_56 ⟨Nat.le_of_ble_eq_true rfl, Nat.le_of_ble_eq_true rfl⟩) (fun r91 hr91 => ?_)
        obtain ⟨hr91_0, hr91_1⟩ := hr91
        have hr91_0 : 0 ≤ r91.toInt := hr91_0
        have hr91_1 : r91.toInt ≤ 16 := hr91_1
        refine lv_iconst (v := 1) hx hb dX9_isSure_59 (by decide) ?_
        refine lv_icmp_ne (tgt := 67) hx hb dX9_isSure_60 (by decide) (fun c92 => ?_) (fun c92 => ?_)
        · skip
          have c92 : ¬ (r91.toInt = 1) := fun q => c92 ((z_eq rfl (by decide : (1 : Int32).toInt = 1)).mpr q)
          refine lv_iconst (v := 0) hx hb dX9_isSure_67 (by decide) ?_
          have q93 : (0 : Int32).toInt = 0 := by decide
          exact W.zret (v := 0) hx hb hr rfl (fun t ht hW => ⟨⟨0, (), rfl, by first | exact Or.inl ⟨rfl, by omega⟩ | exact Or.inr ⟨rfl, by omega⟩ | exact Or.inl rfl | exact Or.inr rfl | exact Or.inl ⟨rfl, by omega, by omega⟩ | exact (z_01 (by omega) (by omega)).symm, ct53, by rw [ht]; exact hP, hD, hI⟩, hS.F ht⟩) hS.2.2 dX9_isSure_68
        · skip
          have c92 : r91.toInt = 1 := (z_eq rfl (by decide : (1 : Int32).toInt = 1)).mp c92
          refine lv_iconst (v := 1) hx hb dX9_isSure_63 (by decide) ?_
          refine lv_goto (tgt := 68) hx hb dX9_isSure_64 (by decide) ?_
          have q94 : (1 : Int32).toInt = 1 := by decide
          exact W.zret (v := 1) hx hb hr rfl (fun t ht hW => ⟨⟨1, (), rfl, by first | exact Or.inl ⟨rfl, by omega⟩ | exact Or.inr ⟨rfl, by omega⟩ | exact Or.inl rfl | exact Or.inr rfl | exact Or.inl ⟨rfl, by omega, by omega⟩ | exact (z_01 (by omega) (by omega)).symm, ct53, by rw [ht]; exact hP, hD, hI⟩, hS.F ht⟩) hS.2.2 dX9_isSure_68
      · skip
        have c90 : ¬ (me.toInt ≤ mst67.toInt) := fun q => c90 ((z_le rfl rfl).mpr q)
        refine lv_iload hx hb dX9_isSure_30 (lv_at hl 0 rfl) ?_
        refine lv_iconst (v := 1) hx hb dX9_isSure_32 (by decide) ?_
        refine lv_aload_n hx hb dX9_isSure_33 rfl (lv_at hl 1 rfl) ?_
        refine va_get (D := g.1) (ci := 9) (v := .int mst67) (C := RX9) (T := TX9) (N := 47) hx hb hg inG9 hown hK hP 0 (zw_at (by omega) hs54) rfl 40 (by decide) (hg _ mm_998) (fun _ h9 => h9) rfl dX9_isSure_34 ?_
        refine lv_ishl hx hb dX9_isSure_37 ?_
        refine lv_topi (fun x95 ex95 => ?_)
        have tx95 := z_shl1 (y := mst67) rfl (by omega) (k := 15) (by decide) (by omega)
        rw [← ex95] at tx95
        refine lv_icmp_eq (tgt := 54) hx hb dX9_isSure_38 (by decide) (fun c96 => ?_) (fun c96 => ?_)
        · skip
          have c96 : r43.toInt = x95.toInt := (z_eq rfl rfl).mp c96
          refine lv_iload hx hb dX9_isSure_54 (lv_at hl 0 rfl) ?_
          refine zc_i (va_runS (As := [.int r43]) (rest := []) ⟨hx, hb, hml, hown, hg⟩ (k_X9_bits l g ad me ct53 r43 hI) (va_cwS 1 hg (z_gS mm_1373 mm_1374 mm_117 mm_1375) rfl rfl rfl (by decide +kernel) ⟨Nat.le_of_ble_eq_true rfl, Nat.le_of_ble_eq_true rfl⟩) (zR.pre [.int r43] hP hK hN) rfl rfl hl.1 rfl (lv_room (Nat.le_of_ble_eq_true rfl)) dX9_isSure_56 ⟨Nat.le_of_ble_eq_true rfl, Nat.le_of_ble_eq_true rfl⟩) (fun r97 hr97 => ?_)
          obtain ⟨hr97_0, hr97_1⟩ := hr97
          have hr97_0 : 0 ≤ r97.toInt := hr97_0
          have hr97_1 : r97.toInt ≤ 16 := hr97_1
          refine lv_iconst (v := 1) hx hb dX9_isSure_59 (by decide) ?_
          refine lv_icmp_ne (tgt := 67) hx hb dX9_isSure_60 (by decide) (fun c98 => ?_) (fun c98 => ?_)
          · skip
            have c98 : ¬ (r97.toInt = 1) := fun q => c98 ((z_eq rfl (by decide : (1 : Int32).toInt = 1)).mpr q)
            refine lv_iconst (v := 0) hx hb dX9_isSure_67 (by decide) ?_
            have q99 : (0 : Int32).toInt = 0 := by decide
            exact W.zret (v := 0) hx hb hr rfl (fun t ht hW => ⟨⟨0, (), rfl, by first | exact Or.inl ⟨rfl, by omega⟩ | exact Or.inr ⟨rfl, by omega⟩ | exact Or.inl rfl | exact Or.inr rfl | exact Or.inl ⟨rfl, by omega, by omega⟩ | exact (z_01 (by omega) (by omega)).symm, ct53, by rw [ht]; exact hP, hD, hI⟩, hS.F ht⟩) hS.2.2 dX9_isSure_68
          · skip
            have c98 : r97.toInt = 1 := (z_eq rfl (by decide : (1 : Int32).toInt = 1)).mp c98
            refine lv_iconst (v := 1) hx hb dX9_isSure_63 (by decide) ?_
            refine lv_goto (tgt := 68) hx hb dX9_isSure_64 (by decide) ?_
            have q100 : (1 : Int32).toInt = 1 := by decide
            exact W.zret (v := 1) hx hb hr rfl (fun t ht hW => ⟨⟨1, (), rfl, by first | exact Or.inl ⟨rfl, by omega⟩ | exact Or.inr ⟨rfl, by omega⟩ | exact Or.inl rfl | exact Or.inr rfl | exact Or.inl ⟨rfl, by omega, by omega⟩ | exact (z_01 (by omega) (by omega)).symm, ct53, by rw [ht]; exact hP, hD, hI⟩, hS.F ht⟩) hS.2.2 dX9_isSure_68
        · skip
          have c96 : ¬ (r43.toInt = x95.toInt) := fun q => c96 ((z_eq rfl rfl).mpr q)
          refine lv_aload_n hx hb dX9_isSure_41 rfl (lv_at hl 1 rfl) ?_
          refine lv_aload_n hx hb dX9_isSure_42 rfl (lv_at hl 1 rfl) ?_
          refine va_get (D := g.1) (ci := 9) (v := .int mst67) (C := RX9) (T := TX9) (N := 47) hx hb hg inG9 hown hK hP 0 (zw_at (by omega) hs54) rfl 40 (by decide) (hg _ mm_998) (fun _ h9 => h9) rfl dX9_isSure_43 ?_
          refine lv_iconst (v := 1) hx hb dX9_isSure_46 (by decide) ?_
          refine lv_iadd hx hb dX9_isSure_47 ?_
          refine lv_topi (fun x101 ex101 => ?_)
          have tx101 : x101.toInt = mst67.toInt + 1 := by rw [ex101]; exact z_add rfl (by decide : (1 : Int32).toInt = 1) (by omega) (by omega)
          refine va_put (D := g.1) (ci := 9) (v := .int x101) (ty := .int) (C := RX9) (T := TX9) (N := 47) hx hb hg inG9 tyX9 tyX9_ok nmX9 hown hK hP hD hS 0 (zw_at (by omega) hs54) rfl 40 (by decide) (hg _ mm_998) (fun _ h9 => h9) rfl (by decide +kernel) rfl rfl (Nat.le_of_ble_eq_true rfl) dX9_isSure_48 (fun H locs hP hD hS => ?_)
          have hP : zP g ((zw 32 ad ct53).set 0 (ad 0, .inr (9, [.int me, .ref (ad 1), .ref (ad 2), .ref (ad 3), .ref (ad 4), .int bks55, .int lks56, .int gos57, .int shn58, .ref (ad 5), .ref (ad 6), .ref (ad 7), .ref (ad 8), .ref (ad 9), .ref (ad 10), .ref (ad 11), .int tpd59, .int pl060, .int ln061, .int flt62, .int opn63, .int cmy64, .int wtg65, .int nm066, .ref (ad 12), .ref (ad 13), .ref (ad 14), .ref (ad 15), .ref (ad 16), .ref (ad 17), .ref (ad 18), .ref (ad 19), .ref (ad 20), .ref (ad 21), .ref (ad 22), .ref (ad 23), .ref (ad 24), .ref (ad 25), .ref (ad 26), .ref (ad 27), .int x101, .int sus68, .ref (ad 28), .ref (ad 29), .ref (ad 30), .ref (ad 31), .int cut69]))) H := hP
          have hD : va_D A ((zw 32 ad ct53).set 0 (ad 0, .inr (9, [.int me, .ref (ad 1), .ref (ad 2), .ref (ad 3), .ref (ad 4), .int bks55, .int lks56, .int gos57, .int shn58, .ref (ad 5), .ref (ad 6), .ref (ad 7), .ref (ad 8), .ref (ad 9), .ref (ad 10), .ref (ad 11), .int tpd59, .int pl060, .int ln061, .int flt62, .int opn63, .int cmy64, .int wtg65, .int nm066, .ref (ad 12), .ref (ad 13), .ref (ad 14), .ref (ad 15), .ref (ad 16), .ref (ad 17), .ref (ad 18), .ref (ad 19), .ref (ad 20), .ref (ad 21), .ref (ad 22), .ref (ad 23), .ref (ad 24), .ref (ad 25), .ref (ad 26), .ref (ad 27), .int x101, .int sus68, .ref (ad 28), .ref (ad 29), .ref (ad 30), .ref (ad 31), .int cut69]))) := hD
          rw [zw_set (by omega)] at hP hD
          obtain ⟨ct102, ec103⟩ : ∃ z : Nat → va_E, z = va_up ct53 0 (.inr (9, [.int me, .ref (ad 1), .ref (ad 2), .ref (ad 3), .ref (ad 4), .int bks55, .int lks56, .int gos57, .int shn58, .ref (ad 5), .ref (ad 6), .ref (ad 7), .ref (ad 8), .ref (ad 9), .ref (ad 10), .ref (ad 11), .int tpd59, .int pl060, .int ln061, .int flt62, .int opn63, .int cmy64, .int wtg65, .int nm066, .ref (ad 12), .ref (ad 13), .ref (ad 14), .ref (ad 15), .ref (ad 16), .ref (ad 17), .ref (ad 18), .ref (ad 19), .ref (ad 20), .ref (ad 21), .ref (ad 22), .ref (ad 23), .ref (ad 24), .ref (ad 25), .ref (ad 26), .ref (ad 27), .int x101, .int sus68, .ref (ad 28), .ref (ad 29), .ref (ad 30), .ref (ad 31), .int cut69])) := ⟨_, rfl⟩
          rw [← ec103] at hP hD
          have hI : IR g ad me ct102 := by rw [ec103]; exact upR hI (by decide) (i9_0 ⟨(bks55 : Int32), (lks56 : Int32), (gos57 : Int32), (shn58 : Int32), (tpd59 : Int32), (pl060 : Int32), (ln061 : Int32), (flt62 : Int32), (opn63 : Int32), (cmy64 : Int32), (wtg65 : Int32), (nm066 : Int32), (x101 : Int32), (sus68 : Int32), (cut69 : Int32), (by first | omega | decide), (by first | omega | decide), (by first | omega | decide), (by first | omega | decide), (by first | omega | decide), (by first | omega | decide), (by first | omega | decide), (by first | omega | decide), (by first | omega | decide), (by first | omega | decide), (by first | omega | decide), (by first | omega | decide), (by first | omega | decide), (by first | omega | decide), (by first | omega | decide), (by first | omega | decide), (by first | omega | decide), (by first | omega | decide), (by first | omega | decide), (by first | omega | decide), rfl⟩)
          have hs104 : ct102 0 = .inr (9, [.int me, .ref (ad 1), .ref (ad 2), .ref (ad 3), .ref (ad 4), .int bks55, .int lks56, .int gos57, .int shn58, .ref (ad 5), .ref (ad 6), .ref (ad 7), .ref (ad 8), .ref (ad 9), .ref (ad 10), .ref (ad 11), .int tpd59, .int pl060, .int ln061, .int flt62, .int opn63, .int cmy64, .int wtg65, .int nm066, .ref (ad 12), .ref (ad 13), .ref (ad 14), .ref (ad 15), .ref (ad 16), .ref (ad 17), .ref (ad 18), .ref (ad 19), .ref (ad 20), .ref (ad 21), .ref (ad 22), .ref (ad 23), .ref (ad 24), .ref (ad 25), .ref (ad 26), .ref (ad 27), .int x101, .int sus68, .ref (ad 28), .ref (ad 29), .ref (ad 30), .ref (ad 31), .int cut69]) := by rw [ec103]; exact va_up_self _ _ _
          have z40_hs104 : zfi 40 (ct102 0) = (x101 : Int32).toInt := by rw [hs104]; rfl
          refine lv_goto (tgt := 19) hx hb dX9_isSure_51 (by decide) ?_
          exact ih19  ct102 _ _ ls (by omega) (by first | assumption | omega | decide) hI hP hD hS (lv_sub hl [0, 1, 2, 3, 4] rfl)
  exact loop19 ((me.toInt - zfi 40 (ct50 0) : Int).toNat + 1)  ct50 _ _ ls (by omega) (by first | assumption | omega | decide) hI hP hD hS (lv_sub hl [0, 1, 2, 3, 4] rfl)

set_option maxHeartbeats 4000000 in
set_option maxRecDepth 100000 in
theorem k_X9_areOfBook (l : Launch) (g : zG) (ad : Nat → Nat) (me : Int32) (ct : Nat → va_E) (set : Int32) (b : Int32) (hl_set : 0 ≤ set.toInt ∧ set.toInt ≤ 255) (hI : IR g ad me ct) : Met l yX9_areOfBook (zW yX9_areOfBook cX9_areOfBook 4 (some .boolean)) ({ frames := 0, cells := 0, slots := 0, locals := 0 }) (va_Pc [.ref (ad 0), .int set, .int b] (zR g (zw 32 ad ct))) (vp_Si (fun r : Int32 => (r = 1) ∨ (r = 0))) 0 0 (fun _ => False) := by
  refine Met.ofW (cc := cX9_areOfBook) (maxL := 4) (ret := (some .boolean)) (by decide) rfl ?_
  intro p e s m args below meth c s₁ B hml hv
  obtain ⟨rfl, hP, hK, hN⟩ := hv
  have hx := B.exec
  have hb := B.bytes
  have hr := B.returns
  have hg := zW.law (atoms_spec (ws := (zW yX9_areOfBook cX9_areOfBook 4 (some .boolean))) B.pre)
  have hown : s.vm.findClass RX9 = some m.cls := findClass_of_methodNamed B.named
  have hlocks := B.notSynchronized
  have hpe0 := hI.1.1
  have hl := lv_entry ([.ref (ad 0), .int set, .int b]) (n := 4) (Nat.le_of_ble_eq_true rfl)
  rw [lg_entry_eq]
  generalize (lg_sl ([.ref (ad 0), .int set, .int b]) ++ List.replicate (4 - (lg_sl ([.ref (ad 0), .int set, .int b])).length) Slot.unset).toArray = ls at hl ⊢
  have hl : lv_has ls 4 [(0, .ref (ad 0)), (1, .int set), (2, .int b)] := hl
  have rg_b := z_rng b
  refine lv_iconst (v := 0) hx hb dX9_areOfBook_0 (by decide) ?_
  refine lv_istore_n (lv' := [(3, .int 0), (0, .ref (ad 0)), (1, .int set), (2, .int b)]) hx hb dX9_areOfBook_1 rfl hl (by decide) rfl (fun ls hl => ?_)
  have loop2 : ∀ (n2 : Nat) (v3_2 : Int32) (ls : Array Slot), ((8 - v3_2.toInt : Int).toNat < n2) → (0 ≤ v3_2.toInt ∧ v3_2.toInt ≤ 8) → lv_has ls 4 [(3, .int v3_2), (0, .ref (ad 0)), (1, .int set), (2, .int b)] → W p l e (headSpec (zW yX9_areOfBook cX9_areOfBook 4 (some .boolean)) ({ frames := 0, cells := 0, slots := 0, locals := 0 })).room s m ([.ref (ad 0), .int set, .int b] : List Value).toArray below meth c s.heap [] 0 0 (MQ below (vp_Si (fun r : Int32 => (r = 1) ∨ (r = 0))) ([.ref (ad 0), .int set, .int b] : List Value).toArray s 0 0 (fun _ => False)) (F0 m 2 ls []) := by
    intro n2
    induction n2 with
    | zero =>
      intro v3_2 ls hn2 b3_2 hl
      exact absurd hn2 (Nat.not_lt_zero _)
    | succ n2 ih2 =>
      intro v3_2 ls hn2 b3_2 hl
      refine lv_iload_n hx hb dX9_areOfBook_2 rfl (lv_at hl 0 rfl) ?_
      refine lv_bipush (v := 8) hx hb dX9_areOfBook_3 (by decide) ?_
      refine lv_icmp_ge (tgt := 49) hx hb dX9_areOfBook_5 (by decide) (fun c1 => ?_) (fun c1 => ?_)
      · skip
        have c1 : 8 ≤ v3_2.toInt := (z_le (by decide : (8 : Int32).toInt = 8) rfl).mp c1
        refine lv_iconst (v := 1) hx hb dX9_areOfBook_49 (by decide) ?_
        have q2 : (1 : Int32).toInt = 1 := by decide
        exact W.zret (v := 1) hx hb hr rfl (fun t ht hW => ⟨1, rfl, by first | exact Or.inl ⟨rfl, by omega⟩ | exact Or.inr ⟨rfl, by omega⟩ | exact Or.inl rfl | exact Or.inr rfl | exact Or.inl ⟨rfl, by omega, by omega⟩ | exact (z_01 (by omega) (by omega)).symm, ht⟩) (fun q hq => by cases hq) dX9_areOfBook_50
      · skip
        have c1 : ¬ (8 ≤ v3_2.toInt) := fun q => c1 ((z_le (by decide : (8 : Int32).toInt = 8) rfl).mpr q)
        refine lv_iload_n hx hb dX9_areOfBook_8 rfl (lv_at hl 2 rfl) ?_
        refine lv_iload_n hx hb dX9_areOfBook_9 rfl (lv_at hl 0 rfl) ?_
        refine lv_ishr hx hb dX9_areOfBook_10 ?_
        refine lv_topi (fun x3 ex3 => ?_)
        have tx3 := z_shr (x := set) rfl (by omega) v3_2
        rw [← ex3] at tx3
        refine lv_iconst (v := 1) hx hb dX9_areOfBook_11 (by decide) ?_
        refine lv_iand hx hb dX9_areOfBook_12 ?_
        refine lv_topi (fun x4 ex4 => ?_)
        have tx4 := z_andr (x := x3) (y := 1) (by decide : (1 : Int32).toInt = 1) (by omega)
        rw [← ex4] at tx4
        refine lv_iconst (v := 1) hx hb dX9_areOfBook_13 (by decide) ?_
        refine lv_icmp_ne (tgt := 43) hx hb dX9_areOfBook_14 (by decide) (fun c5 => ?_) (fun c5 => ?_)
        · skip
          have c5 : ¬ (x4.toInt = 1) := fun q => c5 ((z_eq rfl (by decide : (1 : Int32).toInt = 1)).mpr q)
          obtain ⟨x6, ex6⟩ : ∃ y : Int32, y = v3_2 + 1 := ⟨_, rfl⟩
          have tx6 : x6.toInt = v3_2.toInt + 1 := by rw [ex6]; exact z_add rfl (by decide : (1 : Int32).toInt = 1) (by omega) (by omega)
          refine lv_iinc (v := x6) (lv' := [(3, .int x6), (0, .ref (ad 0)), (1, .int set), (2, .int b)]) hx hb dX9_areOfBook_43 hl (k := 0) rfl (by rw [ex6]; rfl) (by decide) rfl (fun ls hl => ?_)
          refine lv_goto (tgt := 2) hx hb dX9_areOfBook_46 (by decide) ?_
          exact ih2 x6 ls (by omega) (by first | assumption | omega | decide) (lv_sub hl [0, 1, 2, 3] rfl)
        · skip
          have c5 : x4.toInt = 1 := (z_eq rfl (by decide : (1 : Int32).toInt = 1)).mp c5
          refine lv_aload_n hx hb dX9_areOfBook_17 rfl (lv_at hl 1 rfl) ?_
          obtain ⟨bks8, lks9, gos10, shn11, tpd12, pl013, ln014, flt15, opn16, cmy17, wtg18, nm019, mst20, sus21, cut22, h23, h24, h25, h26, h27, h28, h29, h30, h31, h32, h33, h34, h35, h36, h37, h38, h39, h40, h41, h42, hs7⟩ := a9_0 hI.1
          refine va_get (D := g.1) (ci := 9) (v := .int gos10) (C := RX9) (T := TX9) (N := 47) hx hb hg inG9 hown hK hP 0 (zw_at (by omega) hs7) rfl 7 (by decide) (hg _ mm_965) (fun _ h9 => h9) rfl dX9_areOfBook_18 ?_
          refine lv_iload_n hx hb dX9_areOfBook_21 rfl (lv_at hl 0 rfl) ?_
          refine lv_ishr hx hb dX9_areOfBook_22 ?_
          refine lv_topi (fun x43 ex43 => ?_)
          have tx43 := z_shr (x := gos10) rfl (by omega) v3_2
          rw [← ex43] at tx43
          refine lv_iconst (v := 1) hx hb dX9_areOfBook_23 (by decide) ?_
          refine lv_iand hx hb dX9_areOfBook_24 ?_
          refine lv_topi (fun x44 ex44 => ?_)
          have tx44 := z_andr (x := x43) (y := 1) (by decide : (1 : Int32).toInt = 1) (by omega)
          rw [← ex44] at tx44
          refine lv_if_eq (tgt := 41) hx hb dX9_areOfBook_25 (by decide) (fun c45 => ?_) (fun c45 => ?_)
          · skip
            have c45 : x44.toInt = 0 := (z_eq rfl (by decide : (0 : Int32).toInt = 0)).mp c45
            refine lv_iconst (v := 0) hx hb dX9_areOfBook_41 (by decide) ?_
            have q46 : (0 : Int32).toInt = 0 := by decide
            exact W.zret (v := 0) hx hb hr rfl (fun t ht hW => ⟨0, rfl, by first | exact Or.inl ⟨rfl, by omega⟩ | exact Or.inr ⟨rfl, by omega⟩ | exact Or.inl rfl | exact Or.inr rfl | exact Or.inl ⟨rfl, by omega, by omega⟩ | exact (z_01 (by omega) (by omega)).symm, ht⟩) (fun q hq => by cases hq) dX9_areOfBook_42
          · skip
            have c45 : ¬ (x44.toInt = 0) := fun q => c45 ((z_eq rfl (by decide : (0 : Int32).toInt = 0)).mpr q)
            refine lv_aload_n hx hb dX9_areOfBook_28 rfl (lv_at hl 1 rfl) ?_
            refine va_get (D := g.1) (ci := 9) (v := .ref (ad 16)) (C := RX9) (T := TX9) (N := 47) hx hb hg inG9 hown hK hP 0 (zw_at (by omega) hs7) rfl 28 (by decide) (hg _ mm_986) (fun _ h9 => h9) rfl dX9_areOfBook_29 ?_
            refine lv_iload_n hx hb dX9_areOfBook_32 rfl (lv_at hl 0 rfl) ?_
            obtain ⟨f48, hp49, hs47⟩ := a9_16 hI.1
            refine va_iald hx hb hK hP 16 0 (zw_at (by omega) hs47) rfl (z_in rfl (by omega) (by omega)) dX9_areOfBook_33 ?_
            refine lv_topi (fun y50 ey50 => ?_)
            have hy50 := hp49 _ (z_clt (x := v3_2) rfl (by omega) (by omega))
            rw [← ey50] at hy50
            have hy50 : 0 ≤ y50.toInt ∧ y50.toInt ≤ 31 := hy50
            refine lv_bipush (v := 8) hx hb dX9_areOfBook_34 (by decide) ?_
            refine lv_idiv hx hb dX9_areOfBook_36 (by decide) ?_
            refine lv_topi (fun x51 ex51 => ?_)
            have tx51 := z_div (x := y50) (y := 8) rfl (by decide : (8 : Int32).toInt = 8) (by omega) (by omega)
            rw [← ex51] at tx51
            refine lv_iload_n hx hb dX9_areOfBook_37 rfl (lv_at hl 3 rfl) ?_
            refine lv_icmp_eq (tgt := 43) hx hb dX9_areOfBook_38 (by decide) (fun c52 => ?_) (fun c52 => ?_)
            · skip
              have c52 : x51.toInt = b.toInt := (z_eq rfl rfl).mp c52
              obtain ⟨x53, ex53⟩ : ∃ y : Int32, y = v3_2 + 1 := ⟨_, rfl⟩
              have tx53 : x53.toInt = v3_2.toInt + 1 := by rw [ex53]; exact z_add rfl (by decide : (1 : Int32).toInt = 1) (by omega) (by omega)
              refine lv_iinc (v := x53) (lv' := [(3, .int x53), (0, .ref (ad 0)), (1, .int set), (2, .int b)]) hx hb dX9_areOfBook_43 hl (k := 0) rfl (by rw [ex53]; rfl) (by decide) rfl (fun ls hl => ?_)
              refine lv_goto (tgt := 2) hx hb dX9_areOfBook_46 (by decide) ?_
              exact ih2 x53 ls (by omega) (by first | assumption | omega | decide) (lv_sub hl [0, 1, 2, 3] rfl)
            · skip
              have c52 : ¬ (x51.toInt = b.toInt) := fun q => c52 ((z_eq rfl rfl).mpr q)
              refine lv_iconst (v := 0) hx hb dX9_areOfBook_41 (by decide) ?_
              have q54 : (0 : Int32).toInt = 0 := by decide
              exact W.zret (v := 0) hx hb hr rfl (fun t ht hW => ⟨0, rfl, by first | exact Or.inl ⟨rfl, by omega⟩ | exact Or.inr ⟨rfl, by omega⟩ | exact Or.inl rfl | exact Or.inr rfl | exact Or.inl ⟨rfl, by omega, by omega⟩ | exact (z_01 (by omega) (by omega)).symm, ht⟩) (fun q hq => by cases hq) dX9_areOfBook_42
  exact loop2 ((8 - (0 : Int32).toInt : Int).toNat + 1) (0 : Int32) ls (by omega) (by first | assumption | omega | decide) (lv_sub hl [0, 1, 2, 3] rfl)

set_option maxHeartbeats 4000000 in
set_option maxRecDepth 100000 in
theorem k_X9_fewest (l : Launch) (g : zG) (sz : Nat) (ad : Nat → Nat) (me : Int32) (ct : Nat → va_E) (b : Int32) (i : Int32) (wh : Int32) (hI : IR g ad me ct) : Met l yX9_fewest (zW yX9_fewest cX9_fewest 7 (some .int)) ({ frames := 7, cells := 0, slots := 0, locals := 172 }) (va_Pc [.ref (ad 0), .int b, .int i, .int wh] (zA g (zw 32 ad ct) sz)) (va_Qi (fun (r : Int32) (_ : Unit) => (True)) (fun _ t => ∃ ct2 : Nat → va_E, zP g (zw 32 ad ct2) t.heap ∧ va_D (va_A (zw 32 ad ct) sz) (zw 32 ad ct2) ∧ IR g ad me ct2) (va_A (zw 32 ad ct) sz)) 0 0 (va_A (zw 32 ad ct) sz) := by
  refine Met.ofW (cc := cX9_fewest) (maxL := 7) (ret := (some .int)) (by decide) rfl ?_
  intro p e s m args below meth c s₁ B hml hv
  obtain ⟨rfl, hsz, hP, hK, hD0, hN⟩ := hv
  have hx := B.exec
  have hb := B.bytes
  have hr := B.returns
  have hg := zW.law (atoms_spec (ws := (zW yX9_fewest cX9_fewest 7 (some .int))) B.pre)
  have hown : s.vm.findClass RX9 = some m.cls := findClass_of_methodNamed B.named
  have hlocks := B.notSynchronized
  have hpe0 := hI.1.1
  subst hsz
  have hD := hD0.self (sz := s.heap.size)
  generalize hAe : va_A (zw 32 ad ct) s.heap.size = A at hD ⊢
  have hA : ∀ q : Nat, s.heap.size ≤ q → A q := fun q h => by rw [← hAe]; exact Or.inr h
  have hS : va_S A s.heap s.heap [] := va_S.rf
  have hl := lv_entry ([.ref (ad 0), .int b, .int i, .int wh]) (n := 7) (Nat.le_of_ble_eq_true rfl)
  rw [lg_entry_eq]
  generalize (lg_sl ([.ref (ad 0), .int b, .int i, .int wh]) ++ List.replicate (7 - (lg_sl ([.ref (ad 0), .int b, .int i, .int wh])).length) Slot.unset).toArray = ls at hl ⊢
  have hl : lv_has ls 7 [(0, .ref (ad 0)), (1, .int b), (2, .int i), (3, .int wh)] := hl
  have rg_b := z_rng b
  have rg_i := z_rng i
  have rg_wh := z_rng wh
  refine lv_aload_n hx hb dX9_fewest_0 rfl (lv_at hl 0 rfl) ?_
  refine lv_iload_n hx hb dX9_fewest_1 rfl (lv_at hl 1 rfl) ?_
  refine lv_iload_n hx hb dX9_fewest_2 rfl (lv_at hl 2 rfl) ?_
  obtain ⟨bks2, lks3, gos4, shn5, tpd6, pl07, ln08, flt9, opn10, cmy11, wtg12, nm013, mst14, sus15, cut16, h17, h18, h19, h20, h21, h22, h23, h24, h25, h26, h27, h28, h29, h30, h31, h32, h33, h34, h35, h36, hs1⟩ := a9_0 hI.1
  refine zc_i (va_runV (As := [.int b, .int i]) (rest := []) ⟨hx, hb, hml, hown, hg⟩ (k_X9_isLine l g ad me ct b i hI) (cwV 2 hg (z_gV mm_1170 mm_1172 mm_57 mm_117 mm_1173) rfl rfl rfl (by decide +kernel) ⟨Nat.le_of_ble_eq_true rfl, Nat.le_of_ble_eq_true rfl⟩) ⟨(zR.pre [.ref (ad 0), .int b, .int i] hP hK hN).1, va_recv hK hP (ci := 9) (q0 := 0) rfl (zw_at (by omega) hs1), (zR.pre [.ref (ad 0), .int b, .int i] hP hK hN).2⟩ rfl rfl hl.1 rfl (lv_room (Nat.le_of_ble_eq_true rfl)) dX9_fewest_3 ⟨Nat.le_of_ble_eq_true rfl, Nat.le_of_ble_eq_true rfl⟩) (fun r37 hr37 => ?_)
  rcases hr37 with hr37 | hr37
  · skip
    obtain ⟨rfl, h38, h39⟩ := hr37
    replace h38 : 0 ≤ b.toInt ∧ b.toInt ≤ 3 := h38
    replace h39 : 0 ≤ i.toInt ∧ i.toInt ≤ 7 := h39
    refine lv_if_eq (tgt := 18) hx hb dX9_fewest_6 (by decide) (fun c40 => ?_) (fun c40 => ?_)
    · skip
      exact absurd c40 (by decide)
    · skip
      refine lv_iload_n hx hb dX9_fewest_9 rfl (lv_at hl 3 rfl) ?_
      refine lv_iconst (v := 0) hx hb dX9_fewest_10 (by decide) ?_
      refine lv_iconst (v := 2) hx hb dX9_fewest_11 (by decide) ?_
      refine zc_i (va_runS (As := [.int wh, .int 0, .int 2]) (rest := []) ⟨hx, hb, hml, hown, hg⟩ (k_X9_in l g ad me ct wh (0 : Int32) (2 : Int32) hI) (va_cwS 3 hg (z_gS mm_1109 mm_1110 mm_117 mm_1111) rfl rfl rfl (by decide +kernel) ⟨Nat.le_of_ble_eq_true rfl, Nat.le_of_ble_eq_true rfl⟩) (zR.pre [.int wh, .int 0, .int 2] hP hK hN) rfl rfl hl.1 rfl (lv_room (Nat.le_of_ble_eq_true rfl)) dX9_fewest_12 ⟨Nat.le_of_ble_eq_true rfl, Nat.le_of_ble_eq_true rfl⟩) (fun r41 hr41 => ?_)
      rcases hr41 with hr41 | hr41
      · skip
        obtain ⟨rfl, h42, h43⟩ := hr41
        replace h42 : (0 : Int) ≤ wh.toInt := h42
        replace h43 : wh.toInt ≤ (2 : Int) := h43
        refine lv_if_ne (tgt := 20) hx hb dX9_fewest_15 (by decide) (fun c44 => ?_) (fun c44 => ?_)
        · skip
          refine lv_aload_n hx hb dX9_fewest_20 rfl (lv_at hl 0 rfl) ?_
          refine va_get (D := g.1) (ci := 9) (v := .ref (ad 10)) (C := RX9) (T := TX9) (N := 47) hx hb hg inG9 hown hK hP 0 (zw_at (by omega) hs1) rfl 14 (by decide) (hg _ mm_972) (fun _ h9 => h9) rfl dX9_fewest_21 ?_
          refine lv_iload_n hx hb dX9_fewest_24 rfl (lv_at hl 1 rfl) ?_
          refine lv_iload_n hx hb dX9_fewest_25 rfl (lv_at hl 2 rfl) ?_
          refine zc_i (va_runS (As := [.int b, .int i]) (rest := [.ref (ad 10)]) ⟨hx, hb, hml, hown, hg⟩ (k_X9_at l g ad me ct b i (by first | omega | decide) (by first | omega | decide) hI) (va_cwS 2 hg (z_gS mm_1159 mm_1160 mm_117 mm_1161) rfl rfl rfl (by decide +kernel) ⟨Nat.le_of_ble_eq_true rfl, Nat.le_of_ble_eq_true rfl⟩) (zR.pre [.int b, .int i] hP hK hN) rfl rfl hl.1 rfl (lv_room (Nat.le_of_ble_eq_true rfl)) dX9_fewest_26 ⟨Nat.le_of_ble_eq_true rfl, Nat.le_of_ble_eq_true rfl⟩) (fun r45 hr45 => ?_)
          have hr45_0 := hr45
          have hr45_0 : r45.toInt = 8 * b.toInt + i.toInt := hr45_0
          obtain ⟨f47, hp48, hs46⟩ := a9_10 hI.1
          refine va_zald hx hb hK hP 10 3 (zw_at (by omega) hs46) rfl (z_in rfl (by omega) (by omega)) dX9_fewest_29 ?_
          refine lv_topi (fun y49 ey49 => ?_)
          have hy49 := hp48 _ (z_clt (x := r45) rfl (by omega) (by omega))
          rw [← ey49] at hy49
          have hy49 : y49 = 0 ∨ y49 = 1 := hy49
          have by49 := z_b01 hy49
          refine lv_if_eq (tgt := 36) hx hb dX9_fewest_30 (by decide) (fun c50 => ?_) (fun c50 => ?_)
          · skip
            have c50 : y49.toInt = 0 := (z_eq rfl (by decide : (0 : Int32).toInt = 0)).mp c50
            refine lv_iconst (v := (-1)) hx hb dX9_fewest_36 (by decide) ?_
            refine lv_istore (lv' := [(4, .int (-1)), (0, .ref (ad 0)), (1, .int b), (2, .int i), (3, .int wh)]) hx hb dX9_fewest_37 hl (by decide) rfl (fun ls hl => ?_)
            refine lv_iconst (v := (-1)) hx hb dX9_fewest_39 (by decide) ?_
            refine lv_istore (lv' := [(5, .int (-1)), (4, .int (-1)), (0, .ref (ad 0)), (1, .int b), (2, .int i), (3, .int wh)]) hx hb dX9_fewest_40 hl (by decide) rfl (fun ls hl => ?_)
            refine lv_iconst (v := 0) hx hb dX9_fewest_42 (by decide) ?_
            refine lv_istore (lv' := [(6, .int 0), (5, .int (-1)), (4, .int (-1)), (0, .ref (ad 0)), (1, .int b), (2, .int i), (3, .int wh)]) hx hb dX9_fewest_43 hl (by decide) rfl (fun ls hl => ?_)
            have loop45 : ∀ (n45 : Nat) (v6_45 : Int32) (v5_45 : Int32) (v4_45 : Int32) (ct51 : Nat → va_E) (H : Heap) (locs : List Loc) (ls : Array Slot), ((256 - v6_45.toInt : Int).toNat < n45) → (0 ≤ v6_45.toInt ∧ v6_45.toInt ≤ 256) → (IR g ad me ct51) → zP g (zw 32 ad ct51) H → va_D A (zw 32 ad ct51) → va_S A s.heap H locs → lv_has ls 7 [(6, .int v6_45), (5, .int v5_45), (4, .int v4_45), (0, .ref (ad 0)), (1, .int b), (2, .int i), (3, .int wh)] → W p l e (headSpec (zW yX9_fewest cX9_fewest 7 (some .int)) ({ frames := 7, cells := 0, slots := 0, locals := 172 })).room s m ([.ref (ad 0), .int b, .int i, .int wh] : List Value).toArray below meth c H locs 0 0 (MQ below (va_Qi (fun (r : Int32) (_ : Unit) => (True)) (fun _ t => ∃ ct2 : Nat → va_E, zP g (zw 32 ad ct2) t.heap ∧ va_D A (zw 32 ad ct2) ∧ IR g ad me ct2) A) ([.ref (ad 0), .int b, .int i, .int wh] : List Value).toArray s 0 0 A) (F0 m 45 ls []) := by
              intro n45
              induction n45 with
              | zero =>
                intro v6_45 v5_45 v4_45 ct51 H locs ls hn45 b6_45 hI hP hD hS hl
                exact absurd hn45 (Nat.not_lt_zero _)
              | succ n45 ih45 =>
                intro v6_45 v5_45 v4_45 ct51 H locs ls hn45 b6_45 hI hP hD hS hl
                refine lv_iload hx hb dX9_fewest_45 (lv_at hl 0 rfl) ?_
                refine lv_sipush (v := 256) hx hb dX9_fewest_47 (by decide) ?_
                refine lv_icmp_ge (tgt := 112) hx hb dX9_fewest_50 (by decide) (fun c52 => ?_) (fun c52 => ?_)
                · skip
                  have c52 : 256 ≤ v6_45.toInt := (z_le (by decide : (256 : Int32).toInt = 256) rfl).mp c52
                  refine lv_iload hx hb dX9_fewest_112 (lv_at hl 2 rfl) ?_
                  refine lv_iconst (v := (-1)) hx hb dX9_fewest_114 (by decide) ?_
                  refine lv_icmp_ne (tgt := 123) hx hb dX9_fewest_115 (by decide) (fun c53 => ?_) (fun c53 => ?_)
                  · skip
                    have c53 : ¬ (v4_45.toInt = (-1)) := fun q => c53 ((z_eq rfl (by decide : ((-1) : Int32).toInt = (-1))).mpr q)
                    refine lv_iload_n hx hb dX9_fewest_123 rfl (lv_at hl 6 rfl) ?_
                    refine lv_if_ne (tgt := 135) hx hb dX9_fewest_124 (by decide) (fun c54 => ?_) (fun c54 => ?_)
                    · skip
                      have c54 : ¬ (wh.toInt = 0) := fun q => c54 ((z_eq rfl (by decide : (0 : Int32).toInt = 0)).mpr q)
                      refine lv_iload_n hx hb dX9_fewest_135 rfl (lv_at hl 6 rfl) ?_
                      refine lv_iconst (v := 1) hx hb dX9_fewest_136 (by decide) ?_
                      refine lv_icmp_ne (tgt := 145) hx hb dX9_fewest_137 (by decide) (fun c55 => ?_) (fun c55 => ?_)
                      · skip
                        have c55 : ¬ (wh.toInt = 1) := fun q => c55 ((z_eq rfl (by decide : (1 : Int32).toInt = 1)).mpr q)
                        refine lv_iload hx hb dX9_fewest_145 (lv_at hl 1 rfl) ?_
                        exact W.iret (v := v5_45) hx hb hr (fun t ht hW => ⟨⟨v5_45, (), rfl, trivial, ct51, by rw [ht]; exact hP, hD, hI⟩, hS.F ht⟩) hS.2.2 dX9_fewest_147
                      · skip
                        have c55 : wh.toInt = 1 := (z_eq rfl (by decide : (1 : Int32).toInt = 1)).mp c55
                        refine lv_iload hx hb dX9_fewest_140 (lv_at hl 2 rfl) ?_
                        refine lv_goto (tgt := 147) hx hb dX9_fewest_142 (by decide) ?_
                        exact W.iret (v := v4_45) hx hb hr (fun t ht hW => ⟨⟨v4_45, (), rfl, trivial, ct51, by rw [ht]; exact hP, hD, hI⟩, hS.F ht⟩) hS.2.2 dX9_fewest_147
                    · skip
                      have c54 : wh.toInt = 0 := (z_eq rfl (by decide : (0 : Int32).toInt = 0)).mp c54
                      refine lv_iload hx hb dX9_fewest_127 (lv_at hl 2 rfl) ?_
                      refine zc_i (va_runS (As := [.int v4_45]) (rest := []) ⟨hx, hb, hml, hown, hg⟩ (k_X9_bits l g ad me ct51 v4_45 hI) (va_cwS 1 hg (z_gS mm_1373 mm_1374 mm_117 mm_1375) rfl rfl rfl (by decide +kernel) ⟨Nat.le_of_ble_eq_true rfl, Nat.le_of_ble_eq_true rfl⟩) (zR.pre [.int v4_45] hP hK hN) rfl rfl hl.1 rfl (lv_room (Nat.le_of_ble_eq_true rfl)) dX9_fewest_129 ⟨Nat.le_of_ble_eq_true rfl, Nat.le_of_ble_eq_true rfl⟩) (fun r56 hr56 => ?_)
                      obtain ⟨hr56_0, hr56_1⟩ := hr56
                      have hr56_0 : 0 ≤ r56.toInt := hr56_0
                      have hr56_1 : r56.toInt ≤ 16 := hr56_1
                      refine lv_goto (tgt := 147) hx hb dX9_fewest_132 (by decide) ?_
                      exact W.iret (v := r56) hx hb hr (fun t ht hW => ⟨⟨r56, (), rfl, trivial, ct51, by rw [ht]; exact hP, hD, hI⟩, hS.F ht⟩) hS.2.2 dX9_fewest_147
                  · skip
                    have c53 : v4_45.toInt = (-1) := (z_eq rfl (by decide : ((-1) : Int32).toInt = (-1))).mp c53
                    refine lv_bipush (v := (-2)) hx hb dX9_fewest_118 (by decide) ?_
                    refine lv_goto (tgt := 147) hx hb dX9_fewest_120 (by decide) ?_
                    have q57 : ((-2) : Int32).toInt = -2 := by decide
                    exact W.iret (v := (-2)) hx hb hr (fun t ht hW => ⟨⟨(-2), (), rfl, trivial, ct51, by rw [ht]; exact hP, hD, hI⟩, hS.F ht⟩) hS.2.2 dX9_fewest_147
                · skip
                  have c52 : ¬ (256 ≤ v6_45.toInt) := fun q => c52 ((z_le (by decide : (256 : Int32).toInt = 256) rfl).mpr q)
                  refine lv_aload_n hx hb dX9_fewest_53 rfl (lv_at hl 3 rfl) ?_
                  refine lv_iload hx hb dX9_fewest_54 (lv_at hl 0 rfl) ?_
                  refine lv_iload_n hx hb dX9_fewest_56 rfl (lv_at hl 4 rfl) ?_
                  obtain ⟨bks59, lks60, gos61, shn62, tpd63, pl064, ln065, flt66, opn67, cmy68, wtg69, nm070, mst71, sus72, cut73, h74, h75, h76, h77, h78, h79, h80, h81, h82, h83, h84, h85, h86, h87, h88, h89, h90, h91, h92, h93, hs58⟩ := a9_0 hI.1
                  refine zc_i (va_runV (As := [.int v6_45, .int b]) (rest := []) ⟨hx, hb, hml, hown, hg⟩ (k_X9_areOfBook l g ad me ct51 v6_45 b (by first | omega | decide) hI) (cwV 2 hg (z_gV mm_1419 mm_1421 mm_97 mm_117 mm_1422) rfl rfl rfl (by decide +kernel) ⟨Nat.le_of_ble_eq_true rfl, Nat.le_of_ble_eq_true rfl⟩) ⟨(zR.pre [.ref (ad 0), .int v6_45, .int b] hP hK hN).1, va_recv hK hP (ci := 9) (q0 := 0) rfl (zw_at (by omega) hs58), (zR.pre [.ref (ad 0), .int v6_45, .int b] hP hK hN).2⟩ rfl rfl hl.1 rfl (lv_room (Nat.le_of_ble_eq_true rfl)) dX9_fewest_57 ⟨Nat.le_of_ble_eq_true rfl, Nat.le_of_ble_eq_true rfl⟩) (fun r94 hr94 => ?_)
                  rcases hr94 with hr94 | hr94
                  · skip
                    obtain rfl := hr94
                    refine lv_if_eq (tgt := 106) hx hb dX9_fewest_60 (by decide) (fun c95 => ?_) (fun c95 => ?_)
                    · skip
                      exact absurd c95 (by decide)
                    · skip
                      refine lv_iload hx hb dX9_fewest_63 (lv_at hl 2 rfl) ?_
                      refine lv_iconst (v := (-1)) hx hb dX9_fewest_65 (by decide) ?_
                      refine lv_icmp_eq (tgt := 82) hx hb dX9_fewest_66 (by decide) (fun c96 => ?_) (fun c96 => ?_)
                      · skip
                        have c96 : v4_45.toInt = (-1) := (z_eq rfl (by decide : ((-1) : Int32).toInt = (-1))).mp c96
                        refine lv_aload_n hx hb dX9_fewest_82 rfl (lv_at hl 3 rfl) ?_
                        refine lv_iload_n hx hb dX9_fewest_83 rfl (lv_at hl 4 rfl) ?_
                        refine lv_iload_n hx hb dX9_fewest_84 rfl (lv_at hl 5 rfl) ?_
                        refine lv_iload hx hb dX9_fewest_85 (lv_at hl 0 rfl) ?_
                        have hFc := zw_free hD hS hA
                        refine va_calli (va_runV (As := [.int b, .int i, .int v6_45]) (rest := []) ⟨hx, hb, hml, hown, hg⟩ (k_X9_isSure l g _ ad me ct51 b i v6_45 (by first | omega | decide) (by first | omega | decide) (by first | omega | decide) hI) (cwV 3 hg (z_gV mm_1423 mm_1425 mm_98 mm_117 mm_1426) rfl rfl rfl (by decide +kernel) ⟨Nat.le_of_ble_eq_true rfl, Nat.le_of_ble_eq_true rfl⟩) ⟨(zA.pre [.ref (ad 0), .int b, .int i, .int v6_45] hP hK hD hN).1, va_recv hK hP (ci := 9) (q0 := 0) rfl (zw_at (by omega) hs58), (zA.pre [.ref (ad 0), .int b, .int i, .int v6_45] hP hK hD hN).2⟩ rfl rfl hl.1 rfl (lv_room (Nat.le_of_ble_eq_true rfl)) dX9_fewest_87 ⟨Nat.le_of_ble_eq_true rfl, Nat.le_of_ble_eq_true rfl⟩) hS (fun q _ h => hFc q h) hFc (fun r97 _ t H1 locs ht hvm hr97 hB hz1 hk1 hS => ?_)
                        obtain ⟨ct98, hP1, hD1, hI⟩ := hB
                        rw [ht] at hP1
                        have hD := hD1.weaken (fun _ _ _ h => hFc _ h)
                        generalize H1 = H at hP1 hS ⊢
                        have hP := hP1
                        refine W.widen (k := 0) (n := 0) (Nat.le_refl _) (Nat.le_refl _) ?_
                        rcases hr97 with hr97 | hr97
                        · skip
                          obtain rfl := hr97
                          refine lv_if_ne (tgt := 96) hx hb dX9_fewest_90 (by decide) (fun c99 => ?_) (fun c99 => ?_)
                          · skip
                            refine lv_iload hx hb dX9_fewest_96 (lv_at hl 0 rfl) ?_
                            refine lv_istore (lv' := [(4, .int v6_45), (6, .int v6_45), (5, .int v5_45), (0, .ref (ad 0)), (1, .int b), (2, .int i), (3, .int wh)]) hx hb dX9_fewest_98 hl (by decide) rfl (fun ls hl => ?_)
                            refine lv_aload_n hx hb dX9_fewest_100 rfl (lv_at hl 3 rfl) ?_
                            obtain ⟨bks101, lks102, gos103, shn104, tpd105, pl0106, ln0107, flt108, opn109, cmy110, wtg111, nm0112, mst113, sus114, cut115, h116, h117, h118, h119, h120, h121, h122, h123, h124, h125, h126, h127, h128, h129, h130, h131, h132, h133, h134, h135, hs100⟩ := a9_0 hI.1
                            refine va_get (D := g.1) (ci := 9) (v := .int mst113) (C := RX9) (T := TX9) (N := 47) hx hb hg inG9 hown hK hP 0 (zw_at (by omega) hs100) rfl 40 (by decide) (hg _ mm_998) (fun _ h9 => h9) rfl dX9_fewest_101 ?_
                            refine lv_istore (lv' := [(5, .int mst113), (4, .int v6_45), (6, .int v6_45), (0, .ref (ad 0)), (1, .int b), (2, .int i), (3, .int wh)]) hx hb dX9_fewest_104 hl (by decide) rfl (fun ls hl => ?_)
                            obtain ⟨x136, ex136⟩ : ∃ y : Int32, y = v6_45 + 1 := ⟨_, rfl⟩
                            have tx136 : x136.toInt = v6_45.toInt + 1 := by rw [ex136]; exact z_add rfl (by decide : (1 : Int32).toInt = 1) (by omega) (by omega)
                            refine lv_iinc (v := x136) (lv' := [(6, .int x136), (5, .int mst113), (4, .int v6_45), (0, .ref (ad 0)), (1, .int b), (2, .int i), (3, .int wh)]) hx hb dX9_fewest_106 hl (k := 2) rfl (by rw [ex136]; rfl) (by decide) rfl (fun ls hl => ?_)
                            refine lv_goto (tgt := 45) hx hb dX9_fewest_109 (by decide) ?_
                            exact ih45 x136 mst113 v6_45 ct98 _ _ ls (by omega) (by first | assumption | omega | decide) hI hP hD hS (lv_sub hl [0, 1, 2, 3, 4, 5, 6] rfl)
                          · skip
                            exact absurd c99 (by decide)
                        · skip
                          obtain rfl := hr97
                          refine lv_if_ne (tgt := 96) hx hb dX9_fewest_90 (by decide) (fun c137 => ?_) (fun c137 => ?_)
                          · skip
                            exact absurd c137 (by decide)
                          · skip
                            refine lv_goto (tgt := 106) hx hb dX9_fewest_93 (by decide) ?_
                            obtain ⟨x138, ex138⟩ : ∃ y : Int32, y = v6_45 + 1 := ⟨_, rfl⟩
                            have tx138 : x138.toInt = v6_45.toInt + 1 := by rw [ex138]; exact z_add rfl (by decide : (1 : Int32).toInt = 1) (by omega) (by omega)
                            refine lv_iinc (v := x138) (lv' := [(6, .int x138), (5, .int v5_45), (4, .int v4_45), (0, .ref (ad 0)), (1, .int b), (2, .int i), (3, .int wh)]) hx hb dX9_fewest_106 hl (k := 0) rfl (by rw [ex138]; rfl) (by decide) rfl (fun ls hl => ?_)
                            refine lv_goto (tgt := 45) hx hb dX9_fewest_109 (by decide) ?_
                            exact ih45 x138 v5_45 v4_45 ct98 _ _ ls (by omega) (by first | assumption | omega | decide) hI hP hD hS (lv_sub hl [0, 1, 2, 3, 4, 5, 6] rfl)
                      · skip
                        have c96 : ¬ (v4_45.toInt = (-1)) := fun q => c96 ((z_eq rfl (by decide : ((-1) : Int32).toInt = (-1))).mpr q)
                        refine lv_iload hx hb dX9_fewest_69 (lv_at hl 0 rfl) ?_
                        refine zc_i (va_runS (As := [.int v6_45]) (rest := []) ⟨hx, hb, hml, hown, hg⟩ (k_X9_bits l g ad me ct51 v6_45 hI) (va_cwS 1 hg (z_gS mm_1373 mm_1374 mm_117 mm_1375) rfl rfl rfl (by decide +kernel) ⟨Nat.le_of_ble_eq_true rfl, Nat.le_of_ble_eq_true rfl⟩) (zR.pre [.int v6_45] hP hK hN) rfl rfl hl.1 rfl (lv_room (Nat.le_of_ble_eq_true rfl)) dX9_fewest_71 ⟨Nat.le_of_ble_eq_true rfl, Nat.le_of_ble_eq_true rfl⟩) (fun r139 hr139 => ?_)
                        obtain ⟨hr139_0, hr139_1⟩ := hr139
                        have hr139_0 : 0 ≤ r139.toInt := hr139_0
                        have hr139_1 : r139.toInt ≤ 16 := hr139_1
                        refine lv_iload hx hb dX9_fewest_74 (lv_at hl 2 rfl) ?_
                        refine zc_i (va_runS (As := [.int v4_45]) (rest := [.int r139]) ⟨hx, hb, hml, hown, hg⟩ (k_X9_bits l g ad me ct51 v4_45 hI) (va_cwS 1 hg (z_gS mm_1373 mm_1374 mm_117 mm_1375) rfl rfl rfl (by decide +kernel) ⟨Nat.le_of_ble_eq_true rfl, Nat.le_of_ble_eq_true rfl⟩) (zR.pre [.int v4_45] hP hK hN) rfl rfl hl.1 rfl (lv_room (Nat.le_of_ble_eq_true rfl)) dX9_fewest_76 ⟨Nat.le_of_ble_eq_true rfl, Nat.le_of_ble_eq_true rfl⟩) (fun r140 hr140 => ?_)
                        obtain ⟨hr140_0, hr140_1⟩ := hr140
                        have hr140_0 : 0 ≤ r140.toInt := hr140_0
                        have hr140_1 : r140.toInt ≤ 16 := hr140_1
                        refine lv_icmp_ge (tgt := 106) hx hb dX9_fewest_79 (by decide) (fun c141 => ?_) (fun c141 => ?_)
                        · skip
                          have c141 : r140.toInt ≤ r139.toInt := (z_le rfl rfl).mp c141
                          obtain ⟨x142, ex142⟩ : ∃ y : Int32, y = v6_45 + 1 := ⟨_, rfl⟩
                          have tx142 : x142.toInt = v6_45.toInt + 1 := by rw [ex142]; exact z_add rfl (by decide : (1 : Int32).toInt = 1) (by omega) (by omega)
                          refine lv_iinc (v := x142) (lv' := [(6, .int x142), (5, .int v5_45), (4, .int v4_45), (0, .ref (ad 0)), (1, .int b), (2, .int i), (3, .int wh)]) hx hb dX9_fewest_106 hl (k := 0) rfl (by rw [ex142]; rfl) (by decide) rfl (fun ls hl => ?_)
                          refine lv_goto (tgt := 45) hx hb dX9_fewest_109 (by decide) ?_
                          exact ih45 x142 v5_45 v4_45 ct51 _ _ ls (by omega) (by first | assumption | omega | decide) hI hP hD hS (lv_sub hl [0, 1, 2, 3, 4, 5, 6] rfl)
                        · skip
                          have c141 : ¬ (r140.toInt ≤ r139.toInt) := fun q => c141 ((z_le rfl rfl).mpr q)
                          refine lv_aload_n hx hb dX9_fewest_82 rfl (lv_at hl 3 rfl) ?_
                          refine lv_iload_n hx hb dX9_fewest_83 rfl (lv_at hl 4 rfl) ?_
                          refine lv_iload_n hx hb dX9_fewest_84 rfl (lv_at hl 5 rfl) ?_
                          refine lv_iload hx hb dX9_fewest_85 (lv_at hl 0 rfl) ?_
                          have hFc := zw_free hD hS hA
                          refine va_calli (va_runV (As := [.int b, .int i, .int v6_45]) (rest := []) ⟨hx, hb, hml, hown, hg⟩ (k_X9_isSure l g _ ad me ct51 b i v6_45 (by first | omega | decide) (by first | omega | decide) (by first | omega | decide) hI) (cwV 3 hg (z_gV mm_1423 mm_1425 mm_98 mm_117 mm_1426) rfl rfl rfl (by decide +kernel) ⟨Nat.le_of_ble_eq_true rfl, Nat.le_of_ble_eq_true rfl⟩) ⟨(zA.pre [.ref (ad 0), .int b, .int i, .int v6_45] hP hK hD hN).1, va_recv hK hP (ci := 9) (q0 := 0) rfl (zw_at (by omega) hs58), (zA.pre [.ref (ad 0), .int b, .int i, .int v6_45] hP hK hD hN).2⟩ rfl rfl hl.1 rfl (lv_room (Nat.le_of_ble_eq_true rfl)) dX9_fewest_87 ⟨Nat.le_of_ble_eq_true rfl, Nat.le_of_ble_eq_true rfl⟩) hS (fun q _ h => hFc q h) hFc (fun r143 _ t H1 locs ht hvm hr143 hB hz1 hk1 hS => ?_)
                          obtain ⟨ct144, hP1, hD1, hI⟩ := hB
                          rw [ht] at hP1
                          have hD := hD1.weaken (fun _ _ _ h => hFc _ h)
                          generalize H1 = H at hP1 hS ⊢
                          have hP := hP1
                          refine W.widen (k := 0) (n := 0) (Nat.le_refl _) (Nat.le_refl _) ?_
                          rcases hr143 with hr143 | hr143
                          · skip
                            obtain rfl := hr143
                            refine lv_if_ne (tgt := 96) hx hb dX9_fewest_90 (by decide) (fun c145 => ?_) (fun c145 => ?_)
                            · skip
                              refine lv_iload hx hb dX9_fewest_96 (lv_at hl 0 rfl) ?_
                              refine lv_istore (lv' := [(4, .int v6_45), (6, .int v6_45), (5, .int v5_45), (0, .ref (ad 0)), (1, .int b), (2, .int i), (3, .int wh)]) hx hb dX9_fewest_98 hl (by decide) rfl (fun ls hl => ?_)
                              refine lv_aload_n hx hb dX9_fewest_100 rfl (lv_at hl 3 rfl) ?_
                              obtain ⟨bks147, lks148, gos149, shn150, tpd151, pl0152, ln0153, flt154, opn155, cmy156, wtg157, nm0158, mst159, sus160, cut161, h162, h163, h164, h165, h166, h167, h168, h169, h170, h171, h172, h173, h174, h175, h176, h177, h178, h179, h180, h181, hs146⟩ := a9_0 hI.1
                              refine va_get (D := g.1) (ci := 9) (v := .int mst159) (C := RX9) (T := TX9) (N := 47) hx hb hg inG9 hown hK hP 0 (zw_at (by omega) hs146) rfl 40 (by decide) (hg _ mm_998) (fun _ h9 => h9) rfl dX9_fewest_101 ?_
                              refine lv_istore (lv' := [(5, .int mst159), (4, .int v6_45), (6, .int v6_45), (0, .ref (ad 0)), (1, .int b), (2, .int i), (3, .int wh)]) hx hb dX9_fewest_104 hl (by decide) rfl (fun ls hl => ?_)
                              obtain ⟨x182, ex182⟩ : ∃ y : Int32, y = v6_45 + 1 := ⟨_, rfl⟩
                              have tx182 : x182.toInt = v6_45.toInt + 1 := by rw [ex182]; exact z_add rfl (by decide : (1 : Int32).toInt = 1) (by omega) (by omega)
                              refine lv_iinc (v := x182) (lv' := [(6, .int x182), (5, .int mst159), (4, .int v6_45), (0, .ref (ad 0)), (1, .int b), (2, .int i), (3, .int wh)]) hx hb dX9_fewest_106 hl (k := 2) rfl (by rw [ex182]; rfl) (by decide) rfl (fun ls hl => ?_)
                              refine lv_goto (tgt := 45) hx hb dX9_fewest_109 (by decide) ?_
                              exact ih45 x182 mst159 v6_45 ct144 _ _ ls (by omega) (by first | assumption | omega | decide) hI hP hD hS (lv_sub hl [0, 1, 2, 3, 4, 5, 6] rfl)
                            · skip
                              exact absurd c145 (by decide)
                          · skip
                            obtain rfl := hr143
                            refine lv_if_ne (tgt := 96) hx hb dX9_fewest_90 (by decide) (fun c183 => ?_) (fun c183 => ?_)
                            · skip
                              exact absurd c183 (by decide)
                            · skip
                              refine lv_goto (tgt := 106) hx hb dX9_fewest_93 (by decide) ?_
                              obtain ⟨x184, ex184⟩ : ∃ y : Int32, y = v6_45 + 1 := ⟨_, rfl⟩
                              have tx184 : x184.toInt = v6_45.toInt + 1 := by rw [ex184]; exact z_add rfl (by decide : (1 : Int32).toInt = 1) (by omega) (by omega)
                              refine lv_iinc (v := x184) (lv' := [(6, .int x184), (5, .int v5_45), (4, .int v4_45), (0, .ref (ad 0)), (1, .int b), (2, .int i), (3, .int wh)]) hx hb dX9_fewest_106 hl (k := 0) rfl (by rw [ex184]; rfl) (by decide) rfl (fun ls hl => ?_)
                              refine lv_goto (tgt := 45) hx hb dX9_fewest_109 (by decide) ?_
                              exact ih45 x184 v5_45 v4_45 ct144 _ _ ls (by omega) (by first | assumption | omega | decide) hI hP hD hS (lv_sub hl [0, 1, 2, 3, 4, 5, 6] rfl)
                  · skip
                    obtain rfl := hr94
                    refine lv_if_eq (tgt := 106) hx hb dX9_fewest_60 (by decide) (fun c185 => ?_) (fun c185 => ?_)
                    · skip
                      obtain ⟨x186, ex186⟩ : ∃ y : Int32, y = v6_45 + 1 := ⟨_, rfl⟩
                      have tx186 : x186.toInt = v6_45.toInt + 1 := by rw [ex186]; exact z_add rfl (by decide : (1 : Int32).toInt = 1) (by omega) (by omega)
                      refine lv_iinc (v := x186) (lv' := [(6, .int x186), (5, .int v5_45), (4, .int v4_45), (0, .ref (ad 0)), (1, .int b), (2, .int i), (3, .int wh)]) hx hb dX9_fewest_106 hl (k := 0) rfl (by rw [ex186]; rfl) (by decide) rfl (fun ls hl => ?_)
                      refine lv_goto (tgt := 45) hx hb dX9_fewest_109 (by decide) ?_
                      exact ih45 x186 v5_45 v4_45 ct51 _ _ ls (by omega) (by first | assumption | omega | decide) hI hP hD hS (lv_sub hl [0, 1, 2, 3, 4, 5, 6] rfl)
                    · skip
                      exact absurd c185 (by decide)
            exact loop45 ((256 - (0 : Int32).toInt : Int).toNat + 1) (0 : Int32) (-1 : Int32) (-1 : Int32) ct _ _ ls (by omega) (by first | assumption | omega | decide) hI hP hD hS (lv_sub hl [0, 1, 2, 3, 4, 5, 6] rfl)
          · skip
            have c50 : ¬ (y49.toInt = 0) := fun q => c50 ((z_eq rfl (by decide : (0 : Int32).toInt = 0)).mpr q)
            refine lv_bipush (v := (-2)) hx hb dX9_fewest_33 (by decide) ?_
            have q187 : ((-2) : Int32).toInt = -2 := by decide
            exact W.iret (v := (-2)) hx hb hr (fun t ht hW => ⟨⟨(-2), (), rfl, trivial, ct, by rw [ht]; exact hP, hD, hI⟩, hS.F ht⟩) hS.2.2 dX9_fewest_35
        · skip
          exact absurd c44 (by decide)
      · skip
        obtain ⟨rfl, h188⟩ := hr41
        replace h188 : ¬ ((0 : Int) ≤ wh.toInt ∧ wh.toInt ≤ (2 : Int)) := h188
        refine lv_if_ne (tgt := 20) hx hb dX9_fewest_15 (by decide) (fun c189 => ?_) (fun c189 => ?_)
        · skip
          exact absurd c189 (by decide)
        · skip
          refine lv_iconst (v := (-1)) hx hb dX9_fewest_18 (by decide) ?_
          have q190 : ((-1) : Int32).toInt = -1 := by decide
          exact W.iret (v := (-1)) hx hb hr (fun t ht hW => ⟨⟨(-1), (), rfl, trivial, ct, by rw [ht]; exact hP, hD, hI⟩, hS.F ht⟩) hS.2.2 dX9_fewest_19
  · skip
    obtain rfl := hr37
    refine lv_if_eq (tgt := 18) hx hb dX9_fewest_6 (by decide) (fun c191 => ?_) (fun c191 => ?_)
    · skip
      refine lv_iconst (v := (-1)) hx hb dX9_fewest_18 (by decide) ?_
      have q192 : ((-1) : Int32).toInt = -1 := by decide
      exact W.iret (v := (-1)) hx hb hr (fun t ht hW => ⟨⟨(-1), (), rfl, trivial, ct, by rw [ht]; exact hP, hD, hI⟩, hS.F ht⟩) hS.2.2 dX9_fewest_19
    · skip
      exact absurd c191 (by decide)
