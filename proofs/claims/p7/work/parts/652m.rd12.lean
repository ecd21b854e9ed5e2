set_option maxHeartbeats 4000000 in
set_option maxRecDepth 100000 in
theorem k_X9_readsSum (l : Launch) (g : zG) (sz : Nat) (ad : Nat → Nat) (me : Int32) (ct : Nat → va_E) (x : Nat) (y : Nat) (hI : IR g ad me ct) (hps : PS (g.2 0) ct x y R0) : Met l yX9_readsSum (zW yX9_readsSum cX9_readsSum 3 (some .boolean)) ({ frames := 4, cells := 0, slots := 0, locals := 82 }) (va_Pc [.ref (ad 0)] (zA g (zw 32 ad ct) sz)) (va_Qi (fun (r : Int32) (u : Int32) => (r = 1 ∧ (u = 1)) ∨ (r = 0 ∧ (u = 0))) (fun (u : Int32) t => ∃ ct2 : Nat → va_E, zP g (zw 32 ad ct2) t.heap ∧ va_D (va_A (zw 32 ad ct) sz) (zw 32 ad ct2) ∧ IR g ad me ct2 ∧ (zfi 18 (ct2 0) = zfi 18 (ct 0)) ∧ (u = 1 → zfi 17 (ct 0) < zfi 17 (ct2 0)) ∧ (u = 1 → PS (g.2 0) ct2 (x + 1) y R0)) (va_A (zw 32 ad ct) sz)) 0 0 (va_A (zw 32 ad ct) sz) := by
  refine Met.ofW (cc := cX9_readsSum) (maxL := 3) (ret := (some .boolean)) (by decide) rfl ?_
  intro p e s m args below meth c s₁ B hml hv
  obtain ⟨rfl, hsz, hP, hK, hD0, hN⟩ := hv
  have hx := B.exec
  have hb := B.bytes
  have hr := B.returns
  have hg := zW.law (atoms_spec (ws := (zW yX9_readsSum cX9_readsSum 3 (some .boolean))) B.pre)
  have hown : s.vm.findClass RX9 = some m.cls := findClass_of_methodNamed B.named
  have hlocks := B.notSynchronized
  have hpe0 := hI.1.1
  subst hsz
  have hD := hD0.self (sz := s.heap.size)
  generalize hAe : va_A (zw 32 ad ct) s.heap.size = A at hD ⊢
  have hA : ∀ q : Nat, s.heap.size ≤ q → A q := fun q h => by rw [← hAe]; exact Or.inr h
  have hS : va_S A s.heap s.heap [] := va_S.rf
  have hl := lv_entry ([.ref (ad 0)]) (n := 3) (Nat.le_of_ble_eq_true rfl)
  rw [lg_entry_eq]
  generalize (lg_sl ([.ref (ad 0)]) ++ List.replicate (3 - (lg_sl ([.ref (ad 0)])).length) Slot.unset).toArray = ls at hl ⊢
  have hl : lv_has ls 3 [(0, .ref (ad 0))] := hl
  obtain ⟨f0, hf0, hpsB⟩ := PS.base hps
  have hbs := PS.bounds hps
  obtain ⟨bks2, lks3, gos4, shn5, tpd6, pl07, ln08, flt9, opn10, cmy11, wtg12, nm013, mst14, sus15, cut16, h17, h18, h19, h20, h21, h22, h23, h24, h25, h26, h27, h28, h29, h30, h31, h32, h33, h34, h35, h36, hs1⟩ := a9_0 hI.1
  have z17_hs1 : zfi 17 (ct 0) = pl07.toInt := by rw [hs1]; rfl
  have z18_hs1 : zfi 18 (ct 0) = ln08.toInt := by rw [hs1]; rfl
  have z21_hs1 : zfi 21 (ct 0) = cmy11.toInt := by rw [hs1]; rfl
  have z22_hs1 : zfi 22 (ct 0) = wtg12.toInt := by rw [hs1]; rfl
  refine lv_aload_n hx hb dX9_readsSum_0 rfl (lv_at hl 0 rfl) ?_
  refine va_get (D := g.1) (ci := 9) (v := .int wtg12) (C := RX9) (T := TX9) (N := 47) hx hb hg inG9 hown hK hP 0 (zw_at (by omega) hs1) rfl 22 (by decide) (hg _ mm_980) (fun _ h9 => h9) rfl dX9_readsSum_1 ?_
  refine lv_istore_n (lv' := [(1, .int wtg12), (0, .ref (ad 0))]) hx hb dX9_readsSum_4 rfl hl (by decide) rfl (fun ls hl => ?_)
  refine lv_aload_n hx hb dX9_readsSum_5 rfl (lv_at hl 1 rfl) ?_
  have hFc := zw_free hD hS hA
  refine va_calli (va_runV (As := []) (rest := []) ⟨hx, hb, hml, hown, hg⟩ (k_X9_readsFactor l g _ ad me ct x y ((zfi 22 (ct 0)).toNat) f0 hI (hpsB)) (cwV 0 hg (z_gV mm_1236 mm_1238 mm_68 mm_117 mm_1239) rfl rfl rfl (by decide +kernel) ⟨Nat.le_of_ble_eq_true rfl, Nat.le_of_ble_eq_true rfl⟩) ⟨(zA.pre [.ref (ad 0)] hP hK hD hN).1, va_recv hK hP (ci := 9) (q0 := 0) rfl (zw_at (by omega) hs1), (zA.pre [.ref (ad 0)] hP hK hD hN).2⟩ rfl rfl hl.1 rfl (lv_room (Nat.le_of_ble_eq_true rfl)) dX9_readsSum_6 ⟨Nat.le_of_ble_eq_true rfl, Nat.le_of_ble_eq_true rfl⟩) hS (fun q _ h => hFc q h) hFc (fun r37 u42 t H1 locs ht hvm hr37 hB hz1 hk1 hS => ?_)
  obtain ⟨ct38, hP1, hD1, hI, hk39, hk40, hk41⟩ := hB
  rw [ht] at hP1
  have hD := hD1.weaken (fun _ _ _ h => hFc _ h)
  generalize H1 = H at hP1 hS ⊢
  have hP := hP1
  refine W.widen (k := 0) (n := 0) (Nat.le_refl _) (Nat.le_refl _) ?_
  rcases hr37 with hr37 | hr37
  · skip
    obtain ⟨rfl, h43⟩ := hr37
    replace h43 : u42 = 1 := h43
    have hk40 := hk40 h43
    have hk41 := hk41 h43
    refine lv_if_ne (tgt := 14) hx hb dX9_readsSum_9 (by decide) (fun c44 => ?_) (fun c44 => ?_)
    · skip
      obtain ⟨bks46, lks47, gos48, shn49, tpd50, pl051, ln052, flt53, opn54, cmy55, wtg56, nm057, mst58, sus59, cut60, h61, h62, h63, h64, h65, h66, h67, h68, h69, h70, h71, h72, h73, h74, h75, h76, h77, h78, h79, h80, hs45⟩ := a9_0 hI.1
      have z17_hs45 : zfi 17 (ct38 0) = pl051.toInt := by rw [hs45]; rfl
      have z18_hs45 : zfi 18 (ct38 0) = ln052.toInt := by rw [hs45]; rfl
      have z21_hs45 : zfi 21 (ct38 0) = cmy55.toInt := by rw [hs45]; rfl
      have z22_hs45 : zfi 22 (ct38 0) = wtg56.toInt := by rw [hs45]; rfl
      have loop14 : ∀ (n14 : Nat) (ct81 : Nat → va_E) (H : Heap) (locs : List Loc) (ls : Array Slot), ((zfi 18 (ct81 0) - zfi 17 (ct81 0) : Int).toNat < n14) → (zfi 18 (ct81 0) = zfi 18 (ct 0)) → (zfi 17 (ct 0) < zfi 17 (ct81 0)) → (PS (g.2 0) ct81 (x + 1) y (RB (zfi 22 (ct 0)).toNat f0)) → (IR g ad me ct81) → zP g (zw 32 ad ct81) H → va_D A (zw 32 ad ct81) → va_S A s.heap H locs → lv_has ls 3 [(1, .int wtg12), (0, .ref (ad 0))] → W p l e (headSpec (zW yX9_readsSum cX9_readsSum 3 (some .boolean)) ({ frames := 4, cells := 0, slots := 0, locals := 82 })).room s m ([.ref (ad 0)] : List Value).toArray below meth c H locs 0 0 (MQ below (va_Qi (fun (r : Int32) (u : Int32) => (r = 1 ∧ (u = 1)) ∨ (r = 0 ∧ (u = 0))) (fun (u : Int32) t => ∃ ct2 : Nat → va_E, zP g (zw 32 ad ct2) t.heap ∧ va_D A (zw 32 ad ct2) ∧ IR g ad me ct2 ∧ (zfi 18 (ct2 0) = zfi 18 (ct 0)) ∧ (u = 1 → zfi 17 (ct 0) < zfi 17 (ct2 0)) ∧ (u = 1 → PS (g.2 0) ct2 (x + 1) y R0)) A) ([.ref (ad 0)] : List Value).toArray s 0 0 A) (F0 m 14 ls []) := by
        intro n14
        induction n14 with
        | zero =>
          intro ct81 H locs ls hn14 j0_14 j1_14 j2_14 hI hP hD hS hl
          exact absurd hn14 (Nat.not_lt_zero _)
        | succ n14 ih14 =>
          intro ct81 H locs ls hn14 j0_14 j1_14 j2_14 hI hP hD hS hl
          have hb0 := PS.bounds j2_14
          obtain ⟨bks83, lks84, gos85, shn86, tpd87, pl088, ln089, flt90, opn91, cmy92, wtg93, nm094, mst95, sus96, cut97, h98, h99, h100, h101, h102, h103, h104, h105, h106, h107, h108, h109, h110, h111, h112, h113, h114, h115, h116, h117, hs82⟩ := a9_0 hI.1
          have z17_hs82 : zfi 17 (ct81 0) = pl088.toInt := by rw [hs82]; rfl
          have z18_hs82 : zfi 18 (ct81 0) = ln089.toInt := by rw [hs82]; rfl
          have z21_hs82 : zfi 21 (ct81 0) = cmy92.toInt := by rw [hs82]; rfl
          have z22_hs82 : zfi 22 (ct81 0) = wtg93.toInt := by rw [hs82]; rfl
          obtain ⟨f119, hs118⟩ := a9_12 hI.1
          obtain ⟨f121, hs120⟩ := a9_13 hI.1
          refine lv_aload_n hx hb dX9_readsSum_14 rfl (lv_at hl 1 rfl) ?_
          refine zc_i (va_runV (As := []) (rest := []) ⟨hx, hb, hml, hown, hg⟩ (k_X9_here l g ad me ct81  hI) (cwV 0 hg (z_gV mm_1215 mm_1217 mm_63 mm_117 mm_1218) rfl rfl rfl (by decide +kernel) ⟨Nat.le_of_ble_eq_true rfl, Nat.le_of_ble_eq_true rfl⟩) ⟨(zR.pre [.ref (ad 0)] hP hK hN).1, va_recv hK hP (ci := 9) (q0 := 0) rfl (zw_at (by omega) hs82), (zR.pre [.ref (ad 0)] hP hK hN).2⟩ rfl rfl hl.1 rfl (lv_room (Nat.le_of_ble_eq_true rfl)) dX9_readsSum_15 ⟨Nat.le_of_ble_eq_true rfl, Nat.le_of_ble_eq_true rfl⟩) (fun r122 hr122 => ?_)
          obtain ⟨hqr122, h123⟩ := hr122
          subst r122
          replace h123 : (zhv (ct81 0) (ct81 11)).toInt = -1 ∨ (0 ≤ (zhv (ct81 0) (ct81 11)).toInt ∧ zfi 17 (ct81 0) < zfi 18 (ct81 0)) := h123
          refine zc_i (va_runS (As := [.int (zhv (ct81 0) (ct81 11))]) (rest := []) ⟨hx, hb, hml, hown, hg⟩ (k_X9_sumSign l g ad me ct81 (zhv (ct81 0) (ct81 11)) hI) (va_cwS 1 hg (z_gS mm_1255 mm_1256 mm_117 mm_1257) rfl rfl rfl (by decide +kernel) ⟨Nat.le_of_ble_eq_true rfl, Nat.le_of_ble_eq_true rfl⟩) (zR.pre [.int (zhv (ct81 0) (ct81 11))] hP hK hN) rfl rfl hl.1 rfl (lv_room (Nat.le_of_ble_eq_true rfl)) dX9_readsSum_18 ⟨Nat.le_of_ble_eq_true rfl, Nat.le_of_ble_eq_true rfl⟩) (fun r124 hr124 => ?_)
          have h125 := hr124
          clear hr124
          replace h125 : r124.toInt = -1 ∨ (2 ≤ r124.toInt ∧ r124.toInt ≤ 6 ∧ 0 ≤ (zhv (ct81 0) (ct81 11)).toInt) := h125
          refine lv_istore_n (lv' := [(2, .int r124), (1, .int wtg12), (0, .ref (ad 0))]) hx hb dX9_readsSum_21 rfl hl (by decide) rfl (fun ls hl => ?_)
          refine lv_iload_n hx hb dX9_readsSum_22 rfl (lv_at hl 0 rfl) ?_
          refine lv_iconst (v := (-1)) hx hb dX9_readsSum_23 (by decide) ?_
          refine lv_icmp_eq (tgt := 83) hx hb dX9_readsSum_24 (by decide) (fun c126 => ?_) (fun c126 => ?_)
          · skip
            have c126 : r124.toInt = (-1) := (z_eq rfl (by decide : ((-1) : Int32).toInt = (-1))).mp c126
            obtain ⟨f1, W1, hRB1, hW1, hk131, hnn1, hfix⟩ := PS.fix j2_14
            have hbw1 := hRB1.1
            refine lv_aload_n hx hb dX9_readsSum_83 rfl (lv_at hl 2 rfl) ?_
            refine zc_i (va_runV (As := []) (rest := []) ⟨hx, hb, hml, hown, hg⟩ (k_X9_here l g ad me ct81  hI) (cwV 0 hg (z_gV mm_1215 mm_1217 mm_63 mm_117 mm_1218) rfl rfl rfl (by decide +kernel) ⟨Nat.le_of_ble_eq_true rfl, Nat.le_of_ble_eq_true rfl⟩) ⟨(zR.pre [.ref (ad 0)] hP hK hN).1, va_recv hK hP (ci := 9) (q0 := 0) rfl (zw_at (by omega) hs82), (zR.pre [.ref (ad 0)] hP hK hN).2⟩ rfl rfl hl.1 rfl (lv_room (Nat.le_of_ble_eq_true rfl)) dX9_readsSum_84 ⟨Nat.le_of_ble_eq_true rfl, Nat.le_of_ble_eq_true rfl⟩) (fun r127 hr127 => ?_)
            obtain ⟨hqr127, h128⟩ := hr127
            subst r127
            replace h128 : (zhv (ct81 0) (ct81 11)).toInt = -1 ∨ (0 ≤ (zhv (ct81 0) (ct81 11)).toInt ∧ zfi 17 (ct81 0) < zfi 18 (ct81 0)) := h128
            refine lv_bipush (v := 93) hx hb dX9_readsSum_87 (by decide) ?_
            refine lv_icmp_ne (tgt := 138) hx hb dX9_readsSum_89 (by decide) (fun c129 => ?_) (fun c129 => ?_)
            · skip
              have c129 : ¬ ((zhv (ct81 0) (ct81 11)).toInt = 93) := fun q => c129 ((z_eq rfl (by decide : (93 : Int32).toInt = 93)).mpr q)
              refine lv_aload_n hx hb dX9_readsSum_138 rfl (lv_at hl 2 rfl) ?_
              refine lv_iload_n hx hb dX9_readsSum_139 rfl (lv_at hl 1 rfl) ?_
              refine zc_i (va_runV (As := [.int wtg12]) (rest := []) ⟨hx, hb, hml, hown, hg⟩ (k_X9_hasOpenSum l g ad me ct81 wtg12 (by first | omega | decide) hI (by first | assumption | omega | decide)) (cwV 1 hg (z_gV mm_1266 mm_1268 mm_74 mm_117 mm_1269) rfl rfl rfl (by decide +kernel) ⟨Nat.le_of_ble_eq_true rfl, Nat.le_of_ble_eq_true rfl⟩) ⟨(zR.pre [.ref (ad 0), .int wtg12] hP hK hN).1, va_recv hK hP (ci := 9) (q0 := 0) rfl (zw_at (by omega) hs82), (zR.pre [.ref (ad 0), .int wtg12] hP hK hN).2⟩ rfl rfl hl.1 rfl (lv_room (Nat.le_of_ble_eq_true rfl)) dX9_readsSum_140 ⟨Nat.le_of_ble_eq_true rfl, Nat.le_of_ble_eq_true rfl⟩) (fun r130 hr130 => ?_)
              rcases hr130 with hr130 | hr130
              · skip
                obtain ⟨rfl, h131⟩ := hr130
                replace h131 : zos (ct81 13) wtg12.toInt (zfi 22 (ct81 0)) := h131
                refine lv_if_eq (tgt := 156) hx hb dX9_readsSum_143 (by decide) (fun c132 => ?_) (fun c132 => ?_)
                · skip
                  exact absurd c132 (by decide)
                · skip
                  refine lv_aload_n hx hb dX9_readsSum_146 rfl (lv_at hl 2 rfl) ?_
                  refine lv_iconst (v := 1) hx hb dX9_readsSum_147 (by decide) ?_
                  refine lv_aload_n hx hb dX9_readsSum_148 rfl (lv_at hl 2 rfl) ?_
                  refine va_get (D := g.1) (ci := 9) (v := .int pl088) (C := RX9) (T := TX9) (N := 47) hx hb hg inG9 hown hK hP 0 (zw_at (by omega) hs82) rfl 17 (by decide) (hg _ mm_975) (fun _ h9 => h9) rfl dX9_readsSum_149 ?_
                  have hFc := zw_free hD hS hA
                  refine va_calli (va_runV (As := [.int 1, .int pl088]) (rest := []) ⟨hx, hb, hml, hown, hg⟩ (k_X9_wrongAt l g _ ad me ct81 (1 : Int32) pl088 hI) (cwV 2 hg (z_gV mm_1223 mm_1225 mm_65 mm_117 mm_1226) rfl rfl rfl (by decide +kernel) ⟨Nat.le_of_ble_eq_true rfl, Nat.le_of_ble_eq_true rfl⟩) ⟨(zA.pre [.ref (ad 0), .int 1, .int pl088] hP hK hD hN).1, va_recv hK hP (ci := 9) (q0 := 0) rfl (zw_at (by omega) hs82), (zA.pre [.ref (ad 0), .int 1, .int pl088] hP hK hD hN).2⟩ rfl rfl hl.1 rfl (lv_room (Nat.le_of_ble_eq_true rfl)) dX9_readsSum_152 ⟨Nat.le_of_ble_eq_true rfl, Nat.le_of_ble_eq_true rfl⟩) hS (fun q _ h => hFc q h) hFc (fun r133 _ t H1 locs ht hvm hr133 hB hz1 hk1 hS => ?_)
                  obtain ⟨ct134, hP1, hD1, hI, hk135, hk136, hk137, hk138, hk139, hk140⟩ := hB
                  rw [ht] at hP1
                  have hD := hD1.weaken (fun _ _ _ h => hFc _ h)
                  generalize H1 = H at hP1 hS ⊢
                  have hP := hP1
                  refine W.widen (k := 0) (n := 0) (Nat.le_refl _) (Nat.le_refl _) ?_
                  have hs141 : ct134 12 = .inl (g.2 0, 120, .inl f119) := hk139.trans hs118
                  have hs142 : ct134 13 = .inl (g.2 0, 120, .inl f121) := hk140.trans hs120
                  obtain rfl := hr133
                  have q143 : (0 : Int32).toInt = 0 := by decide
                  exact W.zret (v := 0) hx hb hr rfl (fun t ht hW => ⟨⟨0, 0, rfl, by first | exact Or.inl ⟨rfl, rfl⟩ | exact Or.inr ⟨rfl, rfl⟩, ct134, by rw [ht]; exact hP, hD, hI, (by first | assumption | omega), (fun q => absurd q (by decide)), (fun q => absurd q (by decide))⟩, hS.F ht⟩) hS.2.2 dX9_readsSum_155
              · skip
                obtain ⟨rfl, h144⟩ := hr130
                replace h144 : zno (ct81 13) wtg12.toInt (zfi 22 (ct81 0)) (zfi 22 (ct81 0)) := h144
                refine lv_if_eq (tgt := 156) hx hb dX9_readsSum_143 (by decide) (fun c145 => ?_) (fun c145 => ?_)
                · skip
                  refine lv_aload_n hx hb dX9_readsSum_156 rfl (lv_at hl 2 rfl) ?_
                  refine lv_iconst (v := 1) hx hb dX9_readsSum_157 (by decide) ?_
                  have hFc := zw_free hD hS hA
                  refine va_callv (va_runV (As := [.int 1]) (rest := []) ⟨hx, hb, hml, hown, hg⟩ (k_X9_closesSums l g _ ad me ct81 (1 : Int32) x y f1 W1 (by first | omega | decide) hI (hfix)) (cwV 1 hg (z_gV mm_1258 mm_1260 mm_72 mm_117 mm_1261) rfl rfl rfl (by decide +kernel) ⟨Nat.le_of_ble_eq_true rfl, Nat.le_of_ble_eq_true rfl⟩) ⟨(zA.pre [.ref (ad 0), .int 1] hP hK hD hN).1, va_recv hK hP (ci := 9) (q0 := 0) rfl (zw_at (by omega) hs82), (zA.pre [.ref (ad 0), .int 1] hP hK hD hN).2⟩ rfl rfl hl.1 rfl (lv_room (Nat.le_of_ble_eq_true rfl)) dX9_readsSum_158 ⟨Nat.le_of_ble_eq_true rfl, Nat.le_of_ble_eq_true rfl⟩) hS (fun q _ h => hFc q h) hFc (fun _ t H1 locs ht hvm hr146 hB hz1 hk1 hS => ?_)
                  obtain ⟨ct147, hP1, hD1, hI, hk148, hk149, hk150⟩ := hB
                  rw [ht] at hP1
                  have hD := hD1.weaken (fun _ _ _ h => hFc _ h)
                  generalize H1 = H at hP1 hS ⊢
                  have hP := hP1
                  refine W.widen (k := 0) (n := 0) (Nat.le_refl _) (Nat.le_refl _) ?_
                  have hno : ∀ k, (zfi 22 (ct 0)).toNat ≤ k → k < W1 → kd (f1 k) ≠ 14 := fun k k1 k2 => h144 _ _ _ hk131 (fun k hk => hnn1 k (by omega)) k (by omega) (by omega)
                  have hps5 := hk150.mono (R2 := R0) (fun fw W _ q => RCa.none hf0 hRB1 q hno)
                  refine lv_iconst (v := 1) hx hb dX9_readsSum_161 (by decide) ?_
                  have q151 : (1 : Int32).toInt = 1 := by decide
                  exact W.zret (v := 1) hx hb hr rfl (fun t ht hW => ⟨⟨1, 1, rfl, by first | exact Or.inl ⟨rfl, rfl⟩ | exact Or.inr ⟨rfl, rfl⟩, ct147, by rw [ht]; exact hP, hD, hI, (by first | assumption | omega), (fun _ => by first | assumption | omega), (fun _ => by first | assumption | omega)⟩, hS.F ht⟩) hS.2.2 dX9_readsSum_162
                · skip
                  exact absurd c145 (by decide)
            · skip
              have c129 : (zhv (ct81 0) (ct81 11)).toInt = 93 := (z_eq rfl (by decide : (93 : Int32).toInt = 93)).mp c129
              refine lv_aload_n hx hb dX9_readsSum_92 rfl (lv_at hl 2 rfl) ?_
              refine lv_iload_n hx hb dX9_readsSum_93 rfl (lv_at hl 1 rfl) ?_
              refine zc_i (va_runV (As := [.int wtg12]) (rest := []) ⟨hx, hb, hml, hown, hg⟩ (k_X9_hasOpenSum l g ad me ct81 wtg12 (by first | omega | decide) hI (by first | assumption | omega | decide)) (cwV 1 hg (z_gV mm_1266 mm_1268 mm_74 mm_117 mm_1269) rfl rfl rfl (by decide +kernel) ⟨Nat.le_of_ble_eq_true rfl, Nat.le_of_ble_eq_true rfl⟩) ⟨(zR.pre [.ref (ad 0), .int wtg12] hP hK hN).1, va_recv hK hP (ci := 9) (q0 := 0) rfl (zw_at (by omega) hs82), (zR.pre [.ref (ad 0), .int wtg12] hP hK hN).2⟩ rfl rfl hl.1 rfl (lv_room (Nat.le_of_ble_eq_true rfl)) dX9_readsSum_94 ⟨Nat.le_of_ble_eq_true rfl, Nat.le_of_ble_eq_true rfl⟩) (fun r152 hr152 => ?_)
              rcases hr152 with hr152 | hr152
              · skip
                obtain ⟨rfl, h153⟩ := hr152
                replace h153 : zos (ct81 13) wtg12.toInt (zfi 22 (ct81 0)) := h153
                refine lv_if_eq (tgt := 138) hx hb dX9_readsSum_97 (by decide) (fun c154 => ?_) (fun c154 => ?_)
                · skip
                  exact absurd c154 (by decide)
                · skip
                  refine lv_aload_n hx hb dX9_readsSum_100 rfl (lv_at hl 2 rfl) ?_
                  refine lv_iconst (v := 1) hx hb dX9_readsSum_101 (by decide) ?_
                  have hFc := zw_free hD hS hA
                  refine va_callv (va_runV (As := [.int 1]) (rest := []) ⟨hx, hb, hml, hown, hg⟩ (k_X9_closesSums l g _ ad me ct81 (1 : Int32) x y f1 W1 (by first | omega | decide) hI (hfix)) (cwV 1 hg (z_gV mm_1258 mm_1260 mm_72 mm_117 mm_1261) rfl rfl rfl (by decide +kernel) ⟨Nat.le_of_ble_eq_true rfl, Nat.le_of_ble_eq_true rfl⟩) ⟨(zA.pre [.ref (ad 0), .int 1] hP hK hD hN).1, va_recv hK hP (ci := 9) (q0 := 0) rfl (zw_at (by omega) hs82), (zA.pre [.ref (ad 0), .int 1] hP hK hD hN).2⟩ rfl rfl hl.1 rfl (lv_room (Nat.le_of_ble_eq_true rfl)) dX9_readsSum_102 ⟨Nat.le_of_ble_eq_true rfl, Nat.le_of_ble_eq_true rfl⟩) hS (fun q _ h => hFc q h) hFc (fun _ t H1 locs ht hvm hr155 hB hz1 hk1 hS => ?_)
                  obtain ⟨ct156, hP1, hD1, hI, hk157, hk158, hk159⟩ := hB
                  rw [ht] at hP1
                  have hD := hD1.weaken (fun _ _ _ h => hFc _ h)
                  generalize H1 = H at hP1 hS ⊢
                  have hP := hP1
                  refine W.widen (k := 0) (n := 0) (Nat.le_refl _) (Nat.le_refl _) ?_
                  have hos : ∃ k : Nat, (zfi 22 (ct 0)).toNat ≤ k ∧ k < W1 ∧ kd (f1 k) = 14 := by
                    obtain ⟨k, ka, kb, kc⟩ := h153 _ _ _ hk131 (fun k hk => hnn1 k (by omega))
                    exact ⟨k, by omega, by omega, kc⟩
                  have hw2 : 2 ≤ zfi 22 (ct156 0) := PS.get hk159 (fun fw W e q => by have t := (RCa.open14 hRB1 q hos).1; omega)
                  have hb1 := PS.bounds hk159
                  obtain ⟨bks161, lks162, gos163, shn164, tpd165, pl0166, ln0167, flt168, opn169, cmy170, wtg171, nm0172, mst173, sus174, cut175, h176, h177, h178, h179, h180, h181, h182, h183, h184, h185, h186, h187, h188, h189, h190, h191, h192, h193, h194, h195, hs160⟩ := a9_0 hI.1
                  have z17_hs160 : zfi 17 (ct156 0) = pl0166.toInt := by rw [hs160]; rfl
                  have z18_hs160 : zfi 18 (ct156 0) = ln0167.toInt := by rw [hs160]; rfl
                  have z21_hs160 : zfi 21 (ct156 0) = cmy170.toInt := by rw [hs160]; rfl
                  have z22_hs160 : zfi 22 (ct156 0) = wtg171.toInt := by rw [hs160]; rfl
                  obtain ⟨f197, hs196⟩ := a9_12 hI.1
                  obtain ⟨f199, hs198⟩ := a9_13 hI.1
                  refine lv_aload_n hx hb dX9_readsSum_105 rfl (lv_at hl 2 rfl) ?_
                  refine lv_aload_n hx hb dX9_readsSum_106 rfl (lv_at hl 2 rfl) ?_
                  refine va_get (D := g.1) (ci := 9) (v := .int wtg171) (C := RX9) (T := TX9) (N := 47) hx hb hg inG9 hown hK hP 0 (zw_at (by omega) hs160) rfl 22 (by decide) (hg _ mm_980) (fun _ h9 => h9) rfl dX9_readsSum_107 ?_
                  refine lv_iconst (v := 1) hx hb dX9_readsSum_110 (by decide) ?_
                  refine lv_isub hx hb dX9_readsSum_111 ?_
                  refine lv_topi (fun x200 ex200 => ?_)
                  have tx200 : x200.toInt = wtg171.toInt - 1 := by rw [ex200]; exact z_sub rfl (by decide : (1 : Int32).toInt = 1) (by omega) (by omega)
                  refine va_put (D := g.1) (ci := 9) (v := .int x200) (ty := .int) (C := RX9) (T := TX9) (N := 47) hx hb hg inG9 tyX9 tyX9_ok nmX9 hown hK hP hD hS 0 (zw_at (by omega) hs160) rfl 22 (by decide) (hg _ mm_980) (fun _ h9 => h9) rfl (by decide +kernel) rfl rfl (Nat.le_of_ble_eq_true rfl) dX9_readsSum_112 (fun H locs hP hD hS => ?_)
                  have hP : zP g ((zw 32 ad ct156).set 0 (ad 0, .inr (9, [.int me, .ref (ad 1), .ref (ad 2), .ref (ad 3), .ref (ad 4), .int bks161, .int lks162, .int gos163, .int shn164, .ref (ad 5), .ref (ad 6), .ref (ad 7), .ref (ad 8), .ref (ad 9), .ref (ad 10), .ref (ad 11), .int tpd165, .int pl0166, .int ln0167, .int flt168, .int opn169, .int cmy170, .int x200, .int nm0172, .ref (ad 12), .ref (ad 13), .ref (ad 14), .ref (ad 15), .ref (ad 16), .ref (ad 17), .ref (ad 18), .ref (ad 19), .ref (ad 20), .ref (ad 21), .ref (ad 22), .ref (ad 23), .ref (ad 24), .ref (ad 25), .ref (ad 26), .ref (ad 27), .int mst173, .int sus174, .ref (ad 28), .ref (ad 29), .ref (ad 30), .ref (ad 31), .int cut175]))) H := hP
                  have hD : va_D A ((zw 32 ad ct156).set 0 (ad 0, .inr (9, [.int me, .ref (ad 1), .ref (ad 2), .ref (ad 3), .ref (ad 4), .int bks161, .int lks162, .int gos163, .int shn164, .ref (ad 5), .ref (ad 6), .ref (ad 7), .ref (ad 8), .ref (ad 9), .ref (ad 10), .ref (ad 11), .int tpd165, .int pl0166, .int ln0167, .int flt168, .int opn169, .int cmy170, .int x200, .int nm0172, .ref (ad 12), .ref (ad 13), .ref (ad 14), .ref (ad 15), .ref (ad 16), .ref (ad 17), .ref (ad 18), .ref (ad 19), .ref (ad 20), .ref (ad 21), .ref (ad 22), .ref (ad 23), .ref (ad 24), .ref (ad 25), .ref (ad 26), .ref (ad 27), .int mst173, .int sus174, .ref (ad 28), .ref (ad 29), .ref (ad 30), .ref (ad 31), .int cut175]))) := hD
                  rw [zw_set (by omega)] at hP hD
                  obtain ⟨ct201, ec202⟩ : ∃ z : Nat → va_E, z = va_up ct156 0 (.inr (9, [.int me, .ref (ad 1), .ref (ad 2), .ref (ad 3), .ref (ad 4), .int bks161, .int lks162, .int gos163, .int shn164, .ref (ad 5), .ref (ad 6), .ref (ad 7), .ref (ad 8), .ref (ad 9), .ref (ad 10), .ref (ad 11), .int tpd165, .int pl0166, .int ln0167, .int flt168, .int opn169, .int cmy170, .int x200, .int nm0172, .ref (ad 12), .ref (ad 13), .ref (ad 14), .ref (ad 15), .ref (ad 16), .ref (ad 17), .ref (ad 18), .ref (ad 19), .ref (ad 20), .ref (ad 21), .ref (ad 22), .ref (ad 23), .ref (ad 24), .ref (ad 25), .ref (ad 26), .ref (ad 27), .int mst173, .int sus174, .ref (ad 28), .ref (ad 29), .ref (ad 30), .ref (ad 31), .int cut175])) := ⟨_, rfl⟩
                  rw [← ec202] at hP hD
                  have hI : IR g ad me ct201 := by rw [ec202]; exact upR hI (by decide) (i9_0 ⟨(bks161 : Int32), (lks162 : Int32), (gos163 : Int32), (shn164 : Int32), (tpd165 : Int32), (pl0166 : Int32), (ln0167 : Int32), (flt168 : Int32), (opn169 : Int32), (cmy170 : Int32), (x200 : Int32), (nm0172 : Int32), (mst173 : Int32), (sus174 : Int32), (cut175 : Int32), (by first | omega | decide), (by first | omega | decide), (by first | omega | decide), (by first | omega | decide), (by first | omega | decide), (by first | omega | decide), (by first | omega | decide), (by first | omega | decide), (by first | omega | decide), (by first | omega | decide), (by first | omega | decide), (by first | omega | decide), (by first | omega | decide), (by first | omega | decide), (by first | omega | decide), (by first | omega | decide), (by first | omega | decide), (by first | omega | decide), (by first | omega | decide), (by first | omega | decide), rfl⟩)
                  have hs203 : ct201 12 = .inl (g.2 0, 120, .inl f197) := by rw [ec202, va_up_ne _ _ (by omega)]; exact hs196
                  have hs204 : ct201 13 = .inl (g.2 0, 120, .inl f199) := by rw [ec202, va_up_ne _ _ (by omega)]; exact hs198
                  have hs205 : ct201 0 = .inr (9, [.int me, .ref (ad 1), .ref (ad 2), .ref (ad 3), .ref (ad 4), .int bks161, .int lks162, .int gos163, .int shn164, .ref (ad 5), .ref (ad 6), .ref (ad 7), .ref (ad 8), .ref (ad 9), .ref (ad 10), .ref (ad 11), .int tpd165, .int pl0166, .int ln0167, .int flt168, .int opn169, .int cmy170, .int x200, .int nm0172, .ref (ad 12), .ref (ad 13), .ref (ad 14), .ref (ad 15), .ref (ad 16), .ref (ad 17), .ref (ad 18), .ref (ad 19), .ref (ad 20), .ref (ad 21), .ref (ad 22), .ref (ad 23), .ref (ad 24), .ref (ad 25), .ref (ad 26), .ref (ad 27), .int mst173, .int sus174, .ref (ad 28), .ref (ad 29), .ref (ad 30), .ref (ad 31), .int cut175]) := by rw [ec202]; exact va_up_self _ _ _
                  have z17_hs205 : zfi 17 (ct201 0) = (pl0166 : Int32).toInt := by rw [hs205]; rfl
                  have z18_hs205 : zfi 18 (ct201 0) = (ln0167 : Int32).toInt := by rw [hs205]; rfl
                  have z21_hs205 : zfi 21 (ct201 0) = (cmy170 : Int32).toInt := by rw [hs205]; rfl
                  have z22_hs205 : zfi 22 (ct201 0) = (x200 : Int32).toInt := by rw [hs205]; rfl
                  refine lv_aload_n hx hb dX9_readsSum_115 rfl (lv_at hl 2 rfl) ?_
                  refine lv_aload_n hx hb dX9_readsSum_116 rfl (lv_at hl 2 rfl) ?_
                  refine va_get (D := g.1) (ci := 9) (v := .int opn169) (C := RX9) (T := TX9) (N := 47) hx hb hg inG9 hown hK hP 0 (zw_at (by omega) hs205) rfl 20 (by decide) (hg _ mm_978) (fun _ h9 => h9) rfl dX9_readsSum_117 ?_
                  refine lv_iconst (v := 1) hx hb dX9_readsSum_120 (by decide) ?_
                  refine lv_isub hx hb dX9_readsSum_121 ?_
                  refine lv_topi (fun x206 ex206 => ?_)
                  refine va_put (D := g.1) (ci := 9) (v := .int x206) (ty := .int) (C := RX9) (T := TX9) (N := 47) hx hb hg inG9 tyX9 tyX9_ok nmX9 hown hK hP hD hS 0 (zw_at (by omega) hs205) rfl 20 (by decide) (hg _ mm_978) (fun _ h9 => h9) rfl (by decide +kernel) rfl rfl (Nat.le_of_ble_eq_true rfl) dX9_readsSum_122 (fun H locs hP hD hS => ?_)
                  have hP : zP g ((zw 32 ad ct201).set 0 (ad 0, .inr (9, [.int me, .ref (ad 1), .ref (ad 2), .ref (ad 3), .ref (ad 4), .int bks161, .int lks162, .int gos163, .int shn164, .ref (ad 5), .ref (ad 6), .ref (ad 7), .ref (ad 8), .ref (ad 9), .ref (ad 10), .ref (ad 11), .int tpd165, .int pl0166, .int ln0167, .int flt168, .int x206, .int cmy170, .int x200, .int nm0172, .ref (ad 12), .ref (ad 13), .ref (ad 14), .ref (ad 15), .ref (ad 16), .ref (ad 17), .ref (ad 18), .ref (ad 19), .ref (ad 20), .ref (ad 21), .ref (ad 22), .ref (ad 23), .ref (ad 24), .ref (ad 25), .ref (ad 26), .ref (ad 27), .int mst173, .int sus174, .ref (ad 28), .ref (ad 29), .ref (ad 30), .ref (ad 31), .int cut175]))) H := hP
                  have hD : va_D A ((zw 32 ad ct201).set 0 (ad 0, .inr (9, [.int me, .ref (ad 1), .ref (ad 2), .ref (ad 3), .ref (ad 4), .int bks161, .int lks162, .int gos163, .int shn164, .ref (ad 5), .ref (ad 6), .ref (ad 7), .ref (ad 8), .ref (ad 9), .ref (ad 10), .ref (ad 11), .int tpd165, .int pl0166, .int ln0167, .int flt168, .int x206, .int cmy170, .int x200, .int nm0172, .ref (ad 12), .ref (ad 13), .ref (ad 14), .ref (ad 15), .ref (ad 16), .ref (ad 17), .ref (ad 18), .ref (ad 19), .ref (ad 20), .ref (ad 21), .ref (ad 22), .ref (ad 23), .ref (ad 24), .ref (ad 25), .ref (ad 26), .ref (ad 27), .int mst173, .int sus174, .ref (ad 28), .ref (ad 29), .ref (ad 30), .ref (ad 31), .int cut175]))) := hD
                  rw [zw_set (by omega)] at hP hD
                  obtain ⟨ct207, ec208⟩ : ∃ z : Nat → va_E, z = va_up ct201 0 (.inr (9, [.int me, .ref (ad 1), .ref (ad 2), .ref (ad 3), .ref (ad 4), .int bks161, .int lks162, .int gos163, .int shn164, .ref (ad 5), .ref (ad 6), .ref (ad 7), .ref (ad 8), .ref (ad 9), .ref (ad 10), .ref (ad 11), .int tpd165, .int pl0166, .int ln0167, .int flt168, .int x206, .int cmy170, .int x200, .int nm0172, .ref (ad 12), .ref (ad 13), .ref (ad 14), .ref (ad 15), .ref (ad 16), .ref (ad 17), .ref (ad 18), .ref (ad 19), .ref (ad 20), .ref (ad 21), .ref (ad 22), .ref (ad 23), .ref (ad 24), .ref (ad 25), .ref (ad 26), .ref (ad 27), .int mst173, .int sus174, .ref (ad 28), .ref (ad 29), .ref (ad 30), .ref (ad 31), .int cut175])) := ⟨_, rfl⟩
                  rw [← ec208] at hP hD
                  have hI : IR g ad me ct207 := by rw [ec208]; exact upR hI (by decide) (i9_0 ⟨(bks161 : Int32), (lks162 : Int32), (gos163 : Int32), (shn164 : Int32), (tpd165 : Int32), (pl0166 : Int32), (ln0167 : Int32), (flt168 : Int32), (x206 : Int32), (cmy170 : Int32), (x200 : Int32), (nm0172 : Int32), (mst173 : Int32), (sus174 : Int32), (cut175 : Int32), (by first | omega | decide), (by first | omega | decide), (by first | omega | decide), (by first | omega | decide), (by first | omega | decide), (by first | omega | decide), (by first | omega | decide), (by first | omega | decide), (by first | omega | decide), (by first | omega | decide), (by first | omega | decide), (by first | omega | decide), (by first | omega | decide), (by first | omega | decide), (by first | omega | decide), (by first | omega | decide), (by first | omega | decide), (by first | omega | decide), (by first | omega | decide), (by first | omega | decide), rfl⟩)
                  have hs209 : ct207 12 = .inl (g.2 0, 120, .inl f197) := by rw [ec208, va_up_ne _ _ (by omega)]; exact hs203
                  have hs210 : ct207 13 = .inl (g.2 0, 120, .inl f199) := by rw [ec208, va_up_ne _ _ (by omega)]; exact hs204
                  have hs211 : ct207 0 = .inr (9, [.int me, .ref (ad 1), .ref (ad 2), .ref (ad 3), .ref (ad 4), .int bks161, .int lks162, .int gos163, .int shn164, .ref (ad 5), .ref (ad 6), .ref (ad 7), .ref (ad 8), .ref (ad 9), .ref (ad 10), .ref (ad 11), .int tpd165, .int pl0166, .int ln0167, .int flt168, .int x206, .int cmy170, .int x200, .int nm0172, .ref (ad 12), .ref (ad 13), .ref (ad 14), .ref (ad 15), .ref (ad 16), .ref (ad 17), .ref (ad 18), .ref (ad 19), .ref (ad 20), .ref (ad 21), .ref (ad 22), .ref (ad 23), .ref (ad 24), .ref (ad 25), .ref (ad 26), .ref (ad 27), .int mst173, .int sus174, .ref (ad 28), .ref (ad 29), .ref (ad 30), .ref (ad 31), .int cut175]) := by rw [ec208]; exact va_up_self _ _ _
                  have z17_hs211 : zfi 17 (ct207 0) = (pl0166 : Int32).toInt := by rw [hs211]; rfl
                  have z18_hs211 : zfi 18 (ct207 0) = (ln0167 : Int32).toInt := by rw [hs211]; rfl
                  have z21_hs211 : zfi 21 (ct207 0) = (cmy170 : Int32).toInt := by rw [hs211]; rfl
                  have z22_hs211 : zfi 22 (ct207 0) = (x200 : Int32).toInt := by rw [hs211]; rfl
                  refine lv_aload_n hx hb dX9_readsSum_125 rfl (lv_at hl 2 rfl) ?_
                  refine lv_aload_n hx hb dX9_readsSum_126 rfl (lv_at hl 2 rfl) ?_
                  refine va_get (D := g.1) (ci := 9) (v := .int pl0166) (C := RX9) (T := TX9) (N := 47) hx hb hg inG9 hown hK hP 0 (zw_at (by omega) hs211) rfl 17 (by decide) (hg _ mm_975) (fun _ h9 => h9) rfl dX9_readsSum_127 ?_
                  refine lv_iconst (v := 1) hx hb dX9_readsSum_130 (by decide) ?_
                  refine lv_iadd hx hb dX9_readsSum_131 ?_
                  refine lv_topi (fun x212 ex212 => ?_)
                  have tx212 : x212.toInt = pl0166.toInt + 1 := by rw [ex212]; exact z_add rfl (by decide : (1 : Int32).toInt = 1) (by omega) (by omega)
                  refine va_put (D := g.1) (ci := 9) (v := .int x212) (ty := .int) (C := RX9) (T := TX9) (N := 47) hx hb hg inG9 tyX9 tyX9_ok nmX9 hown hK hP hD hS 0 (zw_at (by omega) hs211) rfl 17 (by decide) (hg _ mm_975) (fun _ h9 => h9) rfl (by decide +kernel) rfl rfl (Nat.le_of_ble_eq_true rfl) dX9_readsSum_132 (fun H locs hP hD hS => ?_)
                  have hP : zP g ((zw 32 ad ct207).set 0 (ad 0, .inr (9, [.int me, .ref (ad 1), .ref (ad 2), .ref (ad 3), .ref (ad 4), .int bks161, .int lks162, .int gos163, .int shn164, .ref (ad 5), .ref (ad 6), .ref (ad 7), .ref (ad 8), .ref (ad 9), .ref (ad 10), .ref (ad 11), .int tpd165, .int x212, .int ln0167, .int flt168, .int x206, .int cmy170, .int x200, .int nm0172, .ref (ad 12), .ref (ad 13), .ref (ad 14), .ref (ad 15), .ref (ad 16), .ref (ad 17), .ref (ad 18), .ref (ad 19), .ref (ad 20), .ref (ad 21), .ref (ad 22), .ref (ad 23), .ref (ad 24), .ref (ad 25), .ref (ad 26), .ref (ad 27), .int mst173, .int sus174, .ref (ad 28), .ref (ad 29), .ref (ad 30), .ref (ad 31), .int cut175]))) H := hP
                  have hD : va_D A ((zw 32 ad ct207).set 0 (ad 0, .inr (9, [.int me, .ref (ad 1), .ref (ad 2), .ref (ad 3), .ref (ad 4), .int bks161, .int lks162, .int gos163, .int shn164, .ref (ad 5), .ref (ad 6), .ref (ad 7), .ref (ad 8), .ref (ad 9), .ref (ad 10), .ref (ad 11), .int tpd165, .int x212, .int ln0167, .int flt168, .int x206, .int cmy170, .int x200, .int nm0172, .ref (ad 12), .ref (ad 13), .ref (ad 14), .ref (ad 15), .ref (ad 16), .ref (ad 17), .ref (ad 18), .ref (ad 19), .ref (ad 20), .ref (ad 21), .ref (ad 22), .ref (ad 23), .ref (ad 24), .ref (ad 25), .ref (ad 26), .ref (ad 27), .int mst173, .int sus174, .ref (ad 28), .ref (ad 29), .ref (ad 30), .ref (ad 31), .int cut175]))) := hD
                  rw [zw_set (by omega)] at hP hD
                  obtain ⟨ct213, ec214⟩ : ∃ z : Nat → va_E, z = va_up ct207 0 (.inr (9, [.int me, .ref (ad 1), .ref (ad 2), .ref (ad 3), .ref (ad 4), .int bks161, .int lks162, .int gos163, .int shn164, .ref (ad 5), .ref (ad 6), .ref (ad 7), .ref (ad 8), .ref (ad 9), .ref (ad 10), .ref (ad 11), .int tpd165, .int x212, .int ln0167, .int flt168, .int x206, .int cmy170, .int x200, .int nm0172, .ref (ad 12), .ref (ad 13), .ref (ad 14), .ref (ad 15), .ref (ad 16), .ref (ad 17), .ref (ad 18), .ref (ad 19), .ref (ad 20), .ref (ad 21), .ref (ad 22), .ref (ad 23), .ref (ad 24), .ref (ad 25), .ref (ad 26), .ref (ad 27), .int mst173, .int sus174, .ref (ad 28), .ref (ad 29), .ref (ad 30), .ref (ad 31), .int cut175])) := ⟨_, rfl⟩
                  rw [← ec214] at hP hD
                  have hI : IR g ad me ct213 := by rw [ec214]; exact upR hI (by decide) (i9_0 ⟨(bks161 : Int32), (lks162 : Int32), (gos163 : Int32), (shn164 : Int32), (tpd165 : Int32), (x212 : Int32), (ln0167 : Int32), (flt168 : Int32), (x206 : Int32), (cmy170 : Int32), (x200 : Int32), (nm0172 : Int32), (mst173 : Int32), (sus174 : Int32), (cut175 : Int32), (by first | omega | decide), (by first | omega | decide), (by first | omega | decide), (by first | omega | decide), (by first | omega | decide), (by first | omega | decide), (by first | omega | decide), (by first | omega | decide), (by first | omega | decide), (by first | omega | decide), (by first | omega | decide), (by first | omega | decide), (by first | omega | decide), (by first | omega | decide), (by first | omega | decide), (by first | omega | decide), (by first | omega | decide), (by first | omega | decide), (by first | omega | decide), (by first | omega | decide), rfl⟩)
                  have hs215 : ct213 12 = .inl (g.2 0, 120, .inl f197) := by rw [ec214, va_up_ne _ _ (by omega)]; exact hs209
                  have hs216 : ct213 13 = .inl (g.2 0, 120, .inl f199) := by rw [ec214, va_up_ne _ _ (by omega)]; exact hs210
                  have hs217 : ct213 0 = .inr (9, [.int me, .ref (ad 1), .ref (ad 2), .ref (ad 3), .ref (ad 4), .int bks161, .int lks162, .int gos163, .int shn164, .ref (ad 5), .ref (ad 6), .ref (ad 7), .ref (ad 8), .ref (ad 9), .ref (ad 10), .ref (ad 11), .int tpd165, .int x212, .int ln0167, .int flt168, .int x206, .int cmy170, .int x200, .int nm0172, .ref (ad 12), .ref (ad 13), .ref (ad 14), .ref (ad 15), .ref (ad 16), .ref (ad 17), .ref (ad 18), .ref (ad 19), .ref (ad 20), .ref (ad 21), .ref (ad 22), .ref (ad 23), .ref (ad 24), .ref (ad 25), .ref (ad 26), .ref (ad 27), .int mst173, .int sus174, .ref (ad 28), .ref (ad 29), .ref (ad 30), .ref (ad 31), .int cut175]) := by rw [ec214]; exact va_up_self _ _ _
                  have z17_hs217 : zfi 17 (ct213 0) = (x212 : Int32).toInt := by rw [hs217]; rfl
                  have z18_hs217 : zfi 18 (ct213 0) = (ln0167 : Int32).toInt := by rw [hs217]; rfl
                  have z21_hs217 : zfi 21 (ct213 0) = (cmy170 : Int32).toInt := by rw [hs217]; rfl
                  have z22_hs217 : zfi 22 (ct213 0) = (x200 : Int32).toInt := by rw [hs217]; rfl
                  have hps4 := PS.pop hk159 (R2 := RB (zfi 22 (ct 0)).toNat f0) (by omega) (by omega) (by omega) (by omega) (by omega) hw2 (hs215.trans hs196.symm) (hs216.trans hs198.symm) (fun fw W q hw1 => by
                    have t := RCa.open14 hRB1 q hos
                    rw [Nat.add_sub_cancel] at t
                    exact ⟨by omega, by omega, t.2.2⟩)
                  refine lv_goto (tgt := 163) hx hb dX9_readsSum_135 (by decide) ?_
                  refine lv_goto (tgt := 14) hx hb dX9_readsSum_163 (by decide) ?_
                  exact ih14  ct213 _ _ ls (by omega) (by first | assumption | omega | decide) (by first | assumption | omega | decide) (by first | assumption | omega | decide) hI hP hD hS (lv_sub hl [1, 2] rfl)
              · skip
                obtain ⟨rfl, h218⟩ := hr152
                replace h218 : zno (ct81 13) wtg12.toInt (zfi 22 (ct81 0)) (zfi 22 (ct81 0)) := h218
                refine lv_if_eq (tgt := 138) hx hb dX9_readsSum_97 (by decide) (fun c219 => ?_) (fun c219 => ?_)
                · skip
                  refine lv_aload_n hx hb dX9_readsSum_138 rfl (lv_at hl 2 rfl) ?_
                  refine lv_iload_n hx hb dX9_readsSum_139 rfl (lv_at hl 1 rfl) ?_
                  refine zc_i (va_runV (As := [.int wtg12]) (rest := []) ⟨hx, hb, hml, hown, hg⟩ (k_X9_hasOpenSum l g ad me ct81 wtg12 (by first | omega | decide) hI (by first | assumption | omega | decide)) (cwV 1 hg (z_gV mm_1266 mm_1268 mm_74 mm_117 mm_1269) rfl rfl rfl (by decide +kernel) ⟨Nat.le_of_ble_eq_true rfl, Nat.le_of_ble_eq_true rfl⟩) ⟨(zR.pre [.ref (ad 0), .int wtg12] hP hK hN).1, va_recv hK hP (ci := 9) (q0 := 0) rfl (zw_at (by omega) hs82), (zR.pre [.ref (ad 0), .int wtg12] hP hK hN).2⟩ rfl rfl hl.1 rfl (lv_room (Nat.le_of_ble_eq_true rfl)) dX9_readsSum_140 ⟨Nat.le_of_ble_eq_true rfl, Nat.le_of_ble_eq_true rfl⟩) (fun r220 hr220 => ?_)
                  rcases hr220 with hr220 | hr220
                  · skip
                    obtain ⟨rfl, h221⟩ := hr220
                    replace h221 : zos (ct81 13) wtg12.toInt (zfi 22 (ct81 0)) := h221
                    refine lv_if_eq (tgt := 156) hx hb dX9_readsSum_143 (by decide) (fun c222 => ?_) (fun c222 => ?_)
                    · skip
                      exact absurd c222 (by decide)
                    · skip
                      refine lv_aload_n hx hb dX9_readsSum_146 rfl (lv_at hl 2 rfl) ?_
                      refine lv_iconst (v := 1) hx hb dX9_readsSum_147 (by decide) ?_
                      refine lv_aload_n hx hb dX9_readsSum_148 rfl (lv_at hl 2 rfl) ?_
                      refine va_get (D := g.1) (ci := 9) (v := .int pl088) (C := RX9) (T := TX9) (N := 47) hx hb hg inG9 hown hK hP 0 (zw_at (by omega) hs82) rfl 17 (by decide) (hg _ mm_975) (fun _ h9 => h9) rfl dX9_readsSum_149 ?_
                      have hFc := zw_free hD hS hA
                      refine va_calli (va_runV (As := [.int 1, .int pl088]) (rest := []) ⟨hx, hb, hml, hown, hg⟩ (k_X9_wrongAt l g _ ad me ct81 (1 : Int32) pl088 hI) (cwV 2 hg (z_gV mm_1223 mm_1225 mm_65 mm_117 mm_1226) rfl rfl rfl (by decide +kernel) ⟨Nat.le_of_ble_eq_true rfl, Nat.le_of_ble_eq_true rfl⟩) ⟨(zA.pre [.ref (ad 0), .int 1, .int pl088] hP hK hD hN).1, va_recv hK hP (ci := 9) (q0 := 0) rfl (zw_at (by omega) hs82), (zA.pre [.ref (ad 0), .int 1, .int pl088] hP hK hD hN).2⟩ rfl rfl hl.1 rfl (lv_room (Nat.le_of_ble_eq_true rfl)) dX9_readsSum_152 ⟨Nat.le_of_ble_eq_true rfl, Nat.le_of_ble_eq_true rfl⟩) hS (fun q _ h => hFc q h) hFc (fun r223 _ t H1 locs ht hvm hr223 hB hz1 hk1 hS => ?_)
                      obtain ⟨ct224, hP1, hD1, hI, hk225, hk226, hk227, hk228, hk229, hk230⟩ := hB
                      rw [ht] at hP1
                      have hD := hD1.weaken (fun _ _ _ h => hFc _ h)
                      generalize H1 = H at hP1 hS ⊢
                      have hP := hP1
                      refine W.widen (k := 0) (n := 0) (Nat.le_refl _) (Nat.le_refl _) ?_
                      have hs231 : ct224 12 = .inl (g.2 0, 120, .inl f119) := hk229.trans hs118
                      have hs232 : ct224 13 = .inl (g.2 0, 120, .inl f121) := hk230.trans hs120
                      obtain rfl := hr223
                      have q233 : (0 : Int32).toInt = 0 := by decide
                      exact W.zret (v := 0) hx hb hr rfl (fun t ht hW => ⟨⟨0, 0, rfl, by first | exact Or.inl ⟨rfl, rfl⟩ | exact Or.inr ⟨rfl, rfl⟩, ct224, by rw [ht]; exact hP, hD, hI, (by first | assumption | omega), (fun q => absurd q (by decide)), (fun q => absurd q (by decide))⟩, hS.F ht⟩) hS.2.2 dX9_readsSum_155
                  · skip
                    obtain ⟨rfl, h234⟩ := hr220
                    replace h234 : zno (ct81 13) wtg12.toInt (zfi 22 (ct81 0)) (zfi 22 (ct81 0)) := h234
                    refine lv_if_eq (tgt := 156) hx hb dX9_readsSum_143 (by decide) (fun c235 => ?_) (fun c235 => ?_)
                    · skip
                      refine lv_aload_n hx hb dX9_readsSum_156 rfl (lv_at hl 2 rfl) ?_
                      refine lv_iconst (v := 1) hx hb dX9_readsSum_157 (by decide) ?_
                      have hFc := zw_free hD hS hA
                      refine va_callv (va_runV (As := [.int 1]) (rest := []) ⟨hx, hb, hml, hown, hg⟩ (k_X9_closesSums l g _ ad me ct81 (1 : Int32) x y f1 W1 (by first | omega | decide) hI (hfix)) (cwV 1 hg (z_gV mm_1258 mm_1260 mm_72 mm_117 mm_1261) rfl rfl rfl (by decide +kernel) ⟨Nat.le_of_ble_eq_true rfl, Nat.le_of_ble_eq_true rfl⟩) ⟨(zA.pre [.ref (ad 0), .int 1] hP hK hD hN).1, va_recv hK hP (ci := 9) (q0 := 0) rfl (zw_at (by omega) hs82), (zA.pre [.ref (ad 0), .int 1] hP hK hD hN).2⟩ rfl rfl hl.1 rfl (lv_room (Nat.le_of_ble_eq_true rfl)) dX9_readsSum_158 ⟨Nat.le_of_ble_eq_true rfl, Nat.le_of_ble_eq_true rfl⟩) hS (fun q _ h => hFc q h) hFc (fun _ t H1 locs ht hvm hr236 hB hz1 hk1 hS => ?_)
                      obtain ⟨ct237, hP1, hD1, hI, hk238, hk239, hk240⟩ := hB
                      rw [ht] at hP1
                      have hD := hD1.weaken (fun _ _ _ h => hFc _ h)
                      generalize H1 = H at hP1 hS ⊢
                      have hP := hP1
                      refine W.widen (k := 0) (n := 0) (Nat.le_refl _) (Nat.le_refl _) ?_
                      have hno : ∀ k, (zfi 22 (ct 0)).toNat ≤ k → k < W1 → kd (f1 k) ≠ 14 := fun k k1 k2 => h234 _ _ _ hk131 (fun k hk => hnn1 k (by omega)) k (by omega) (by omega)
                      have hps5 := hk240.mono (R2 := R0) (fun fw W _ q => RCa.none hf0 hRB1 q hno)
                      refine lv_iconst (v := 1) hx hb dX9_readsSum_161 (by decide) ?_
                      have q241 : (1 : Int32).toInt = 1 := by decide
                      exact W.zret (v := 1) hx hb hr rfl (fun t ht hW => ⟨⟨1, 1, rfl, by first | exact Or.inl ⟨rfl, rfl⟩ | exact Or.inr ⟨rfl, rfl⟩, ct237, by rw [ht]; exact hP, hD, hI, (by first | assumption | omega), (fun _ => by first | assumption | omega), (fun _ => by first | assumption | omega)⟩, hS.F ht⟩) hS.2.2 dX9_readsSum_162
                    · skip
                      exact absurd c235 (by decide)
                · skip
                  exact absurd c219 (by decide)
          · skip
            have c126 : ¬ (r124.toInt = (-1)) := fun q => c126 ((z_eq rfl (by decide : ((-1) : Int32).toInt = (-1))).mpr q)
            obtain ⟨f1, W1, hRB1, hW1, hk131, hnn1, hfix⟩ := PS.fix j2_14
            have hbw1 := hRB1.1
            refine lv_aload_n hx hb dX9_readsSum_27 rfl (lv_at hl 2 rfl) ?_
            refine lv_iload_n hx hb dX9_readsSum_28 rfl (lv_at hl 0 rfl) ?_
            refine lv_iconst (v := 4) hx hb dX9_readsSum_29 (by decide) ?_
            refine lv_icmp_ge (tgt := 37) hx hb dX9_readsSum_30 (by decide) (fun c242 => ?_) (fun c242 => ?_)
            · skip
              have c242 : 4 ≤ r124.toInt := (z_le (by decide : (4 : Int32).toInt = 4) rfl).mp c242
              refine lv_iconst (v := 0) hx hb dX9_readsSum_37 (by decide) ?_
              have hFc := zw_free hD hS hA
              refine va_callv (va_runV (As := [.int 0]) (rest := []) ⟨hx, hb, hml, hown, hg⟩ (k_X9_closesSums l g _ ad me ct81 (0 : Int32) x y f1 W1 (by first | omega | decide) hI (hfix)) (cwV 1 hg (z_gV mm_1258 mm_1260 mm_72 mm_117 mm_1261) rfl rfl rfl (by decide +kernel) ⟨Nat.le_of_ble_eq_true rfl, Nat.le_of_ble_eq_true rfl⟩) ⟨(zA.pre [.ref (ad 0), .int 0] hP hK hD hN).1, va_recv hK hP (ci := 9) (q0 := 0) rfl (zw_at (by omega) hs82), (zA.pre [.ref (ad 0), .int 0] hP hK hD hN).2⟩ rfl rfl hl.1 rfl (lv_room (Nat.le_of_ble_eq_true rfl)) dX9_readsSum_38 ⟨Nat.le_of_ble_eq_true rfl, Nat.le_of_ble_eq_true rfl⟩) hS (fun q _ h => hFc q h) hFc (fun _ t H1 locs ht hvm hr243 hB hz1 hk1 hS => ?_)
              obtain ⟨ct244, hP1, hD1, hI, hk245, hk246, hk247⟩ := hB
              rw [ht] at hP1
              have hD := hD1.weaken (fun _ _ _ h => hFc _ h)
              generalize H1 = H at hP1 hS ⊢
              have hP := hP1
              refine W.widen (k := 0) (n := 0) (Nat.le_refl _) (Nat.le_refl _) ?_
              have hps3 := hk247.mono (R2 := RB (zfi 22 (ct 0)).toNat f0) (fun fw W _ h => RCa.low hf0 hRB1 h)
              have hb1 := PS.bounds hps3
              obtain ⟨bks249, lks250, gos251, shn252, tpd253, pl0254, ln0255, flt256, opn257, cmy258, wtg259, nm0260, mst261, sus262, cut263, h264, h265, h266, h267, h268, h269, h270, h271, h272, h273, h274, h275, h276, h277, h278, h279, h280, h281, h282, h283, hs248⟩ := a9_0 hI.1
              have z17_hs248 : zfi 17 (ct244 0) = pl0254.toInt := by rw [hs248]; rfl
              have z18_hs248 : zfi 18 (ct244 0) = ln0255.toInt := by rw [hs248]; rfl
              have z21_hs248 : zfi 21 (ct244 0) = cmy258.toInt := by rw [hs248]; rfl
              have z22_hs248 : zfi 22 (ct244 0) = wtg259.toInt := by rw [hs248]; rfl
              obtain ⟨f285, hs284⟩ := a9_12 hI.1
              obtain ⟨f287, hs286⟩ := a9_13 hI.1
              refine lv_aload_n hx hb dX9_readsSum_41 rfl (lv_at hl 2 rfl) ?_
              refine va_get (D := g.1) (ci := 9) (v := .ref (ad 13)) (C := RX9) (T := TX9) (N := 47) hx hb hg inG9 hown hK hP 0 (zw_at (by omega) hs248) rfl 25 (by decide) (hg _ mm_983) (fun _ h9 => h9) rfl dX9_readsSum_42 ?_
              refine lv_aload_n hx hb dX9_readsSum_45 rfl (lv_at hl 2 rfl) ?_
              refine va_get (D := g.1) (ci := 9) (v := .int wtg259) (C := RX9) (T := TX9) (N := 47) hx hb hg inG9 hown hK hP 0 (zw_at (by omega) hs248) rfl 22 (by decide) (hg _ mm_980) (fun _ h9 => h9) rfl dX9_readsSum_46 ?_
              refine lv_ldc hx hb hown (hg _ mm_1227) dX9_readsSum_49 ?_
              refine lv_iload_n hx hb dX9_readsSum_51 rfl (lv_at hl 0 rfl) ?_
              refine lv_imul hx hb dX9_readsSum_52 ?_
              refine lv_topi (fun x288 ex288 => ?_)
              have tx288 : x288.toInt = 1048576 * r124.toInt := by rw [ex288]; exact z_mul (by decide : (1048576 : Int32).toInt = 1048576) rfl (by omega) (by omega)
              refine va_iast hx hb hK hP hD hS 13 0 (zw_at (by omega) hs286) rfl (z_in rfl (by omega) (by omega)) dX9_readsSum_53 (fun H locs hP hD hS => ?_)
              have hP : zP g ((zw 32 ad ct244).set 13 (ad 13, .inl (g.2 0, 120, .inl (upd f287 (Int32.toNatClampNeg wtg259) x288)))) H := hP
              have hD : va_D A ((zw 32 ad ct244).set 13 (ad 13, .inl (g.2 0, 120, .inl (upd f287 (Int32.toNatClampNeg wtg259) x288)))) := hD
              rw [zw_set (by omega)] at hP hD
              obtain ⟨ct290, ec291⟩ : ∃ z : Nat → va_E, z = va_up ct244 13 (.inl (g.2 0, 120, .inl (upd f287 (Int32.toNatClampNeg wtg259) x288))) := ⟨_, rfl⟩
              rw [← ec291] at hP hD
              have hI : IR g ad me ct290 := by rw [ec291]; exact upR hI (by decide) (i9_13 ⟨_, rfl⟩)
              have hs292 : ct290 0 = .inr (9, [.int me, .ref (ad 1), .ref (ad 2), .ref (ad 3), .ref (ad 4), .int bks249, .int lks250, .int gos251, .int shn252, .ref (ad 5), .ref (ad 6), .ref (ad 7), .ref (ad 8), .ref (ad 9), .ref (ad 10), .ref (ad 11), .int tpd253, .int pl0254, .int ln0255, .int flt256, .int opn257, .int cmy258, .int wtg259, .int nm0260, .ref (ad 12), .ref (ad 13), .ref (ad 14), .ref (ad 15), .ref (ad 16), .ref (ad 17), .ref (ad 18), .ref (ad 19), .ref (ad 20), .ref (ad 21), .ref (ad 22), .ref (ad 23), .ref (ad 24), .ref (ad 25), .ref (ad 26), .ref (ad 27), .int mst261, .int sus262, .ref (ad 28), .ref (ad 29), .ref (ad 30), .ref (ad 31), .int cut263]) := by rw [ec291, va_up_ne _ _ (by omega)]; exact hs248
              have hs293 : ct290 12 = .inl (g.2 0, 120, .inl f285) := by rw [ec291, va_up_ne _ _ (by omega)]; exact hs284
              have hs294 : ct290 13 = .inl (g.2 0, 120, .inl (upd f287 (Int32.toNatClampNeg wtg259) x288)) := by rw [ec291]; exact va_up_self _ _ _
              have z17_hs292 : zfi 17 (ct290 0) = (pl0254 : Int32).toInt := by rw [hs292]; rfl
              have z18_hs292 : zfi 18 (ct290 0) = (ln0255 : Int32).toInt := by rw [hs292]; rfl
              have z21_hs292 : zfi 21 (ct290 0) = (cmy258 : Int32).toInt := by rw [hs292]; rfl
              have z22_hs292 : zfi 22 (ct290 0) = (wtg259 : Int32).toInt := by rw [hs292]; rfl
              refine lv_aload_n hx hb dX9_readsSum_54 rfl (lv_at hl 2 rfl) ?_
              refine lv_aload_n hx hb dX9_readsSum_55 rfl (lv_at hl 2 rfl) ?_
              refine va_get (D := g.1) (ci := 9) (v := .int wtg259) (C := RX9) (T := TX9) (N := 47) hx hb hg inG9 hown hK hP 0 (zw_at (by omega) hs292) rfl 22 (by decide) (hg _ mm_980) (fun _ h9 => h9) rfl dX9_readsSum_56 ?_
              refine lv_iconst (v := 1) hx hb dX9_readsSum_59 (by decide) ?_
              refine lv_iadd hx hb dX9_readsSum_60 ?_
              refine lv_topi (fun x295 ex295 => ?_)
              have tx295 : x295.toInt = wtg259.toInt + 1 := by rw [ex295]; exact z_add rfl (by decide : (1 : Int32).toInt = 1) (by omega) (by omega)
              refine va_put (D := g.1) (ci := 9) (v := .int x295) (ty := .int) (C := RX9) (T := TX9) (N := 47) hx hb hg inG9 tyX9 tyX9_ok nmX9 hown hK hP hD hS 0 (zw_at (by omega) hs292) rfl 22 (by decide) (hg _ mm_980) (fun _ h9 => h9) rfl (by decide +kernel) rfl rfl (Nat.le_of_ble_eq_true rfl) dX9_readsSum_61 (fun H locs hP hD hS => ?_)
              have hP : zP g ((zw 32 ad ct290).set 0 (ad 0, .inr (9, [.int me, .ref (ad 1), .ref (ad 2), .ref (ad 3), .ref (ad 4), .int bks249, .int lks250, .int gos251, .int shn252, .ref (ad 5), .ref (ad 6), .ref (ad 7), .ref (ad 8), .ref (ad 9), .ref (ad 10), .ref (ad 11), .int tpd253, .int pl0254, .int ln0255, .int flt256, .int opn257, .int cmy258, .int x295, .int nm0260, .ref (ad 12), .ref (ad 13), .ref (ad 14), .ref (ad 15), .ref (ad 16), .ref (ad 17), .ref (ad 18), .ref (ad 19), .ref (ad 20), .ref (ad 21), .ref (ad 22), .ref (ad 23), .ref (ad 24), .ref (ad 25), .ref (ad 26), .ref (ad 27), .int mst261, .int sus262, .ref (ad 28), .ref (ad 29), .ref (ad 30), .ref (ad 31), .int cut263]))) H := hP
              have hD : va_D A ((zw 32 ad ct290).set 0 (ad 0, .inr (9, [.int me, .ref (ad 1), .ref (ad 2), .ref (ad 3), .ref (ad 4), .int bks249, .int lks250, .int gos251, .int shn252, .ref (ad 5), .ref (ad 6), .ref (ad 7), .ref (ad 8), .ref (ad 9), .ref (ad 10), .ref (ad 11), .int tpd253, .int pl0254, .int ln0255, .int flt256, .int opn257, .int cmy258, .int x295, .int nm0260, .ref (ad 12), .ref (ad 13), .ref (ad 14), .ref (ad 15), .ref (ad 16), .ref (ad 17), .ref (ad 18), .ref (ad 19), .ref (ad 20), .ref (ad 21), .ref (ad 22), .ref (ad 23), .ref (ad 24), .ref (ad 25), .ref (ad 26), .ref (ad 27), .int mst261, .int sus262, .ref (ad 28), .ref (ad 29), .ref (ad 30), .ref (ad 31), .int cut263]))) := hD
              rw [zw_set (by omega)] at hP hD
              obtain ⟨ct296, ec297⟩ : ∃ z : Nat → va_E, z = va_up ct290 0 (.inr (9, [.int me, .ref (ad 1), .ref (ad 2), .ref (ad 3), .ref (ad 4), .int bks249, .int lks250, .int gos251, .int shn252, .ref (ad 5), .ref (ad 6), .ref (ad 7), .ref (ad 8), .ref (ad 9), .ref (ad 10), .ref (ad 11), .int tpd253, .int pl0254, .int ln0255, .int flt256, .int opn257, .int cmy258, .int x295, .int nm0260, .ref (ad 12), .ref (ad 13), .ref (ad 14), .ref (ad 15), .ref (ad 16), .ref (ad 17), .ref (ad 18), .ref (ad 19), .ref (ad 20), .ref (ad 21), .ref (ad 22), .ref (ad 23), .ref (ad 24), .ref (ad 25), .ref (ad 26), .ref (ad 27), .int mst261, .int sus262, .ref (ad 28), .ref (ad 29), .ref (ad 30), .ref (ad 31), .int cut263])) := ⟨_, rfl⟩
              rw [← ec297] at hP hD
              have hI : IR g ad me ct296 := by rw [ec297]; exact upR hI (by decide) (i9_0 ⟨(bks249 : Int32), (lks250 : Int32), (gos251 : Int32), (shn252 : Int32), (tpd253 : Int32), (pl0254 : Int32), (ln0255 : Int32), (flt256 : Int32), (opn257 : Int32), (cmy258 : Int32), (x295 : Int32), (nm0260 : Int32), (mst261 : Int32), (sus262 : Int32), (cut263 : Int32), (by first | omega | decide), (by first | omega | decide), (by first | omega | decide), (by first | omega | decide), (by first | omega | decide), (by first | omega | decide), (by first | omega | decide), (by first | omega | decide), (by first | omega | decide), (by first | omega | decide), (by first | omega | decide), (by first | omega | decide), (by first | omega | decide), (by first | omega | decide), (by first | omega | decide), (by first | omega | decide), (by first | omega | decide), (by first | omega | decide), (by first | omega | decide), (by first | omega | decide), rfl⟩)
              have hs298 : ct296 12 = .inl (g.2 0, 120, .inl f285) := by rw [ec297, va_up_ne _ _ (by omega)]; exact hs293
              have hs299 : ct296 13 = .inl (g.2 0, 120, .inl (upd f287 (Int32.toNatClampNeg wtg259) x288)) := by rw [ec297, va_up_ne _ _ (by omega)]; exact hs294
              have hs300 : ct296 0 = .inr (9, [.int me, .ref (ad 1), .ref (ad 2), .ref (ad 3), .ref (ad 4), .int bks249, .int lks250, .int gos251, .int shn252, .ref (ad 5), .ref (ad 6), .ref (ad 7), .ref (ad 8), .ref (ad 9), .ref (ad 10), .ref (ad 11), .int tpd253, .int pl0254, .int ln0255, .int flt256, .int opn257, .int cmy258, .int x295, .int nm0260, .ref (ad 12), .ref (ad 13), .ref (ad 14), .ref (ad 15), .ref (ad 16), .ref (ad 17), .ref (ad 18), .ref (ad 19), .ref (ad 20), .ref (ad 21), .ref (ad 22), .ref (ad 23), .ref (ad 24), .ref (ad 25), .ref (ad 26), .ref (ad 27), .int mst261, .int sus262, .ref (ad 28), .ref (ad 29), .ref (ad 30), .ref (ad 31), .int cut263]) := by rw [ec297]; exact va_up_self _ _ _
              have z17_hs300 : zfi 17 (ct296 0) = (pl0254 : Int32).toInt := by rw [hs300]; rfl
              have z18_hs300 : zfi 18 (ct296 0) = (ln0255 : Int32).toInt := by rw [hs300]; rfl
              have z21_hs300 : zfi 21 (ct296 0) = (cmy258 : Int32).toInt := by rw [hs300]; rfl
              have z22_hs300 : zfi 22 (ct296 0) = (x295 : Int32).toInt := by rw [hs300]; rfl
              refine lv_aload_n hx hb dX9_readsSum_64 rfl (lv_at hl 2 rfl) ?_
              refine lv_aload_n hx hb dX9_readsSum_65 rfl (lv_at hl 2 rfl) ?_
              refine va_get (D := g.1) (ci := 9) (v := .int pl0254) (C := RX9) (T := TX9) (N := 47) hx hb hg inG9 hown hK hP 0 (zw_at (by omega) hs300) rfl 17 (by decide) (hg _ mm_975) (fun _ h9 => h9) rfl dX9_readsSum_66 ?_
              refine lv_iconst (v := 1) hx hb dX9_readsSum_69 (by decide) ?_
              refine lv_iadd hx hb dX9_readsSum_70 ?_
              refine lv_topi (fun x301 ex301 => ?_)
              have tx301 : x301.toInt = pl0254.toInt + 1 := by rw [ex301]; exact z_add rfl (by decide : (1 : Int32).toInt = 1) (by omega) (by omega)
              refine va_put (D := g.1) (ci := 9) (v := .int x301) (ty := .int) (C := RX9) (T := TX9) (N := 47) hx hb hg inG9 tyX9 tyX9_ok nmX9 hown hK hP hD hS 0 (zw_at (by omega) hs300) rfl 17 (by decide) (hg _ mm_975) (fun _ h9 => h9) rfl (by decide +kernel) rfl rfl (Nat.le_of_ble_eq_true rfl) dX9_readsSum_71 (fun H locs hP hD hS => ?_)
              have hP : zP g ((zw 32 ad ct296).set 0 (ad 0, .inr (9, [.int me, .ref (ad 1), .ref (ad 2), .ref (ad 3), .ref (ad 4), .int bks249, .int lks250, .int gos251, .int shn252, .ref (ad 5), .ref (ad 6), .ref (ad 7), .ref (ad 8), .ref (ad 9), .ref (ad 10), .ref (ad 11), .int tpd253, .int x301, .int ln0255, .int flt256, .int opn257, .int cmy258, .int x295, .int nm0260, .ref (ad 12), .ref (ad 13), .ref (ad 14), .ref (ad 15), .ref (ad 16), .ref (ad 17), .ref (ad 18), .ref (ad 19), .ref (ad 20), .ref (ad 21), .ref (ad 22), .ref (ad 23), .ref (ad 24), .ref (ad 25), .ref (ad 26), .ref (ad 27), .int mst261, .int sus262, .ref (ad 28), .ref (ad 29), .ref (ad 30), .ref (ad 31), .int cut263]))) H := hP
              have hD : va_D A ((zw 32 ad ct296).set 0 (ad 0, .inr (9, [.int me, .ref (ad 1), .ref (ad 2), .ref (ad 3), .ref (ad 4), .int bks249, .int lks250, .int gos251, .int shn252, .ref (ad 5), .ref (ad 6), .ref (ad 7), .ref (ad 8), .ref (ad 9), .ref (ad 10), .ref (ad 11), .int tpd253, .int x301, .int ln0255, .int flt256, .int opn257, .int cmy258, .int x295, .int nm0260, .ref (ad 12), .ref (ad 13), .ref (ad 14), .ref (ad 15), .ref (ad 16), .ref (ad 17), .ref (ad 18), .ref (ad 19), .ref (ad 20), .ref (ad 21), .ref (ad 22), .ref (ad 23), .ref (ad 24), .ref (ad 25), .ref (ad 26), .ref (ad 27), .int mst261, .int sus262, .ref (ad 28), .ref (ad 29), .ref (ad 30), .ref (ad 31), .int cut263]))) := hD
              rw [zw_set (by omega)] at hP hD
              obtain ⟨ct302, ec303⟩ : ∃ z : Nat → va_E, z = va_up ct296 0 (.inr (9, [.int me, .ref (ad 1), .ref (ad 2), .ref (ad 3), .ref (ad 4), .int bks249, .int lks250, .int gos251, .int shn252, .ref (ad 5), .ref (ad 6), .ref (ad 7), .ref (ad 8), .ref (ad 9), .ref (ad 10), .ref (ad 11), .int tpd253, .int x301, .int ln0255, .int flt256, .int opn257, .int cmy258, .int x295, .int nm0260, .ref (ad 12), .ref (ad 13), .ref (ad 14), .ref (ad 15), .ref (ad 16), .ref (ad 17), .ref (ad 18), .ref (ad 19), .ref (ad 20), .ref (ad 21), .ref (ad 22), .ref (ad 23), .ref (ad 24), .ref (ad 25), .ref (ad 26), .ref (ad 27), .int mst261, .int sus262, .ref (ad 28), .ref (ad 29), .ref (ad 30), .ref (ad 31), .int cut263])) := ⟨_, rfl⟩
              rw [← ec303] at hP hD
              have hI : IR g ad me ct302 := by rw [ec303]; exact upR hI (by decide) (i9_0 ⟨(bks249 : Int32), (lks250 : Int32), (gos251 : Int32), (shn252 : Int32), (tpd253 : Int32), (x301 : Int32), (ln0255 : Int32), (flt256 : Int32), (opn257 : Int32), (cmy258 : Int32), (x295 : Int32), (nm0260 : Int32), (mst261 : Int32), (sus262 : Int32), (cut263 : Int32), (by first | omega | decide), (by first | omega | decide), (by first | omega | decide), (by first | omega | decide), (by first | omega | decide), (by first | omega | decide), (by first | omega | decide), (by first | omega | decide), (by first | omega | decide), (by first | omega | decide), (by first | omega | decide), (by first | omega | decide), (by first | omega | decide), (by first | omega | decide), (by first | omega | decide), (by first | omega | decide), (by first | omega | decide), (by first | omega | decide), (by first | omega | decide), (by first | omega | decide), rfl⟩)
              have hs304 : ct302 12 = .inl (g.2 0, 120, .inl f285) := by rw [ec303, va_up_ne _ _ (by omega)]; exact hs298
              have hs305 : ct302 13 = .inl (g.2 0, 120, .inl (upd f287 (Int32.toNatClampNeg wtg259) x288)) := by rw [ec303, va_up_ne _ _ (by omega)]; exact hs299
              have hs306 : ct302 0 = .inr (9, [.int me, .ref (ad 1), .ref (ad 2), .ref (ad 3), .ref (ad 4), .int bks249, .int lks250, .int gos251, .int shn252, .ref (ad 5), .ref (ad 6), .ref (ad 7), .ref (ad 8), .ref (ad 9), .ref (ad 10), .ref (ad 11), .int tpd253, .int x301, .int ln0255, .int flt256, .int opn257, .int cmy258, .int x295, .int nm0260, .ref (ad 12), .ref (ad 13), .ref (ad 14), .ref (ad 15), .ref (ad 16), .ref (ad 17), .ref (ad 18), .ref (ad 19), .ref (ad 20), .ref (ad 21), .ref (ad 22), .ref (ad 23), .ref (ad 24), .ref (ad 25), .ref (ad 26), .ref (ad 27), .int mst261, .int sus262, .ref (ad 28), .ref (ad 29), .ref (ad 30), .ref (ad 31), .int cut263]) := by rw [ec303]; exact va_up_self _ _ _
              have z17_hs306 : zfi 17 (ct302 0) = (x301 : Int32).toInt := by rw [hs306]; rfl
              have z18_hs306 : zfi 18 (ct302 0) = (ln0255 : Int32).toInt := by rw [hs306]; rfl
              have z21_hs306 : zfi 21 (ct302 0) = (cmy258 : Int32).toInt := by rw [hs306]; rfl
              have z22_hs306 : zfi 22 (ct302 0) = (x295 : Int32).toInt := by rw [hs306]; rfl
              have hps4 := PS.push hps3 (x2 := x) (R2 := RB (zfi 22 (ct 0)).toNat f0) (r := r124.toInt) (by omega) (by omega) (by omega) (by omega) (by omega) (hs304.trans hs284.symm) (wr_id hs286 hs305 (by omega) (by omega) (by omega)) (Or.inl ⟨by omega, by omega, rfl⟩) (fun fw W w h t => h.push (Or.inl (by omega)))
              refine lv_aload_n hx hb dX9_readsSum_74 rfl (lv_at hl 2 rfl) ?_
              have hFc := zw_free hD hS hA
              refine va_calli (va_runV (As := []) (rest := []) ⟨hx, hb, hml, hown, hg⟩ (k_X9_readsFactor l g _ ad me ct302 x y ((zfi 22 (ct 0)).toNat) f0 hI (hps4)) (cwV 0 hg (z_gV mm_1236 mm_1238 mm_68 mm_117 mm_1239) rfl rfl rfl (by decide +kernel) ⟨Nat.le_of_ble_eq_true rfl, Nat.le_of_ble_eq_true rfl⟩) ⟨(zA.pre [.ref (ad 0)] hP hK hD hN).1, va_recv hK hP (ci := 9) (q0 := 0) rfl (zw_at (by omega) hs306), (zA.pre [.ref (ad 0)] hP hK hD hN).2⟩ rfl rfl hl.1 rfl (lv_room (Nat.le_of_ble_eq_true rfl)) dX9_readsSum_75 ⟨Nat.le_of_ble_eq_true rfl, Nat.le_of_ble_eq_true rfl⟩) hS (fun q _ h => hFc q h) hFc (fun r307 u312 t H1 locs ht hvm hr307 hB hz1 hk1 hS => ?_)
              obtain ⟨ct308, hP1, hD1, hI, hk309, hk310, hk311⟩ := hB
              rw [ht] at hP1
              have hD := hD1.weaken (fun _ _ _ h => hFc _ h)
              generalize H1 = H at hP1 hS ⊢
              have hP := hP1
              refine W.widen (k := 0) (n := 0) (Nat.le_refl _) (Nat.le_refl _) ?_
              rcases hr307 with hr307 | hr307
              · skip
                obtain ⟨rfl, h313⟩ := hr307
                replace h313 : u312 = 1 := h313
                have hk310 := hk310 h313
                have hk311 := hk311 h313
                refine lv_if_ne (tgt := 163) hx hb dX9_readsSum_78 (by decide) (fun c314 => ?_) (fun c314 => ?_)
                · skip
                  refine lv_goto (tgt := 14) hx hb dX9_readsSum_163 (by decide) ?_
                  obtain ⟨bks316, lks317, gos318, shn319, tpd320, pl0321, ln0322, flt323, opn324, cmy325, wtg326, nm0327, mst328, sus329, cut330, h331, h332, h333, h334, h335, h336, h337, h338, h339, h340, h341, h342, h343, h344, h345, h346, h347, h348, h349, h350, hs315⟩ := a9_0 hI.1
                  have z17_hs315 : zfi 17 (ct308 0) = pl0321.toInt := by rw [hs315]; rfl
                  have z18_hs315 : zfi 18 (ct308 0) = ln0322.toInt := by rw [hs315]; rfl
                  have z21_hs315 : zfi 21 (ct308 0) = cmy325.toInt := by rw [hs315]; rfl
                  have z22_hs315 : zfi 22 (ct308 0) = wtg326.toInt := by rw [hs315]; rfl
                  exact ih14  ct308 _ _ ls (by omega) (by first | assumption | omega | decide) (by first | assumption | omega | decide) (by first | assumption | omega | decide) hI hP hD hS (lv_sub hl [1, 2] rfl)
                · skip
                  exact absurd c314 (by decide)
              · skip
                obtain ⟨rfl, h351⟩ := hr307
                replace h351 : u312 = 0 := h351
                refine lv_if_ne (tgt := 163) hx hb dX9_readsSum_78 (by decide) (fun c352 => ?_) (fun c352 => ?_)
                · skip
                  exact absurd c352 (by decide)
                · skip
                  refine lv_iconst (v := 0) hx hb dX9_readsSum_81 (by decide) ?_
                  have q353 : (0 : Int32).toInt = 0 := by decide
                  exact W.zret (v := 0) hx hb hr rfl (fun t ht hW => ⟨⟨0, 0, rfl, by first | exact Or.inl ⟨rfl, rfl⟩ | exact Or.inr ⟨rfl, rfl⟩, ct308, by rw [ht]; exact hP, hD, hI, (by first | assumption | omega), (fun q => absurd q (by decide)), (fun q => absurd q (by decide))⟩, hS.F ht⟩) hS.2.2 dX9_readsSum_82
            · skip
              have c242 : ¬ (4 ≤ r124.toInt) := fun q => c242 ((z_le (by decide : (4 : Int32).toInt = 4) rfl).mpr q)
              refine lv_iconst (v := 1) hx hb dX9_readsSum_33 (by decide) ?_
              refine lv_goto (tgt := 38) hx hb dX9_readsSum_34 (by decide) ?_
              have hFc := zw_free hD hS hA
              refine va_callv (va_runV (As := [.int 1]) (rest := []) ⟨hx, hb, hml, hown, hg⟩ (k_X9_closesSums l g _ ad me ct81 (1 : Int32) x y f1 W1 (by first | omega | decide) hI (hfix)) (cwV 1 hg (z_gV mm_1258 mm_1260 mm_72 mm_117 mm_1261) rfl rfl rfl (by decide +kernel) ⟨Nat.le_of_ble_eq_true rfl, Nat.le_of_ble_eq_true rfl⟩) ⟨(zA.pre [.ref (ad 0), .int 1] hP hK hD hN).1, va_recv hK hP (ci := 9) (q0 := 0) rfl (zw_at (by omega) hs82), (zA.pre [.ref (ad 0), .int 1] hP hK hD hN).2⟩ rfl rfl hl.1 rfl (lv_room (Nat.le_of_ble_eq_true rfl)) dX9_readsSum_38 ⟨Nat.le_of_ble_eq_true rfl, Nat.le_of_ble_eq_true rfl⟩) hS (fun q _ h => hFc q h) hFc (fun _ t H1 locs ht hvm hr354 hB hz1 hk1 hS => ?_)
              obtain ⟨ct355, hP1, hD1, hI, hk356, hk357, hk358⟩ := hB
              rw [ht] at hP1
              have hD := hD1.weaken (fun _ _ _ h => hFc _ h)
              generalize H1 = H at hP1 hS ⊢
              have hP := hP1
              refine W.widen (k := 0) (n := 0) (Nat.le_refl _) (Nat.le_refl _) ?_
              have hps3 := hk358.mono (R2 := RB (zfi 22 (ct 0)).toNat f0) (fun fw W _ h => RCa.low hf0 hRB1 h)
              have hb1 := PS.bounds hps3
              obtain ⟨bks360, lks361, gos362, shn363, tpd364, pl0365, ln0366, flt367, opn368, cmy369, wtg370, nm0371, mst372, sus373, cut374, h375, h376, h377, h378, h379, h380, h381, h382, h383, h384, h385, h386, h387, h388, h389, h390, h391, h392, h393, h394, hs359⟩ := a9_0 hI.1
              have z17_hs359 : zfi 17 (ct355 0) = pl0365.toInt := by rw [hs359]; rfl
              have z18_hs359 : zfi 18 (ct355 0) = ln0366.toInt := by rw [hs359]; rfl
              have z21_hs359 : zfi 21 (ct355 0) = cmy369.toInt := by rw [hs359]; rfl
              have z22_hs359 : zfi 22 (ct355 0) = wtg370.toInt := by rw [hs359]; rfl
              obtain ⟨f396, hs395⟩ := a9_12 hI.1
              obtain ⟨f398, hs397⟩ := a9_13 hI.1
              refine lv_aload_n hx hb dX9_readsSum_41 rfl (lv_at hl 2 rfl) ?_
              refine va_get (D := g.1) (ci := 9) (v := .ref (ad 13)) (C := RX9) (T := TX9) (N := 47) hx hb hg inG9 hown hK hP 0 (zw_at (by omega) hs359) rfl 25 (by decide) (hg _ mm_983) (fun _ h9 => h9) rfl dX9_readsSum_42 ?_
              refine lv_aload_n hx hb dX9_readsSum_45 rfl (lv_at hl 2 rfl) ?_
              refine va_get (D := g.1) (ci := 9) (v := .int wtg370) (C := RX9) (T := TX9) (N := 47) hx hb hg inG9 hown hK hP 0 (zw_at (by omega) hs359) rfl 22 (by decide) (hg _ mm_980) (fun _ h9 => h9) rfl dX9_readsSum_46 ?_
              refine lv_ldc hx hb hown (hg _ mm_1227) dX9_readsSum_49 ?_
              refine lv_iload_n hx hb dX9_readsSum_51 rfl (lv_at hl 0 rfl) ?_
              refine lv_imul hx hb dX9_readsSum_52 ?_
              refine lv_topi (fun x399 ex399 => ?_)
              have tx399 : x399.toInt = 1048576 * r124.toInt := by rw [ex399]; exact z_mul (by decide : (1048576 : Int32).toInt = 1048576) rfl (by omega) (by omega)
              refine va_iast hx hb hK hP hD hS 13 0 (zw_at (by omega) hs397) rfl (z_in rfl (by omega) (by omega)) dX9_readsSum_53 (fun H locs hP hD hS => ?_)
              have hP : zP g ((zw 32 ad ct355).set 13 (ad 13, .inl (g.2 0, 120, .inl (upd f398 (Int32.toNatClampNeg wtg370) x399)))) H := hP
              have hD : va_D A ((zw 32 ad ct355).set 13 (ad 13, .inl (g.2 0, 120, .inl (upd f398 (Int32.toNatClampNeg wtg370) x399)))) := hD
              rw [zw_set (by omega)] at hP hD
              obtain ⟨ct401, ec402⟩ : ∃ z : Nat → va_E, z = va_up ct355 13 (.inl (g.2 0, 120, .inl (upd f398 (Int32.toNatClampNeg wtg370) x399))) := ⟨_, rfl⟩
              rw [← ec402] at hP hD
              have hI : IR g ad me ct401 := by rw [ec402]; exact upR hI (by decide) (i9_13 ⟨_, rfl⟩)
              have hs403 : ct401 0 = .inr (9, [.int me, .ref (ad 1), .ref (ad 2), .ref (ad 3), .ref (ad 4), .int bks360, .int lks361, .int gos362, .int shn363, .ref (ad 5), .ref (ad 6), .ref (ad 7), .ref (ad 8), .ref (ad 9), .ref (ad 10), .ref (ad 11), .int tpd364, .int pl0365, .int ln0366, .int flt367, .int opn368, .int cmy369, .int wtg370, .int nm0371, .ref (ad 12), .ref (ad 13), .ref (ad 14), .ref (ad 15), .ref (ad 16), .ref (ad 17), .ref (ad 18), .ref (ad 19), .ref (ad 20), .ref (ad 21), .ref (ad 22), .ref (ad 23), .ref (ad 24), .ref (ad 25), .ref (ad 26), .ref (ad 27), .int mst372, .int sus373, .ref (ad 28), .ref (ad 29), .ref (ad 30), .ref (ad 31), .int cut374]) := by rw [ec402, va_up_ne _ _ (by omega)]; exact hs359
              have hs404 : ct401 12 = .inl (g.2 0, 120, .inl f396) := by rw [ec402, va_up_ne _ _ (by omega)]; exact hs395
              have hs405 : ct401 13 = .inl (g.2 0, 120, .inl (upd f398 (Int32.toNatClampNeg wtg370) x399)) := by rw [ec402]; exact va_up_self _ _ _
              have z17_hs403 : zfi 17 (ct401 0) = (pl0365 : Int32).toInt := by rw [hs403]; rfl
              have z18_hs403 : zfi 18 (ct401 0) = (ln0366 : Int32).toInt := by rw [hs403]; rfl
              have z21_hs403 : zfi 21 (ct401 0) = (cmy369 : Int32).toInt := by rw [hs403]; rfl
              have z22_hs403 : zfi 22 (ct401 0) = (wtg370 : Int32).toInt := by rw [hs403]; rfl
              refine lv_aload_n hx hb dX9_readsSum_54 rfl (lv_at hl 2 rfl) ?_
              refine lv_aload_n hx hb dX9_readsSum_55 rfl (lv_at hl 2 rfl) ?_
              refine va_get (D := g.1) (ci := 9) (v := .int wtg370) (C := RX9) (T := TX9) (N := 47) hx hb hg inG9 hown hK hP 0 (zw_at (by omega) hs403) rfl 22 (by decide) (hg _ mm_980) (fun _ h9 => h9) rfl dX9_readsSum_56 ?_
              refine lv_iconst (v := 1) hx hb dX9_readsSum_59 (by decide) ?_
              refine lv_iadd hx hb dX9_readsSum_60 ?_
              refine lv_topi (fun x406 ex406 => ?_)
              have tx406 : x406.toInt = wtg370.toInt + 1 := by rw [ex406]; exact z_add rfl (by decide : (1 : Int32).toInt = 1) (by omega) (by omega)
              refine va_put (D := g.1) (ci := 9) (v := .int x406) (ty := .int) (C := RX9) (T := TX9) (N := 47) hx hb hg inG9 tyX9 tyX9_ok nmX9 hown hK hP hD hS 0 (zw_at (by omega) hs403) rfl 22 (by decide) (hg _ mm_980) (fun _ h9 => h9) rfl (by decide +kernel) rfl rfl (Nat.le_of_ble_eq_true rfl) dX9_readsSum_61 (fun H locs hP hD hS => ?_)
              have hP : zP g ((zw 32 ad ct401).set 0 (ad 0, .inr (9, [.int me, .ref (ad 1), .ref (ad 2), .ref (ad 3), .ref (ad 4), .int bks360, .int lks361, .int gos362, .int shn363, .ref (ad 5), .ref (ad 6), .ref (ad 7), .ref (ad 8), .ref (ad 9), .ref (ad 10), .ref (ad 11), .int tpd364, .int pl0365, .int ln0366, .int flt367, .int opn368, .int cmy369, .int x406, .int nm0371, .ref (ad 12), .ref (ad 13), .ref (ad 14), .ref (ad 15), .ref (ad 16), .ref (ad 17), .ref (ad 18), .ref (ad 19), .ref (ad 20), .ref (ad 21), .ref (ad 22), .ref (ad 23), .ref (ad 24), .ref (ad 25), .ref (ad 26), .ref (ad 27), .int mst372, .int sus373, .ref (ad 28), .ref (ad 29), .ref (ad 30), .ref (ad 31), .int cut374]))) H := hP
              have hD : va_D A ((zw 32 ad ct401).set 0 (ad 0, .inr (9, [.int me, .ref (ad 1), .ref (ad 2), .ref (ad 3), .ref (ad 4), .int bks360, .int lks361, .int gos362, .int shn363, .ref (ad 5), .ref (ad 6), .ref (ad 7), .ref (ad 8), .ref (ad 9), .ref (ad 10), .ref (ad 11), .int tpd364, .int pl0365, .int ln0366, .int flt367, .int opn368, .int cmy369, .int x406, .int nm0371, .ref (ad 12), .ref (ad 13), .ref (ad 14), .ref (ad 15), .ref (ad 16), .ref (ad 17), .ref (ad 18), .ref (ad 19), .ref (ad 20), .ref (ad 21), .ref (ad 22), .ref (ad 23), .ref (ad 24), .ref (ad 25), .ref (ad 26), .ref (ad 27), .int mst372, .int sus373, .ref (ad 28), .ref (ad 29), .ref (ad 30), .ref (ad 31), .int cut374]))) := hD
              rw [zw_set (by omega)] at hP hD
              obtain ⟨ct407, ec408⟩ : ∃ z : Nat → va_E, z = va_up ct401 0 (.inr (9, [.int me, .ref (ad 1), .ref (ad 2), .ref (ad 3), .ref (ad 4), .int bks360, .int lks361, .int gos362, .int shn363, .ref (ad 5), .ref (ad 6), .ref (ad 7), .ref (ad 8), .ref (ad 9), .ref (ad 10), .ref (ad 11), .int tpd364, .int pl0365, .int ln0366, .int flt367, .int opn368, .int cmy369, .int x406, .int nm0371, .ref (ad 12), .ref (ad 13), .ref (ad 14), .ref (ad 15), .ref (ad 16), .ref (ad 17), .ref (ad 18), .ref (ad 19), .ref (ad 20), .ref (ad 21), .ref (ad 22), .ref (ad 23), .ref (ad 24), .ref (ad 25), .ref (ad 26), .ref (ad 27), .int mst372, .int sus373, .ref (ad 28), .ref (ad 29), .ref (ad 30), .ref (ad 31), .int cut374])) := ⟨_, rfl⟩
              rw [← ec408] at hP hD
              have hI : IR g ad me ct407 := by rw [ec408]; exact upR hI (by decide) (i9_0 ⟨(bks360 : Int32), (lks361 : Int32), (gos362 : Int32), (shn363 : Int32), (tpd364 : Int32), (pl0365 : Int32), (ln0366 : Int32), (flt367 : Int32), (opn368 : Int32), (cmy369 : Int32), (x406 : Int32), (nm0371 : Int32), (mst372 : Int32), (sus373 : Int32), (cut374 : Int32), (by first | omega | decide), (by first | omega | decide), (by first | omega | decide), (by first | omega | decide), (by first | omega | decide), (by first | omega | decide), (by first | omega | decide), (by first | omega | decide), (by first | omega | decide), (by first | omega | decide), (by first | omega | decide), (by first | omega | decide), (by first | omega | decide), (by first | omega | decide), (by first | omega | decide), (by first | omega | decide), (by first | omega | decide), (by first | omega | decide), (by first | omega | decide), (by first | omega | decide), rfl⟩)
              have hs409 : ct407 12 = .inl (g.2 0, 120, .inl f396) := by rw [ec408, va_up_ne _ _ (by omega)]; exact hs404
              have hs410 : ct407 13 = .inl (g.2 0, 120, .inl (upd f398 (Int32.toNatClampNeg wtg370) x399)) := by rw [ec408, va_up_ne _ _ (by omega)]; exact hs405
              have hs411 : ct407 0 = .inr (9, [.int me, .ref (ad 1), .ref (ad 2), .ref (ad 3), .ref (ad 4), .int bks360, .int lks361, .int gos362, .int shn363, .ref (ad 5), .ref (ad 6), .ref (ad 7), .ref (ad 8), .ref (ad 9), .ref (ad 10), .ref (ad 11), .int tpd364, .int pl0365, .int ln0366, .int flt367, .int opn368, .int cmy369, .int x406, .int nm0371, .ref (ad 12), .ref (ad 13), .ref (ad 14), .ref (ad 15), .ref (ad 16), .ref (ad 17), .ref (ad 18), .ref (ad 19), .ref (ad 20), .ref (ad 21), .ref (ad 22), .ref (ad 23), .ref (ad 24), .ref (ad 25), .ref (ad 26), .ref (ad 27), .int mst372, .int sus373, .ref (ad 28), .ref (ad 29), .ref (ad 30), .ref (ad 31), .int cut374]) := by rw [ec408]; exact va_up_self _ _ _
              have z17_hs411 : zfi 17 (ct407 0) = (pl0365 : Int32).toInt := by rw [hs411]; rfl
              have z18_hs411 : zfi 18 (ct407 0) = (ln0366 : Int32).toInt := by rw [hs411]; rfl
              have z21_hs411 : zfi 21 (ct407 0) = (cmy369 : Int32).toInt := by rw [hs411]; rfl
              have z22_hs411 : zfi 22 (ct407 0) = (x406 : Int32).toInt := by rw [hs411]; rfl
              refine lv_aload_n hx hb dX9_readsSum_64 rfl (lv_at hl 2 rfl) ?_
              refine lv_aload_n hx hb dX9_readsSum_65 rfl (lv_at hl 2 rfl) ?_
              refine va_get (D := g.1) (ci := 9) (v := .int pl0365) (C := RX9) (T := TX9) (N := 47) hx hb hg inG9 hown hK hP 0 (zw_at (by omega) hs411) rfl 17 (by decide) (hg _ mm_975) (fun _ h9 => h9) rfl dX9_readsSum_66 ?_
              refine lv_iconst (v := 1) hx hb dX9_readsSum_69 (by decide) ?_
              refine lv_iadd hx hb dX9_readsSum_70 ?_
              refine lv_topi (fun x412 ex412 => ?_)
              have tx412 : x412.toInt = pl0365.toInt + 1 := by rw [ex412]; exact z_add rfl (by decide : (1 : Int32).toInt = 1) (by omega) (by omega)
              refine va_put (D := g.1) (ci := 9) (v := .int x412) (ty := .int) (C := RX9) (T := TX9) (N := 47) hx hb hg inG9 tyX9 tyX9_ok nmX9 hown hK hP hD hS 0 (zw_at (by omega) hs411) rfl 17 (by decide) (hg _ mm_975) (fun _ h9 => h9) rfl (by decide +kernel) rfl rfl (Nat.le_of_ble_eq_true rfl) dX9_readsSum_71 (fun H locs hP hD hS => ?_)
              have hP : zP g ((zw 32 ad ct407).set 0 (ad 0, .inr (9, [.int me, .ref (ad 1), .ref (ad 2), .ref (ad 3), .ref (ad 4), .int bks360, .int lks361, .int gos362, .int shn363, .ref (ad 5), .ref (ad 6), .ref (ad 7), .ref (ad 8), .ref (ad 9), .ref (ad 10), .ref (ad 11), .int tpd364, .int x412, .int ln0366, .int flt367, .int opn368, .int cmy369, .int x406, .int nm0371, .ref (ad 12), .ref (ad 13), .ref (ad 14), .ref (ad 15), .ref (ad 16), .ref (ad 17), .ref (ad 18), .ref (ad 19), .ref (ad 20), .ref (ad 21), .ref (ad 22), .ref (ad 23), .ref (ad 24), .ref (ad 25), .ref (ad 26), .ref (ad 27), .int mst372, .int sus373, .ref (ad 28), .ref (ad 29), .ref (ad 30), .ref (ad 31), .int cut374]))) H := hP
              have hD : va_D A ((zw 32 ad ct407).set 0 (ad 0, .inr (9, [.int me, .ref (ad 1), .ref (ad 2), .ref (ad 3), .ref (ad 4), .int bks360, .int lks361, .int gos362, .int shn363, .ref (ad 5), .ref (ad 6), .ref (ad 7), .ref (ad 8), .ref (ad 9), .ref (ad 10), .ref (ad 11), .int tpd364, .int x412, .int ln0366, .int flt367, .int opn368, .int cmy369, .int x406, .int nm0371, .ref (ad 12), .ref (ad 13), .ref (ad 14), .ref (ad 15), .ref (ad 16), .ref (ad 17), .ref (ad 18), .ref (ad 19), .ref (ad 20), .ref (ad 21), .ref (ad 22), .ref (ad 23), .ref (ad 24), .ref (ad 25), .ref (ad 26), .ref (ad 27), .int mst372, .int sus373, .ref (ad 28), .ref (ad 29), .ref (ad 30), .ref (ad 31), .int cut374]))) := hD
              rw [zw_set (by omega)] at hP hD
              obtain ⟨ct413, ec414⟩ : ∃ z : Nat → va_E, z = va_up ct407 0 (.inr (9, [.int me, .ref (ad 1), .ref (ad 2), .ref (ad 3), .ref (ad 4), .int bks360, .int lks361, .int gos362, .int shn363, .ref (ad 5), .ref (ad 6), .ref (ad 7), .ref (ad 8), .ref (ad 9), .ref (ad 10), .ref (ad 11), .int tpd364, .int x412, .int ln0366, .int flt367, .int opn368, .int cmy369, .int x406, .int nm0371, .ref (ad 12), .ref (ad 13), .ref (ad 14), .ref (ad 15), .ref (ad 16), .ref (ad 17), .ref (ad 18), .ref (ad 19), .ref (ad 20), .ref (ad 21), .ref (ad 22), .ref (ad 23), .ref (ad 24), .ref (ad 25), .ref (ad 26), .ref (ad 27), .int mst372, .int sus373, .ref (ad 28), .ref (ad 29), .ref (ad 30), .ref (ad 31), .int cut374])) := ⟨_, rfl⟩
              rw [← ec414] at hP hD
              have hI : IR g ad me ct413 := by rw [ec414]; exact upR hI (by decide) (i9_0 ⟨(bks360 : Int32), (lks361 : Int32), (gos362 : Int32), (shn363 : Int32), (tpd364 : Int32), (x412 : Int32), (ln0366 : Int32), (flt367 : Int32), (opn368 : Int32), (cmy369 : Int32), (x406 : Int32), (nm0371 : Int32), (mst372 : Int32), (sus373 : Int32), (cut374 : Int32), (by first | omega | decide), (by first | omega | decide), (by first | omega | decide), (by first | omega | decide), (by first | omega | decide), (by first | omega | decide), (by first | omega | decide), (by first | omega | decide), (by first | omega | decide), (by first | omega | decide), (by first | omega | decide), (by first | omega | decide), (by first | omega | decide), (by first | omega | decide), (by first | omega | decide), (by first | omega | decide), (by first | omega | decide), (by first | omega | decide), (by first | omega | decide), (by first | omega | decide), rfl⟩)
              have hs415 : ct413 12 = .inl (g.2 0, 120, .inl f396) := by rw [ec414, va_up_ne _ _ (by omega)]; exact hs409
              have hs416 : ct413 13 = .inl (g.2 0, 120, .inl (upd f398 (Int32.toNatClampNeg wtg370) x399)) := by rw [ec414, va_up_ne _ _ (by omega)]; exact hs410
              have hs417 : ct413 0 = .inr (9, [.int me, .ref (ad 1), .ref (ad 2), .ref (ad 3), .ref (ad 4), .int bks360, .int lks361, .int gos362, .int shn363, .ref (ad 5), .ref (ad 6), .ref (ad 7), .ref (ad 8), .ref (ad 9), .ref (ad 10), .ref (ad 11), .int tpd364, .int x412, .int ln0366, .int flt367, .int opn368, .int cmy369, .int x406, .int nm0371, .ref (ad 12), .ref (ad 13), .ref (ad 14), .ref (ad 15), .ref (ad 16), .ref (ad 17), .ref (ad 18), .ref (ad 19), .ref (ad 20), .ref (ad 21), .ref (ad 22), .ref (ad 23), .ref (ad 24), .ref (ad 25), .ref (ad 26), .ref (ad 27), .int mst372, .int sus373, .ref (ad 28), .ref (ad 29), .ref (ad 30), .ref (ad 31), .int cut374]) := by rw [ec414]; exact va_up_self _ _ _
              have z17_hs417 : zfi 17 (ct413 0) = (x412 : Int32).toInt := by rw [hs417]; rfl
              have z18_hs417 : zfi 18 (ct413 0) = (ln0366 : Int32).toInt := by rw [hs417]; rfl
              have z21_hs417 : zfi 21 (ct413 0) = (cmy369 : Int32).toInt := by rw [hs417]; rfl
              have z22_hs417 : zfi 22 (ct413 0) = (x406 : Int32).toInt := by rw [hs417]; rfl
              have hps4 := PS.push hps3 (x2 := x) (R2 := RB (zfi 22 (ct 0)).toNat f0) (r := r124.toInt) (by omega) (by omega) (by omega) (by omega) (by omega) (hs415.trans hs395.symm) (wr_id hs397 hs416 (by omega) (by omega) (by omega)) (Or.inl ⟨by omega, by omega, rfl⟩) (fun fw W w h t => h.push (Or.inl (by omega)))
              refine lv_aload_n hx hb dX9_readsSum_74 rfl (lv_at hl 2 rfl) ?_
              have hFc := zw_free hD hS hA
              refine va_calli (va_runV (As := []) (rest := []) ⟨hx, hb, hml, hown, hg⟩ (k_X9_readsFactor l g _ ad me ct413 x y ((zfi 22 (ct 0)).toNat) f0 hI (hps4)) (cwV 0 hg (z_gV mm_1236 mm_1238 mm_68 mm_117 mm_1239) rfl rfl rfl (by decide +kernel) ⟨Nat.le_of_ble_eq_true rfl, Nat.le_of_ble_eq_true rfl⟩) ⟨(zA.pre [.ref (ad 0)] hP hK hD hN).1, va_recv hK hP (ci := 9) (q0 := 0) rfl (zw_at (by omega) hs417), (zA.pre [.ref (ad 0)] hP hK hD hN).2⟩ rfl rfl hl.1 rfl (lv_room (Nat.le_of_ble_eq_true rfl)) dX9_readsSum_75 ⟨Nat.le_of_ble_eq_true rfl, Nat.le_of_ble_eq_true rfl⟩) hS (fun q _ h => hFc q h) hFc (fun r418 u423 t H1 locs ht hvm hr418 hB hz1 hk1 hS => ?_)
              obtain ⟨ct419, hP1, hD1, hI, hk420, hk421, hk422⟩ := hB
              rw [ht] at hP1
              have hD := hD1.weaken (fun _ _ _ h => hFc _ h)
              generalize H1 = H at hP1 hS ⊢
              have hP := hP1
              refine W.widen (k := 0) (n := 0) (Nat.le_refl _) (Nat.le_refl _) ?_
              rcases hr418 with hr418 | hr418
              · skip
                obtain ⟨rfl, h424⟩ := hr418
                replace h424 : u423 = 1 := h424
                have hk421 := hk421 h424
                have hk422 := hk422 h424
                refine lv_if_ne (tgt := 163) hx hb dX9_readsSum_78 (by decide) (fun c425 => ?_) (fun c425 => ?_)
                · skip
                  refine lv_goto (tgt := 14) hx hb dX9_readsSum_163 (by decide) ?_
                  obtain ⟨bks427, lks428, gos429, shn430, tpd431, pl0432, ln0433, flt434, opn435, cmy436, wtg437, nm0438, mst439, sus440, cut441, h442, h443, h444, h445, h446, h447, h448, h449, h450, h451, h452, h453, h454, h455, h456, h457, h458, h459, h460, h461, hs426⟩ := a9_0 hI.1
                  have z17_hs426 : zfi 17 (ct419 0) = pl0432.toInt := by rw [hs426]; rfl
                  have z18_hs426 : zfi 18 (ct419 0) = ln0433.toInt := by rw [hs426]; rfl
                  have z21_hs426 : zfi 21 (ct419 0) = cmy436.toInt := by rw [hs426]; rfl
                  have z22_hs426 : zfi 22 (ct419 0) = wtg437.toInt := by rw [hs426]; rfl
                  exact ih14  ct419 _ _ ls (by omega) (by first | assumption | omega | decide) (by first | assumption | omega | decide) (by first | assumption | omega | decide) hI hP hD hS (lv_sub hl [1, 2] rfl)
                · skip
                  exact absurd c425 (by decide)
              · skip
                obtain ⟨rfl, h462⟩ := hr418
                replace h462 : u423 = 0 := h462
                refine lv_if_ne (tgt := 163) hx hb dX9_readsSum_78 (by decide) (fun c463 => ?_) (fun c463 => ?_)
                · skip
                  exact absurd c463 (by decide)
                · skip
                  refine lv_iconst (v := 0) hx hb dX9_readsSum_81 (by decide) ?_
                  have q464 : (0 : Int32).toInt = 0 := by decide
                  exact W.zret (v := 0) hx hb hr rfl (fun t ht hW => ⟨⟨0, 0, rfl, by first | exact Or.inl ⟨rfl, rfl⟩ | exact Or.inr ⟨rfl, rfl⟩, ct419, by rw [ht]; exact hP, hD, hI, (by first | assumption | omega), (fun q => absurd q (by decide)), (fun q => absurd q (by decide))⟩, hS.F ht⟩) hS.2.2 dX9_readsSum_82
      exact loop14 ((zfi 18 (ct38 0) - zfi 17 (ct38 0) : Int).toNat + 1)  ct38 _ _ ls (by omega) (by first | assumption | omega | decide) (by first | assumption | omega | decide) (by first | assumption | omega | decide) hI hP hD hS (lv_sub hl [0, 1] rfl)
    · skip
      exact absurd c44 (by decide)
  · skip
    obtain ⟨rfl, h465⟩ := hr37
    replace h465 : u42 = 0 := h465
    refine lv_if_ne (tgt := 14) hx hb dX9_readsSum_9 (by decide) (fun c466 => ?_) (fun c466 => ?_)
    · skip
      exact absurd c466 (by decide)
    · skip
      refine lv_iconst (v := 0) hx hb dX9_readsSum_12 (by decide) ?_
      have q467 : (0 : Int32).toInt = 0 := by decide
      exact W.zret (v := 0) hx hb hr rfl (fun t ht hW => ⟨⟨0, 0, rfl, by first | exact Or.inl ⟨rfl, rfl⟩ | exact Or.inr ⟨rfl, rfl⟩, ct38, by rw [ht]; exact hP, hD, hI, (by first | assumption | omega), (fun q => absurd q (by decide)), (fun q => absurd q (by decide))⟩, hS.F ht⟩) hS.2.2 dX9_readsSum_13
