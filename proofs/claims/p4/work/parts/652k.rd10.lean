set_option maxHeartbeats 4000000 in
set_option maxRecDepth 100000 in
theorem k_X9_readsFactor (l : Launch) (g : zG) (sz : Nat) (ad : Nat → Nat) (me : Int32) (ct : Nat → va_E) (x : Nat) (y : Nat) (base : Nat) (f0 : Nat → Int32) (hI : IR g ad me ct) (hps : PS (g.2 0) ct x y (RB base f0)) : Met l yX9_readsFactor (zW yX9_readsFactor cX9_readsFactor 2 (some .boolean)) ({ frames := 3, cells := 0, slots := 0, locals := 61 }) (va_Pc [.ref (ad 0)] (zA g (zw 32 ad ct) sz)) (va_Qi (fun (r : Int32) (u : Int32) => (r = 1 ∧ (u = 1)) ∨ (r = 0 ∧ (u = 0))) (fun (u : Int32) t => ∃ ct2 : Nat → va_E, zP g (zw 32 ad ct2) t.heap ∧ va_D (va_A (zw 32 ad ct) sz) (zw 32 ad ct2) ∧ IR g ad me ct2 ∧ (zfi 18 (ct2 0) = zfi 18 (ct 0)) ∧ (u = 1 → zfi 17 (ct 0) < zfi 17 (ct2 0)) ∧ (u = 1 → PS (g.2 0) ct2 (x + 1) y (RB base f0))) (va_A (zw 32 ad ct) sz)) 0 0 (va_A (zw 32 ad ct) sz) := by
  refine Met.ofW (cc := cX9_readsFactor) (maxL := 2) (ret := (some .boolean)) (by decide) rfl ?_
  intro p e s m args below meth c s₁ B hml hv
  obtain ⟨rfl, hsz, hP, hK, hD0, hN⟩ := hv
  have hx := B.exec
  have hb := B.bytes
  have hr := B.returns
  have hg := zW.law (atoms_spec (ws := (zW yX9_readsFactor cX9_readsFactor 2 (some .boolean))) B.pre)
  have hown : s.vm.findClass RX9 = some m.cls := findClass_of_methodNamed B.named
  have hlocks := B.notSynchronized
  have hpe0 := hI.1.1
  subst hsz
  have hD := hD0.self (sz := s.heap.size)
  generalize hAe : va_A (zw 32 ad ct) s.heap.size = A at hD ⊢
  have hA : ∀ q : Nat, s.heap.size ≤ q → A q := fun q h => by rw [← hAe]; exact Or.inr h
  have hS : va_S A s.heap s.heap [] := va_S.rf
  have hl := lv_entry ([.ref (ad 0)]) (n := 2) (Nat.le_of_ble_eq_true rfl)
  rw [lg_entry_eq]
  generalize (lg_sl ([.ref (ad 0)]) ++ List.replicate (2 - (lg_sl ([.ref (ad 0)])).length) Slot.unset).toArray = ls at hl ⊢
  have hl : lv_has ls 2 [(0, .ref (ad 0))] := hl
  obtain ⟨bks2, lks3, gos4, shn5, tpd6, pl07, ln08, flt9, opn10, cmy11, wtg12, nm013, mst14, sus15, cut16, h17, h18, h19, h20, h21, h22, h23, h24, h25, h26, h27, h28, h29, h30, h31, h32, h33, h34, h35, h36, hs1⟩ := a9_0 hI.1
  have z17_hs1 : zfi 17 (ct 0) = pl07.toInt := by rw [hs1]; rfl
  have z18_hs1 : zfi 18 (ct 0) = ln08.toInt := by rw [hs1]; rfl
  have z21_hs1 : zfi 21 (ct 0) = cmy11.toInt := by rw [hs1]; rfl
  have z22_hs1 : zfi 22 (ct 0) = wtg12.toInt := by rw [hs1]; rfl
  have z23_hs1 : zfi 23 (ct 0) = nm013.toInt := by rw [hs1]; rfl
  have loop0 : ∀ (n0 : Nat) (ct37 : Nat → va_E) (H : Heap) (locs : List Loc) (ls : Array Slot), ((zfi 18 (ct37 0) - zfi 17 (ct37 0) : Int).toNat < n0) → (zfi 18 (ct37 0) = zfi 18 (ct 0)) → (zfi 17 (ct 0) ≤ zfi 17 (ct37 0)) → (PS (g.2 0) ct37 x y (RB base f0)) → (IR g ad me ct37) → zP g (zw 32 ad ct37) H → va_D A (zw 32 ad ct37) → va_S A s.heap H locs → lv_has ls 2 [(0, .ref (ad 0))] → W p l e (headSpec (zW yX9_readsFactor cX9_readsFactor 2 (some .boolean)) ({ frames := 3, cells := 0, slots := 0, locals := 61 })).room s m ([.ref (ad 0)] : List Value).toArray below meth c H locs 0 0 (MQ below (va_Qi (fun (r : Int32) (u : Int32) => (r = 1 ∧ (u = 1)) ∨ (r = 0 ∧ (u = 0))) (fun (u : Int32) t => ∃ ct2 : Nat → va_E, zP g (zw 32 ad ct2) t.heap ∧ va_D A (zw 32 ad ct2) ∧ IR g ad me ct2 ∧ (zfi 18 (ct2 0) = zfi 18 (ct 0)) ∧ (u = 1 → zfi 17 (ct 0) < zfi 17 (ct2 0)) ∧ (u = 1 → PS (g.2 0) ct2 (x + 1) y (RB base f0))) A) ([.ref (ad 0)] : List Value).toArray s 0 0 A) (F0 m 0 ls []) := by
    intro n0
    induction n0 with
    | zero =>
      intro ct37 H locs ls hn0 j0_0 j1_0 j2_0 hI hP hD hS hl
      exact absurd hn0 (Nat.not_lt_zero _)
    | succ n0 ih0 =>
      intro ct37 H locs ls hn0 j0_0 j1_0 j2_0 hI hP hD hS hl
      have hb0 := PS.bounds j2_0
      obtain ⟨bks39, lks40, gos41, shn42, tpd43, pl044, ln045, flt46, opn47, cmy48, wtg49, nm050, mst51, sus52, cut53, h54, h55, h56, h57, h58, h59, h60, h61, h62, h63, h64, h65, h66, h67, h68, h69, h70, h71, h72, h73, hs38⟩ := a9_0 hI.1
      have z17_hs38 : zfi 17 (ct37 0) = pl044.toInt := by rw [hs38]; rfl
      have z18_hs38 : zfi 18 (ct37 0) = ln045.toInt := by rw [hs38]; rfl
      have z21_hs38 : zfi 21 (ct37 0) = cmy48.toInt := by rw [hs38]; rfl
      have z22_hs38 : zfi 22 (ct37 0) = wtg49.toInt := by rw [hs38]; rfl
      have z23_hs38 : zfi 23 (ct37 0) = nm050.toInt := by rw [hs38]; rfl
      obtain ⟨f75, hs74⟩ := a9_12 hI.1
      obtain ⟨f77, hs76⟩ := a9_13 hI.1
      refine lv_aload_n hx hb dX9_readsFactor_0 rfl (lv_at hl 0 rfl) ?_
      refine zc_i (va_runV (As := []) (rest := []) ⟨hx, hb, hml, hown, hg⟩ (k_X9_here l g ad me ct37  hI) (cwV 0 hg (z_gV mm_1215 mm_1217 mm_63 mm_117 mm_1218) rfl rfl rfl (by decide +kernel) ⟨Nat.le_of_ble_eq_true rfl, Nat.le_of_ble_eq_true rfl⟩) ⟨(zR.pre [.ref (ad 0)] hP hK hN).1, va_recv hK hP (ci := 9) (q0 := 0) rfl (zw_at (by omega) hs38), (zR.pre [.ref (ad 0)] hP hK hN).2⟩ rfl rfl hl.1 rfl (lv_room (Nat.le_of_ble_eq_true rfl)) dX9_readsFactor_1 ⟨Nat.le_of_ble_eq_true rfl, Nat.le_of_ble_eq_true rfl⟩) (fun r78 hr78 => ?_)
      obtain ⟨hqr78, h79⟩ := hr78
      subst r78
      replace h79 : (zhv (ct37 0) (ct37 11)).toInt = -1 ∨ (0 ≤ (zhv (ct37 0) (ct37 11)).toInt ∧ zfi 17 (ct37 0) < zfi 18 (ct37 0)) := h79
      refine lv_bipush (v := 91) hx hb dX9_readsFactor_4 (by decide) ?_
      refine lv_icmp_ne (tgt := 20) hx hb dX9_readsFactor_6 (by decide) (fun c80 => ?_) (fun c80 => ?_)
      · skip
        have c80 : ¬ ((zhv (ct37 0) (ct37 11)).toInt = 91) := fun q => c80 ((z_eq rfl (by decide : (91 : Int32).toInt = 91)).mpr q)
        refine lv_aload_n hx hb dX9_readsFactor_20 rfl (lv_at hl 0 rfl) ?_
        refine zc_i (va_runV (As := []) (rest := []) ⟨hx, hb, hml, hown, hg⟩ (k_X9_isDigit l g ad me ct37  hI) (cwV 0 hg (z_gV mm_1240 mm_1242 mm_69 mm_117 mm_1243) rfl rfl rfl (by decide +kernel) ⟨Nat.le_of_ble_eq_true rfl, Nat.le_of_ble_eq_true rfl⟩) ⟨(zR.pre [.ref (ad 0)] hP hK hN).1, va_recv hK hP (ci := 9) (q0 := 0) rfl (zw_at (by omega) hs38), (zR.pre [.ref (ad 0)] hP hK hN).2⟩ rfl rfl hl.1 rfl (lv_room (Nat.le_of_ble_eq_true rfl)) dX9_readsFactor_21 ⟨Nat.le_of_ble_eq_true rfl, Nat.le_of_ble_eq_true rfl⟩) (fun r81 hr81 => ?_)
        rcases hr81 with hr81 | hr81
        · skip
          obtain ⟨rfl, h82, h83, h84⟩ := hr81
          replace h82 : 48 ≤ (zhv (ct37 0) (ct37 11)).toInt := h82
          replace h83 : (zhv (ct37 0) (ct37 11)).toInt ≤ 57 := h83
          replace h84 : zfi 17 (ct37 0) < zfi 18 (ct37 0) := h84
          refine lv_if_eq (tgt := 47) hx hb dX9_readsFactor_24 (by decide) (fun c85 => ?_) (fun c85 => ?_)
          · skip
            exact absurd c85 (by decide)
          · skip
            refine lv_aload_n hx hb dX9_readsFactor_27 rfl (lv_at hl 0 rfl) ?_
            have hFc := zw_free hD hS hA
            refine va_calli (va_runV (As := []) (rest := []) ⟨hx, hb, hml, hown, hg⟩ (k_X9_readsNumber l g _ ad me ct37  hI (by first | assumption | omega | decide) (by first | assumption | omega | decide)) (cwV 0 hg (z_gV mm_1244 mm_1246 mm_70 mm_117 mm_1247) rfl rfl rfl (by decide +kernel) ⟨Nat.le_of_ble_eq_true rfl, Nat.le_of_ble_eq_true rfl⟩) ⟨(zA.pre [.ref (ad 0)] hP hK hD hN).1, va_recv hK hP (ci := 9) (q0 := 0) rfl (zw_at (by omega) hs38), (zA.pre [.ref (ad 0)] hP hK hD hN).2⟩ rfl rfl hl.1 rfl (lv_room (Nat.le_of_ble_eq_true rfl)) dX9_readsFactor_28 ⟨Nat.le_of_ble_eq_true rfl, Nat.le_of_ble_eq_true rfl⟩) hS (fun q _ h => hFc q h) hFc (fun r86 u96 t H1 locs ht hvm hr86 hB hz1 hk1 hS => ?_)
            obtain ⟨ct87, hP1, hD1, hI, hk88, hk89, hk90, hk91, hk92, hk93, hk94, hk95⟩ := hB
            rw [ht] at hP1
            have hD := hD1.weaken (fun _ _ _ h => hFc _ h)
            generalize H1 = H at hP1 hS ⊢
            have hP := hP1
            refine W.widen (k := 0) (n := 0) (Nat.le_refl _) (Nat.le_refl _) ?_
            have hs97 : ct87 12 = .inl (g.2 0, 120, .inl f75) := hk94.trans hs74
            have hs98 : ct87 13 = .inl (g.2 0, 120, .inl f77) := hk95.trans hs76
            rcases hr86 with hr86 | hr86
            · skip
              obtain ⟨rfl, h99⟩ := hr86
              replace h99 : u96 = 1 := h99
              have hk91 := hk91 h99
              have hk92 := hk92 h99
              have hk93 := hk93 h99
              refine lv_if_ne (tgt := 36) hx hb dX9_readsFactor_31 (by decide) (fun c100 => ?_) (fun c100 => ?_)
              · skip
                obtain ⟨bks102, lks103, gos104, shn105, tpd106, pl0107, ln0108, flt109, opn110, cmy111, wtg112, nm0113, mst114, sus115, cut116, h117, h118, h119, h120, h121, h122, h123, h124, h125, h126, h127, h128, h129, h130, h131, h132, h133, h134, h135, h136, hs101⟩ := a9_0 hI.1
                have z17_hs101 : zfi 17 (ct87 0) = pl0107.toInt := by rw [hs101]; rfl
                have z18_hs101 : zfi 18 (ct87 0) = ln0108.toInt := by rw [hs101]; rfl
                have z21_hs101 : zfi 21 (ct87 0) = cmy111.toInt := by rw [hs101]; rfl
                have z22_hs101 : zfi 22 (ct87 0) = wtg112.toInt := by rw [hs101]; rfl
                have z23_hs101 : zfi 23 (ct87 0) = nm0113.toInt := by rw [hs101]; rfl
                refine lv_aload_n hx hb dX9_readsFactor_36 rfl (lv_at hl 0 rfl) ?_
                refine lv_iconst (v := 0) hx hb dX9_readsFactor_37 (by decide) ?_
                refine lv_aload_n hx hb dX9_readsFactor_38 rfl (lv_at hl 0 rfl) ?_
                refine va_get (D := g.1) (ci := 9) (v := .int nm0113) (C := RX9) (T := TX9) (N := 47) hx hb hg inG9 hown hK hP 0 (zw_at (by omega) hs101) rfl 23 (by decide) (hg _ mm_981) (fun _ h9 => h9) rfl dX9_readsFactor_39 ?_
                have hFc := zw_free hD hS hA
                refine va_callv (va_runV (As := [.int 0, .int nm0113]) (rest := []) ⟨hx, hb, hml, hown, hg⟩ (k_X9_notes l g _ ad me ct87 (0 : Int32) nm0113 (by first | omega | decide) (by first | omega | decide) hI (by first | assumption | omega | decide)) (cwV 2 hg (z_gV mm_1248 mm_1250 mm_71 mm_117 mm_1251) rfl rfl rfl (by decide +kernel) ⟨Nat.le_of_ble_eq_true rfl, Nat.le_of_ble_eq_true rfl⟩) ⟨(zA.pre [.ref (ad 0), .int 0, .int nm0113] hP hK hD hN).1, va_recv hK hP (ci := 9) (q0 := 0) rfl (zw_at (by omega) hs101), (zA.pre [.ref (ad 0), .int 0, .int nm0113] hP hK hD hN).2⟩ rfl rfl hl.1 rfl (lv_room (Nat.le_of_ble_eq_true rfl)) dX9_readsFactor_42 ⟨Nat.le_of_ble_eq_true rfl, Nat.le_of_ble_eq_true rfl⟩) hS (fun q _ h => hFc q h) hFc (fun _ t H1 locs ht hvm hr137 hB hz1 hk1 hS => ?_)
                obtain ⟨ct138, hP1, hD1, hI, hk139, hk140, hk141, hk142, hk143, hk144⟩ := hB
                rw [ht] at hP1
                have hD := hD1.weaken (fun _ _ _ h => hFc _ h)
                generalize H1 = H at hP1 hS ⊢
                have hP := hP1
                refine W.widen (k := 0) (n := 0) (Nat.le_refl _) (Nat.le_refl _) ?_
                have hs145 : ct138 13 = .inl (g.2 0, 120, .inl f77) := hk144.trans hs98
                have hps3 := PS.operand j2_0 (val := nm0113.toInt) (by omega) (by omega) (by omega) (by omega) (by omega) (wr_c hk143 (hk94) rfl (by omega) (by have q0 : (0 : Int32).toInt = 0 := rfl; omega)) (hk144.trans hk95) (Or.inl ⟨by omega, by omega⟩)
                refine lv_iconst (v := 1) hx hb dX9_readsFactor_45 (by decide) ?_
                have q146 : (1 : Int32).toInt = 1 := by decide
                exact W.zret (v := 1) hx hb hr rfl (fun t ht hW => ⟨⟨1, 1, rfl, by first | exact Or.inl ⟨rfl, rfl⟩ | exact Or.inr ⟨rfl, rfl⟩, ct138, by rw [ht]; exact hP, hD, hI, (by first | assumption | omega), (fun _ => by first | assumption | omega), (fun _ => by first | assumption | omega)⟩, hS.F ht⟩) hS.2.2 dX9_readsFactor_46
              · skip
                exact absurd c100 (by decide)
            · skip
              obtain ⟨rfl, h147⟩ := hr86
              replace h147 : u96 = 0 := h147
              refine lv_if_ne (tgt := 36) hx hb dX9_readsFactor_31 (by decide) (fun c148 => ?_) (fun c148 => ?_)
              · skip
                exact absurd c148 (by decide)
              · skip
                refine lv_iconst (v := 0) hx hb dX9_readsFactor_34 (by decide) ?_
                have q149 : (0 : Int32).toInt = 0 := by decide
                exact W.zret (v := 0) hx hb hr rfl (fun t ht hW => ⟨⟨0, 0, rfl, by first | exact Or.inl ⟨rfl, rfl⟩ | exact Or.inr ⟨rfl, rfl⟩, ct87, by rw [ht]; exact hP, hD, hI, (by first | assumption | omega), (fun q => absurd q (by decide)), (fun q => absurd q (by decide))⟩, hS.F ht⟩) hS.2.2 dX9_readsFactor_35
        · skip
          obtain ⟨rfl, h150⟩ := hr81
          replace h150 : ¬ (48 ≤ (zhv (ct37 0) (ct37 11)).toInt ∧ (zhv (ct37 0) (ct37 11)).toInt ≤ 57) := h150
          refine lv_if_eq (tgt := 47) hx hb dX9_readsFactor_24 (by decide) (fun c151 => ?_) (fun c151 => ?_)
          · skip
            refine lv_aload_n hx hb dX9_readsFactor_47 rfl (lv_at hl 0 rfl) ?_
            refine zc_i (va_runV (As := []) (rest := []) ⟨hx, hb, hml, hown, hg⟩ (k_X9_here l g ad me ct37  hI) (cwV 0 hg (z_gV mm_1215 mm_1217 mm_63 mm_117 mm_1218) rfl rfl rfl (by decide +kernel) ⟨Nat.le_of_ble_eq_true rfl, Nat.le_of_ble_eq_true rfl⟩) ⟨(zR.pre [.ref (ad 0)] hP hK hN).1, va_recv hK hP (ci := 9) (q0 := 0) rfl (zw_at (by omega) hs38), (zR.pre [.ref (ad 0)] hP hK hN).2⟩ rfl rfl hl.1 rfl (lv_room (Nat.le_of_ble_eq_true rfl)) dX9_readsFactor_48 ⟨Nat.le_of_ble_eq_true rfl, Nat.le_of_ble_eq_true rfl⟩) (fun r152 hr152 => ?_)
            obtain ⟨hqr152, h153⟩ := hr152
            subst r152
            replace h153 : (zhv (ct37 0) (ct37 11)).toInt = -1 ∨ (0 ≤ (zhv (ct37 0) (ct37 11)).toInt ∧ zfi 17 (ct37 0) < zfi 18 (ct37 0)) := h153
            refine zc_i (va_runS (As := [.int (zhv (ct37 0) (ct37 11))]) (rest := []) ⟨hx, hb, hml, hown, hg⟩ (k_X9_factOf l g ad me ct37 (zhv (ct37 0) (ct37 11)) hI) (va_cwS 1 hg (z_gS mm_1252 mm_1253 mm_117 mm_1254) rfl rfl rfl (by decide +kernel) ⟨Nat.le_of_ble_eq_true rfl, Nat.le_of_ble_eq_true rfl⟩) (zR.pre [.int (zhv (ct37 0) (ct37 11))] hP hK hN) rfl rfl hl.1 rfl (lv_room (Nat.le_of_ble_eq_true rfl)) dX9_readsFactor_51 ⟨Nat.le_of_ble_eq_true rfl, Nat.le_of_ble_eq_true rfl⟩) (fun r154 hr154 => ?_)
            have h155 := hr154
            clear hr154
            replace h155 : r154.toInt = -1 ∨ (0 ≤ r154.toInt ∧ r154.toInt ≤ 6 ∧ 0 ≤ (zhv (ct37 0) (ct37 11)).toInt) := h155
            refine lv_istore_n (lv' := [(1, .int r154), (0, .ref (ad 0))]) hx hb dX9_readsFactor_54 rfl hl (by decide) rfl (fun ls hl => ?_)
            refine lv_iload_n hx hb dX9_readsFactor_55 rfl (lv_at hl 0 rfl) ?_
            refine lv_iconst (v := (-1)) hx hb dX9_readsFactor_56 (by decide) ?_
            refine lv_icmp_ne (tgt := 70) hx hb dX9_readsFactor_57 (by decide) (fun c156 => ?_) (fun c156 => ?_)
            · skip
              have c156 : ¬ (r154.toInt = (-1)) := fun q => c156 ((z_eq rfl (by decide : ((-1) : Int32).toInt = (-1))).mpr q)
              refine lv_aload_n hx hb dX9_readsFactor_70 rfl (lv_at hl 1 rfl) ?_
              refine lv_iconst (v := 1) hx hb dX9_readsFactor_71 (by decide) ?_
              refine lv_iload_n hx hb dX9_readsFactor_72 rfl (lv_at hl 0 rfl) ?_
              have hFc := zw_free hD hS hA
              refine va_callv (va_runV (As := [.int 1, .int r154]) (rest := []) ⟨hx, hb, hml, hown, hg⟩ (k_X9_notes l g _ ad me ct37 (1 : Int32) r154 (by first | omega | decide) (by first | omega | decide) hI (by first | assumption | omega | decide)) (cwV 2 hg (z_gV mm_1248 mm_1250 mm_71 mm_117 mm_1251) rfl rfl rfl (by decide +kernel) ⟨Nat.le_of_ble_eq_true rfl, Nat.le_of_ble_eq_true rfl⟩) ⟨(zA.pre [.ref (ad 0), .int 1, .int r154] hP hK hD hN).1, va_recv hK hP (ci := 9) (q0 := 0) rfl (zw_at (by omega) hs38), (zA.pre [.ref (ad 0), .int 1, .int r154] hP hK hD hN).2⟩ rfl rfl hl.1 rfl (lv_room (Nat.le_of_ble_eq_true rfl)) dX9_readsFactor_73 ⟨Nat.le_of_ble_eq_true rfl, Nat.le_of_ble_eq_true rfl⟩) hS (fun q _ h => hFc q h) hFc (fun _ t H1 locs ht hvm hr157 hB hz1 hk1 hS => ?_)
              obtain ⟨ct158, hP1, hD1, hI, hk159, hk160, hk161, hk162, hk163, hk164⟩ := hB
              rw [ht] at hP1
              have hD := hD1.weaken (fun _ _ _ h => hFc _ h)
              generalize H1 = H at hP1 hS ⊢
              have hP := hP1
              refine W.widen (k := 0) (n := 0) (Nat.le_refl _) (Nat.le_refl _) ?_
              have hs165 : ct158 13 = .inl (g.2 0, 120, .inl f77) := hk164.trans hs76
              refine lv_aload_n hx hb dX9_readsFactor_76 rfl (lv_at hl 1 rfl) ?_
              refine lv_aload_n hx hb dX9_readsFactor_77 rfl (lv_at hl 1 rfl) ?_
              obtain ⟨bks167, lks168, gos169, shn170, tpd171, pl0172, ln0173, flt174, opn175, cmy176, wtg177, nm0178, mst179, sus180, cut181, h182, h183, h184, h185, h186, h187, h188, h189, h190, h191, h192, h193, h194, h195, h196, h197, h198, h199, h200, h201, hs166⟩ := a9_0 hI.1
              have z17_hs166 : zfi 17 (ct158 0) = pl0172.toInt := by rw [hs166]; rfl
              have z18_hs166 : zfi 18 (ct158 0) = ln0173.toInt := by rw [hs166]; rfl
              have z21_hs166 : zfi 21 (ct158 0) = cmy176.toInt := by rw [hs166]; rfl
              have z22_hs166 : zfi 22 (ct158 0) = wtg177.toInt := by rw [hs166]; rfl
              have z23_hs166 : zfi 23 (ct158 0) = nm0178.toInt := by rw [hs166]; rfl
              refine va_get (D := g.1) (ci := 9) (v := .int pl0172) (C := RX9) (T := TX9) (N := 47) hx hb hg inG9 hown hK hP 0 (zw_at (by omega) hs166) rfl 17 (by decide) (hg _ mm_975) (fun _ h9 => h9) rfl dX9_readsFactor_78 ?_
              refine lv_iconst (v := 1) hx hb dX9_readsFactor_81 (by decide) ?_
              refine lv_iadd hx hb dX9_readsFactor_82 ?_
              refine lv_topi (fun x202 ex202 => ?_)
              have tx202 : x202.toInt = pl0172.toInt + 1 := by rw [ex202]; exact z_add rfl (by decide : (1 : Int32).toInt = 1) (by omega) (by omega)
              refine va_put (D := g.1) (ci := 9) (v := .int x202) (ty := .int) (C := RX9) (T := TX9) (N := 47) hx hb hg inG9 tyX9 tyX9_ok nmX9 hown hK hP hD hS 0 (zw_at (by omega) hs166) rfl 17 (by decide) (hg _ mm_975) (fun _ h9 => h9) rfl (by decide +kernel) rfl rfl (Nat.le_of_ble_eq_true rfl) dX9_readsFactor_83 (fun H locs hP hD hS => ?_)
              have hP : zP g ((zw 32 ad ct158).set 0 (ad 0, .inr (9, [.int me, .ref (ad 1), .ref (ad 2), .ref (ad 3), .ref (ad 4), .int bks167, .int lks168, .int gos169, .int shn170, .ref (ad 5), .ref (ad 6), .ref (ad 7), .ref (ad 8), .ref (ad 9), .ref (ad 10), .ref (ad 11), .int tpd171, .int x202, .int ln0173, .int flt174, .int opn175, .int cmy176, .int wtg177, .int nm0178, .ref (ad 12), .ref (ad 13), .ref (ad 14), .ref (ad 15), .ref (ad 16), .ref (ad 17), .ref (ad 18), .ref (ad 19), .ref (ad 20), .ref (ad 21), .ref (ad 22), .ref (ad 23), .ref (ad 24), .ref (ad 25), .ref (ad 26), .ref (ad 27), .int mst179, .int sus180, .ref (ad 28), .ref (ad 29), .ref (ad 30), .ref (ad 31), .int cut181]))) H := hP
              have hD : va_D A ((zw 32 ad ct158).set 0 (ad 0, .inr (9, [.int me, .ref (ad 1), .ref (ad 2), .ref (ad 3), .ref (ad 4), .int bks167, .int lks168, .int gos169, .int shn170, .ref (ad 5), .ref (ad 6), .ref (ad 7), .ref (ad 8), .ref (ad 9), .ref (ad 10), .ref (ad 11), .int tpd171, .int x202, .int ln0173, .int flt174, .int opn175, .int cmy176, .int wtg177, .int nm0178, .ref (ad 12), .ref (ad 13), .ref (ad 14), .ref (ad 15), .ref (ad 16), .ref (ad 17), .ref (ad 18), .ref (ad 19), .ref (ad 20), .ref (ad 21), .ref (ad 22), .ref (ad 23), .ref (ad 24), .ref (ad 25), .ref (ad 26), .ref (ad 27), .int mst179, .int sus180, .ref (ad 28), .ref (ad 29), .ref (ad 30), .ref (ad 31), .int cut181]))) := hD
              rw [zw_set (by omega)] at hP hD
              obtain ⟨ct203, ec204⟩ : ∃ z : Nat → va_E, z = va_up ct158 0 (.inr (9, [.int me, .ref (ad 1), .ref (ad 2), .ref (ad 3), .ref (ad 4), .int bks167, .int lks168, .int gos169, .int shn170, .ref (ad 5), .ref (ad 6), .ref (ad 7), .ref (ad 8), .ref (ad 9), .ref (ad 10), .ref (ad 11), .int tpd171, .int x202, .int ln0173, .int flt174, .int opn175, .int cmy176, .int wtg177, .int nm0178, .ref (ad 12), .ref (ad 13), .ref (ad 14), .ref (ad 15), .ref (ad 16), .ref (ad 17), .ref (ad 18), .ref (ad 19), .ref (ad 20), .ref (ad 21), .ref (ad 22), .ref (ad 23), .ref (ad 24), .ref (ad 25), .ref (ad 26), .ref (ad 27), .int mst179, .int sus180, .ref (ad 28), .ref (ad 29), .ref (ad 30), .ref (ad 31), .int cut181])) := ⟨_, rfl⟩
              rw [← ec204] at hP hD
              have hI : IR g ad me ct203 := by rw [ec204]; exact upR hI (by decide) (i9_0 ⟨(bks167 : Int32), (lks168 : Int32), (gos169 : Int32), (shn170 : Int32), (tpd171 : Int32), (x202 : Int32), (ln0173 : Int32), (flt174 : Int32), (opn175 : Int32), (cmy176 : Int32), (wtg177 : Int32), (nm0178 : Int32), (mst179 : Int32), (sus180 : Int32), (cut181 : Int32), (by first | omega | decide), (by first | omega | decide), (by first | omega | decide), (by first | omega | decide), (by first | omega | decide), (by first | omega | decide), (by first | omega | decide), (by first | omega | decide), (by first | omega | decide), (by first | omega | decide), (by first | omega | decide), (by first | omega | decide), (by first | omega | decide), (by first | omega | decide), (by first | omega | decide), (by first | omega | decide), (by first | omega | decide), (by first | omega | decide), (by first | omega | decide), (by first | omega | decide), rfl⟩)
              have hs205 : ct203 13 = .inl (g.2 0, 120, .inl f77) := by rw [ec204, va_up_ne _ _ (by omega)]; exact hs165
              have hs206 : ct203 0 = .inr (9, [.int me, .ref (ad 1), .ref (ad 2), .ref (ad 3), .ref (ad 4), .int bks167, .int lks168, .int gos169, .int shn170, .ref (ad 5), .ref (ad 6), .ref (ad 7), .ref (ad 8), .ref (ad 9), .ref (ad 10), .ref (ad 11), .int tpd171, .int x202, .int ln0173, .int flt174, .int opn175, .int cmy176, .int wtg177, .int nm0178, .ref (ad 12), .ref (ad 13), .ref (ad 14), .ref (ad 15), .ref (ad 16), .ref (ad 17), .ref (ad 18), .ref (ad 19), .ref (ad 20), .ref (ad 21), .ref (ad 22), .ref (ad 23), .ref (ad 24), .ref (ad 25), .ref (ad 26), .ref (ad 27), .int mst179, .int sus180, .ref (ad 28), .ref (ad 29), .ref (ad 30), .ref (ad 31), .int cut181]) := by rw [ec204]; exact va_up_self _ _ _
              have z17_hs206 : zfi 17 (ct203 0) = (x202 : Int32).toInt := by rw [hs206]; rfl
              have z18_hs206 : zfi 18 (ct203 0) = (ln0173 : Int32).toInt := by rw [hs206]; rfl
              have z21_hs206 : zfi 21 (ct203 0) = (cmy176 : Int32).toInt := by rw [hs206]; rfl
              have z22_hs206 : zfi 22 (ct203 0) = (wtg177 : Int32).toInt := by rw [hs206]; rfl
              have z23_hs206 : zfi 23 (ct203 0) = (nm0178 : Int32).toInt := by rw [hs206]; rfl
              have hps3 := PS.operand j2_0 (val := 1048576 + r154.toInt) (by omega) (by omega) (by omega) (by omega) (by omega) (wr_c hk163 rfl (by rw [ec204]; exact va_up_ne _ _ (by omega)) rfl (by have q : (1 : Int32).toInt = 1 := rfl; omega)) (hs205.trans hs76.symm) (Or.inr ⟨by omega, by omega⟩)
              refine lv_iconst (v := 1) hx hb dX9_readsFactor_86 (by decide) ?_
              have q207 : (1 : Int32).toInt = 1 := by decide
              exact W.zret (v := 1) hx hb hr rfl (fun t ht hW => ⟨⟨1, 1, rfl, by first | exact Or.inl ⟨rfl, rfl⟩ | exact Or.inr ⟨rfl, rfl⟩, ct203, by rw [ht]; exact hP, hD, hI, (by first | assumption | omega), (fun _ => by first | assumption | omega), (fun _ => by first | assumption | omega)⟩, hS.F ht⟩) hS.2.2 dX9_readsFactor_87
            · skip
              have c156 : r154.toInt = (-1) := (z_eq rfl (by decide : ((-1) : Int32).toInt = (-1))).mp c156
              refine lv_aload_n hx hb dX9_readsFactor_60 rfl (lv_at hl 1 rfl) ?_
              refine lv_iconst (v := 1) hx hb dX9_readsFactor_61 (by decide) ?_
              refine lv_aload_n hx hb dX9_readsFactor_62 rfl (lv_at hl 1 rfl) ?_
              refine va_get (D := g.1) (ci := 9) (v := .int pl044) (C := RX9) (T := TX9) (N := 47) hx hb hg inG9 hown hK hP 0 (zw_at (by omega) hs38) rfl 17 (by decide) (hg _ mm_975) (fun _ h9 => h9) rfl dX9_readsFactor_63 ?_
              have hFc := zw_free hD hS hA
              refine va_calli (va_runV (As := [.int 1, .int pl044]) (rest := []) ⟨hx, hb, hml, hown, hg⟩ (k_X9_wrongAt l g _ ad me ct37 (1 : Int32) pl044 hI) (cwV 2 hg (z_gV mm_1223 mm_1225 mm_65 mm_117 mm_1226) rfl rfl rfl (by decide +kernel) ⟨Nat.le_of_ble_eq_true rfl, Nat.le_of_ble_eq_true rfl⟩) ⟨(zA.pre [.ref (ad 0), .int 1, .int pl044] hP hK hD hN).1, va_recv hK hP (ci := 9) (q0 := 0) rfl (zw_at (by omega) hs38), (zA.pre [.ref (ad 0), .int 1, .int pl044] hP hK hD hN).2⟩ rfl rfl hl.1 rfl (lv_room (Nat.le_of_ble_eq_true rfl)) dX9_readsFactor_66 ⟨Nat.le_of_ble_eq_true rfl, Nat.le_of_ble_eq_true rfl⟩) hS (fun q _ h => hFc q h) hFc (fun r208 _ t H1 locs ht hvm hr208 hB hz1 hk1 hS => ?_)
              obtain ⟨ct209, hP1, hD1, hI, hk210, hk211, hk212, hk213, hk214, hk215⟩ := hB
              rw [ht] at hP1
              have hD := hD1.weaken (fun _ _ _ h => hFc _ h)
              generalize H1 = H at hP1 hS ⊢
              have hP := hP1
              refine W.widen (k := 0) (n := 0) (Nat.le_refl _) (Nat.le_refl _) ?_
              have hs216 : ct209 12 = .inl (g.2 0, 120, .inl f75) := hk214.trans hs74
              have hs217 : ct209 13 = .inl (g.2 0, 120, .inl f77) := hk215.trans hs76
              obtain rfl := hr208
              have q218 : (0 : Int32).toInt = 0 := by decide
              exact W.zret (v := 0) hx hb hr rfl (fun t ht hW => ⟨⟨0, 0, rfl, by first | exact Or.inl ⟨rfl, rfl⟩ | exact Or.inr ⟨rfl, rfl⟩, ct209, by rw [ht]; exact hP, hD, hI, (by first | assumption | omega), (fun q => absurd q (by decide)), (fun q => absurd q (by decide))⟩, hS.F ht⟩) hS.2.2 dX9_readsFactor_69
          · skip
            exact absurd c151 (by decide)
      · skip
        have c80 : (zhv (ct37 0) (ct37 11)).toInt = 91 := (z_eq rfl (by decide : (91 : Int32).toInt = 91)).mp c80
        refine lv_aload_n hx hb dX9_readsFactor_9 rfl (lv_at hl 0 rfl) ?_
        refine lv_bipush (v := 14) hx hb dX9_readsFactor_10 (by decide) ?_
        have hFc := zw_free hD hS hA
        refine va_calli (va_runV (As := [.int 14]) (rest := []) ⟨hx, hb, hml, hown, hg⟩ (k_X9_opens l g _ ad me ct37 (14 : Int32) (by first | omega | decide) hI (by first | assumption | omega | decide) (by first | assumption | omega | decide)) (cwV 1 hg (z_gV mm_1219 mm_1221 mm_64 mm_117 mm_1222) rfl rfl rfl (by decide +kernel) ⟨Nat.le_of_ble_eq_true rfl, Nat.le_of_ble_eq_true rfl⟩) ⟨(zA.pre [.ref (ad 0), .int 14] hP hK hD hN).1, va_recv hK hP (ci := 9) (q0 := 0) rfl (zw_at (by omega) hs38), (zA.pre [.ref (ad 0), .int 14] hP hK hD hN).2⟩ rfl rfl hl.1 rfl (lv_room (Nat.le_of_ble_eq_true rfl)) dX9_readsFactor_12 ⟨Nat.le_of_ble_eq_true rfl, Nat.le_of_ble_eq_true rfl⟩) hS (fun q _ h => hFc q h) hFc (fun r219 u227 t H1 locs ht hvm hr219 hB hz1 hk1 hS => ?_)
        obtain ⟨ct220, hP1, hD1, hI, hk221, hk222, hk223, hk224, hk225, hk226⟩ := hB
        rw [ht] at hP1
        have hD := hD1.weaken (fun _ _ _ h => hFc _ h)
        generalize H1 = H at hP1 hS ⊢
        have hP := hP1
        refine W.widen (k := 0) (n := 0) (Nat.le_refl _) (Nat.le_refl _) ?_
        have hs228 : ct220 12 = .inl (g.2 0, 120, .inl f75) := hk226.trans hs74
        rcases hr219 with hr219 | hr219
        · skip
          obtain ⟨rfl, h229⟩ := hr219
          replace h229 : u227 = 1 := h229
          have hk223 := hk223 h229
          have hk224 := hk224 h229
          have hk225 := hk225 h229
          refine lv_if_ne (tgt := 0) hx hb dX9_readsFactor_15 (by decide) (fun c230 => ?_) (fun c230 => ?_)
          · skip
            have hps2 := PS.push j2_0 (x2 := x) (R2 := RB base f0) (r := 14) (by omega) (by omega) (by omega) (by omega) (by omega) (hk226) (wr_c hk225 rfl rfl rfl (by have q : (14 : Int32).toInt = 14 := rfl; omega)) (Or.inr ⟨by omega, rfl⟩) (fun fw W w h t => h.push (Or.inr t))
            obtain ⟨bks232, lks233, gos234, shn235, tpd236, pl0237, ln0238, flt239, opn240, cmy241, wtg242, nm0243, mst244, sus245, cut246, h247, h248, h249, h250, h251, h252, h253, h254, h255, h256, h257, h258, h259, h260, h261, h262, h263, h264, h265, h266, hs231⟩ := a9_0 hI.1
            have z17_hs231 : zfi 17 (ct220 0) = pl0237.toInt := by rw [hs231]; rfl
            have z18_hs231 : zfi 18 (ct220 0) = ln0238.toInt := by rw [hs231]; rfl
            have z21_hs231 : zfi 21 (ct220 0) = cmy241.toInt := by rw [hs231]; rfl
            have z22_hs231 : zfi 22 (ct220 0) = wtg242.toInt := by rw [hs231]; rfl
            have z23_hs231 : zfi 23 (ct220 0) = nm0243.toInt := by rw [hs231]; rfl
            exact ih0  ct220 _ _ ls (by omega) (by first | assumption | omega | decide) (by first | assumption | omega | decide) (by first | assumption | omega | decide) hI hP hD hS (lv_sub hl [0] rfl)
          · skip
            exact absurd c230 (by decide)
        · skip
          obtain ⟨rfl, h267⟩ := hr219
          replace h267 : u227 = 0 := h267
          refine lv_if_ne (tgt := 0) hx hb dX9_readsFactor_15 (by decide) (fun c268 => ?_) (fun c268 => ?_)
          · skip
            exact absurd c268 (by decide)
          · skip
            refine lv_iconst (v := 0) hx hb dX9_readsFactor_18 (by decide) ?_
            have q269 : (0 : Int32).toInt = 0 := by decide
            exact W.zret (v := 0) hx hb hr rfl (fun t ht hW => ⟨⟨0, 0, rfl, by first | exact Or.inl ⟨rfl, rfl⟩ | exact Or.inr ⟨rfl, rfl⟩, ct220, by rw [ht]; exact hP, hD, hI, (by first | assumption | omega), (fun q => absurd q (by decide)), (fun q => absurd q (by decide))⟩, hS.F ht⟩) hS.2.2 dX9_readsFactor_19
  exact loop0 ((zfi 18 (ct 0) - zfi 17 (ct 0) : Int).toNat + 1)  ct _ _ ls (by omega) (by first | assumption | omega | decide) (by first | assumption | omega | decide) (by first | assumption | omega | decide) hI hP hD hS (lv_sub hl [0] rfl)
