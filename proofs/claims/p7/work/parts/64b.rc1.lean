set_option maxHeartbeats 4000000 in
set_option maxRecDepth 100000 in
theorem k_X9_canSwap (l : Launch) (g : zG) (ad : Nat → Nat) (me : Int32) (ct : Nat → va_E) (b : Int32) (i : Int32) (j : Int32) (c0 : Int32) (hI : IR g ad me ct) : Met l yX9_canSwap (zW yX9_canSwap cX9_canSwap 5 (some .boolean)) ({ frames := 3, cells := 0, slots := 0, locals := 65 }) (va_Pc [.ref (ad 0), .int b, .int i, .int j, .int c0] (zR g (zw 32 ad ct))) (vp_Si (fun r : Int32 => (r = 1 ∧ (0 ≤ b.toInt ∧ b.toInt ≤ 3) ∧ (0 ≤ i.toInt ∧ i.toInt ≤ 7) ∧ (0 ≤ j.toInt ∧ j.toInt ≤ 7) ∧ (0 ≤ c0.toInt ∧ c0.toInt ≤ 3)) ∨ (r = 0))) 0 0 (fun _ => False) := by
  refine Met.ofW (cc := cX9_canSwap) (maxL := 5) (ret := (some .boolean)) (by decide) rfl ?_
  intro p e s m args below meth c s₁ B hml hv
  obtain ⟨rfl, hP, hK, hN⟩ := hv
  have hx := B.exec
  have hb := B.bytes
  have hr := B.returns
  have hg := zW.law (atoms_spec (ws := (zW yX9_canSwap cX9_canSwap 5 (some .boolean))) B.pre)
  have hown : s.vm.findClass RX9 = some m.cls := findClass_of_methodNamed B.named
  have hlocks := B.notSynchronized
  have hpe0 := hI.1.1
  have hl := lv_entry ([.ref (ad 0), .int b, .int i, .int j, .int c0]) (n := 5) (Nat.le_of_ble_eq_true rfl)
  rw [lg_entry_eq]
  generalize (lg_sl ([.ref (ad 0), .int b, .int i, .int j, .int c0]) ++ List.replicate (5 - (lg_sl ([.ref (ad 0), .int b, .int i, .int j, .int c0])).length) Slot.unset).toArray = ls at hl ⊢
  have hl : lv_has ls 5 [(0, .ref (ad 0)), (1, .int b), (2, .int i), (3, .int j), (4, .int c0)] := hl
  have rg_b := z_rng b
  have rg_i := z_rng i
  have rg_j := z_rng j
  have rg_c0 := z_rng c0
  refine lv_aload_n hx hb dX9_canSwap_0 rfl (lv_at hl 0 rfl) ?_
  refine lv_iload_n hx hb dX9_canSwap_1 rfl (lv_at hl 1 rfl) ?_
  refine lv_iload_n hx hb dX9_canSwap_2 rfl (lv_at hl 2 rfl) ?_
  obtain ⟨bks2, lks3, gos4, shn5, tpd6, pl07, ln08, flt9, opn10, cmy11, wtg12, nm013, mst14, sus15, cut16, h17, h18, h19, h20, h21, h22, h23, h24, h25, h26, h27, h28, h29, h30, h31, h32, h33, h34, h35, h36, hs1⟩ := a9_0 hI.1
  refine zc_i (va_runV (As := [.int b, .int i]) (rest := []) ⟨hx, hb, hml, hown, hg⟩ (k_X9_isThere l g ad me ct b i hI) (cwV 2 hg (z_gV mm_1166 mm_1168 mm_56 mm_117 mm_1169) rfl rfl rfl (by decide +kernel) ⟨Nat.le_of_ble_eq_true rfl, Nat.le_of_ble_eq_true rfl⟩) ⟨(zR.pre [.ref (ad 0), .int b, .int i] hP hK hN).1, va_recv hK hP (ci := 9) (q0 := 0) rfl (zw_at (by omega) hs1), (zR.pre [.ref (ad 0), .int b, .int i] hP hK hN).2⟩ rfl rfl hl.1 rfl (lv_room (Nat.le_of_ble_eq_true rfl)) dX9_canSwap_3 ⟨Nat.le_of_ble_eq_true rfl, Nat.le_of_ble_eq_true rfl⟩) (fun r37 hr37 => ?_)
  rcases hr37 with hr37 | hr37
  · skip
    obtain ⟨rfl, h38, h39⟩ := hr37
    replace h38 : 0 ≤ b.toInt ∧ b.toInt ≤ 3 := h38
    replace h39 : 0 ≤ i.toInt ∧ i.toInt ≤ 7 := h39
    refine lv_if_eq (tgt := 63) hx hb dX9_canSwap_6 (by decide) (fun c40 => ?_) (fun c40 => ?_)
    · skip
      exact absurd c40 (by decide)
    · skip
      refine lv_aload_n hx hb dX9_canSwap_9 rfl (lv_at hl 0 rfl) ?_
      refine lv_iload_n hx hb dX9_canSwap_10 rfl (lv_at hl 1 rfl) ?_
      refine lv_iload_n hx hb dX9_canSwap_11 rfl (lv_at hl 3 rfl) ?_
      refine zc_i (va_runV (As := [.int b, .int j]) (rest := []) ⟨hx, hb, hml, hown, hg⟩ (k_X9_isThere l g ad me ct b j hI) (cwV 2 hg (z_gV mm_1166 mm_1168 mm_56 mm_117 mm_1169) rfl rfl rfl (by decide +kernel) ⟨Nat.le_of_ble_eq_true rfl, Nat.le_of_ble_eq_true rfl⟩) ⟨(zR.pre [.ref (ad 0), .int b, .int j] hP hK hN).1, va_recv hK hP (ci := 9) (q0 := 0) rfl (zw_at (by omega) hs1), (zR.pre [.ref (ad 0), .int b, .int j] hP hK hN).2⟩ rfl rfl hl.1 rfl (lv_room (Nat.le_of_ble_eq_true rfl)) dX9_canSwap_12 ⟨Nat.le_of_ble_eq_true rfl, Nat.le_of_ble_eq_true rfl⟩) (fun r41 hr41 => ?_)
      rcases hr41 with hr41 | hr41
      · skip
        obtain ⟨rfl, h42, h43⟩ := hr41
        replace h42 : 0 ≤ b.toInt ∧ b.toInt ≤ 3 := h42
        replace h43 : 0 ≤ j.toInt ∧ j.toInt ≤ 7 := h43
        refine lv_if_eq (tgt := 63) hx hb dX9_canSwap_15 (by decide) (fun c44 => ?_) (fun c44 => ?_)
        · skip
          exact absurd c44 (by decide)
        · skip
          refine lv_iload hx hb dX9_canSwap_18 (lv_at hl 4 rfl) ?_
          refine zc_i (va_runS (As := [.int c0]) (rest := []) ⟨hx, hb, hml, hown, hg⟩ (k_X9_isColumn l g ad me ct c0 hI) (va_cwS 1 hg (z_gS mm_1106 mm_1107 mm_117 mm_1108) rfl rfl rfl (by decide +kernel) ⟨Nat.le_of_ble_eq_true rfl, Nat.le_of_ble_eq_true rfl⟩) (zR.pre [.int c0] hP hK hN) rfl rfl hl.1 rfl (lv_room (Nat.le_of_ble_eq_true rfl)) dX9_canSwap_20 ⟨Nat.le_of_ble_eq_true rfl, Nat.le_of_ble_eq_true rfl⟩) (fun r45 hr45 => ?_)
          rcases hr45 with hr45 | hr45
          · skip
            obtain ⟨rfl, h46, h47⟩ := hr45
            replace h46 : 0 ≤ c0.toInt := h46
            replace h47 : c0.toInt ≤ 3 := h47
            refine lv_if_eq (tgt := 63) hx hb dX9_canSwap_23 (by decide) (fun c48 => ?_) (fun c48 => ?_)
            · skip
              exact absurd c48 (by decide)
            · skip
              refine lv_aload_n hx hb dX9_canSwap_26 rfl (lv_at hl 0 rfl) ?_
              refine va_get (D := g.1) (ci := 9) (v := .ref (ad 7)) (C := RX9) (T := TX9) (N := 47) hx hb hg inG9 hown hK hP 0 (zw_at (by omega) hs1) rfl 11 (by decide) (hg _ mm_969) (fun _ h9 => h9) rfl dX9_canSwap_27 ?_
              refine lv_iconst (v := 4) hx hb dX9_canSwap_30 (by decide) ?_
              refine lv_iload_n hx hb dX9_canSwap_31 rfl (lv_at hl 1 rfl) ?_
              refine lv_iload_n hx hb dX9_canSwap_32 rfl (lv_at hl 2 rfl) ?_
              refine zc_i (va_runS (As := [.int b, .int i]) (rest := [.int 4, .ref (ad 7)]) ⟨hx, hb, hml, hown, hg⟩ (k_X9_at l g ad me ct b i (by first | omega | decide) (by first | omega | decide) hI) (va_cwS 2 hg (z_gS mm_1159 mm_1160 mm_117 mm_1161) rfl rfl rfl (by decide +kernel) ⟨Nat.le_of_ble_eq_true rfl, Nat.le_of_ble_eq_true rfl⟩) (zR.pre [.int b, .int i] hP hK hN) rfl rfl hl.1 rfl (lv_room (Nat.le_of_ble_eq_true rfl)) dX9_canSwap_33 ⟨Nat.le_of_ble_eq_true rfl, Nat.le_of_ble_eq_true rfl⟩) (fun r49 hr49 => ?_)
              have hr49_0 := hr49
              have hr49_0 : r49.toInt = 8 * b.toInt + i.toInt := hr49_0
              refine lv_imul hx hb dX9_canSwap_36 ?_
              refine lv_topi (fun x50 ex50 => ?_)
              have tx50 : x50.toInt = 4 * r49.toInt := by rw [ex50]; exact z_mul (by decide : (4 : Int32).toInt = 4) rfl (by omega) (by omega)
              refine lv_iload hx hb dX9_canSwap_37 (lv_at hl 4 rfl) ?_
              refine lv_iadd hx hb dX9_canSwap_39 ?_
              refine lv_topi (fun x51 ex51 => ?_)
              have tx51 : x51.toInt = x50.toInt + c0.toInt := by rw [ex51]; exact z_add rfl rfl (by omega) (by omega)
              obtain ⟨f53, hp54, hs52⟩ := a9_7 hI.1
              refine va_iald hx hb hK hP 7 0 (zw_at (by omega) hs52) rfl (z_in rfl (by omega) (by omega)) dX9_canSwap_40 ?_
              refine lv_topi (fun y55 ey55 => ?_)
              have hy55 := hp54 _ (z_clt (x := x51) rfl (by omega) (by omega))
              rw [← ey55] at hy55
              have hy55 : 0 ≤ y55.toInt ∧ y55.toInt ≤ 32 := hy55
              refine lv_aload_n hx hb dX9_canSwap_41 rfl (lv_at hl 0 rfl) ?_
              refine va_get (D := g.1) (ci := 9) (v := .ref (ad 7)) (C := RX9) (T := TX9) (N := 47) hx hb hg inG9 hown hK hP 0 (zw_at (by omega) hs1) rfl 11 (by decide) (hg _ mm_969) (fun _ h9 => h9) rfl dX9_canSwap_42 ?_
              refine lv_iconst (v := 4) hx hb dX9_canSwap_45 (by decide) ?_
              refine lv_iload_n hx hb dX9_canSwap_46 rfl (lv_at hl 1 rfl) ?_
              refine lv_iload_n hx hb dX9_canSwap_47 rfl (lv_at hl 3 rfl) ?_
              refine zc_i (va_runS (As := [.int b, .int j]) (rest := [.int 4, .ref (ad 7), .int y55]) ⟨hx, hb, hml, hown, hg⟩ (k_X9_at l g ad me ct b j (by first | omega | decide) (by first | omega | decide) hI) (va_cwS 2 hg (z_gS mm_1159 mm_1160 mm_117 mm_1161) rfl rfl rfl (by decide +kernel) ⟨Nat.le_of_ble_eq_true rfl, Nat.le_of_ble_eq_true rfl⟩) (zR.pre [.int b, .int j] hP hK hN) rfl rfl hl.1 rfl (lv_room (Nat.le_of_ble_eq_true rfl)) dX9_canSwap_48 ⟨Nat.le_of_ble_eq_true rfl, Nat.le_of_ble_eq_true rfl⟩) (fun r56 hr56 => ?_)
              have hr56_0 := hr56
              have hr56_0 : r56.toInt = 8 * b.toInt + j.toInt := hr56_0
              refine lv_imul hx hb dX9_canSwap_51 ?_
              refine lv_topi (fun x57 ex57 => ?_)
              have tx57 : x57.toInt = 4 * r56.toInt := by rw [ex57]; exact z_mul (by decide : (4 : Int32).toInt = 4) rfl (by omega) (by omega)
              refine lv_iload hx hb dX9_canSwap_52 (lv_at hl 4 rfl) ?_
              refine lv_iadd hx hb dX9_canSwap_54 ?_
              refine lv_topi (fun x58 ex58 => ?_)
              have tx58 : x58.toInt = x57.toInt + c0.toInt := by rw [ex58]; exact z_add rfl rfl (by omega) (by omega)
              refine va_iald hx hb hK hP 7 0 (zw_at (by omega) hs52) rfl (z_in rfl (by omega) (by omega)) dX9_canSwap_55 ?_
              refine lv_topi (fun y59 ey59 => ?_)
              have hy59 := hp54 _ (z_clt (x := x58) rfl (by omega) (by omega))
              rw [← ey59] at hy59
              have hy59 : 0 ≤ y59.toInt ∧ y59.toInt ≤ 32 := hy59
              refine lv_icmp_eq (tgt := 63) hx hb dX9_canSwap_56 (by decide) (fun c60 => ?_) (fun c60 => ?_)
              · skip
                have c60 : y55.toInt = y59.toInt := (z_eq rfl rfl).mp c60
                refine lv_iconst (v := 0) hx hb dX9_canSwap_63 (by decide) ?_
                have q61 : (0 : Int32).toInt = 0 := by decide
                exact W.zret (v := 0) hx hb hr rfl (fun t ht hW => ⟨0, rfl, by first | exact Or.inr rfl | exact Or.inl ⟨rfl, by omega, by omega, by omega, by omega⟩, ht⟩) (fun q hq => by cases hq) dX9_canSwap_64
              · skip
                have c60 : ¬ (y55.toInt = y59.toInt) := fun q => c60 ((z_eq rfl rfl).mpr q)
                refine lv_iconst (v := 1) hx hb dX9_canSwap_59 (by decide) ?_
                refine lv_goto (tgt := 64) hx hb dX9_canSwap_60 (by decide) ?_
                have q62 : (1 : Int32).toInt = 1 := by decide
                exact W.zret (v := 1) hx hb hr rfl (fun t ht hW => ⟨1, rfl, by first | exact Or.inr rfl | exact Or.inl ⟨rfl, by omega, by omega, by omega, by omega⟩, ht⟩) (fun q hq => by cases hq) dX9_canSwap_64
          · skip
            obtain ⟨rfl, h63⟩ := hr45
            replace h63 : ¬ (0 ≤ c0.toInt ∧ c0.toInt ≤ 3) := h63
            refine lv_if_eq (tgt := 63) hx hb dX9_canSwap_23 (by decide) (fun c64 => ?_) (fun c64 => ?_)
            · skip
              refine lv_iconst (v := 0) hx hb dX9_canSwap_63 (by decide) ?_
              have q65 : (0 : Int32).toInt = 0 := by decide
              exact W.zret (v := 0) hx hb hr rfl (fun t ht hW => ⟨0, rfl, by first | exact Or.inr rfl | exact Or.inl ⟨rfl, by omega, by omega, by omega, by omega⟩, ht⟩) (fun q hq => by cases hq) dX9_canSwap_64
            · skip
              exact absurd c64 (by decide)
      · skip
        obtain rfl := hr41
        refine lv_if_eq (tgt := 63) hx hb dX9_canSwap_15 (by decide) (fun c66 => ?_) (fun c66 => ?_)
        · skip
          refine lv_iconst (v := 0) hx hb dX9_canSwap_63 (by decide) ?_
          have q67 : (0 : Int32).toInt = 0 := by decide
          exact W.zret (v := 0) hx hb hr rfl (fun t ht hW => ⟨0, rfl, by first | exact Or.inr rfl | exact Or.inl ⟨rfl, by omega, by omega, by omega, by omega⟩, ht⟩) (fun q hq => by cases hq) dX9_canSwap_64
        · skip
          exact absurd c66 (by decide)
  · skip
    obtain rfl := hr37
    refine lv_if_eq (tgt := 63) hx hb dX9_canSwap_6 (by decide) (fun c68 => ?_) (fun c68 => ?_)
    · skip
      refine lv_iconst (v := 0) hx hb dX9_canSwap_63 (by decide) ?_
      have q69 : (0 : Int32).toInt = 0 := by decide
      exact W.zret (v := 0) hx hb hr rfl (fun t ht hW => ⟨0, rfl, by first | exact Or.inr rfl | exact Or.inl ⟨rfl, by omega, by omega, by omega, by omega⟩, ht⟩) (fun q hq => by cases hq) dX9_canSwap_64
    · skip
      exact absurd c68 (by decide)

set_option maxHeartbeats 4000000 in
set_option maxRecDepth 100000 in
theorem k_X9_swaps (l : Launch) (g : zG) (sz : Nat) (ad : Nat → Nat) (me : Int32) (ct : Nat → va_E) (b : Int32) (i : Int32) (j : Int32) (c0 : Int32) (hl_b : 0 ≤ b.toInt ∧ b.toInt ≤ 3) (hl_i : 0 ≤ i.toInt ∧ i.toInt ≤ 7) (hl_j : 0 ≤ j.toInt ∧ j.toInt ≤ 7) (hl_c0 : 0 ≤ c0.toInt ∧ c0.toInt ≤ 3) (hI : IR g ad me ct) : Met l yX9_swaps (zW yX9_swaps cX9_swaps 6 none) ({ frames := 1, cells := 0, slots := 0, locals := 21 }) (va_Pc [.ref (ad 0), .int b, .int i, .int j, .int c0] (zA g (zw 32 ad ct) sz)) (va_Qv (fun (_ : Unit) => True) (fun _ t => ∃ ct2 : Nat → va_E, zP g (zw 32 ad ct2) t.heap ∧ va_D (va_A (zw 32 ad ct) sz) (zw 32 ad ct2) ∧ IR g ad me ct2) (va_A (zw 32 ad ct) sz)) 0 0 (va_A (zw 32 ad ct) sz) := by
  refine Met.ofW (cc := cX9_swaps) (maxL := 6) (ret := none) (by decide) rfl ?_
  intro p e s m args below meth c s₁ B hml hv
  obtain ⟨rfl, hsz, hP, hK, hD0, hN⟩ := hv
  have hx := B.exec
  have hb := B.bytes
  have hr := B.returns
  have hg := zW.law (atoms_spec (ws := (zW yX9_swaps cX9_swaps 6 none)) B.pre)
  have hown : s.vm.findClass RX9 = some m.cls := findClass_of_methodNamed B.named
  have hlocks := B.notSynchronized
  have hpe0 := hI.1.1
  subst hsz
  have hD := hD0.self (sz := s.heap.size)
  generalize hAe : va_A (zw 32 ad ct) s.heap.size = A at hD ⊢
  have hA : ∀ q : Nat, s.heap.size ≤ q → A q := fun q h => by rw [← hAe]; exact Or.inr h
  have hS : va_S A s.heap s.heap [] := va_S.rf
  have hl := lv_entry ([.ref (ad 0), .int b, .int i, .int j, .int c0]) (n := 6) (Nat.le_of_ble_eq_true rfl)
  rw [lg_entry_eq]
  generalize (lg_sl ([.ref (ad 0), .int b, .int i, .int j, .int c0]) ++ List.replicate (6 - (lg_sl ([.ref (ad 0), .int b, .int i, .int j, .int c0])).length) Slot.unset).toArray = ls at hl ⊢
  have hl : lv_has ls 6 [(0, .ref (ad 0)), (1, .int b), (2, .int i), (3, .int j), (4, .int c0)] := hl
  refine lv_aload_n hx hb dX9_swaps_0 rfl (lv_at hl 0 rfl) ?_
  obtain ⟨bks2, lks3, gos4, shn5, tpd6, pl07, ln08, flt9, opn10, cmy11, wtg12, nm013, mst14, sus15, cut16, h17, h18, h19, h20, h21, h22, h23, h24, h25, h26, h27, h28, h29, h30, h31, h32, h33, h34, h35, h36, hs1⟩ := a9_0 hI.1
  refine va_get (D := g.1) (ci := 9) (v := .ref (ad 7)) (C := RX9) (T := TX9) (N := 47) hx hb hg inG9 hown hK hP 0 (zw_at (by omega) hs1) rfl 11 (by decide) (hg _ mm_969) (fun _ h9 => h9) rfl dX9_swaps_1 ?_
  refine lv_iconst (v := 4) hx hb dX9_swaps_4 (by decide) ?_
  refine lv_iload_n hx hb dX9_swaps_5 rfl (lv_at hl 1 rfl) ?_
  refine lv_iload_n hx hb dX9_swaps_6 rfl (lv_at hl 2 rfl) ?_
  refine zc_i (va_runS (As := [.int b, .int i]) (rest := [.int 4, .ref (ad 7)]) ⟨hx, hb, hml, hown, hg⟩ (k_X9_at l g ad me ct b i (by first | omega | decide) (by first | omega | decide) hI) (va_cwS 2 hg (z_gS mm_1159 mm_1160 mm_117 mm_1161) rfl rfl rfl (by decide +kernel) ⟨Nat.le_of_ble_eq_true rfl, Nat.le_of_ble_eq_true rfl⟩) (zR.pre [.int b, .int i] hP hK hN) rfl rfl hl.1 rfl (lv_room (Nat.le_of_ble_eq_true rfl)) dX9_swaps_7 ⟨Nat.le_of_ble_eq_true rfl, Nat.le_of_ble_eq_true rfl⟩) (fun r37 hr37 => ?_)
  have hr37_0 := hr37
  have hr37_0 : r37.toInt = 8 * b.toInt + i.toInt := hr37_0
  refine lv_imul hx hb dX9_swaps_10 ?_
  refine lv_topi (fun x38 ex38 => ?_)
  have tx38 : x38.toInt = 4 * r37.toInt := by rw [ex38]; exact z_mul (by decide : (4 : Int32).toInt = 4) rfl (by omega) (by omega)
  refine lv_iload hx hb dX9_swaps_11 (lv_at hl 4 rfl) ?_
  refine lv_iadd hx hb dX9_swaps_13 ?_
  refine lv_topi (fun x39 ex39 => ?_)
  have tx39 : x39.toInt = x38.toInt + c0.toInt := by rw [ex39]; exact z_add rfl rfl (by omega) (by omega)
  obtain ⟨f41, hp42, hs40⟩ := a9_7 hI.1
  refine va_iald hx hb hK hP 7 0 (zw_at (by omega) hs40) rfl (z_in rfl (by omega) (by omega)) dX9_swaps_14 ?_
  refine lv_topi (fun y43 ey43 => ?_)
  have hy43 := hp42 _ (z_clt (x := x39) rfl (by omega) (by omega))
  rw [← ey43] at hy43
  have hy43 : 0 ≤ y43.toInt ∧ y43.toInt ≤ 32 := hy43
  refine lv_istore (lv' := [(5, .int y43), (0, .ref (ad 0)), (1, .int b), (2, .int i), (3, .int j), (4, .int c0)]) hx hb dX9_swaps_15 hl (by decide) rfl (fun ls hl => ?_)
  refine lv_aload_n hx hb dX9_swaps_17 rfl (lv_at hl 1 rfl) ?_
  refine va_get (D := g.1) (ci := 9) (v := .ref (ad 7)) (C := RX9) (T := TX9) (N := 47) hx hb hg inG9 hown hK hP 0 (zw_at (by omega) hs1) rfl 11 (by decide) (hg _ mm_969) (fun _ h9 => h9) rfl dX9_swaps_18 ?_
  refine lv_iconst (v := 4) hx hb dX9_swaps_21 (by decide) ?_
  refine lv_iload_n hx hb dX9_swaps_22 rfl (lv_at hl 2 rfl) ?_
  refine lv_iload_n hx hb dX9_swaps_23 rfl (lv_at hl 3 rfl) ?_
  refine zc_i (va_runS (As := [.int b, .int i]) (rest := [.int 4, .ref (ad 7)]) ⟨hx, hb, hml, hown, hg⟩ (k_X9_at l g ad me ct b i (by first | omega | decide) (by first | omega | decide) hI) (va_cwS 2 hg (z_gS mm_1159 mm_1160 mm_117 mm_1161) rfl rfl rfl (by decide +kernel) ⟨Nat.le_of_ble_eq_true rfl, Nat.le_of_ble_eq_true rfl⟩) (zR.pre [.int b, .int i] hP hK hN) rfl rfl hl.1 rfl (lv_room (Nat.le_of_ble_eq_true rfl)) dX9_swaps_24 ⟨Nat.le_of_ble_eq_true rfl, Nat.le_of_ble_eq_true rfl⟩) (fun r44 hr44 => ?_)
  have hr44_0 := hr44
  have hr44_0 : r44.toInt = 8 * b.toInt + i.toInt := hr44_0
  refine lv_imul hx hb dX9_swaps_27 ?_
  refine lv_topi (fun x45 ex45 => ?_)
  have tx45 : x45.toInt = 4 * r44.toInt := by rw [ex45]; exact z_mul (by decide : (4 : Int32).toInt = 4) rfl (by omega) (by omega)
  refine lv_iload hx hb dX9_swaps_28 (lv_at hl 5 rfl) ?_
  refine lv_iadd hx hb dX9_swaps_30 ?_
  refine lv_topi (fun x46 ex46 => ?_)
  have tx46 : x46.toInt = x45.toInt + c0.toInt := by rw [ex46]; exact z_add rfl rfl (by omega) (by omega)
  refine lv_aload_n hx hb dX9_swaps_31 rfl (lv_at hl 1 rfl) ?_
  refine va_get (D := g.1) (ci := 9) (v := .ref (ad 7)) (C := RX9) (T := TX9) (N := 47) hx hb hg inG9 hown hK hP 0 (zw_at (by omega) hs1) rfl 11 (by decide) (hg _ mm_969) (fun _ h9 => h9) rfl dX9_swaps_32 ?_
  refine lv_iconst (v := 4) hx hb dX9_swaps_35 (by decide) ?_
  refine lv_iload_n hx hb dX9_swaps_36 rfl (lv_at hl 2 rfl) ?_
  refine lv_iload_n hx hb dX9_swaps_37 rfl (lv_at hl 4 rfl) ?_
  refine zc_i (va_runS (As := [.int b, .int j]) (rest := [.int 4, .ref (ad 7), .int x46, .ref (ad 7)]) ⟨hx, hb, hml, hown, hg⟩ (k_X9_at l g ad me ct b j (by first | omega | decide) (by first | omega | decide) hI) (va_cwS 2 hg (z_gS mm_1159 mm_1160 mm_117 mm_1161) rfl rfl rfl (by decide +kernel) ⟨Nat.le_of_ble_eq_true rfl, Nat.le_of_ble_eq_true rfl⟩) (zR.pre [.int b, .int j] hP hK hN) rfl rfl hl.1 rfl (lv_room (Nat.le_of_ble_eq_true rfl)) dX9_swaps_38 ⟨Nat.le_of_ble_eq_true rfl, Nat.le_of_ble_eq_true rfl⟩) (fun r47 hr47 => ?_)
  have hr47_0 := hr47
  have hr47_0 : r47.toInt = 8 * b.toInt + j.toInt := hr47_0
  refine lv_imul hx hb dX9_swaps_41 ?_
  refine lv_topi (fun x48 ex48 => ?_)
  have tx48 : x48.toInt = 4 * r47.toInt := by rw [ex48]; exact z_mul (by decide : (4 : Int32).toInt = 4) rfl (by omega) (by omega)
  refine lv_iload hx hb dX9_swaps_42 (lv_at hl 5 rfl) ?_
  refine lv_iadd hx hb dX9_swaps_44 ?_
  refine lv_topi (fun x49 ex49 => ?_)
  have tx49 : x49.toInt = x48.toInt + c0.toInt := by rw [ex49]; exact z_add rfl rfl (by omega) (by omega)
  refine va_iald hx hb hK hP 7 0 (zw_at (by omega) hs40) rfl (z_in rfl (by omega) (by omega)) dX9_swaps_45 ?_
  refine lv_topi (fun y50 ey50 => ?_)
  have hy50 := hp42 _ (z_clt (x := x49) rfl (by omega) (by omega))
  rw [← ey50] at hy50
  have hy50 : 0 ≤ y50.toInt ∧ y50.toInt ≤ 32 := hy50
  refine va_iast hx hb hK hP hD hS 7 0 (zw_at (by omega) hs40) rfl (z_in rfl (by omega) (by omega)) dX9_swaps_46 (fun H locs hP hD hS => ?_)
  have hp52 : ∀ j : Nat, j < 128 → (fun x : Int32 => 0 ≤ x.toInt ∧ x.toInt ≤ 32) ((upd f41 (Int32.toNatClampNeg x46) y50) j) := fun j hj => by
    unfold upd
    by_cases q : j = Int32.toNatClampNeg x46
    · rw [if_pos q]; exact (show 0 ≤ (y50 : Int32).toInt ∧ (y50 : Int32).toInt ≤ 32 from (by first | omega | decide))
    · rw [if_neg q]; exact hp42 j hj
  have hP : zP g ((zw 32 ad ct).set 7 (ad 7, .inl (g.2 0, 128, .inl (upd f41 (Int32.toNatClampNeg x46) y50)))) H := hP
  have hD : va_D A ((zw 32 ad ct).set 7 (ad 7, .inl (g.2 0, 128, .inl (upd f41 (Int32.toNatClampNeg x46) y50)))) := hD
  rw [zw_set (by omega)] at hP hD
  obtain ⟨ct53, ec54⟩ : ∃ z : Nat → va_E, z = va_up ct 7 (.inl (g.2 0, 128, .inl (upd f41 (Int32.toNatClampNeg x46) y50))) := ⟨_, rfl⟩
  rw [← ec54] at hP hD
  have hI : IR g ad me ct53 := by rw [ec54]; exact upR hI (by decide) (i9_7 ⟨_, hp52, rfl⟩)
  have hs55 : ct53 0 = .inr (9, [.int me, .ref (ad 1), .ref (ad 2), .ref (ad 3), .ref (ad 4), .int bks2, .int lks3, .int gos4, .int shn5, .ref (ad 5), .ref (ad 6), .ref (ad 7), .ref (ad 8), .ref (ad 9), .ref (ad 10), .ref (ad 11), .int tpd6, .int pl07, .int ln08, .int flt9, .int opn10, .int cmy11, .int wtg12, .int nm013, .ref (ad 12), .ref (ad 13), .ref (ad 14), .ref (ad 15), .ref (ad 16), .ref (ad 17), .ref (ad 18), .ref (ad 19), .ref (ad 20), .ref (ad 21), .ref (ad 22), .ref (ad 23), .ref (ad 24), .ref (ad 25), .ref (ad 26), .ref (ad 27), .int mst14, .int sus15, .ref (ad 28), .ref (ad 29), .ref (ad 30), .ref (ad 31), .int cut16]) := by rw [ec54, va_up_ne _ _ (by omega)]; exact hs1
  have hs56 : ct53 7 = .inl (g.2 0, 128, .inl (upd f41 (Int32.toNatClampNeg x46) y50)) := by rw [ec54]; exact va_up_self _ _ _
  refine lv_aload_n hx hb dX9_swaps_47 rfl (lv_at hl 1 rfl) ?_
  refine va_get (D := g.1) (ci := 9) (v := .ref (ad 7)) (C := RX9) (T := TX9) (N := 47) hx hb hg inG9 hown hK hP 0 (zw_at (by omega) hs55) rfl 11 (by decide) (hg _ mm_969) (fun _ h9 => h9) rfl dX9_swaps_48 ?_
  refine lv_iconst (v := 4) hx hb dX9_swaps_51 (by decide) ?_
  refine lv_iload_n hx hb dX9_swaps_52 rfl (lv_at hl 2 rfl) ?_
  refine lv_iload_n hx hb dX9_swaps_53 rfl (lv_at hl 4 rfl) ?_
  refine zc_i (va_runS (As := [.int b, .int j]) (rest := [.int 4, .ref (ad 7)]) ⟨hx, hb, hml, hown, hg⟩ (k_X9_at l g ad me ct53 b j (by first | omega | decide) (by first | omega | decide) hI) (va_cwS 2 hg (z_gS mm_1159 mm_1160 mm_117 mm_1161) rfl rfl rfl (by decide +kernel) ⟨Nat.le_of_ble_eq_true rfl, Nat.le_of_ble_eq_true rfl⟩) (zR.pre [.int b, .int j] hP hK hN) rfl rfl hl.1 rfl (lv_room (Nat.le_of_ble_eq_true rfl)) dX9_swaps_54 ⟨Nat.le_of_ble_eq_true rfl, Nat.le_of_ble_eq_true rfl⟩) (fun r57 hr57 => ?_)
  have hr57_0 := hr57
  have hr57_0 : r57.toInt = 8 * b.toInt + j.toInt := hr57_0
  refine lv_imul hx hb dX9_swaps_57 ?_
  refine lv_topi (fun x58 ex58 => ?_)
  have tx58 : x58.toInt = 4 * r57.toInt := by rw [ex58]; exact z_mul (by decide : (4 : Int32).toInt = 4) rfl (by omega) (by omega)
  refine lv_iload hx hb dX9_swaps_58 (lv_at hl 5 rfl) ?_
  refine lv_iadd hx hb dX9_swaps_60 ?_
  refine lv_topi (fun x59 ex59 => ?_)
  have tx59 : x59.toInt = x58.toInt + c0.toInt := by rw [ex59]; exact z_add rfl rfl (by omega) (by omega)
  refine lv_iload hx hb dX9_swaps_61 (lv_at hl 0 rfl) ?_
  refine va_iast hx hb hK hP hD hS 7 0 (zw_at (by omega) hs56) rfl (z_in rfl (by omega) (by omega)) dX9_swaps_63 (fun H locs hP hD hS => ?_)
  have hp61 : ∀ j : Nat, j < 128 → (fun x : Int32 => 0 ≤ x.toInt ∧ x.toInt ≤ 32) ((upd (upd f41 (Int32.toNatClampNeg x46) y50) (Int32.toNatClampNeg x59) y43) j) := fun j hj => by
    unfold upd
    by_cases q : j = Int32.toNatClampNeg x59
    · rw [if_pos q]; exact (show 0 ≤ (y43 : Int32).toInt ∧ (y43 : Int32).toInt ≤ 32 from (by first | omega | decide))
    · rw [if_neg q]; exact hp52 j hj
  have hP : zP g ((zw 32 ad ct53).set 7 (ad 7, .inl (g.2 0, 128, .inl (upd (upd f41 (Int32.toNatClampNeg x46) y50) (Int32.toNatClampNeg x59) y43)))) H := hP
  have hD : va_D A ((zw 32 ad ct53).set 7 (ad 7, .inl (g.2 0, 128, .inl (upd (upd f41 (Int32.toNatClampNeg x46) y50) (Int32.toNatClampNeg x59) y43)))) := hD
  rw [zw_set (by omega)] at hP hD
  obtain ⟨ct62, ec63⟩ : ∃ z : Nat → va_E, z = va_up ct53 7 (.inl (g.2 0, 128, .inl (upd (upd f41 (Int32.toNatClampNeg x46) y50) (Int32.toNatClampNeg x59) y43))) := ⟨_, rfl⟩
  rw [← ec63] at hP hD
  have hI : IR g ad me ct62 := by rw [ec63]; exact upR hI (by decide) (i9_7 ⟨_, hp61, rfl⟩)
  have hs64 : ct62 0 = .inr (9, [.int me, .ref (ad 1), .ref (ad 2), .ref (ad 3), .ref (ad 4), .int bks2, .int lks3, .int gos4, .int shn5, .ref (ad 5), .ref (ad 6), .ref (ad 7), .ref (ad 8), .ref (ad 9), .ref (ad 10), .ref (ad 11), .int tpd6, .int pl07, .int ln08, .int flt9, .int opn10, .int cmy11, .int wtg12, .int nm013, .ref (ad 12), .ref (ad 13), .ref (ad 14), .ref (ad 15), .ref (ad 16), .ref (ad 17), .ref (ad 18), .ref (ad 19), .ref (ad 20), .ref (ad 21), .ref (ad 22), .ref (ad 23), .ref (ad 24), .ref (ad 25), .ref (ad 26), .ref (ad 27), .int mst14, .int sus15, .ref (ad 28), .ref (ad 29), .ref (ad 30), .ref (ad 31), .int cut16]) := by rw [ec63, va_up_ne _ _ (by omega)]; exact hs55
  have hs65 : ct62 7 = .inl (g.2 0, 128, .inl (upd (upd f41 (Int32.toNatClampNeg x46) y50) (Int32.toNatClampNeg x59) y43)) := by rw [ec63]; exact va_up_self _ _ _
  exact W.vret hx hb hr (fun t ht hW => ⟨⟨(), rfl, trivial, ct62, by rw [ht]; exact hP, hD, hI⟩, hS.F ht⟩) hS.2.2 dX9_swaps_64

set_option maxHeartbeats 4000000 in
set_option maxRecDepth 100000 in
theorem k_X9_swap (l : Launch) (g : zG) (sz : Nat) (ad : Nat → Nat) (me : Int32) (ct : Nat → va_E) (b : Int32) (i : Int32) (j : Int32) (c0 : Int32) (hI : IR g ad me ct) : Met l yX9_swap (zW yX9_swap cX9_swap 5 (some .boolean)) ({ frames := 4, cells := 0, slots := 0, locals := 89 }) (va_Pc [.ref (ad 0), .int b, .int i, .int j, .int c0] (zA g (zw 32 ad ct) sz)) (va_Qi (fun (r : Int32) (_ : Unit) => (r = 1) ∨ (r = 0)) (fun _ t => ∃ ct2 : Nat → va_E, zP g (zw 32 ad ct2) t.heap ∧ va_D (va_A (zw 32 ad ct) sz) (zw 32 ad ct2) ∧ IR g ad me ct2) (va_A (zw 32 ad ct) sz)) 0 0 (va_A (zw 32 ad ct) sz) := by
  refine Met.ofW (cc := cX9_swap) (maxL := 5) (ret := (some .boolean)) (by decide) rfl ?_
  intro p e s m args below meth c s₁ B hml hv
  obtain ⟨rfl, hsz, hP, hK, hD0, hN⟩ := hv
  have hx := B.exec
  have hb := B.bytes
  have hr := B.returns
  have hg := zW.law (atoms_spec (ws := (zW yX9_swap cX9_swap 5 (some .boolean))) B.pre)
  have hown : s.vm.findClass RX9 = some m.cls := findClass_of_methodNamed B.named
  have hlocks := B.notSynchronized
  have hpe0 := hI.1.1
  subst hsz
  have hD := hD0.self (sz := s.heap.size)
  generalize hAe : va_A (zw 32 ad ct) s.heap.size = A at hD ⊢
  have hA : ∀ q : Nat, s.heap.size ≤ q → A q := fun q h => by rw [← hAe]; exact Or.inr h
  have hS : va_S A s.heap s.heap [] := va_S.rf
  have hl := lv_entry ([.ref (ad 0), .int b, .int i, .int j, .int c0]) (n := 5) (Nat.le_of_ble_eq_true rfl)
  rw [lg_entry_eq]
  generalize (lg_sl ([.ref (ad 0), .int b, .int i, .int j, .int c0]) ++ List.replicate (5 - (lg_sl ([.ref (ad 0), .int b, .int i, .int j, .int c0])).length) Slot.unset).toArray = ls at hl ⊢
  have hl : lv_has ls 5 [(0, .ref (ad 0)), (1, .int b), (2, .int i), (3, .int j), (4, .int c0)] := hl
  have rg_b := z_rng b
  have rg_i := z_rng i
  have rg_j := z_rng j
  have rg_c0 := z_rng c0
  refine lv_aload_n hx hb dX9_swap_0 rfl (lv_at hl 0 rfl) ?_
  refine lv_iload_n hx hb dX9_swap_1 rfl (lv_at hl 1 rfl) ?_
  refine lv_iload_n hx hb dX9_swap_2 rfl (lv_at hl 2 rfl) ?_
  refine lv_iload_n hx hb dX9_swap_3 rfl (lv_at hl 3 rfl) ?_
  refine lv_iload hx hb dX9_swap_4 (lv_at hl 4 rfl) ?_
  obtain ⟨bks2, lks3, gos4, shn5, tpd6, pl07, ln08, flt9, opn10, cmy11, wtg12, nm013, mst14, sus15, cut16, h17, h18, h19, h20, h21, h22, h23, h24, h25, h26, h27, h28, h29, h30, h31, h32, h33, h34, h35, h36, hs1⟩ := a9_0 hI.1
  refine zc_i (va_runV (As := [.int b, .int i, .int j, .int c0]) (rest := []) ⟨hx, hb, hml, hown, hg⟩ (k_X9_canSwap l g ad me ct b i j c0 hI) (cwV 4 hg (z_gV mm_1182 mm_1184 mm_59 mm_117 mm_1185) rfl rfl rfl (by decide +kernel) ⟨Nat.le_of_ble_eq_true rfl, Nat.le_of_ble_eq_true rfl⟩) ⟨(zR.pre [.ref (ad 0), .int b, .int i, .int j, .int c0] hP hK hN).1, va_recv hK hP (ci := 9) (q0 := 0) rfl (zw_at (by omega) hs1), (zR.pre [.ref (ad 0), .int b, .int i, .int j, .int c0] hP hK hN).2⟩ rfl rfl hl.1 rfl (lv_room (Nat.le_of_ble_eq_true rfl)) dX9_swap_6 ⟨Nat.le_of_ble_eq_true rfl, Nat.le_of_ble_eq_true rfl⟩) (fun r37 hr37 => ?_)
  rcases hr37 with hr37 | hr37
  · skip
    obtain ⟨rfl, h38, h39, h40, h41⟩ := hr37
    replace h38 : 0 ≤ b.toInt ∧ b.toInt ≤ 3 := h38
    replace h39 : 0 ≤ i.toInt ∧ i.toInt ≤ 7 := h39
    replace h40 : 0 ≤ j.toInt ∧ j.toInt ≤ 7 := h40
    replace h41 : 0 ≤ c0.toInt ∧ c0.toInt ≤ 3 := h41
    refine lv_if_ne (tgt := 14) hx hb dX9_swap_9 (by decide) (fun c42 => ?_) (fun c42 => ?_)
    · skip
      refine lv_aload_n hx hb dX9_swap_14 rfl (lv_at hl 0 rfl) ?_
      refine lv_iload_n hx hb dX9_swap_15 rfl (lv_at hl 1 rfl) ?_
      refine lv_iload_n hx hb dX9_swap_16 rfl (lv_at hl 2 rfl) ?_
      refine lv_iload_n hx hb dX9_swap_17 rfl (lv_at hl 3 rfl) ?_
      refine lv_iload hx hb dX9_swap_18 (lv_at hl 4 rfl) ?_
      have hFc := zw_free hD hS hA
      refine va_callv (va_runV (As := [.int b, .int i, .int j, .int c0]) (rest := []) ⟨hx, hb, hml, hown, hg⟩ (k_X9_swaps l g _ ad me ct b i j c0 (by first | omega | decide) (by first | omega | decide) (by first | omega | decide) (by first | omega | decide) hI) (cwV 4 hg (z_gV mm_1186 mm_1188 mm_60 mm_117 mm_1189) rfl rfl rfl (by decide +kernel) ⟨Nat.le_of_ble_eq_true rfl, Nat.le_of_ble_eq_true rfl⟩) ⟨(zA.pre [.ref (ad 0), .int b, .int i, .int j, .int c0] hP hK hD hN).1, va_recv hK hP (ci := 9) (q0 := 0) rfl (zw_at (by omega) hs1), (zA.pre [.ref (ad 0), .int b, .int i, .int j, .int c0] hP hK hD hN).2⟩ rfl rfl hl.1 rfl (lv_room (Nat.le_of_ble_eq_true rfl)) dX9_swap_20 ⟨Nat.le_of_ble_eq_true rfl, Nat.le_of_ble_eq_true rfl⟩) hS (fun q _ h => hFc q h) hFc (fun _ t H1 locs ht hvm hr43 hB hz1 hk1 hS => ?_)
      obtain ⟨ct44, hP1, hD1, hI⟩ := hB
      rw [ht] at hP1
      have hD := hD1.weaken (fun _ _ _ h => hFc _ h)
      generalize H1 = H at hP1 hS ⊢
      have hP := hP1
      refine W.widen (k := 0) (n := 0) (Nat.le_refl _) (Nat.le_refl _) ?_
      refine lv_iconst (v := 1) hx hb dX9_swap_23 (by decide) ?_
      have q45 : (1 : Int32).toInt = 1 := by decide
      exact W.zret (v := 1) hx hb hr rfl (fun t ht hW => ⟨⟨1, (), rfl, by first | exact Or.inl ⟨rfl, by omega⟩ | exact Or.inr ⟨rfl, by omega⟩ | exact Or.inl rfl | exact Or.inr rfl | exact Or.inl ⟨rfl, by omega, by omega⟩ | exact (z_01 (by omega) (by omega)).symm, ct44, by rw [ht]; exact hP, hD, hI⟩, hS.F ht⟩) hS.2.2 dX9_swap_24
    · skip
      exact absurd c42 (by decide)
  · skip
    obtain rfl := hr37
    refine lv_if_ne (tgt := 14) hx hb dX9_swap_9 (by decide) (fun c46 => ?_) (fun c46 => ?_)
    · skip
      exact absurd c46 (by decide)
    · skip
      refine lv_iconst (v := 0) hx hb dX9_swap_12 (by decide) ?_
      have q47 : (0 : Int32).toInt = 0 := by decide
      exact W.zret (v := 0) hx hb hr rfl (fun t ht hW => ⟨⟨0, (), rfl, by first | exact Or.inl ⟨rfl, by omega⟩ | exact Or.inr ⟨rfl, by omega⟩ | exact Or.inl rfl | exact Or.inr rfl | exact Or.inl ⟨rfl, by omega, by omega⟩ | exact (z_01 (by omega) (by omega)).symm, ct, by rw [ht]; exact hP, hD, hI⟩, hS.F ht⟩) hS.2.2 dX9_swap_13

set_option maxHeartbeats 4000000 in
set_option maxRecDepth 100000 in
theorem k_X9_show (l : Launch) (g : zG) (sz : Nat) (ad : Nat → Nat) (me : Int32) (ct : Nat → va_E) (b : Int32) (is : Int32) (hl_is : 0 ≤ is.toInt ∧ is.toInt ≤ 1) (hI : IR g ad me ct) : Met l yX9_show (zW yX9_show cX9_show 3 (some .boolean)) ({ frames := 1, cells := 0, slots := 0, locals := 21 }) (va_Pc [.ref (ad 0), .int b, .int is] (zA g (zw 32 ad ct) sz)) (va_Qi (fun (r : Int32) (_ : Unit) => (r = 1) ∨ (r = 0)) (fun _ t => ∃ ct2 : Nat → va_E, zP g (zw 32 ad ct2) t.heap ∧ va_D (va_A (zw 32 ad ct) sz) (zw 32 ad ct2) ∧ IR g ad me ct2) (va_A (zw 32 ad ct) sz)) 0 0 (va_A (zw 32 ad ct) sz) := by
  refine Met.ofW (cc := cX9_show) (maxL := 3) (ret := (some .boolean)) (by decide) rfl ?_
  intro p e s m args below meth c s₁ B hml hv
  obtain ⟨rfl, hsz, hP, hK, hD0, hN⟩ := hv
  have hx := B.exec
  have hb := B.bytes
  have hr := B.returns
  have hg := zW.law (atoms_spec (ws := (zW yX9_show cX9_show 3 (some .boolean))) B.pre)
  have hown : s.vm.findClass RX9 = some m.cls := findClass_of_methodNamed B.named
  have hlocks := B.notSynchronized
  have hpe0 := hI.1.1
  subst hsz
  have hD := hD0.self (sz := s.heap.size)
  generalize hAe : va_A (zw 32 ad ct) s.heap.size = A at hD ⊢
  have hA : ∀ q : Nat, s.heap.size ≤ q → A q := fun q h => by rw [← hAe]; exact Or.inr h
  have hS : va_S A s.heap s.heap [] := va_S.rf
  have hl := lv_entry ([.ref (ad 0), .int b, .int is]) (n := 3) (Nat.le_of_ble_eq_true rfl)
  rw [lg_entry_eq]
  generalize (lg_sl ([.ref (ad 0), .int b, .int is]) ++ List.replicate (3 - (lg_sl ([.ref (ad 0), .int b, .int is])).length) Slot.unset).toArray = ls at hl ⊢
  have hl : lv_has ls 3 [(0, .ref (ad 0)), (1, .int b), (2, .int is)] := hl
  have rg_b := z_rng b
  refine lv_aload_n hx hb dX9_show_0 rfl (lv_at hl 0 rfl) ?_
  refine lv_iload_n hx hb dX9_show_1 rfl (lv_at hl 1 rfl) ?_
  obtain ⟨bks2, lks3, gos4, shn5, tpd6, pl07, ln08, flt9, opn10, cmy11, wtg12, nm013, mst14, sus15, cut16, h17, h18, h19, h20, h21, h22, h23, h24, h25, h26, h27, h28, h29, h30, h31, h32, h33, h34, h35, h36, hs1⟩ := a9_0 hI.1
  refine zc_i (va_runV (As := [.int b]) (rest := []) ⟨hx, hb, hml, hown, hg⟩ (k_X9_isBook l g ad me ct b hI) (cwV 1 hg (z_gV mm_1174 mm_1176 mm_58 mm_117 mm_1177) rfl rfl rfl (by decide +kernel) ⟨Nat.le_of_ble_eq_true rfl, Nat.le_of_ble_eq_true rfl⟩) ⟨(zR.pre [.ref (ad 0), .int b] hP hK hN).1, va_recv hK hP (ci := 9) (q0 := 0) rfl (zw_at (by omega) hs1), (zR.pre [.ref (ad 0), .int b] hP hK hN).2⟩ rfl rfl hl.1 rfl (lv_room (Nat.le_of_ble_eq_true rfl)) dX9_show_2 ⟨Nat.le_of_ble_eq_true rfl, Nat.le_of_ble_eq_true rfl⟩) (fun r37 hr37 => ?_)
  rcases hr37 with hr37 | hr37
  · skip
    obtain ⟨rfl, h38, h39⟩ := hr37
    replace h38 : 0 ≤ b.toInt := h38
    replace h39 : b.toInt ≤ 3 := h39
    refine lv_if_eq (tgt := 28) hx hb dX9_show_5 (by decide) (fun c40 => ?_) (fun c40 => ?_)
    · skip
      exact absurd c40 (by decide)
    · skip
      refine lv_aload_n hx hb dX9_show_8 rfl (lv_at hl 0 rfl) ?_
      refine va_get (D := g.1) (ci := 9) (v := .int shn5) (C := RX9) (T := TX9) (N := 47) hx hb hg inG9 hown hK hP 0 (zw_at (by omega) hs1) rfl 8 (by decide) (hg _ mm_966) (fun _ h9 => h9) rfl dX9_show_9 ?_
      refine lv_iload_n hx hb dX9_show_12 rfl (lv_at hl 1 rfl) ?_
      refine lv_ishr hx hb dX9_show_13 ?_
      refine lv_topi (fun x41 ex41 => ?_)
      have tx41 := z_shr (x := shn5) rfl (by omega) b
      rw [← ex41] at tx41
      refine lv_iconst (v := 1) hx hb dX9_show_14 (by decide) ?_
      refine lv_iand hx hb dX9_show_15 ?_
      refine lv_topi (fun x42 ex42 => ?_)
      have tx42 := z_andr (x := x41) (y := 1) (by decide : (1 : Int32).toInt = 1) (by omega)
      rw [← ex42] at tx42
      refine lv_iload_n hx hb dX9_show_16 rfl (lv_at hl 2 rfl) ?_
      refine lv_if_eq (tgt := 24) hx hb dX9_show_17 (by decide) (fun c43 => ?_) (fun c43 => ?_)
      · skip
        have c43 : is.toInt = 0 := (z_eq rfl (by decide : (0 : Int32).toInt = 0)).mp c43
        refine lv_iconst (v := 0) hx hb dX9_show_24 (by decide) ?_
        refine lv_icmp_ne (tgt := 30) hx hb dX9_show_25 (by decide) (fun c44 => ?_) (fun c44 => ?_)
        · skip
          have c44 : ¬ (x42.toInt = 0) := fun q => c44 ((z_eq rfl (by decide : (0 : Int32).toInt = 0)).mpr q)
          refine lv_aload_n hx hb dX9_show_30 rfl (lv_at hl 0 rfl) ?_
          refine lv_aload_n hx hb dX9_show_31 rfl (lv_at hl 0 rfl) ?_
          refine va_get (D := g.1) (ci := 9) (v := .int shn5) (C := RX9) (T := TX9) (N := 47) hx hb hg inG9 hown hK hP 0 (zw_at (by omega) hs1) rfl 8 (by decide) (hg _ mm_966) (fun _ h9 => h9) rfl dX9_show_32 ?_
          refine lv_iconst (v := 1) hx hb dX9_show_35 (by decide) ?_
          refine lv_iload_n hx hb dX9_show_36 rfl (lv_at hl 1 rfl) ?_
          refine lv_ishl hx hb dX9_show_37 ?_
          refine lv_topi (fun x45 ex45 => ?_)
          have tx45 := z_shl1 (y := b) rfl (by omega) (k := 3) (by decide) (by omega)
          rw [← ex45] at tx45
          refine lv_ixor hx hb dX9_show_38 ?_
          refine lv_topi (fun x46 ex46 => ?_)
          have tx46 := z_xor (x := shn5) (y := x45) rfl rfl (k := 4) (N := 16) (by decide) (by decide) (by omega) (by omega) (by omega) (by omega)
          rw [← ex46] at tx46
          refine va_put (D := g.1) (ci := 9) (v := .int x46) (ty := .int) (C := RX9) (T := TX9) (N := 47) hx hb hg inG9 tyX9 tyX9_ok nmX9 hown hK hP hD hS 0 (zw_at (by omega) hs1) rfl 8 (by decide) (hg _ mm_966) (fun _ h9 => h9) rfl (by decide +kernel) rfl rfl (Nat.le_of_ble_eq_true rfl) dX9_show_39 (fun H locs hP hD hS => ?_)
          have hP : zP g ((zw 32 ad ct).set 0 (ad 0, .inr (9, [.int me, .ref (ad 1), .ref (ad 2), .ref (ad 3), .ref (ad 4), .int bks2, .int lks3, .int gos4, .int x46, .ref (ad 5), .ref (ad 6), .ref (ad 7), .ref (ad 8), .ref (ad 9), .ref (ad 10), .ref (ad 11), .int tpd6, .int pl07, .int ln08, .int flt9, .int opn10, .int cmy11, .int wtg12, .int nm013, .ref (ad 12), .ref (ad 13), .ref (ad 14), .ref (ad 15), .ref (ad 16), .ref (ad 17), .ref (ad 18), .ref (ad 19), .ref (ad 20), .ref (ad 21), .ref (ad 22), .ref (ad 23), .ref (ad 24), .ref (ad 25), .ref (ad 26), .ref (ad 27), .int mst14, .int sus15, .ref (ad 28), .ref (ad 29), .ref (ad 30), .ref (ad 31), .int cut16]))) H := hP
          have hD : va_D A ((zw 32 ad ct).set 0 (ad 0, .inr (9, [.int me, .ref (ad 1), .ref (ad 2), .ref (ad 3), .ref (ad 4), .int bks2, .int lks3, .int gos4, .int x46, .ref (ad 5), .ref (ad 6), .ref (ad 7), .ref (ad 8), .ref (ad 9), .ref (ad 10), .ref (ad 11), .int tpd6, .int pl07, .int ln08, .int flt9, .int opn10, .int cmy11, .int wtg12, .int nm013, .ref (ad 12), .ref (ad 13), .ref (ad 14), .ref (ad 15), .ref (ad 16), .ref (ad 17), .ref (ad 18), .ref (ad 19), .ref (ad 20), .ref (ad 21), .ref (ad 22), .ref (ad 23), .ref (ad 24), .ref (ad 25), .ref (ad 26), .ref (ad 27), .int mst14, .int sus15, .ref (ad 28), .ref (ad 29), .ref (ad 30), .ref (ad 31), .int cut16]))) := hD
          rw [zw_set (by omega)] at hP hD
          obtain ⟨ct47, ec48⟩ : ∃ z : Nat → va_E, z = va_up ct 0 (.inr (9, [.int me, .ref (ad 1), .ref (ad 2), .ref (ad 3), .ref (ad 4), .int bks2, .int lks3, .int gos4, .int x46, .ref (ad 5), .ref (ad 6), .ref (ad 7), .ref (ad 8), .ref (ad 9), .ref (ad 10), .ref (ad 11), .int tpd6, .int pl07, .int ln08, .int flt9, .int opn10, .int cmy11, .int wtg12, .int nm013, .ref (ad 12), .ref (ad 13), .ref (ad 14), .ref (ad 15), .ref (ad 16), .ref (ad 17), .ref (ad 18), .ref (ad 19), .ref (ad 20), .ref (ad 21), .ref (ad 22), .ref (ad 23), .ref (ad 24), .ref (ad 25), .ref (ad 26), .ref (ad 27), .int mst14, .int sus15, .ref (ad 28), .ref (ad 29), .ref (ad 30), .ref (ad 31), .int cut16])) := ⟨_, rfl⟩
          rw [← ec48] at hP hD
          have hI : IR g ad me ct47 := by rw [ec48]; exact upR hI (by decide) (i9_0 ⟨(bks2 : Int32), (lks3 : Int32), (gos4 : Int32), (x46 : Int32), (tpd6 : Int32), (pl07 : Int32), (ln08 : Int32), (flt9 : Int32), (opn10 : Int32), (cmy11 : Int32), (wtg12 : Int32), (nm013 : Int32), (mst14 : Int32), (sus15 : Int32), (cut16 : Int32), (by first | omega | decide), (by first | omega | decide), (by first | omega | decide), (by first | omega | decide), (by first | omega | decide), (by first | omega | decide), (by first | omega | decide), (by first | omega | decide), (by first | omega | decide), (by first | omega | decide), (by first | omega | decide), (by first | omega | decide), (by first | omega | decide), (by first | omega | decide), (by first | omega | decide), (by first | omega | decide), (by first | omega | decide), (by first | omega | decide), (by first | omega | decide), (by first | omega | decide), rfl⟩)
          have hs49 : ct47 0 = .inr (9, [.int me, .ref (ad 1), .ref (ad 2), .ref (ad 3), .ref (ad 4), .int bks2, .int lks3, .int gos4, .int x46, .ref (ad 5), .ref (ad 6), .ref (ad 7), .ref (ad 8), .ref (ad 9), .ref (ad 10), .ref (ad 11), .int tpd6, .int pl07, .int ln08, .int flt9, .int opn10, .int cmy11, .int wtg12, .int nm013, .ref (ad 12), .ref (ad 13), .ref (ad 14), .ref (ad 15), .ref (ad 16), .ref (ad 17), .ref (ad 18), .ref (ad 19), .ref (ad 20), .ref (ad 21), .ref (ad 22), .ref (ad 23), .ref (ad 24), .ref (ad 25), .ref (ad 26), .ref (ad 27), .int mst14, .int sus15, .ref (ad 28), .ref (ad 29), .ref (ad 30), .ref (ad 31), .int cut16]) := by rw [ec48]; exact va_up_self _ _ _
          refine lv_iconst (v := 1) hx hb dX9_show_42 (by decide) ?_
          have q50 : (1 : Int32).toInt = 1 := by decide
          exact W.zret (v := 1) hx hb hr rfl (fun t ht hW => ⟨⟨1, (), rfl, by first | exact Or.inl ⟨rfl, by omega⟩ | exact Or.inr ⟨rfl, by omega⟩ | exact Or.inl rfl | exact Or.inr rfl | exact Or.inl ⟨rfl, by omega, by omega⟩ | exact (z_01 (by omega) (by omega)).symm, ct47, by rw [ht]; exact hP, hD, hI⟩, hS.F ht⟩) hS.2.2 dX9_show_43
        · skip
          have c44 : x42.toInt = 0 := (z_eq rfl (by decide : (0 : Int32).toInt = 0)).mp c44
          refine lv_iconst (v := 0) hx hb dX9_show_28 (by decide) ?_
          have q51 : (0 : Int32).toInt = 0 := by decide
          exact W.zret (v := 0) hx hb hr rfl (fun t ht hW => ⟨⟨0, (), rfl, by first | exact Or.inl ⟨rfl, by omega⟩ | exact Or.inr ⟨rfl, by omega⟩ | exact Or.inl rfl | exact Or.inr rfl | exact Or.inl ⟨rfl, by omega, by omega⟩ | exact (z_01 (by omega) (by omega)).symm, ct, by rw [ht]; exact hP, hD, hI⟩, hS.F ht⟩) hS.2.2 dX9_show_29
      · skip
        have c43 : ¬ (is.toInt = 0) := fun q => c43 ((z_eq rfl (by decide : (0 : Int32).toInt = 0)).mpr q)
        refine lv_iconst (v := 1) hx hb dX9_show_20 (by decide) ?_
        refine lv_goto (tgt := 25) hx hb dX9_show_21 (by decide) ?_
        refine lv_icmp_ne (tgt := 30) hx hb dX9_show_25 (by decide) (fun c52 => ?_) (fun c52 => ?_)
        · skip
          have c52 : ¬ (x42.toInt = 1) := fun q => c52 ((z_eq rfl (by decide : (1 : Int32).toInt = 1)).mpr q)
          refine lv_aload_n hx hb dX9_show_30 rfl (lv_at hl 0 rfl) ?_
          refine lv_aload_n hx hb dX9_show_31 rfl (lv_at hl 0 rfl) ?_
          refine va_get (D := g.1) (ci := 9) (v := .int shn5) (C := RX9) (T := TX9) (N := 47) hx hb hg inG9 hown hK hP 0 (zw_at (by omega) hs1) rfl 8 (by decide) (hg _ mm_966) (fun _ h9 => h9) rfl dX9_show_32 ?_
          refine lv_iconst (v := 1) hx hb dX9_show_35 (by decide) ?_
          refine lv_iload_n hx hb dX9_show_36 rfl (lv_at hl 1 rfl) ?_
          refine lv_ishl hx hb dX9_show_37 ?_
          refine lv_topi (fun x53 ex53 => ?_)
          have tx53 := z_shl1 (y := b) rfl (by omega) (k := 3) (by decide) (by omega)
          rw [← ex53] at tx53
          refine lv_ixor hx hb dX9_show_38 ?_
          refine lv_topi (fun x54 ex54 => ?_)
          have tx54 := z_xor (x := shn5) (y := x53) rfl rfl (k := 4) (N := 16) (by decide) (by decide) (by omega) (by omega) (by omega) (by omega)
          rw [← ex54] at tx54
          refine va_put (D := g.1) (ci := 9) (v := .int x54) (ty := .int) (C := RX9) (T := TX9) (N := 47) hx hb hg inG9 tyX9 tyX9_ok nmX9 hown hK hP hD hS 0 (zw_at (by omega) hs1) rfl 8 (by decide) (hg _ mm_966) (fun _ h9 => h9) rfl (by decide +kernel) rfl rfl (Nat.le_of_ble_eq_true rfl) dX9_show_39 (fun H locs hP hD hS => ?_)
          have hP : zP g ((zw 32 ad ct).set 0 (ad 0, .inr (9, [.int me, .ref (ad 1), .ref (ad 2), .ref (ad 3), .ref (ad 4), .int bks2, .int lks3, .int gos4, .int x54, .ref (ad 5), .ref (ad 6), .ref (ad 7), .ref (ad 8), .ref (ad 9), .ref (ad 10), .ref (ad 11), .int tpd6, .int pl07, .int ln08, .int flt9, .int opn10, .int cmy11, .int wtg12, .int nm013, .ref (ad 12), .ref (ad 13), .ref (ad 14), .ref (ad 15), .ref (ad 16), .ref (ad 17), .ref (ad 18), .ref (ad 19), .ref (ad 20), .ref (ad 21), .ref (ad 22), .ref (ad 23), .ref (ad 24), .ref (ad 25), .ref (ad 26), .ref (ad 27), .int mst14, .int sus15, .ref (ad 28), .ref (ad 29), .ref (ad 30), .ref (ad 31), .int cut16]))) H := hP
          have hD : va_D A ((zw 32 ad ct).set 0 (ad 0, .inr (9, [.int me, .ref (ad 1), .ref (ad 2), .ref (ad 3), .ref (ad 4), .int bks2, .int lks3, .int gos4, .int x54, .ref (ad 5), .ref (ad 6), .ref (ad 7), .ref (ad 8), .ref (ad 9), .ref (ad 10), .ref (ad 11), .int tpd6, .int pl07, .int ln08, .int flt9, .int opn10, .int cmy11, .int wtg12, .int nm013, .ref (ad 12), .ref (ad 13), .ref (ad 14), .ref (ad 15), .ref (ad 16), .ref (ad 17), .ref (ad 18), .ref (ad 19), .ref (ad 20), .ref (ad 21), .ref (ad 22), .ref (ad 23), .ref (ad 24), .ref (ad 25), .ref (ad 26), .ref (ad 27), .int mst14, .int sus15, .ref (ad 28), .ref (ad 29), .ref (ad 30), .ref (ad 31), .int cut16]))) := hD
          rw [zw_set (by omega)] at hP hD
          obtain ⟨ct55, ec56⟩ : ∃ z : Nat → va_E, z = va_up ct 0 (.inr (9, [.int me, .ref (ad 1), .ref (ad 2), .ref (ad 3), .ref (ad 4), .int bks2, .int lks3, .int gos4, .int x54, .ref (ad 5), .ref (ad 6), .ref (ad 7), .ref (ad 8), .ref (ad 9), .ref (ad 10), .ref (ad 11), .int tpd6, .int pl07, .int ln08, .int flt9, .int opn10, .int cmy11, .int wtg12, .int nm013, .ref (ad 12), .ref (ad 13), .ref (ad 14), .ref (ad 15), .ref (ad 16), .ref (ad 17), .ref (ad 18), .ref (ad 19), .ref (ad 20), .ref (ad 21), .ref (ad 22), .ref (ad 23), .ref (ad 24), .ref (ad 25), .ref (ad 26), .ref (ad 27), .int mst14, .int sus15, .ref (ad 28), .ref (ad 29), .ref (ad 30), .ref (ad 31), .int cut16])) := ⟨_, rfl⟩
          rw [← ec56] at hP hD
          have hI : IR g ad me ct55 := by rw [ec56]; exact upR hI (by decide) (i9_0 ⟨(bks2 : Int32), (lks3 : Int32), (gos4 : Int32), (x54 : Int32), (tpd6 : Int32), (pl07 : Int32), (ln08 : Int32), (flt9 : Int32), (opn10 : Int32), (cmy11 : Int32), (wtg12 : Int32), (nm013 : Int32), (mst14 : Int32), (sus15 : Int32), (cut16 : Int32), (by first | omega | decide), (by first | omega | decide), (by first | omega | decide), (by first | omega | decide), (by first | omega | decide), (by first | omega | decide), (by first | omega | decide), (by first | omega | decide), (by first | omega | decide), (by first | omega | decide), (by first | omega | decide), (by first | omega | decide), (by first | omega | decide), (by first | omega | decide), (by first | omega | decide), (by first | omega | decide), (by first | omega | decide), (by first | omega | decide), (by first | omega | decide), (by first | omega | decide), rfl⟩)
          have hs57 : ct55 0 = .inr (9, [.int me, .ref (ad 1), .ref (ad 2), .ref (ad 3), .ref (ad 4), .int bks2, .int lks3, .int gos4, .int x54, .ref (ad 5), .ref (ad 6), .ref (ad 7), .ref (ad 8), .ref (ad 9), .ref (ad 10), .ref (ad 11), .int tpd6, .int pl07, .int ln08, .int flt9, .int opn10, .int cmy11, .int wtg12, .int nm013, .ref (ad 12), .ref (ad 13), .ref (ad 14), .ref (ad 15), .ref (ad 16), .ref (ad 17), .ref (ad 18), .ref (ad 19), .ref (ad 20), .ref (ad 21), .ref (ad 22), .ref (ad 23), .ref (ad 24), .ref (ad 25), .ref (ad 26), .ref (ad 27), .int mst14, .int sus15, .ref (ad 28), .ref (ad 29), .ref (ad 30), .ref (ad 31), .int cut16]) := by rw [ec56]; exact va_up_self _ _ _
          refine lv_iconst (v := 1) hx hb dX9_show_42 (by decide) ?_
          have q58 : (1 : Int32).toInt = 1 := by decide
          exact W.zret (v := 1) hx hb hr rfl (fun t ht hW => ⟨⟨1, (), rfl, by first | exact Or.inl ⟨rfl, by omega⟩ | exact Or.inr ⟨rfl, by omega⟩ | exact Or.inl rfl | exact Or.inr rfl | exact Or.inl ⟨rfl, by omega, by omega⟩ | exact (z_01 (by omega) (by omega)).symm, ct55, by rw [ht]; exact hP, hD, hI⟩, hS.F ht⟩) hS.2.2 dX9_show_43
        · skip
          have c52 : x42.toInt = 1 := (z_eq rfl (by decide : (1 : Int32).toInt = 1)).mp c52
          refine lv_iconst (v := 0) hx hb dX9_show_28 (by decide) ?_
          have q59 : (0 : Int32).toInt = 0 := by decide
          exact W.zret (v := 0) hx hb hr rfl (fun t ht hW => ⟨⟨0, (), rfl, by first | exact Or.inl ⟨rfl, by omega⟩ | exact Or.inr ⟨rfl, by omega⟩ | exact Or.inl rfl | exact Or.inr rfl | exact Or.inl ⟨rfl, by omega, by omega⟩ | exact (z_01 (by omega) (by omega)).symm, ct, by rw [ht]; exact hP, hD, hI⟩, hS.F ht⟩) hS.2.2 dX9_show_29
  · skip
    obtain rfl := hr37
    refine lv_if_eq (tgt := 28) hx hb dX9_show_5 (by decide) (fun c60 => ?_) (fun c60 => ?_)
    · skip
      refine lv_iconst (v := 0) hx hb dX9_show_28 (by decide) ?_
      have q61 : (0 : Int32).toInt = 0 := by decide
      exact W.zret (v := 0) hx hb hr rfl (fun t ht hW => ⟨⟨0, (), rfl, by first | exact Or.inl ⟨rfl, by omega⟩ | exact Or.inr ⟨rfl, by omega⟩ | exact Or.inl rfl | exact Or.inr rfl | exact Or.inl ⟨rfl, by omega, by omega⟩ | exact (z_01 (by omega) (by omega)).symm, ct, by rw [ht]; exact hP, hD, hI⟩, hS.F ht⟩) hS.2.2 dX9_show_29
    · skip
      exact absurd c60 (by decide)

set_option maxHeartbeats 4000000 in
set_option maxRecDepth 100000 in
theorem k_X9_link (l : Launch) (g : zG) (sz : Nat) (ad : Nat → Nat) (me : Int32) (ct : Nat → va_E) (a0 : Int32) (i : Int32) (b : Int32) (j : Int32) (hI : IR g ad me ct) : Met l yX9_link (zW yX9_link cX9_link 5 (some .int)) ({ frames := 2, cells := 0, slots := 0, locals := 43 }) (va_Pc [.ref (ad 0), .int a0, .int i, .int b, .int j] (zA g (zw 32 ad ct) sz)) (va_Qi (fun (r : Int32) (_ : Unit) => (True)) (fun _ t => ∃ ct2 : Nat → va_E, zP g (zw 32 ad ct2) t.heap ∧ va_D (va_A (zw 32 ad ct) sz) (zw 32 ad ct2) ∧ IR g ad me ct2) (va_A (zw 32 ad ct) sz)) 0 0 (va_A (zw 32 ad ct) sz) := by
  refine Met.ofW (cc := cX9_link) (maxL := 5) (ret := (some .int)) (by decide) rfl ?_
  intro p e s m args below meth c s₁ B hml hv
  obtain ⟨rfl, hsz, hP, hK, hD0, hN⟩ := hv
  have hx := B.exec
  have hb := B.bytes
  have hr := B.returns
  have hg := zW.law (atoms_spec (ws := (zW yX9_link cX9_link 5 (some .int))) B.pre)
  have hown : s.vm.findClass RX9 = some m.cls := findClass_of_methodNamed B.named
  have hlocks := B.notSynchronized
  have hpe0 := hI.1.1
  subst hsz
  have hD := hD0.self (sz := s.heap.size)
  generalize hAe : va_A (zw 32 ad ct) s.heap.size = A at hD ⊢
  have hA : ∀ q : Nat, s.heap.size ≤ q → A q := fun q h => by rw [← hAe]; exact Or.inr h
  have hS : va_S A s.heap s.heap [] := va_S.rf
  have hl := lv_entry ([.ref (ad 0), .int a0, .int i, .int b, .int j]) (n := 5) (Nat.le_of_ble_eq_true rfl)
  rw [lg_entry_eq]
  generalize (lg_sl ([.ref (ad 0), .int a0, .int i, .int b, .int j]) ++ List.replicate (5 - (lg_sl ([.ref (ad 0), .int a0, .int i, .int b, .int j])).length) Slot.unset).toArray = ls at hl ⊢
  have hl : lv_has ls 5 [(0, .ref (ad 0)), (1, .int a0), (2, .int i), (3, .int b), (4, .int j)] := hl
  have rg_a0 := z_rng a0
  have rg_i := z_rng i
  have rg_b := z_rng b
  have rg_j := z_rng j
  refine lv_aload_n hx hb dX9_link_0 rfl (lv_at hl 0 rfl) ?_
  refine lv_iload_n hx hb dX9_link_1 rfl (lv_at hl 1 rfl) ?_
  refine lv_iload_n hx hb dX9_link_2 rfl (lv_at hl 2 rfl) ?_
  obtain ⟨bks2, lks3, gos4, shn5, tpd6, pl07, ln08, flt9, opn10, cmy11, wtg12, nm013, mst14, sus15, cut16, h17, h18, h19, h20, h21, h22, h23, h24, h25, h26, h27, h28, h29, h30, h31, h32, h33, h34, h35, h36, hs1⟩ := a9_0 hI.1
  refine zc_i (va_runV (As := [.int a0, .int i]) (rest := []) ⟨hx, hb, hml, hown, hg⟩ (k_X9_isLine l g ad me ct a0 i hI) (cwV 2 hg (z_gV mm_1170 mm_1172 mm_57 mm_117 mm_1173) rfl rfl rfl (by decide +kernel) ⟨Nat.le_of_ble_eq_true rfl, Nat.le_of_ble_eq_true rfl⟩) ⟨(zR.pre [.ref (ad 0), .int a0, .int i] hP hK hN).1, va_recv hK hP (ci := 9) (q0 := 0) rfl (zw_at (by omega) hs1), (zR.pre [.ref (ad 0), .int a0, .int i] hP hK hN).2⟩ rfl rfl hl.1 rfl (lv_room (Nat.le_of_ble_eq_true rfl)) dX9_link_3 ⟨Nat.le_of_ble_eq_true rfl, Nat.le_of_ble_eq_true rfl⟩) (fun r37 hr37 => ?_)
  rcases hr37 with hr37 | hr37
  · skip
    obtain ⟨rfl, h38, h39⟩ := hr37
    replace h38 : 0 ≤ a0.toInt ∧ a0.toInt ≤ 3 := h38
    replace h39 : 0 ≤ i.toInt ∧ i.toInt ≤ 7 := h39
    refine lv_if_eq (tgt := 33) hx hb dX9_link_6 (by decide) (fun c40 => ?_) (fun c40 => ?_)
    · skip
      exact absurd c40 (by decide)
    · skip
      refine lv_aload_n hx hb dX9_link_9 rfl (lv_at hl 0 rfl) ?_
      refine lv_iload_n hx hb dX9_link_10 rfl (lv_at hl 3 rfl) ?_
      refine lv_iload hx hb dX9_link_11 (lv_at hl 4 rfl) ?_
      refine zc_i (va_runV (As := [.int b, .int j]) (rest := []) ⟨hx, hb, hml, hown, hg⟩ (k_X9_isLine l g ad me ct b j hI) (cwV 2 hg (z_gV mm_1170 mm_1172 mm_57 mm_117 mm_1173) rfl rfl rfl (by decide +kernel) ⟨Nat.le_of_ble_eq_true rfl, Nat.le_of_ble_eq_true rfl⟩) ⟨(zR.pre [.ref (ad 0), .int b, .int j] hP hK hN).1, va_recv hK hP (ci := 9) (q0 := 0) rfl (zw_at (by omega) hs1), (zR.pre [.ref (ad 0), .int b, .int j] hP hK hN).2⟩ rfl rfl hl.1 rfl (lv_room (Nat.le_of_ble_eq_true rfl)) dX9_link_13 ⟨Nat.le_of_ble_eq_true rfl, Nat.le_of_ble_eq_true rfl⟩) (fun r41 hr41 => ?_)
      rcases hr41 with hr41 | hr41
      · skip
        obtain ⟨rfl, h42, h43⟩ := hr41
        replace h42 : 0 ≤ b.toInt ∧ b.toInt ≤ 3 := h42
        replace h43 : 0 ≤ j.toInt ∧ j.toInt ≤ 7 := h43
        refine lv_if_eq (tgt := 33) hx hb dX9_link_16 (by decide) (fun c44 => ?_) (fun c44 => ?_)
        · skip
          exact absurd c44 (by decide)
        · skip
          refine lv_iload_n hx hb dX9_link_19 rfl (lv_at hl 1 rfl) ?_
          refine lv_iload_n hx hb dX9_link_20 rfl (lv_at hl 3 rfl) ?_
          refine lv_icmp_eq (tgt := 33) hx hb dX9_link_21 (by decide) (fun c45 => ?_) (fun c45 => ?_)
          · skip
            have c45 : a0.toInt = b.toInt := (z_eq rfl rfl).mp c45
            refine lv_iconst (v := (-1)) hx hb dX9_link_33 (by decide) ?_
            have q46 : ((-1) : Int32).toInt = -1 := by decide
            exact W.iret (v := (-1)) hx hb hr (fun t ht hW => ⟨⟨(-1), (), rfl, trivial, ct, by rw [ht]; exact hP, hD, hI⟩, hS.F ht⟩) hS.2.2 dX9_link_34
          · skip
            have c45 : ¬ (a0.toInt = b.toInt) := fun q => c45 ((z_eq rfl rfl).mpr q)
            refine lv_aload_n hx hb dX9_link_24 rfl (lv_at hl 0 rfl) ?_
            refine va_get (D := g.1) (ci := 9) (v := .int lks3) (C := RX9) (T := TX9) (N := 47) hx hb hg inG9 hown hK hP 0 (zw_at (by omega) hs1) rfl 6 (by decide) (hg _ mm_964) (fun _ h9 => h9) rfl dX9_link_25 ?_
            refine lv_bipush (v := 40) hx hb dX9_link_28 (by decide) ?_
            refine lv_icmp_ne (tgt := 35) hx hb dX9_link_30 (by decide) (fun c47 => ?_) (fun c47 => ?_)
            · skip
              have c47 : ¬ (lks3.toInt = 40) := fun q => c47 ((z_eq rfl (by decide : (40 : Int32).toInt = 40)).mpr q)
              refine lv_aload_n hx hb dX9_link_35 rfl (lv_at hl 0 rfl) ?_
              refine va_get (D := g.1) (ci := 9) (v := .ref (ad 8)) (C := RX9) (T := TX9) (N := 47) hx hb hg inG9 hown hK hP 0 (zw_at (by omega) hs1) rfl 12 (by decide) (hg _ mm_970) (fun _ h9 => h9) rfl dX9_link_36 ?_
              refine lv_aload_n hx hb dX9_link_39 rfl (lv_at hl 0 rfl) ?_
              refine va_get (D := g.1) (ci := 9) (v := .int lks3) (C := RX9) (T := TX9) (N := 47) hx hb hg inG9 hown hK hP 0 (zw_at (by omega) hs1) rfl 6 (by decide) (hg _ mm_964) (fun _ h9 => h9) rfl dX9_link_40 ?_
              refine lv_iload_n hx hb dX9_link_43 rfl (lv_at hl 1 rfl) ?_
              refine lv_iload_n hx hb dX9_link_44 rfl (lv_at hl 2 rfl) ?_
              refine zc_i (va_runS (As := [.int a0, .int i]) (rest := [.int lks3, .ref (ad 8)]) ⟨hx, hb, hml, hown, hg⟩ (k_X9_at l g ad me ct a0 i (by first | omega | decide) (by first | omega | decide) hI) (va_cwS 2 hg (z_gS mm_1159 mm_1160 mm_117 mm_1161) rfl rfl rfl (by decide +kernel) ⟨Nat.le_of_ble_eq_true rfl, Nat.le_of_ble_eq_true rfl⟩) (zR.pre [.int a0, .int i] hP hK hN) rfl rfl hl.1 rfl (lv_room (Nat.le_of_ble_eq_true rfl)) dX9_link_45 ⟨Nat.le_of_ble_eq_true rfl, Nat.le_of_ble_eq_true rfl⟩) (fun r48 hr48 => ?_)
              have hr48_0 := hr48
              have hr48_0 : r48.toInt = 8 * a0.toInt + i.toInt := hr48_0
              obtain ⟨f50, hp51, hs49⟩ := a9_8 hI.1
              refine va_iast hx hb hK hP hD hS 8 0 (zw_at (by omega) hs49) rfl (z_in rfl (by omega) (by omega)) dX9_link_48 (fun H locs hP hD hS => ?_)
              have hp53 : ∀ j : Nat, j < 40 → (fun x : Int32 => 0 ≤ x.toInt ∧ x.toInt ≤ 31) ((upd f50 (Int32.toNatClampNeg lks3) r48) j) := fun j hj => by
                unfold upd
                by_cases q : j = Int32.toNatClampNeg lks3
                · rw [if_pos q]; exact (show 0 ≤ (r48 : Int32).toInt ∧ (r48 : Int32).toInt ≤ 31 from (by first | omega | decide))
                · rw [if_neg q]; exact hp51 j hj
              have hP : zP g ((zw 32 ad ct).set 8 (ad 8, .inl (g.2 0, 40, .inl (upd f50 (Int32.toNatClampNeg lks3) r48)))) H := hP
              have hD : va_D A ((zw 32 ad ct).set 8 (ad 8, .inl (g.2 0, 40, .inl (upd f50 (Int32.toNatClampNeg lks3) r48)))) := hD
              rw [zw_set (by omega)] at hP hD
              obtain ⟨ct54, ec55⟩ : ∃ z : Nat → va_E, z = va_up ct 8 (.inl (g.2 0, 40, .inl (upd f50 (Int32.toNatClampNeg lks3) r48))) := ⟨_, rfl⟩
              rw [← ec55] at hP hD
              have hI : IR g ad me ct54 := by rw [ec55]; exact upR hI (by decide) (i9_8 ⟨_, hp53, rfl⟩)
              have hs56 : ct54 0 = .inr (9, [.int me, .ref (ad 1), .ref (ad 2), .ref (ad 3), .ref (ad 4), .int bks2, .int lks3, .int gos4, .int shn5, .ref (ad 5), .ref (ad 6), .ref (ad 7), .ref (ad 8), .ref (ad 9), .ref (ad 10), .ref (ad 11), .int tpd6, .int pl07, .int ln08, .int flt9, .int opn10, .int cmy11, .int wtg12, .int nm013, .ref (ad 12), .ref (ad 13), .ref (ad 14), .ref (ad 15), .ref (ad 16), .ref (ad 17), .ref (ad 18), .ref (ad 19), .ref (ad 20), .ref (ad 21), .ref (ad 22), .ref (ad 23), .ref (ad 24), .ref (ad 25), .ref (ad 26), .ref (ad 27), .int mst14, .int sus15, .ref (ad 28), .ref (ad 29), .ref (ad 30), .ref (ad 31), .int cut16]) := by rw [ec55, va_up_ne _ _ (by omega)]; exact hs1
              have hs57 : ct54 8 = .inl (g.2 0, 40, .inl (upd f50 (Int32.toNatClampNeg lks3) r48)) := by rw [ec55]; exact va_up_self _ _ _
              refine lv_aload_n hx hb dX9_link_49 rfl (lv_at hl 0 rfl) ?_
              refine va_get (D := g.1) (ci := 9) (v := .ref (ad 9)) (C := RX9) (T := TX9) (N := 47) hx hb hg inG9 hown hK hP 0 (zw_at (by omega) hs56) rfl 13 (by decide) (hg _ mm_971) (fun _ h9 => h9) rfl dX9_link_50 ?_
              refine lv_aload_n hx hb dX9_link_53 rfl (lv_at hl 0 rfl) ?_
              refine va_get (D := g.1) (ci := 9) (v := .int lks3) (C := RX9) (T := TX9) (N := 47) hx hb hg inG9 hown hK hP 0 (zw_at (by omega) hs56) rfl 6 (by decide) (hg _ mm_964) (fun _ h9 => h9) rfl dX9_link_54 ?_
              refine lv_iload_n hx hb dX9_link_57 rfl (lv_at hl 3 rfl) ?_
              refine lv_iload hx hb dX9_link_58 (lv_at hl 4 rfl) ?_
              refine zc_i (va_runS (As := [.int b, .int j]) (rest := [.int lks3, .ref (ad 9)]) ⟨hx, hb, hml, hown, hg⟩ (k_X9_at l g ad me ct54 b j (by first | omega | decide) (by first | omega | decide) hI) (va_cwS 2 hg (z_gS mm_1159 mm_1160 mm_117 mm_1161) rfl rfl rfl (by decide +kernel) ⟨Nat.le_of_ble_eq_true rfl, Nat.le_of_ble_eq_true rfl⟩) (zR.pre [.int b, .int j] hP hK hN) rfl rfl hl.1 rfl (lv_room (Nat.le_of_ble_eq_true rfl)) dX9_link_60 ⟨Nat.le_of_ble_eq_true rfl, Nat.le_of_ble_eq_true rfl⟩) (fun r58 hr58 => ?_)
              have hr58_0 := hr58
              have hr58_0 : r58.toInt = 8 * b.toInt + j.toInt := hr58_0
              obtain ⟨f60, hp61, hs59⟩ := a9_9 hI.1
              refine va_iast hx hb hK hP hD hS 9 0 (zw_at (by omega) hs59) rfl (z_in rfl (by omega) (by omega)) dX9_link_63 (fun H locs hP hD hS => ?_)
              have hp63 : ∀ j : Nat, j < 40 → (fun x : Int32 => 0 ≤ x.toInt ∧ x.toInt ≤ 31) ((upd f60 (Int32.toNatClampNeg lks3) r58) j) := fun j hj => by
                unfold upd
                by_cases q : j = Int32.toNatClampNeg lks3
                · rw [if_pos q]; exact (show 0 ≤ (r58 : Int32).toInt ∧ (r58 : Int32).toInt ≤ 31 from (by first | omega | decide))
                · rw [if_neg q]; exact hp61 j hj
              have hP : zP g ((zw 32 ad ct54).set 9 (ad 9, .inl (g.2 0, 40, .inl (upd f60 (Int32.toNatClampNeg lks3) r58)))) H := hP
              have hD : va_D A ((zw 32 ad ct54).set 9 (ad 9, .inl (g.2 0, 40, .inl (upd f60 (Int32.toNatClampNeg lks3) r58)))) := hD
              rw [zw_set (by omega)] at hP hD
              obtain ⟨ct64, ec65⟩ : ∃ z : Nat → va_E, z = va_up ct54 9 (.inl (g.2 0, 40, .inl (upd f60 (Int32.toNatClampNeg lks3) r58))) := ⟨_, rfl⟩
              rw [← ec65] at hP hD
              have hI : IR g ad me ct64 := by rw [ec65]; exact upR hI (by decide) (i9_9 ⟨_, hp63, rfl⟩)
              have hs66 : ct64 0 = .inr (9, [.int me, .ref (ad 1), .ref (ad 2), .ref (ad 3), .ref (ad 4), .int bks2, .int lks3, .int gos4, .int shn5, .ref (ad 5), .ref (ad 6), .ref (ad 7), .ref (ad 8), .ref (ad 9), .ref (ad 10), .ref (ad 11), .int tpd6, .int pl07, .int ln08, .int flt9, .int opn10, .int cmy11, .int wtg12, .int nm013, .ref (ad 12), .ref (ad 13), .ref (ad 14), .ref (ad 15), .ref (ad 16), .ref (ad 17), .ref (ad 18), .ref (ad 19), .ref (ad 20), .ref (ad 21), .ref (ad 22), .ref (ad 23), .ref (ad 24), .ref (ad 25), .ref (ad 26), .ref (ad 27), .int mst14, .int sus15, .ref (ad 28), .ref (ad 29), .ref (ad 30), .ref (ad 31), .int cut16]) := by rw [ec65, va_up_ne _ _ (by omega)]; exact hs56
              have hs67 : ct64 8 = .inl (g.2 0, 40, .inl (upd f50 (Int32.toNatClampNeg lks3) r48)) := by rw [ec65, va_up_ne _ _ (by omega)]; exact hs57
              have hs68 : ct64 9 = .inl (g.2 0, 40, .inl (upd f60 (Int32.toNatClampNeg lks3) r58)) := by rw [ec65]; exact va_up_self _ _ _
              refine lv_aload_n hx hb dX9_link_64 rfl (lv_at hl 0 rfl) ?_
              refine lv_aload_n hx hb dX9_link_65 rfl (lv_at hl 0 rfl) ?_
              refine va_get (D := g.1) (ci := 9) (v := .int lks3) (C := RX9) (T := TX9) (N := 47) hx hb hg inG9 hown hK hP 0 (zw_at (by omega) hs66) rfl 6 (by decide) (hg _ mm_964) (fun _ h9 => h9) rfl dX9_link_66 ?_
              refine lv_iconst (v := 1) hx hb dX9_link_69 (by decide) ?_
              refine lv_iadd hx hb dX9_link_70 ?_
              refine lv_topi (fun x69 ex69 => ?_)
              have tx69 : x69.toInt = lks3.toInt + 1 := by rw [ex69]; exact z_add rfl (by decide : (1 : Int32).toInt = 1) (by omega) (by omega)
              refine va_put (D := g.1) (ci := 9) (v := .int x69) (ty := .int) (C := RX9) (T := TX9) (N := 47) hx hb hg inG9 tyX9 tyX9_ok nmX9 hown hK hP hD hS 0 (zw_at (by omega) hs66) rfl 6 (by decide) (hg _ mm_964) (fun _ h9 => h9) rfl (by decide +kernel) rfl rfl (Nat.le_of_ble_eq_true rfl) dX9_link_71 (fun H locs hP hD hS => ?_)
              have hP : zP g ((zw 32 ad ct64).set 0 (ad 0, .inr (9, [.int me, .ref (ad 1), .ref (ad 2), .ref (ad 3), .ref (ad 4), .int bks2, .int x69, .int gos4, .int shn5, .ref (ad 5), .ref (ad 6), .ref (ad 7), .ref (ad 8), .ref (ad 9), .ref (ad 10), .ref (ad 11), .int tpd6, .int pl07, .int ln08, .int flt9, .int opn10, .int cmy11, .int wtg12, .int nm013, .ref (ad 12), .ref (ad 13), .ref (ad 14), .ref (ad 15), .ref (ad 16), .ref (ad 17), .ref (ad 18), .ref (ad 19), .ref (ad 20), .ref (ad 21), .ref (ad 22), .ref (ad 23), .ref (ad 24), .ref (ad 25), .ref (ad 26), .ref (ad 27), .int mst14, .int sus15, .ref (ad 28), .ref (ad 29), .ref (ad 30), .ref (ad 31), .int cut16]))) H := hP
              have hD : va_D A ((zw 32 ad ct64).set 0 (ad 0, .inr (9, [.int me, .ref (ad 1), .ref (ad 2), .ref (ad 3), .ref (ad 4), .int bks2, .int x69, .int gos4, .int shn5, .ref (ad 5), .ref (ad 6), .ref (ad 7), .ref (ad 8), .ref (ad 9), .ref (ad 10), .ref (ad 11), .int tpd6, .int pl07, .int ln08, .int flt9, .int opn10, .int cmy11, .int wtg12, .int nm013, .ref (ad 12), .ref (ad 13), .ref (ad 14), .ref (ad 15), .ref (ad 16), .ref (ad 17), .ref (ad 18), .ref (ad 19), .ref (ad 20), .ref (ad 21), .ref (ad 22), .ref (ad 23), .ref (ad 24), .ref (ad 25), .ref (ad 26), .ref (ad 27), .int mst14, .int sus15, .ref (ad 28), .ref (ad 29), .ref (ad 30), .ref (ad 31), .int cut16]))) := hD
              rw [zw_set (by omega)] at hP hD
              obtain ⟨ct70, ec71⟩ : ∃ z : Nat → va_E, z = va_up ct64 0 (.inr (9, [.int me, .ref (ad 1), .ref (ad 2), .ref (ad 3), .ref (ad 4), .int bks2, .int x69, .int gos4, .int shn5, .ref (ad 5), .ref (ad 6), .ref (ad 7), .ref (ad 8), .ref (ad 9), .ref (ad 10), .ref (ad 11), .int tpd6, .int pl07, .int ln08, .int flt9, .int opn10, .int cmy11, .int wtg12, .int nm013, .ref (ad 12), .ref (ad 13), .ref (ad 14), .ref (ad 15), .ref (ad 16), .ref (ad 17), .ref (ad 18), .ref (ad 19), .ref (ad 20), .ref (ad 21), .ref (ad 22), .ref (ad 23), .ref (ad 24), .ref (ad 25), .ref (ad 26), .ref (ad 27), .int mst14, .int sus15, .ref (ad 28), .ref (ad 29), .ref (ad 30), .ref (ad 31), .int cut16])) := ⟨_, rfl⟩
              rw [← ec71] at hP hD
              have hI : IR g ad me ct70 := by rw [ec71]; exact upR hI (by decide) (i9_0 ⟨(bks2 : Int32), (x69 : Int32), (gos4 : Int32), (shn5 : Int32), (tpd6 : Int32), (pl07 : Int32), (ln08 : Int32), (flt9 : Int32), (opn10 : Int32), (cmy11 : Int32), (wtg12 : Int32), (nm013 : Int32), (mst14 : Int32), (sus15 : Int32), (cut16 : Int32), (by first | omega | decide), (by first | omega | decide), (by first | omega | decide), (by first | omega | decide), (by first | omega | decide), (by first | omega | decide), (by first | omega | decide), (by first | omega | decide), (by first | omega | decide), (by first | omega | decide), (by first | omega | decide), (by first | omega | decide), (by first | omega | decide), (by first | omega | decide), (by first | omega | decide), (by first | omega | decide), (by first | omega | decide), (by first | omega | decide), (by first | omega | decide), (by first | omega | decide), rfl⟩)
              have hs72 : ct70 8 = .inl (g.2 0, 40, .inl (upd f50 (Int32.toNatClampNeg lks3) r48)) := by rw [ec71, va_up_ne _ _ (by omega)]; exact hs67
              have hs73 : ct70 9 = .inl (g.2 0, 40, .inl (upd f60 (Int32.toNatClampNeg lks3) r58)) := by rw [ec71, va_up_ne _ _ (by omega)]; exact hs68
              have hs74 : ct70 0 = .inr (9, [.int me, .ref (ad 1), .ref (ad 2), .ref (ad 3), .ref (ad 4), .int bks2, .int x69, .int gos4, .int shn5, .ref (ad 5), .ref (ad 6), .ref (ad 7), .ref (ad 8), .ref (ad 9), .ref (ad 10), .ref (ad 11), .int tpd6, .int pl07, .int ln08, .int flt9, .int opn10, .int cmy11, .int wtg12, .int nm013, .ref (ad 12), .ref (ad 13), .ref (ad 14), .ref (ad 15), .ref (ad 16), .ref (ad 17), .ref (ad 18), .ref (ad 19), .ref (ad 20), .ref (ad 21), .ref (ad 22), .ref (ad 23), .ref (ad 24), .ref (ad 25), .ref (ad 26), .ref (ad 27), .int mst14, .int sus15, .ref (ad 28), .ref (ad 29), .ref (ad 30), .ref (ad 31), .int cut16]) := by rw [ec71]; exact va_up_self _ _ _
              refine lv_aload_n hx hb dX9_link_74 rfl (lv_at hl 0 rfl) ?_
              refine va_get (D := g.1) (ci := 9) (v := .int x69) (C := RX9) (T := TX9) (N := 47) hx hb hg inG9 hown hK hP 0 (zw_at (by omega) hs74) rfl 6 (by decide) (hg _ mm_964) (fun _ h9 => h9) rfl dX9_link_75 ?_
              exact W.iret (v := x69) hx hb hr (fun t ht hW => ⟨⟨x69, (), rfl, trivial, ct70, by rw [ht]; exact hP, hD, hI⟩, hS.F ht⟩) hS.2.2 dX9_link_78
            · skip
              have c47 : lks3.toInt = 40 := (z_eq rfl (by decide : (40 : Int32).toInt = 40)).mp c47
              refine lv_iconst (v := (-1)) hx hb dX9_link_33 (by decide) ?_
              have q75 : ((-1) : Int32).toInt = -1 := by decide
              exact W.iret (v := (-1)) hx hb hr (fun t ht hW => ⟨⟨(-1), (), rfl, trivial, ct, by rw [ht]; exact hP, hD, hI⟩, hS.F ht⟩) hS.2.2 dX9_link_34
      · skip
        obtain rfl := hr41
        refine lv_if_eq (tgt := 33) hx hb dX9_link_16 (by decide) (fun c76 => ?_) (fun c76 => ?_)
        · skip
          refine lv_iconst (v := (-1)) hx hb dX9_link_33 (by decide) ?_
          have q77 : ((-1) : Int32).toInt = -1 := by decide
          exact W.iret (v := (-1)) hx hb hr (fun t ht hW => ⟨⟨(-1), (), rfl, trivial, ct, by rw [ht]; exact hP, hD, hI⟩, hS.F ht⟩) hS.2.2 dX9_link_34
        · skip
          exact absurd c76 (by decide)
  · skip
    obtain rfl := hr37
    refine lv_if_eq (tgt := 33) hx hb dX9_link_6 (by decide) (fun c78 => ?_) (fun c78 => ?_)
    · skip
      refine lv_iconst (v := (-1)) hx hb dX9_link_33 (by decide) ?_
      have q79 : ((-1) : Int32).toInt = -1 := by decide
      exact W.iret (v := (-1)) hx hb hr (fun t ht hW => ⟨⟨(-1), (), rfl, trivial, ct, by rw [ht]; exact hP, hD, hI⟩, hS.F ht⟩) hS.2.2 dX9_link_34
    · skip
      exact absurd c78 (by decide)

set_option maxHeartbeats 4000000 in
set_option maxRecDepth 100000 in
theorem k_X9_types (l : Launch) (g : zG) (sz : Nat) (ad : Nat → Nat) (me : Int32) (ct : Nat → va_E) (n : Int32) (hI : IR g ad me ct) (ht : zfi 16 (ct 0) ≤ 196) : Met l yX9_types (zW yX9_types cX9_types 3 none) ({ frames := 0, cells := 0, slots := 0, locals := 0 }) (va_Pc [.ref (ad 0), .int n] (zA g (zw 32 ad ct) sz)) (va_Qv (fun (_ : Unit) => True) (fun _ t => ∃ ct2 : Nat → va_E, zP g (zw 32 ad ct2) t.heap ∧ va_D (va_A (zw 32 ad ct) sz) (zw 32 ad ct2) ∧ IR g ad me ct2 ∧ (zfi 16 (ct2 0) = zfi 16 (ct 0) + 4)) (va_A (zw 32 ad ct) sz)) 0 0 (va_A (zw 32 ad ct) sz) := by
  refine Met.ofW (cc := cX9_types) (maxL := 3) (ret := none) (by decide) rfl ?_
  intro p e s m args below meth c s₁ B hml hv
  obtain ⟨rfl, hsz, hP, hK, hD0, hN⟩ := hv
  have hx := B.exec
  have hb := B.bytes
  have hr := B.returns
  have hg := zW.law (atoms_spec (ws := (zW yX9_types cX9_types 3 none)) B.pre)
  have hown : s.vm.findClass RX9 = some m.cls := findClass_of_methodNamed B.named
  have hlocks := B.notSynchronized
  have hpe0 := hI.1.1
  subst hsz
  have hD := hD0.self (sz := s.heap.size)
  generalize hAe : va_A (zw 32 ad ct) s.heap.size = A at hD ⊢
  have hA : ∀ q : Nat, s.heap.size ≤ q → A q := fun q h => by rw [← hAe]; exact Or.inr h
  have hS : va_S A s.heap s.heap [] := va_S.rf
  have hl := lv_entry ([.ref (ad 0), .int n]) (n := 3) (Nat.le_of_ble_eq_true rfl)
  rw [lg_entry_eq]
  generalize (lg_sl ([.ref (ad 0), .int n]) ++ List.replicate (3 - (lg_sl ([.ref (ad 0), .int n])).length) Slot.unset).toArray = ls at hl ⊢
  have hl : lv_has ls 3 [(0, .ref (ad 0)), (1, .int n)] := hl
  have rg_n := z_rng n
  have q3 : ((3 : Int32)).toInt = 3 := by decide
  refine lv_iconst (v := 3) hx hb dX9_types_0 (by decide) ?_
  refine lv_istore_n (lv' := [(2, .int 3), (0, .ref (ad 0)), (1, .int n)]) hx hb dX9_types_1 rfl hl (by decide) rfl (fun ls hl => ?_)
  obtain ⟨bks2, lks3, gos4, shn5, tpd6, pl07, ln08, flt9, opn10, cmy11, wtg12, nm013, mst14, sus15, cut16, h17, h18, h19, h20, h21, h22, h23, h24, h25, h26, h27, h28, h29, h30, h31, h32, h33, h34, h35, h36, hs1⟩ := a9_0 hI.1
  have z16_hs1 : zfi 16 (ct 0) = tpd6.toInt := by rw [hs1]; rfl
  have loop2 : ∀ (n2 : Nat) (v2_2 : Int32) (ct37 : Nat → va_E) (H : Heap) (locs : List Loc) (ls : Array Slot), ((v2_2.toInt + 1 : Int).toNat < n2) → (-1 ≤ v2_2.toInt ∧ v2_2.toInt ≤ 3) → (zfi 16 (ct37 0) = zfi 16 (ct 0) + 3 - v2_2.toInt) → (IR g ad me ct37) → zP g (zw 32 ad ct37) H → va_D A (zw 32 ad ct37) → va_S A s.heap H locs → lv_has ls 3 [(2, .int v2_2), (0, .ref (ad 0)), (1, .int n)] → W p l e (headSpec (zW yX9_types cX9_types 3 none) ({ frames := 0, cells := 0, slots := 0, locals := 0 })).room s m ([.ref (ad 0), .int n] : List Value).toArray below meth c H locs 0 0 (MQ below (va_Qv (fun (_ : Unit) => True) (fun _ t => ∃ ct2 : Nat → va_E, zP g (zw 32 ad ct2) t.heap ∧ va_D A (zw 32 ad ct2) ∧ IR g ad me ct2 ∧ (zfi 16 (ct2 0) = zfi 16 (ct 0) + 4)) A) ([.ref (ad 0), .int n] : List Value).toArray s 0 0 A) (F0 m 2 ls []) := by
    intro n2
    induction n2 with
    | zero =>
      intro v2_2 ct37 H locs ls hn2 b2_2 j0_2 hI hP hD hS hl
      exact absurd hn2 (Nat.not_lt_zero _)
    | succ n2 ih2 =>
      intro v2_2 ct37 H locs ls hn2 b2_2 j0_2 hI hP hD hS hl
      refine lv_iload_n hx hb dX9_types_2 rfl (lv_at hl 0 rfl) ?_
      refine lv_if_lt (tgt := 38) hx hb dX9_types_3 (by decide) (fun c38 => ?_) (fun c38 => ?_)
      · skip
        have c38 : v2_2.toInt < 0 := (z_lt rfl (by decide : (0 : Int32).toInt = 0)).mp c38
        exact W.vret hx hb hr (fun t ht hW => ⟨⟨(), rfl, trivial, ct37, by rw [ht]; exact hP, hD, hI, (by omega)⟩, hS.F ht⟩) hS.2.2 dX9_types_38
      · skip
        have c38 : ¬ (v2_2.toInt < 0) := fun q => c38 ((z_lt rfl (by decide : (0 : Int32).toInt = 0)).mpr q)
        refine lv_aload_n hx hb dX9_types_6 rfl (lv_at hl 1 rfl) ?_
        obtain ⟨bks40, lks41, gos42, shn43, tpd44, pl045, ln046, flt47, opn48, cmy49, wtg50, nm051, mst52, sus53, cut54, h55, h56, h57, h58, h59, h60, h61, h62, h63, h64, h65, h66, h67, h68, h69, h70, h71, h72, h73, h74, hs39⟩ := a9_0 hI.1
        have z16_hs39 : zfi 16 (ct37 0) = tpd44.toInt := by rw [hs39]; rfl
        refine va_get (D := g.1) (ci := 9) (v := .ref (ad 11)) (C := RX9) (T := TX9) (N := 47) hx hb hg inG9 hown hK hP 0 (zw_at (by omega) hs39) rfl 15 (by decide) (hg _ mm_973) (fun _ h9 => h9) rfl dX9_types_7 ?_
        refine lv_aload_n hx hb dX9_types_10 rfl (lv_at hl 1 rfl) ?_
        refine va_get (D := g.1) (ci := 9) (v := .int tpd44) (C := RX9) (T := TX9) (N := 47) hx hb hg inG9 hown hK hP 0 (zw_at (by omega) hs39) rfl 16 (by decide) (hg _ mm_974) (fun _ h9 => h9) rfl dX9_types_11 ?_
        refine lv_iload_n hx hb dX9_types_14 rfl (lv_at hl 2 rfl) ?_
        refine lv_bipush (v := 8) hx hb dX9_types_15 (by decide) ?_
        refine lv_iload_n hx hb dX9_types_17 rfl (lv_at hl 0 rfl) ?_
        refine lv_imul hx hb dX9_types_18 ?_
        refine lv_topi (fun x75 ex75 => ?_)
        have tx75 : x75.toInt = 8 * v2_2.toInt := by rw [ex75]; exact z_mul (by decide : (8 : Int32).toInt = 8) rfl (by omega) (by omega)
        refine lv_ishr hx hb dX9_types_19 ?_
        refine lv_topi (fun x76 ex76 => ?_)
        refine lv_i2b hx hb dX9_types_20 rfl ?_
        refine lv_topi (fun x77 ex77 => ?_)
        obtain ⟨f79, hs78⟩ := a9_11 hI.1
        refine va_bast hx hb hK hP hD hS 11 2 (zw_at (by omega) hs78) rfl (z_in rfl (by omega) (by omega)) dX9_types_21 (fun H locs hP hD hS => ?_)
        have hP : zP g ((zw 32 ad ct37).set 11 (ad 11, .inl (g.2 2, 200, .inl (upd f79 (Int32.toNatClampNeg tpd44) (vp_nar .byte x77))))) H := hP
        have hD : va_D A ((zw 32 ad ct37).set 11 (ad 11, .inl (g.2 2, 200, .inl (upd f79 (Int32.toNatClampNeg tpd44) (vp_nar .byte x77))))) := hD
        rw [zw_set (by omega)] at hP hD
        obtain ⟨ct81, ec82⟩ : ∃ z : Nat → va_E, z = va_up ct37 11 (.inl (g.2 2, 200, .inl (upd f79 (Int32.toNatClampNeg tpd44) (vp_nar .byte x77)))) := ⟨_, rfl⟩
        rw [← ec82] at hP hD
        have hI : IR g ad me ct81 := by rw [ec82]; exact upR hI (by decide) (i9_11 ⟨_, rfl⟩)
        have hs83 : ct81 0 = .inr (9, [.int me, .ref (ad 1), .ref (ad 2), .ref (ad 3), .ref (ad 4), .int bks40, .int lks41, .int gos42, .int shn43, .ref (ad 5), .ref (ad 6), .ref (ad 7), .ref (ad 8), .ref (ad 9), .ref (ad 10), .ref (ad 11), .int tpd44, .int pl045, .int ln046, .int flt47, .int opn48, .int cmy49, .int wtg50, .int nm051, .ref (ad 12), .ref (ad 13), .ref (ad 14), .ref (ad 15), .ref (ad 16), .ref (ad 17), .ref (ad 18), .ref (ad 19), .ref (ad 20), .ref (ad 21), .ref (ad 22), .ref (ad 23), .ref (ad 24), .ref (ad 25), .ref (ad 26), .ref (ad 27), .int mst52, .int sus53, .ref (ad 28), .ref (ad 29), .ref (ad 30), .ref (ad 31), .int cut54]) := by rw [ec82, va_up_ne _ _ (by omega)]; exact hs39
        have hs84 : ct81 11 = .inl (g.2 2, 200, .inl (upd f79 (Int32.toNatClampNeg tpd44) (vp_nar .byte x77))) := by rw [ec82]; exact va_up_self _ _ _
        have z16_hs83 : zfi 16 (ct81 0) = (tpd44 : Int32).toInt := by rw [hs83]; rfl
        refine lv_aload_n hx hb dX9_types_22 rfl (lv_at hl 1 rfl) ?_
        refine lv_aload_n hx hb dX9_types_23 rfl (lv_at hl 1 rfl) ?_
        refine va_get (D := g.1) (ci := 9) (v := .int tpd44) (C := RX9) (T := TX9) (N := 47) hx hb hg inG9 hown hK hP 0 (zw_at (by omega) hs83) rfl 16 (by decide) (hg _ mm_974) (fun _ h9 => h9) rfl dX9_types_24 ?_
        refine lv_iconst (v := 1) hx hb dX9_types_27 (by decide) ?_
        refine lv_iadd hx hb dX9_types_28 ?_
        refine lv_topi (fun x85 ex85 => ?_)
        have tx85 : x85.toInt = tpd44.toInt + 1 := by rw [ex85]; exact z_add rfl (by decide : (1 : Int32).toInt = 1) (by omega) (by omega)
        refine va_put (D := g.1) (ci := 9) (v := .int x85) (ty := .int) (C := RX9) (T := TX9) (N := 47) hx hb hg inG9 tyX9 tyX9_ok nmX9 hown hK hP hD hS 0 (zw_at (by omega) hs83) rfl 16 (by decide) (hg _ mm_974) (fun _ h9 => h9) rfl (by decide +kernel) rfl rfl (Nat.le_of_ble_eq_true rfl) dX9_types_29 (fun H locs hP hD hS => ?_)
        have hP : zP g ((zw 32 ad ct81).set 0 (ad 0, .inr (9, [.int me, .ref (ad 1), .ref (ad 2), .ref (ad 3), .ref (ad 4), .int bks40, .int lks41, .int gos42, .int shn43, .ref (ad 5), .ref (ad 6), .ref (ad 7), .ref (ad 8), .ref (ad 9), .ref (ad 10), .ref (ad 11), .int x85, .int pl045, .int ln046, .int flt47, .int opn48, .int cmy49, .int wtg50, .int nm051, .ref (ad 12), .ref (ad 13), .ref (ad 14), .ref (ad 15), .ref (ad 16), .ref (ad 17), .ref (ad 18), .ref (ad 19), .ref (ad 20), .ref (ad 21), .ref (ad 22), .ref (ad 23), .ref (ad 24), .ref (ad 25), .ref (ad 26), .ref (ad 27), .int mst52, .int sus53, .ref (ad 28), .ref (ad 29), .ref (ad 30), .ref (ad 31), .int cut54]))) H := hP
        have hD : va_D A ((zw 32 ad ct81).set 0 (ad 0, .inr (9, [.int me, .ref (ad 1), .ref (ad 2), .ref (ad 3), .ref (ad 4), .int bks40, .int lks41, .int gos42, .int shn43, .ref (ad 5), .ref (ad 6), .ref (ad 7), .ref (ad 8), .ref (ad 9), .ref (ad 10), .ref (ad 11), .int x85, .int pl045, .int ln046, .int flt47, .int opn48, .int cmy49, .int wtg50, .int nm051, .ref (ad 12), .ref (ad 13), .ref (ad 14), .ref (ad 15), .ref (ad 16), .ref (ad 17), .ref (ad 18), .ref (ad 19), .ref (ad 20), .ref (ad 21), .ref (ad 22), .ref (ad 23), .ref (ad 24), .ref (ad 25), .ref (ad 26), .ref (ad 27), .int mst52, .int sus53, .ref (ad 28), .ref (ad 29), .ref (ad 30), .ref (ad 31), .int cut54]))) := hD
        rw [zw_set (by omega)] at hP hD
        obtain ⟨ct86, ec87⟩ : ∃ z : Nat → va_E, z = va_up ct81 0 (.inr (9, [.int me, .ref (ad 1), .ref (ad 2), .ref (ad 3), .ref (ad 4), .int bks40, .int lks41, .int gos42, .int shn43, .ref (ad 5), .ref (ad 6), .ref (ad 7), .ref (ad 8), .ref (ad 9), .ref (ad 10), .ref (ad 11), .int x85, .int pl045, .int ln046, .int flt47, .int opn48, .int cmy49, .int wtg50, .int nm051, .ref (ad 12), .ref (ad 13), .ref (ad 14), .ref (ad 15), .ref (ad 16), .ref (ad 17), .ref (ad 18), .ref (ad 19), .ref (ad 20), .ref (ad 21), .ref (ad 22), .ref (ad 23), .ref (ad 24), .ref (ad 25), .ref (ad 26), .ref (ad 27), .int mst52, .int sus53, .ref (ad 28), .ref (ad 29), .ref (ad 30), .ref (ad 31), .int cut54])) := ⟨_, rfl⟩
        rw [← ec87] at hP hD
        have hI : IR g ad me ct86 := by rw [ec87]; exact upR hI (by decide) (i9_0 ⟨(bks40 : Int32), (lks41 : Int32), (gos42 : Int32), (shn43 : Int32), (x85 : Int32), (pl045 : Int32), (ln046 : Int32), (flt47 : Int32), (opn48 : Int32), (cmy49 : Int32), (wtg50 : Int32), (nm051 : Int32), (mst52 : Int32), (sus53 : Int32), (cut54 : Int32), (by first | omega | decide), (by first | omega | decide), (by first | omega | decide), (by first | omega | decide), (by first | omega | decide), (by first | omega | decide), (by first | omega | decide), (by first | omega | decide), (by first | omega | decide), (by first | omega | decide), (by first | omega | decide), (by first | omega | decide), (by first | omega | decide), (by first | omega | decide), (by first | omega | decide), (by first | omega | decide), (by first | omega | decide), (by first | omega | decide), (by first | omega | decide), (by first | omega | decide), rfl⟩)
        have hs88 : ct86 11 = .inl (g.2 2, 200, .inl (upd f79 (Int32.toNatClampNeg tpd44) (vp_nar .byte x77))) := by rw [ec87, va_up_ne _ _ (by omega)]; exact hs84
        have hs89 : ct86 0 = .inr (9, [.int me, .ref (ad 1), .ref (ad 2), .ref (ad 3), .ref (ad 4), .int bks40, .int lks41, .int gos42, .int shn43, .ref (ad 5), .ref (ad 6), .ref (ad 7), .ref (ad 8), .ref (ad 9), .ref (ad 10), .ref (ad 11), .int x85, .int pl045, .int ln046, .int flt47, .int opn48, .int cmy49, .int wtg50, .int nm051, .ref (ad 12), .ref (ad 13), .ref (ad 14), .ref (ad 15), .ref (ad 16), .ref (ad 17), .ref (ad 18), .ref (ad 19), .ref (ad 20), .ref (ad 21), .ref (ad 22), .ref (ad 23), .ref (ad 24), .ref (ad 25), .ref (ad 26), .ref (ad 27), .int mst52, .int sus53, .ref (ad 28), .ref (ad 29), .ref (ad 30), .ref (ad 31), .int cut54]) := by rw [ec87]; exact va_up_self _ _ _
        have z16_hs89 : zfi 16 (ct86 0) = (x85 : Int32).toInt := by rw [hs89]; rfl
        obtain ⟨x90, ex90⟩ : ∃ y : Int32, y = v2_2 + (-1) := ⟨_, rfl⟩
        have tx90 : x90.toInt = v2_2.toInt + (-1) := by rw [ex90]; exact z_add rfl (by decide : ((-1) : Int32).toInt = (-1)) (by omega) (by omega)
        refine lv_iinc (v := x90) (lv' := [(2, .int x90), (0, .ref (ad 0)), (1, .int n)]) hx hb dX9_types_32 hl (k := 0) rfl (by rw [ex90]; rfl) (by decide) rfl (fun ls hl => ?_)
        refine lv_goto (tgt := 2) hx hb dX9_types_35 (by decide) ?_
        exact ih2 x90 ct86 _ _ ls (by omega) (by first | assumption | omega | decide) (by first | assumption | omega | decide) hI hP hD hS (lv_sub hl [0, 1, 2] rfl)
  exact loop2 (((3 : Int32).toInt + 1 : Int).toNat + 1) (3 : Int32) ct _ _ ls (by omega) (by first | assumption | omega | decide) (by first | assumption | omega | decide) hI hP hD hS (lv_sub hl [0, 1, 2] rfl)

set_option maxHeartbeats 4000000 in
set_option maxRecDepth 100000 in
theorem k_X9_feed (l : Launch) (g : zG) (sz : Nat) (ad : Nat → Nat) (me : Int32) (ct : Nat → va_E) (a0 : Int32) (b0 : Int32) (c0 : Int32) (d0 : Int32) (e0 : Int32) (hI : IR g ad me ct) : Met l yX9_feed (zW yX9_feed cX9_feed 6 (some .int)) ({ frames := 1, cells := 0, slots := 0, locals := 22 }) (va_Pc [.ref (ad 0), .int a0, .int b0, .int c0, .int d0, .int e0] (zA g (zw 32 ad ct) sz)) (va_Qi (fun (r : Int32) (_ : Unit) => (True)) (fun _ t => ∃ ct2 : Nat → va_E, zP g (zw 32 ad ct2) t.heap ∧ va_D (va_A (zw 32 ad ct) sz) (zw 32 ad ct2) ∧ IR g ad me ct2) (va_A (zw 32 ad ct) sz)) 0 0 (va_A (zw 32 ad ct) sz) := by
  refine Met.ofW (cc := cX9_feed) (maxL := 6) (ret := (some .int)) (by decide) rfl ?_
  intro p e s m args below meth c s₁ B hml hv
  obtain ⟨rfl, hsz, hP, hK, hD0, hN⟩ := hv
  have hx := B.exec
  have hb := B.bytes
  have hr := B.returns
  have hg := zW.law (atoms_spec (ws := (zW yX9_feed cX9_feed 6 (some .int))) B.pre)
  have hown : s.vm.findClass RX9 = some m.cls := findClass_of_methodNamed B.named
  have hlocks := B.notSynchronized
  have hpe0 := hI.1.1
  subst hsz
  have hD := hD0.self (sz := s.heap.size)
  generalize hAe : va_A (zw 32 ad ct) s.heap.size = A at hD ⊢
  have hA : ∀ q : Nat, s.heap.size ≤ q → A q := fun q h => by rw [← hAe]; exact Or.inr h
  have hS : va_S A s.heap s.heap [] := va_S.rf
  have hl := lv_entry ([.ref (ad 0), .int a0, .int b0, .int c0, .int d0, .int e0]) (n := 6) (Nat.le_of_ble_eq_true rfl)
  rw [lg_entry_eq]
  generalize (lg_sl ([.ref (ad 0), .int a0, .int b0, .int c0, .int d0, .int e0]) ++ List.replicate (6 - (lg_sl ([.ref (ad 0), .int a0, .int b0, .int c0, .int d0, .int e0])).length) Slot.unset).toArray = ls at hl ⊢
  have hl : lv_has ls 6 [(0, .ref (ad 0)), (1, .int a0), (2, .int b0), (3, .int c0), (4, .int d0), (5, .int e0)] := hl
  have rg_a0 := z_rng a0
  have rg_b0 := z_rng b0
  have rg_c0 := z_rng c0
  have rg_d0 := z_rng d0
  have rg_e0 := z_rng e0
  refine lv_aload_n hx hb dX9_feed_0 rfl (lv_at hl 0 rfl) ?_
  obtain ⟨bks2, lks3, gos4, shn5, tpd6, pl07, ln08, flt9, opn10, cmy11, wtg12, nm013, mst14, sus15, cut16, h17, h18, h19, h20, h21, h22, h23, h24, h25, h26, h27, h28, h29, h30, h31, h32, h33, h34, h35, h36, hs1⟩ := a9_0 hI.1
  have z16_hs1 : zfi 16 (ct 0) = tpd6.toInt := by rw [hs1]; rfl
  refine va_get (D := g.1) (ci := 9) (v := .int tpd6) (C := RX9) (T := TX9) (N := 47) hx hb hg inG9 hown hK hP 0 (zw_at (by omega) hs1) rfl 16 (by decide) (hg _ mm_974) (fun _ h9 => h9) rfl dX9_feed_1 ?_
  refine lv_bipush (v := 20) hx hb dX9_feed_4 (by decide) ?_
  refine lv_iadd hx hb dX9_feed_6 ?_
  refine lv_topi (fun x37 ex37 => ?_)
  have tx37 : x37.toInt = tpd6.toInt + 20 := by rw [ex37]; exact z_add rfl (by decide : (20 : Int32).toInt = 20) (by omega) (by omega)
  refine lv_sipush (v := 200) hx hb dX9_feed_7 (by decide) ?_
  refine lv_icmp_le (tgt := 15) hx hb dX9_feed_10 (by decide) (fun c38 => ?_) (fun c38 => ?_)
  · skip
    have c38 : x37.toInt ≤ 200 := (z_le rfl (by decide : (200 : Int32).toInt = 200)).mp c38
    refine lv_aload_n hx hb dX9_feed_15 rfl (lv_at hl 0 rfl) ?_
    refine lv_iload_n hx hb dX9_feed_16 rfl (lv_at hl 1 rfl) ?_
    have hFc := zw_free hD hS hA
    refine va_callv (va_runV (As := [.int a0]) (rest := []) ⟨hx, hb, hml, hown, hg⟩ (k_X9_types l g _ ad me ct a0 hI (by first | assumption | omega | decide)) (cwV 1 hg (z_gV mm_1202 mm_1204 mm_61 mm_117 mm_1205) rfl rfl rfl (by decide +kernel) ⟨Nat.le_of_ble_eq_true rfl, Nat.le_of_ble_eq_true rfl⟩) ⟨(zA.pre [.ref (ad 0), .int a0] hP hK hD hN).1, va_recv hK hP (ci := 9) (q0 := 0) rfl (zw_at (by omega) hs1), (zA.pre [.ref (ad 0), .int a0] hP hK hD hN).2⟩ rfl rfl hl.1 rfl (lv_room (Nat.le_of_ble_eq_true rfl)) dX9_feed_17 ⟨Nat.le_of_ble_eq_true rfl, Nat.le_of_ble_eq_true rfl⟩) hS (fun q _ h => hFc q h) hFc (fun _ t H1 locs ht hvm hr39 hB hz1 hk1 hS => ?_)
    obtain ⟨ct40, hP1, hD1, hI, hk41⟩ := hB
    rw [ht] at hP1
    have hD := hD1.weaken (fun _ _ _ h => hFc _ h)
    generalize H1 = H at hP1 hS ⊢
    have hP := hP1
    refine W.widen (k := 0) (n := 0) (Nat.le_refl _) (Nat.le_refl _) ?_
    refine lv_aload_n hx hb dX9_feed_20 rfl (lv_at hl 0 rfl) ?_
    refine lv_iload_n hx hb dX9_feed_21 rfl (lv_at hl 2 rfl) ?_
    obtain ⟨bks43, lks44, gos45, shn46, tpd47, pl048, ln049, flt50, opn51, cmy52, wtg53, nm054, mst55, sus56, cut57, h58, h59, h60, h61, h62, h63, h64, h65, h66, h67, h68, h69, h70, h71, h72, h73, h74, h75, h76, h77, hs42⟩ := a9_0 hI.1
    have z16_hs42 : zfi 16 (ct40 0) = tpd47.toInt := by rw [hs42]; rfl
    have hFc := zw_free hD hS hA
    refine va_callv (va_runV (As := [.int b0]) (rest := []) ⟨hx, hb, hml, hown, hg⟩ (k_X9_types l g _ ad me ct40 b0 hI (by first | assumption | omega | decide)) (cwV 1 hg (z_gV mm_1202 mm_1204 mm_61 mm_117 mm_1205) rfl rfl rfl (by decide +kernel) ⟨Nat.le_of_ble_eq_true rfl, Nat.le_of_ble_eq_true rfl⟩) ⟨(zA.pre [.ref (ad 0), .int b0] hP hK hD hN).1, va_recv hK hP (ci := 9) (q0 := 0) rfl (zw_at (by omega) hs42), (zA.pre [.ref (ad 0), .int b0] hP hK hD hN).2⟩ rfl rfl hl.1 rfl (lv_room (Nat.le_of_ble_eq_true rfl)) dX9_feed_22 ⟨Nat.le_of_ble_eq_true rfl, Nat.le_of_ble_eq_true rfl⟩) hS (fun q _ h => hFc q h) hFc (fun _ t H1 locs ht hvm hr78 hB hz1 hk1 hS => ?_)
    obtain ⟨ct79, hP1, hD1, hI, hk80⟩ := hB
    rw [ht] at hP1
    have hD := hD1.weaken (fun _ _ _ h => hFc _ h)
    generalize H1 = H at hP1 hS ⊢
    have hP := hP1
    refine W.widen (k := 0) (n := 0) (Nat.le_refl _) (Nat.le_refl _) ?_
    refine lv_aload_n hx hb dX9_feed_25 rfl (lv_at hl 0 rfl) ?_
    refine lv_iload_n hx hb dX9_feed_26 rfl (lv_at hl 3 rfl) ?_
    obtain ⟨bks82, lks83, gos84, shn85, tpd86, pl087, ln088, flt89, opn90, cmy91, wtg92, nm093, mst94, sus95, cut96, h97, h98, h99, h100, h101, h102, h103, h104, h105, h106, h107, h108, h109, h110, h111, h112, h113, h114, h115, h116, hs81⟩ := a9_0 hI.1
    have z16_hs81 : zfi 16 (ct79 0) = tpd86.toInt := by rw [hs81]; rfl
    have hFc := zw_free hD hS hA
    refine va_callv (va_runV (As := [.int c0]) (rest := []) ⟨hx, hb, hml, hown, hg⟩ (k_X9_types l g _ ad me ct79 c0 hI (by first | assumption | omega | decide)) (cwV 1 hg (z_gV mm_1202 mm_1204 mm_61 mm_117 mm_1205) rfl rfl rfl (by decide +kernel) ⟨Nat.le_of_ble_eq_true rfl, Nat.le_of_ble_eq_true rfl⟩) ⟨(zA.pre [.ref (ad 0), .int c0] hP hK hD hN).1, va_recv hK hP (ci := 9) (q0 := 0) rfl (zw_at (by omega) hs81), (zA.pre [.ref (ad 0), .int c0] hP hK hD hN).2⟩ rfl rfl hl.1 rfl (lv_room (Nat.le_of_ble_eq_true rfl)) dX9_feed_27 ⟨Nat.le_of_ble_eq_true rfl, Nat.le_of_ble_eq_true rfl⟩) hS (fun q _ h => hFc q h) hFc (fun _ t H1 locs ht hvm hr117 hB hz1 hk1 hS => ?_)
    obtain ⟨ct118, hP1, hD1, hI, hk119⟩ := hB
    rw [ht] at hP1
    have hD := hD1.weaken (fun _ _ _ h => hFc _ h)
    generalize H1 = H at hP1 hS ⊢
    have hP := hP1
    refine W.widen (k := 0) (n := 0) (Nat.le_refl _) (Nat.le_refl _) ?_
    refine lv_aload_n hx hb dX9_feed_30 rfl (lv_at hl 0 rfl) ?_
    refine lv_iload hx hb dX9_feed_31 (lv_at hl 4 rfl) ?_
    obtain ⟨bks121, lks122, gos123, shn124, tpd125, pl0126, ln0127, flt128, opn129, cmy130, wtg131, nm0132, mst133, sus134, cut135, h136, h137, h138, h139, h140, h141, h142, h143, h144, h145, h146, h147, h148, h149, h150, h151, h152, h153, h154, h155, hs120⟩ := a9_0 hI.1
    have z16_hs120 : zfi 16 (ct118 0) = tpd125.toInt := by rw [hs120]; rfl
    have hFc := zw_free hD hS hA
    refine va_callv (va_runV (As := [.int d0]) (rest := []) ⟨hx, hb, hml, hown, hg⟩ (k_X9_types l g _ ad me ct118 d0 hI (by first | assumption | omega | decide)) (cwV 1 hg (z_gV mm_1202 mm_1204 mm_61 mm_117 mm_1205) rfl rfl rfl (by decide +kernel) ⟨Nat.le_of_ble_eq_true rfl, Nat.le_of_ble_eq_true rfl⟩) ⟨(zA.pre [.ref (ad 0), .int d0] hP hK hD hN).1, va_recv hK hP (ci := 9) (q0 := 0) rfl (zw_at (by omega) hs120), (zA.pre [.ref (ad 0), .int d0] hP hK hD hN).2⟩ rfl rfl hl.1 rfl (lv_room (Nat.le_of_ble_eq_true rfl)) dX9_feed_33 ⟨Nat.le_of_ble_eq_true rfl, Nat.le_of_ble_eq_true rfl⟩) hS (fun q _ h => hFc q h) hFc (fun _ t H1 locs ht hvm hr156 hB hz1 hk1 hS => ?_)
    obtain ⟨ct157, hP1, hD1, hI, hk158⟩ := hB
    rw [ht] at hP1
    have hD := hD1.weaken (fun _ _ _ h => hFc _ h)
    generalize H1 = H at hP1 hS ⊢
    have hP := hP1
    refine W.widen (k := 0) (n := 0) (Nat.le_refl _) (Nat.le_refl _) ?_
    refine lv_aload_n hx hb dX9_feed_36 rfl (lv_at hl 0 rfl) ?_
    refine lv_iload hx hb dX9_feed_37 (lv_at hl 5 rfl) ?_
    obtain ⟨bks160, lks161, gos162, shn163, tpd164, pl0165, ln0166, flt167, opn168, cmy169, wtg170, nm0171, mst172, sus173, cut174, h175, h176, h177, h178, h179, h180, h181, h182, h183, h184, h185, h186, h187, h188, h189, h190, h191, h192, h193, h194, hs159⟩ := a9_0 hI.1
    have z16_hs159 : zfi 16 (ct157 0) = tpd164.toInt := by rw [hs159]; rfl
    have hFc := zw_free hD hS hA
    refine va_callv (va_runV (As := [.int e0]) (rest := []) ⟨hx, hb, hml, hown, hg⟩ (k_X9_types l g _ ad me ct157 e0 hI (by first | assumption | omega | decide)) (cwV 1 hg (z_gV mm_1202 mm_1204 mm_61 mm_117 mm_1205) rfl rfl rfl (by decide +kernel) ⟨Nat.le_of_ble_eq_true rfl, Nat.le_of_ble_eq_true rfl⟩) ⟨(zA.pre [.ref (ad 0), .int e0] hP hK hD hN).1, va_recv hK hP (ci := 9) (q0 := 0) rfl (zw_at (by omega) hs159), (zA.pre [.ref (ad 0), .int e0] hP hK hD hN).2⟩ rfl rfl hl.1 rfl (lv_room (Nat.le_of_ble_eq_true rfl)) dX9_feed_39 ⟨Nat.le_of_ble_eq_true rfl, Nat.le_of_ble_eq_true rfl⟩) hS (fun q _ h => hFc q h) hFc (fun _ t H1 locs ht hvm hr195 hB hz1 hk1 hS => ?_)
    obtain ⟨ct196, hP1, hD1, hI, hk197⟩ := hB
    rw [ht] at hP1
    have hD := hD1.weaken (fun _ _ _ h => hFc _ h)
    generalize H1 = H at hP1 hS ⊢
    have hP := hP1
    refine W.widen (k := 0) (n := 0) (Nat.le_refl _) (Nat.le_refl _) ?_
    refine lv_aload_n hx hb dX9_feed_42 rfl (lv_at hl 0 rfl) ?_
    obtain ⟨bks199, lks200, gos201, shn202, tpd203, pl0204, ln0205, flt206, opn207, cmy208, wtg209, nm0210, mst211, sus212, cut213, h214, h215, h216, h217, h218, h219, h220, h221, h222, h223, h224, h225, h226, h227, h228, h229, h230, h231, h232, h233, hs198⟩ := a9_0 hI.1
    have z16_hs198 : zfi 16 (ct196 0) = tpd203.toInt := by rw [hs198]; rfl
    refine va_get (D := g.1) (ci := 9) (v := .int tpd203) (C := RX9) (T := TX9) (N := 47) hx hb hg inG9 hown hK hP 0 (zw_at (by omega) hs198) rfl 16 (by decide) (hg _ mm_974) (fun _ h9 => h9) rfl dX9_feed_43 ?_
    exact W.iret (v := tpd203) hx hb hr (fun t ht hW => ⟨⟨tpd203, (), rfl, trivial, ct196, by rw [ht]; exact hP, hD, hI⟩, hS.F ht⟩) hS.2.2 dX9_feed_46
  · skip
    have c38 : ¬ (x37.toInt ≤ 200) := fun q => c38 ((z_le rfl (by decide : (200 : Int32).toInt = 200)).mpr q)
    refine lv_iconst (v := (-1)) hx hb dX9_feed_13 (by decide) ?_
    have q234 : ((-1) : Int32).toInt = -1 := by decide
    exact W.iret (v := (-1)) hx hb hr (fun t ht hW => ⟨⟨(-1), (), rfl, trivial, ct, by rw [ht]; exact hP, hD, hI⟩, hS.F ht⟩) hS.2.2 dX9_feed_14
