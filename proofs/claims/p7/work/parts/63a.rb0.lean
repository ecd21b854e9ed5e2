set_option maxHeartbeats 4000000 in
set_option maxRecDepth 100000 in
theorem k_X9_upper (l : Launch) (g : zG) (sz : Nat) (ad0 : Nat → Nat) (me : Int32) (ct : Nat → va_E) (c0 : Int32) (nd : Int32) (up : Int32) (hI : IR g ad0 me ct) : Met l yX9_upper (zW yX9_upper cX9_upper 4 (some .boolean)) ({ frames := 1, cells := 0, slots := 0, locals := 22 }) (va_Pc [.ref (ad0 0), .int c0, .int nd, .int up] (zA g (zw 32 ad0 ct) sz)) (va_Qi (fun (r : Int32) (u : Int32) => ((r = 1 ∧ (0 ≤ c0.toInt ∧ c0.toInt ≤ 3) ∧ (0 ≤ nd.toInt ∧ nd.toInt ≤ 31) ∧ (up.toInt = -1 ∨ (16 ≤ up.toInt ∧ up.toInt ≤ 31 ∧ nd.toInt < up.toInt))) ∨ (r = 0 ∧ (¬ ((0 ≤ c0.toInt ∧ c0.toInt ≤ 3) ∧ (0 ≤ nd.toInt ∧ nd.toInt ≤ 31) ∧ (up.toInt = -1 ∨ (16 ≤ up.toInt ∧ up.toInt ≤ 31 ∧ nd.toInt < up.toInt)))))) ∧ u = r) (fun (u : Int32) t => ∃ (ad2 : Nat → Nat) (ct2 : Nat → va_E), (u = 1 → ad2 = va_up ad0 (3 * (4000 + 32 * c0.toInt.toNat + nd.toInt.toNat) + 1) (up.toInt + 1).toNat) ∧ (u = 0 → ad2 = ad0) ∧ zP g (zw 32 ad2 ct2) t.heap ∧ va_D (va_A (zw 32 ad0 ct) sz) (zw 32 ad2 ct2) ∧ IR g ad2 me ct2) (va_A (zw 32 ad0 ct) sz)) 0 0 (va_A (zw 32 ad0 ct) sz) := by
  refine Met.ofW (cc := cX9_upper) (maxL := 4) (ret := (some .boolean)) (by decide) rfl ?_
  intro p e s m args below meth c s₁ B hml hv
  obtain ⟨rfl, hsz, hP, hK, hD0, hN⟩ := hv
  have hx := B.exec
  have hb := B.bytes
  have hr := B.returns
  have hg := zW.law (atoms_spec (ws := (zW yX9_upper cX9_upper 4 (some .boolean))) B.pre)
  have hown : s.vm.findClass RX9 = some m.cls := findClass_of_methodNamed B.named
  have hlocks := B.notSynchronized
  have hpe0 := hI.1.1
  subst hsz
  have hD := hD0.self (sz := s.heap.size)
  generalize hAe : va_A (zw 32 ad0 ct) s.heap.size = A at hD ⊢
  have hA : ∀ q : Nat, s.heap.size ≤ q → A q := fun q h => by rw [← hAe]; exact Or.inr h
  have hS : va_S A s.heap s.heap [] := va_S.rf
  have hl := lv_entry ([.ref (ad0 0), .int c0, .int nd, .int up]) (n := 4) (Nat.le_of_ble_eq_true rfl)
  rw [lg_entry_eq]
  generalize (lg_sl ([.ref (ad0 0), .int c0, .int nd, .int up]) ++ List.replicate (4 - (lg_sl ([.ref (ad0 0), .int c0, .int nd, .int up])).length) Slot.unset).toArray = ls at hl ⊢
  have hl : lv_has ls 4 [(0, .ref (ad0 0)), (1, .int c0), (2, .int nd), (3, .int up)] := hl
  obtain ⟨ad, had⟩ : ∃ f : Nat → Nat, f = ad0 := ⟨_, rfl⟩
  rw [← had] at hP hD hI hl hAe
  have rg_c0 := z_rng c0
  have rg_nd := z_rng nd
  have rg_up := z_rng up
  refine lv_iload_n hx hb dX9_upper_0 rfl (lv_at hl 1 rfl) ?_
  refine zc_i (va_runS (As := [.int c0]) (rest := []) ⟨hx, hb, hml, hown, hg⟩ (k_X9_isColumn l g ad me ct c0 hI) (va_cwS 1 hg (z_gS mm_1106 mm_1107 mm_117 mm_1108) rfl rfl rfl (by decide +kernel) ⟨Nat.le_of_ble_eq_true rfl, Nat.le_of_ble_eq_true rfl⟩) (zR.pre [.int c0] hP hK hN) rfl rfl hl.1 rfl (lv_room (Nat.le_of_ble_eq_true rfl)) dX9_upper_1 ⟨Nat.le_of_ble_eq_true rfl, Nat.le_of_ble_eq_true rfl⟩) (fun r1 hr1 => ?_)
  rcases hr1 with hr1 | hr1
  · skip
    obtain ⟨rfl, h2, h3⟩ := hr1
    replace h2 : 0 ≤ c0.toInt := h2
    replace h3 : c0.toInt ≤ 3 := h3
    refine lv_if_eq (tgt := 38) hx hb dX9_upper_4 (by decide) (fun c4 => ?_) (fun c4 => ?_)
    · skip
      exact absurd c4 (by decide)
    · skip
      refine lv_iload_n hx hb dX9_upper_7 rfl (lv_at hl 2 rfl) ?_
      refine lv_iconst (v := 0) hx hb dX9_upper_8 (by decide) ?_
      refine lv_bipush (v := 31) hx hb dX9_upper_9 (by decide) ?_
      refine zc_i (va_runS (As := [.int nd, .int 0, .int 31]) (rest := []) ⟨hx, hb, hml, hown, hg⟩ (k_X9_in l g ad me ct nd (0 : Int32) (31 : Int32) hI) (va_cwS 3 hg (z_gS mm_1109 mm_1110 mm_117 mm_1111) rfl rfl rfl (by decide +kernel) ⟨Nat.le_of_ble_eq_true rfl, Nat.le_of_ble_eq_true rfl⟩) (zR.pre [.int nd, .int 0, .int 31] hP hK hN) rfl rfl hl.1 rfl (lv_room (Nat.le_of_ble_eq_true rfl)) dX9_upper_11 ⟨Nat.le_of_ble_eq_true rfl, Nat.le_of_ble_eq_true rfl⟩) (fun r5 hr5 => ?_)
      rcases hr5 with hr5 | hr5
      · skip
        obtain ⟨rfl, h6, h7⟩ := hr5
        replace h6 : (0 : Int) ≤ nd.toInt := h6
        replace h7 : nd.toInt ≤ (31 : Int) := h7
        refine lv_if_eq (tgt := 38) hx hb dX9_upper_14 (by decide) (fun c8 => ?_) (fun c8 => ?_)
        · skip
          exact absurd c8 (by decide)
        · skip
          refine lv_iload_n hx hb dX9_upper_17 rfl (lv_at hl 3 rfl) ?_
          refine lv_iconst (v := (-1)) hx hb dX9_upper_18 (by decide) ?_
          refine lv_icmp_eq (tgt := 40) hx hb dX9_upper_19 (by decide) (fun c9 => ?_) (fun c9 => ?_)
          · skip
            have c9 : up.toInt = (-1) := (z_eq rfl (by decide : ((-1) : Int32).toInt = (-1))).mp c9
            refine lv_aload_n hx hb dX9_upper_40 rfl (lv_at hl 0 rfl) ?_
            obtain ⟨bks11, lks12, gos13, shn14, tpd15, pl016, ln017, flt18, opn19, cmy20, wtg21, nm022, mst23, sus24, cut25, h26, h27, h28, h29, h30, h31, h32, h33, h34, h35, h36, h37, h38, h39, h40, h41, h42, h43, h44, h45, hs10⟩ := a9_0 hI.1
            refine va_get (D := g.1) (ci := 9) (v := .ref (ad 1)) (C := RX9) (T := TX9) (N := 47) hx hb hg inG9 hown hK hP 0 (zw_at (by omega) hs10) rfl 1 (by decide) (hg _ mm_959) (fun _ h9 => h9) rfl dX9_upper_41 ?_
            refine lv_bipush (v := 32) hx hb dX9_upper_44 (by decide) ?_
            refine lv_iload_n hx hb dX9_upper_46 rfl (lv_at hl 1 rfl) ?_
            refine lv_imul hx hb dX9_upper_47 ?_
            refine lv_topi (fun x46 ex46 => ?_)
            have tx46 : x46.toInt = 32 * c0.toInt := by rw [ex46]; exact z_mul (by decide : (32 : Int32).toInt = 32) rfl (by omega) (by omega)
            refine lv_iload_n hx hb dX9_upper_48 rfl (lv_at hl 2 rfl) ?_
            refine lv_iadd hx hb dX9_upper_49 ?_
            refine lv_topi (fun x47 ex47 => ?_)
            have tx47 : x47.toInt = x46.toInt + nd.toInt := by rw [ex47]; exact z_add rfl rfl (by omega) (by omega)
            refine lv_iload_n hx hb dX9_upper_50 rfl (lv_at hl 3 rfl) ?_
            obtain ⟨f49, hp50, hs48⟩ := a9_1 hI.1
            refine va_iast hx hb hK hP hD hS 1 0 (zw_at (by omega) hs48) rfl (z_in rfl (by omega) (by omega)) dX9_upper_51 (fun H locs hP hD hS => ?_)
            have hPn : zP g ((zw 32 ad ct).set 1 (ad 1, .inl (g.2 0, 128, .inl (upd f49 (Int32.toNatClampNeg x47) up)))) H := hP
            have hDn : va_D A ((zw 32 ad ct).set 1 (ad 1, .inl (g.2 0, 128, .inl (upd f49 (Int32.toNatClampNeg x47) up)))) := hD
            rw [zw_set (by omega)] at hPn hDn
            obtain ⟨ad9, had9⟩ : ∃ f : Nat → Nat, f = va_up ad (3 * (4000 + 32 * c0.toInt.toNat + nd.toInt.toNat) + 1) (up.toInt + 1).toNat := ⟨_, rfl⟩
            have hIn : IR g ad9 me (va_up ct 1 (.inl (g.2 0, 128, .inl (upd f49 (Int32.toNatClampNeg x47) up)))) := IR_up hI hp50 (by omega) (by omega) (by omega) (by omega) had9
            have hag : ∀ j, j < 32 → ad9 j = ad j := fun j hj => by rw [had9, va_up_ne _ _ (by omega)]
            rw [← zw_gh hag] at hPn hDn
            rw [← hag 0 (by omega)] at hl
            have hgh : ad9 = _ := had9.trans (by rw [had])
            clear had9 hI hP hD had hag
            have hP := hPn
            have hD := hDn
            have hI := hIn
            clear hPn hDn hIn
            obtain ⟨ad, had⟩ : ∃ f : Nat → Nat, f = ad9 := ⟨_, rfl⟩
            rw [← had] at hP hD hI hl hgh
            obtain ⟨ct9, e9⟩ : ∃ z : Nat → va_E, z = va_up ct 1 (.inl (g.2 0, 128, .inl (upd f49 (Int32.toNatClampNeg x47) up))) := ⟨_, rfl⟩
            rw [← e9] at hP hD hI
            refine lv_iconst (v := 1) hx hb dX9_upper_52 (by decide) ?_
            have q51 : (1 : Int32).toInt = 1 := by decide
            exact W.zret (v := 1) hx hb hr rfl (fun t ht hW => ⟨⟨1, 1, rfl, ⟨by first | exact Or.inl ⟨rfl, by omega, by omega, by omega⟩ | exact Or.inr ⟨rfl, by omega⟩, rfl⟩, ad, ct9, (fun _ => hgh), (fun q => absurd q (by decide)), by rw [ht]; exact hP, hD, hI⟩, hS.F ht⟩) hS.2.2 dX9_upper_53
          · skip
            have c9 : ¬ (up.toInt = (-1)) := fun q => c9 ((z_eq rfl (by decide : ((-1) : Int32).toInt = (-1))).mpr q)
            refine lv_iload_n hx hb dX9_upper_22 rfl (lv_at hl 3 rfl) ?_
            refine lv_bipush (v := 16) hx hb dX9_upper_23 (by decide) ?_
            refine lv_bipush (v := 31) hx hb dX9_upper_25 (by decide) ?_
            refine zc_i (va_runS (As := [.int up, .int 16, .int 31]) (rest := []) ⟨hx, hb, hml, hown, hg⟩ (k_X9_in l g ad me ct up (16 : Int32) (31 : Int32) hI) (va_cwS 3 hg (z_gS mm_1109 mm_1110 mm_117 mm_1111) rfl rfl rfl (by decide +kernel) ⟨Nat.le_of_ble_eq_true rfl, Nat.le_of_ble_eq_true rfl⟩) (zR.pre [.int up, .int 16, .int 31] hP hK hN) rfl rfl hl.1 rfl (lv_room (Nat.le_of_ble_eq_true rfl)) dX9_upper_27 ⟨Nat.le_of_ble_eq_true rfl, Nat.le_of_ble_eq_true rfl⟩) (fun r52 hr52 => ?_)
            rcases hr52 with hr52 | hr52
            · skip
              obtain ⟨rfl, h53, h54⟩ := hr52
              replace h53 : (16 : Int) ≤ up.toInt := h53
              replace h54 : up.toInt ≤ (31 : Int) := h54
              refine lv_if_eq (tgt := 38) hx hb dX9_upper_30 (by decide) (fun c55 => ?_) (fun c55 => ?_)
              · skip
                exact absurd c55 (by decide)
              · skip
                refine lv_iload_n hx hb dX9_upper_33 rfl (lv_at hl 3 rfl) ?_
                refine lv_iload_n hx hb dX9_upper_34 rfl (lv_at hl 2 rfl) ?_
                refine lv_icmp_gt (tgt := 40) hx hb dX9_upper_35 (by decide) (fun c56 => ?_) (fun c56 => ?_)
                · skip
                  have c56 : nd.toInt < up.toInt := (z_lt rfl rfl).mp c56
                  refine lv_aload_n hx hb dX9_upper_40 rfl (lv_at hl 0 rfl) ?_
                  obtain ⟨bks58, lks59, gos60, shn61, tpd62, pl063, ln064, flt65, opn66, cmy67, wtg68, nm069, mst70, sus71, cut72, h73, h74, h75, h76, h77, h78, h79, h80, h81, h82, h83, h84, h85, h86, h87, h88, h89, h90, h91, h92, hs57⟩ := a9_0 hI.1
                  refine va_get (D := g.1) (ci := 9) (v := .ref (ad 1)) (C := RX9) (T := TX9) (N := 47) hx hb hg inG9 hown hK hP 0 (zw_at (by omega) hs57) rfl 1 (by decide) (hg _ mm_959) (fun _ h9 => h9) rfl dX9_upper_41 ?_
                  refine lv_bipush (v := 32) hx hb dX9_upper_44 (by decide) ?_
                  refine lv_iload_n hx hb dX9_upper_46 rfl (lv_at hl 1 rfl) ?_
                  refine lv_imul hx hb dX9_upper_47 ?_
                  refine lv_topi (fun x93 ex93 => ?_)
                  have tx93 : x93.toInt = 32 * c0.toInt := by rw [ex93]; exact z_mul (by decide : (32 : Int32).toInt = 32) rfl (by omega) (by omega)
                  refine lv_iload_n hx hb dX9_upper_48 rfl (lv_at hl 2 rfl) ?_
                  refine lv_iadd hx hb dX9_upper_49 ?_
                  refine lv_topi (fun x94 ex94 => ?_)
                  have tx94 : x94.toInt = x93.toInt + nd.toInt := by rw [ex94]; exact z_add rfl rfl (by omega) (by omega)
                  refine lv_iload_n hx hb dX9_upper_50 rfl (lv_at hl 3 rfl) ?_
                  obtain ⟨f96, hp97, hs95⟩ := a9_1 hI.1
                  refine va_iast hx hb hK hP hD hS 1 0 (zw_at (by omega) hs95) rfl (z_in rfl (by omega) (by omega)) dX9_upper_51 (fun H locs hP hD hS => ?_)
                  have hPn : zP g ((zw 32 ad ct).set 1 (ad 1, .inl (g.2 0, 128, .inl (upd f96 (Int32.toNatClampNeg x94) up)))) H := hP
                  have hDn : va_D A ((zw 32 ad ct).set 1 (ad 1, .inl (g.2 0, 128, .inl (upd f96 (Int32.toNatClampNeg x94) up)))) := hD
                  rw [zw_set (by omega)] at hPn hDn
                  obtain ⟨ad9, had9⟩ : ∃ f : Nat → Nat, f = va_up ad (3 * (4000 + 32 * c0.toInt.toNat + nd.toInt.toNat) + 1) (up.toInt + 1).toNat := ⟨_, rfl⟩
                  have hIn : IR g ad9 me (va_up ct 1 (.inl (g.2 0, 128, .inl (upd f96 (Int32.toNatClampNeg x94) up)))) := IR_up hI hp97 (by omega) (by omega) (by omega) (by omega) had9
                  have hag : ∀ j, j < 32 → ad9 j = ad j := fun j hj => by rw [had9, va_up_ne _ _ (by omega)]
                  rw [← zw_gh hag] at hPn hDn
                  rw [← hag 0 (by omega)] at hl
                  have hgh : ad9 = _ := had9.trans (by rw [had])
                  clear had9 hI hP hD had hag
                  have hP := hPn
                  have hD := hDn
                  have hI := hIn
                  clear hPn hDn hIn
                  obtain ⟨ad, had⟩ : ∃ f : Nat → Nat, f = ad9 := ⟨_, rfl⟩
                  rw [← had] at hP hD hI hl hgh
                  obtain ⟨ct9, e9⟩ : ∃ z : Nat → va_E, z = va_up ct 1 (.inl (g.2 0, 128, .inl (upd f96 (Int32.toNatClampNeg x94) up))) := ⟨_, rfl⟩
                  rw [← e9] at hP hD hI
                  refine lv_iconst (v := 1) hx hb dX9_upper_52 (by decide) ?_
                  have q98 : (1 : Int32).toInt = 1 := by decide
                  exact W.zret (v := 1) hx hb hr rfl (fun t ht hW => ⟨⟨1, 1, rfl, ⟨by first | exact Or.inl ⟨rfl, by omega, by omega, by omega⟩ | exact Or.inr ⟨rfl, by omega⟩, rfl⟩, ad, ct9, (fun _ => hgh), (fun q => absurd q (by decide)), by rw [ht]; exact hP, hD, hI⟩, hS.F ht⟩) hS.2.2 dX9_upper_53
                · skip
                  have c56 : ¬ (nd.toInt < up.toInt) := fun q => c56 ((z_lt rfl rfl).mpr q)
                  refine lv_iconst (v := 0) hx hb dX9_upper_38 (by decide) ?_
                  have q99 : (0 : Int32).toInt = 0 := by decide
                  exact W.zret (v := 0) hx hb hr rfl (fun t ht hW => ⟨⟨0, 0, rfl, ⟨by first | exact Or.inl ⟨rfl, by omega, by omega, by omega⟩ | exact Or.inr ⟨rfl, by omega⟩, rfl⟩, ad, ct, (fun q => absurd q (by decide)), (fun _ => had), by rw [ht]; exact hP, hD, hI⟩, hS.F ht⟩) hS.2.2 dX9_upper_39
            · skip
              obtain ⟨rfl, h100⟩ := hr52
              replace h100 : ¬ ((16 : Int) ≤ up.toInt ∧ up.toInt ≤ (31 : Int)) := h100
              refine lv_if_eq (tgt := 38) hx hb dX9_upper_30 (by decide) (fun c101 => ?_) (fun c101 => ?_)
              · skip
                refine lv_iconst (v := 0) hx hb dX9_upper_38 (by decide) ?_
                have q102 : (0 : Int32).toInt = 0 := by decide
                exact W.zret (v := 0) hx hb hr rfl (fun t ht hW => ⟨⟨0, 0, rfl, ⟨by first | exact Or.inl ⟨rfl, by omega, by omega, by omega⟩ | exact Or.inr ⟨rfl, by omega⟩, rfl⟩, ad, ct, (fun q => absurd q (by decide)), (fun _ => had), by rw [ht]; exact hP, hD, hI⟩, hS.F ht⟩) hS.2.2 dX9_upper_39
              · skip
                exact absurd c101 (by decide)
      · skip
        obtain ⟨rfl, h103⟩ := hr5
        replace h103 : ¬ ((0 : Int) ≤ nd.toInt ∧ nd.toInt ≤ (31 : Int)) := h103
        refine lv_if_eq (tgt := 38) hx hb dX9_upper_14 (by decide) (fun c104 => ?_) (fun c104 => ?_)
        · skip
          refine lv_iconst (v := 0) hx hb dX9_upper_38 (by decide) ?_
          have q105 : (0 : Int32).toInt = 0 := by decide
          exact W.zret (v := 0) hx hb hr rfl (fun t ht hW => ⟨⟨0, 0, rfl, ⟨by first | exact Or.inl ⟨rfl, by omega, by omega, by omega⟩ | exact Or.inr ⟨rfl, by omega⟩, rfl⟩, ad, ct, (fun q => absurd q (by decide)), (fun _ => had), by rw [ht]; exact hP, hD, hI⟩, hS.F ht⟩) hS.2.2 dX9_upper_39
        · skip
          exact absurd c104 (by decide)
  · skip
    obtain ⟨rfl, h106⟩ := hr1
    replace h106 : ¬ (0 ≤ c0.toInt ∧ c0.toInt ≤ 3) := h106
    refine lv_if_eq (tgt := 38) hx hb dX9_upper_4 (by decide) (fun c107 => ?_) (fun c107 => ?_)
    · skip
      refine lv_iconst (v := 0) hx hb dX9_upper_38 (by decide) ?_
      have q108 : (0 : Int32).toInt = 0 := by decide
      exact W.zret (v := 0) hx hb hr rfl (fun t ht hW => ⟨⟨0, 0, rfl, ⟨by first | exact Or.inl ⟨rfl, by omega, by omega, by omega⟩ | exact Or.inr ⟨rfl, by omega⟩, rfl⟩, ad, ct, (fun q => absurd q (by decide)), (fun _ => had), by rw [ht]; exact hP, hD, hI⟩, hS.F ht⟩) hS.2.2 dX9_upper_39
    · skip
      exact absurd c107 (by decide)

set_option maxHeartbeats 4000000 in
set_option maxRecDepth 100000 in
theorem k_X9_weight (l : Launch) (g : zG) (sz : Nat) (ad : Nat → Nat) (me : Int32) (ct : Nat → va_E) (c0 : Int32) (n : Int32) (hI : IR g ad me ct) : Met l yX9_weight (zW yX9_weight cX9_weight 3 (some .boolean)) ({ frames := 1, cells := 0, slots := 0, locals := 22 }) (va_Pc [.ref (ad 0), .int c0, .int n] (zA g (zw 32 ad ct) sz)) (va_Qi (fun (r : Int32) (_ : Unit) => (r = 1 ∧ (0 ≤ c0.toInt ∧ c0.toInt ≤ 3) ∧ (0 ≤ n.toInt ∧ n.toInt ≤ 99)) ∨ (r = 0 ∧ (¬ ((0 ≤ c0.toInt ∧ c0.toInt ≤ 3) ∧ (0 ≤ n.toInt ∧ n.toInt ≤ 99))))) (fun _ t => ∃ ct2 : Nat → va_E, zP g (zw 32 ad ct2) t.heap ∧ va_D (va_A (zw 32 ad ct) sz) (zw 32 ad ct2) ∧ IR g ad me ct2) (va_A (zw 32 ad ct) sz)) 0 0 (va_A (zw 32 ad ct) sz) := by
  refine Met.ofW (cc := cX9_weight) (maxL := 3) (ret := (some .boolean)) (by decide) rfl ?_
  intro p e s m args below meth c s₁ B hml hv
  obtain ⟨rfl, hsz, hP, hK, hD0, hN⟩ := hv
  have hx := B.exec
  have hb := B.bytes
  have hr := B.returns
  have hg := zW.law (atoms_spec (ws := (zW yX9_weight cX9_weight 3 (some .boolean))) B.pre)
  have hown : s.vm.findClass RX9 = some m.cls := findClass_of_methodNamed B.named
  have hlocks := B.notSynchronized
  have hpe0 := hI.1.1
  subst hsz
  have hD := hD0.self (sz := s.heap.size)
  generalize hAe : va_A (zw 32 ad ct) s.heap.size = A at hD ⊢
  have hA : ∀ q : Nat, s.heap.size ≤ q → A q := fun q h => by rw [← hAe]; exact Or.inr h
  have hS : va_S A s.heap s.heap [] := va_S.rf
  have hl := lv_entry ([.ref (ad 0), .int c0, .int n]) (n := 3) (Nat.le_of_ble_eq_true rfl)
  rw [lg_entry_eq]
  generalize (lg_sl ([.ref (ad 0), .int c0, .int n]) ++ List.replicate (3 - (lg_sl ([.ref (ad 0), .int c0, .int n])).length) Slot.unset).toArray = ls at hl ⊢
  have hl : lv_has ls 3 [(0, .ref (ad 0)), (1, .int c0), (2, .int n)] := hl
  have rg_c0 := z_rng c0
  have rg_n := z_rng n
  refine lv_iload_n hx hb dX9_weight_0 rfl (lv_at hl 1 rfl) ?_
  refine zc_i (va_runS (As := [.int c0]) (rest := []) ⟨hx, hb, hml, hown, hg⟩ (k_X9_isColumn l g ad me ct c0 hI) (va_cwS 1 hg (z_gS mm_1106 mm_1107 mm_117 mm_1108) rfl rfl rfl (by decide +kernel) ⟨Nat.le_of_ble_eq_true rfl, Nat.le_of_ble_eq_true rfl⟩) (zR.pre [.int c0] hP hK hN) rfl rfl hl.1 rfl (lv_room (Nat.le_of_ble_eq_true rfl)) dX9_weight_1 ⟨Nat.le_of_ble_eq_true rfl, Nat.le_of_ble_eq_true rfl⟩) (fun r1 hr1 => ?_)
  rcases hr1 with hr1 | hr1
  · skip
    obtain ⟨rfl, h2, h3⟩ := hr1
    replace h2 : 0 ≤ c0.toInt := h2
    replace h3 : c0.toInt ≤ 3 := h3
    refine lv_if_eq (tgt := 17) hx hb dX9_weight_4 (by decide) (fun c4 => ?_) (fun c4 => ?_)
    · skip
      exact absurd c4 (by decide)
    · skip
      refine lv_iload_n hx hb dX9_weight_7 rfl (lv_at hl 2 rfl) ?_
      refine lv_iconst (v := 0) hx hb dX9_weight_8 (by decide) ?_
      refine lv_bipush (v := 99) hx hb dX9_weight_9 (by decide) ?_
      refine zc_i (va_runS (As := [.int n, .int 0, .int 99]) (rest := []) ⟨hx, hb, hml, hown, hg⟩ (k_X9_in l g ad me ct n (0 : Int32) (99 : Int32) hI) (va_cwS 3 hg (z_gS mm_1109 mm_1110 mm_117 mm_1111) rfl rfl rfl (by decide +kernel) ⟨Nat.le_of_ble_eq_true rfl, Nat.le_of_ble_eq_true rfl⟩) (zR.pre [.int n, .int 0, .int 99] hP hK hN) rfl rfl hl.1 rfl (lv_room (Nat.le_of_ble_eq_true rfl)) dX9_weight_11 ⟨Nat.le_of_ble_eq_true rfl, Nat.le_of_ble_eq_true rfl⟩) (fun r5 hr5 => ?_)
      rcases hr5 with hr5 | hr5
      · skip
        obtain ⟨rfl, h6, h7⟩ := hr5
        replace h6 : (0 : Int) ≤ n.toInt := h6
        replace h7 : n.toInt ≤ (99 : Int) := h7
        refine lv_if_ne (tgt := 19) hx hb dX9_weight_14 (by decide) (fun c8 => ?_) (fun c8 => ?_)
        · skip
          refine lv_aload_n hx hb dX9_weight_19 rfl (lv_at hl 0 rfl) ?_
          obtain ⟨bks10, lks11, gos12, shn13, tpd14, pl015, ln016, flt17, opn18, cmy19, wtg20, nm021, mst22, sus23, cut24, h25, h26, h27, h28, h29, h30, h31, h32, h33, h34, h35, h36, h37, h38, h39, h40, h41, h42, h43, h44, hs9⟩ := a9_0 hI.1
          refine va_get (D := g.1) (ci := 9) (v := .ref (ad 2)) (C := RX9) (T := TX9) (N := 47) hx hb hg inG9 hown hK hP 0 (zw_at (by omega) hs9) rfl 2 (by decide) (hg _ mm_960) (fun _ h9 => h9) rfl dX9_weight_20 ?_
          refine lv_iload_n hx hb dX9_weight_23 rfl (lv_at hl 1 rfl) ?_
          refine lv_iload_n hx hb dX9_weight_24 rfl (lv_at hl 2 rfl) ?_
          obtain ⟨f46, hs45⟩ := a9_2 hI.1
          refine va_iast hx hb hK hP hD hS 2 0 (zw_at (by omega) hs45) rfl (z_in rfl (by omega) (by omega)) dX9_weight_25 (fun H locs hP hD hS => ?_)
          have hP : zP g ((zw 32 ad ct).set 2 (ad 2, .inl (g.2 0, 4, .inl (upd f46 (Int32.toNatClampNeg c0) n)))) H := hP
          have hD : va_D A ((zw 32 ad ct).set 2 (ad 2, .inl (g.2 0, 4, .inl (upd f46 (Int32.toNatClampNeg c0) n)))) := hD
          rw [zw_set (by omega)] at hP hD
          obtain ⟨ct48, ec49⟩ : ∃ z : Nat → va_E, z = va_up ct 2 (.inl (g.2 0, 4, .inl (upd f46 (Int32.toNatClampNeg c0) n))) := ⟨_, rfl⟩
          rw [← ec49] at hP hD
          have hI : IR g ad me ct48 := by rw [ec49]; exact upR hI (by decide) (i9_2 ⟨_, rfl⟩)
          have hs50 : ct48 0 = .inr (9, [.int me, .ref (ad 1), .ref (ad 2), .ref (ad 3), .ref (ad 4), .int bks10, .int lks11, .int gos12, .int shn13, .ref (ad 5), .ref (ad 6), .ref (ad 7), .ref (ad 8), .ref (ad 9), .ref (ad 10), .ref (ad 11), .int tpd14, .int pl015, .int ln016, .int flt17, .int opn18, .int cmy19, .int wtg20, .int nm021, .ref (ad 12), .ref (ad 13), .ref (ad 14), .ref (ad 15), .ref (ad 16), .ref (ad 17), .ref (ad 18), .ref (ad 19), .ref (ad 20), .ref (ad 21), .ref (ad 22), .ref (ad 23), .ref (ad 24), .ref (ad 25), .ref (ad 26), .ref (ad 27), .int mst22, .int sus23, .ref (ad 28), .ref (ad 29), .ref (ad 30), .ref (ad 31), .int cut24]) := by rw [ec49, va_up_ne _ _ (by omega)]; exact hs9
          have hs51 : ct48 2 = .inl (g.2 0, 4, .inl (upd f46 (Int32.toNatClampNeg c0) n)) := by rw [ec49]; exact va_up_self _ _ _
          refine lv_iconst (v := 1) hx hb dX9_weight_26 (by decide) ?_
          have q52 : (1 : Int32).toInt = 1 := by decide
          exact W.zret (v := 1) hx hb hr rfl (fun t ht hW => ⟨⟨1, (), rfl, by first | exact Or.inl ⟨rfl, by omega, by omega⟩ | exact Or.inr ⟨rfl, by omega⟩, ct48, by rw [ht]; exact hP, hD, hI⟩, hS.F ht⟩) hS.2.2 dX9_weight_27
        · skip
          exact absurd c8 (by decide)
      · skip
        obtain ⟨rfl, h53⟩ := hr5
        replace h53 : ¬ ((0 : Int) ≤ n.toInt ∧ n.toInt ≤ (99 : Int)) := h53
        refine lv_if_ne (tgt := 19) hx hb dX9_weight_14 (by decide) (fun c54 => ?_) (fun c54 => ?_)
        · skip
          exact absurd c54 (by decide)
        · skip
          refine lv_iconst (v := 0) hx hb dX9_weight_17 (by decide) ?_
          have q55 : (0 : Int32).toInt = 0 := by decide
          exact W.zret (v := 0) hx hb hr rfl (fun t ht hW => ⟨⟨0, (), rfl, by first | exact Or.inl ⟨rfl, by omega, by omega⟩ | exact Or.inr ⟨rfl, by omega⟩, ct, by rw [ht]; exact hP, hD, hI⟩, hS.F ht⟩) hS.2.2 dX9_weight_18
  · skip
    obtain ⟨rfl, h56⟩ := hr1
    replace h56 : ¬ (0 ≤ c0.toInt ∧ c0.toInt ≤ 3) := h56
    refine lv_if_eq (tgt := 17) hx hb dX9_weight_4 (by decide) (fun c57 => ?_) (fun c57 => ?_)
    · skip
      refine lv_iconst (v := 0) hx hb dX9_weight_17 (by decide) ?_
      have q58 : (0 : Int32).toInt = 0 := by decide
      exact W.zret (v := 0) hx hb hr rfl (fun t ht hW => ⟨⟨0, (), rfl, by first | exact Or.inl ⟨rfl, by omega, by omega⟩ | exact Or.inr ⟨rfl, by omega⟩, ct, by rw [ht]; exact hP, hD, hI⟩, hS.F ht⟩) hS.2.2 dX9_weight_18
    · skip
      exact absurd c57 (by decide)

set_option maxHeartbeats 4000000 in
set_option maxRecDepth 100000 in
theorem k_X9_wish (l : Launch) (g : zG) (sz : Nat) (ad : Nat → Nat) (me : Int32) (ct : Nat → va_E) (p0 : Int32) (n : Int32) (hI : IR g ad me ct) : Met l yX9_wish (zW yX9_wish cX9_wish 3 (some .boolean)) ({ frames := 1, cells := 0, slots := 0, locals := 22 }) (va_Pc [.ref (ad 0), .int p0, .int n] (zA g (zw 32 ad ct) sz)) (va_Qi (fun (r : Int32) (_ : Unit) => (r = 1 ∧ (0 ≤ p0.toInt ∧ p0.toInt < me.toInt) ∧ (0 ≤ n.toInt ∧ n.toInt ≤ 16)) ∨ (r = 0 ∧ (¬ ((0 ≤ p0.toInt ∧ p0.toInt < me.toInt) ∧ (0 ≤ n.toInt ∧ n.toInt ≤ 16))))) (fun _ t => ∃ ct2 : Nat → va_E, zP g (zw 32 ad ct2) t.heap ∧ va_D (va_A (zw 32 ad ct) sz) (zw 32 ad ct2) ∧ IR g ad me ct2) (va_A (zw 32 ad ct) sz)) 0 0 (va_A (zw 32 ad ct) sz) := by
  refine Met.ofW (cc := cX9_wish) (maxL := 3) (ret := (some .boolean)) (by decide) rfl ?_
  intro p e s m args below meth c s₁ B hml hv
  obtain ⟨rfl, hsz, hP, hK, hD0, hN⟩ := hv
  have hx := B.exec
  have hb := B.bytes
  have hr := B.returns
  have hg := zW.law (atoms_spec (ws := (zW yX9_wish cX9_wish 3 (some .boolean))) B.pre)
  have hown : s.vm.findClass RX9 = some m.cls := findClass_of_methodNamed B.named
  have hlocks := B.notSynchronized
  have hpe0 := hI.1.1
  subst hsz
  have hD := hD0.self (sz := s.heap.size)
  generalize hAe : va_A (zw 32 ad ct) s.heap.size = A at hD ⊢
  have hA : ∀ q : Nat, s.heap.size ≤ q → A q := fun q h => by rw [← hAe]; exact Or.inr h
  have hS : va_S A s.heap s.heap [] := va_S.rf
  have hl := lv_entry ([.ref (ad 0), .int p0, .int n]) (n := 3) (Nat.le_of_ble_eq_true rfl)
  rw [lg_entry_eq]
  generalize (lg_sl ([.ref (ad 0), .int p0, .int n]) ++ List.replicate (3 - (lg_sl ([.ref (ad 0), .int p0, .int n])).length) Slot.unset).toArray = ls at hl ⊢
  have hl : lv_has ls 3 [(0, .ref (ad 0)), (1, .int p0), (2, .int n)] := hl
  have rg_p0 := z_rng p0
  have rg_n := z_rng n
  refine lv_aload_n hx hb dX9_wish_0 rfl (lv_at hl 0 rfl) ?_
  refine lv_iload_n hx hb dX9_wish_1 rfl (lv_at hl 1 rfl) ?_
  obtain ⟨bks2, lks3, gos4, shn5, tpd6, pl07, ln08, flt9, opn10, cmy11, wtg12, nm013, mst14, sus15, cut16, h17, h18, h19, h20, h21, h22, h23, h24, h25, h26, h27, h28, h29, h30, h31, h32, h33, h34, h35, h36, hs1⟩ := a9_0 hI.1
  refine zc_i (va_runV (As := [.int p0]) (rest := []) ⟨hx, hb, hml, hown, hg⟩ (k_X9_isPerson l g ad me ct p0 hI) (cwV 1 hg (z_gV mm_1124 mm_1126 mm_51 mm_117 mm_1127) rfl rfl rfl (by decide +kernel) ⟨Nat.le_of_ble_eq_true rfl, Nat.le_of_ble_eq_true rfl⟩) ⟨(zR.pre [.ref (ad 0), .int p0] hP hK hN).1, va_recv hK hP (ci := 9) (q0 := 0) rfl (zw_at (by omega) hs1), (zR.pre [.ref (ad 0), .int p0] hP hK hN).2⟩ rfl rfl hl.1 rfl (lv_room (Nat.le_of_ble_eq_true rfl)) dX9_wish_2 ⟨Nat.le_of_ble_eq_true rfl, Nat.le_of_ble_eq_true rfl⟩) (fun r37 hr37 => ?_)
  rcases hr37 with hr37 | hr37
  · skip
    obtain ⟨rfl, h38, h39⟩ := hr37
    replace h38 : 0 ≤ p0.toInt := h38
    replace h39 : p0.toInt < me.toInt := h39
    refine lv_if_eq (tgt := 18) hx hb dX9_wish_5 (by decide) (fun c40 => ?_) (fun c40 => ?_)
    · skip
      exact absurd c40 (by decide)
    · skip
      refine lv_iload_n hx hb dX9_wish_8 rfl (lv_at hl 2 rfl) ?_
      refine lv_iconst (v := 0) hx hb dX9_wish_9 (by decide) ?_
      refine lv_bipush (v := 16) hx hb dX9_wish_10 (by decide) ?_
      refine zc_i (va_runS (As := [.int n, .int 0, .int 16]) (rest := []) ⟨hx, hb, hml, hown, hg⟩ (k_X9_in l g ad me ct n (0 : Int32) (16 : Int32) hI) (va_cwS 3 hg (z_gS mm_1109 mm_1110 mm_117 mm_1111) rfl rfl rfl (by decide +kernel) ⟨Nat.le_of_ble_eq_true rfl, Nat.le_of_ble_eq_true rfl⟩) (zR.pre [.int n, .int 0, .int 16] hP hK hN) rfl rfl hl.1 rfl (lv_room (Nat.le_of_ble_eq_true rfl)) dX9_wish_12 ⟨Nat.le_of_ble_eq_true rfl, Nat.le_of_ble_eq_true rfl⟩) (fun r41 hr41 => ?_)
      rcases hr41 with hr41 | hr41
      · skip
        obtain ⟨rfl, h42, h43⟩ := hr41
        replace h42 : (0 : Int) ≤ n.toInt := h42
        replace h43 : n.toInt ≤ (16 : Int) := h43
        refine lv_if_ne (tgt := 20) hx hb dX9_wish_15 (by decide) (fun c44 => ?_) (fun c44 => ?_)
        · skip
          refine lv_aload_n hx hb dX9_wish_20 rfl (lv_at hl 0 rfl) ?_
          refine va_get (D := g.1) (ci := 9) (v := .ref (ad 4)) (C := RX9) (T := TX9) (N := 47) hx hb hg inG9 hown hK hP 0 (zw_at (by omega) hs1) rfl 4 (by decide) (hg _ mm_962) (fun _ h9 => h9) rfl dX9_wish_21 ?_
          refine lv_iload_n hx hb dX9_wish_24 rfl (lv_at hl 1 rfl) ?_
          refine lv_iload_n hx hb dX9_wish_25 rfl (lv_at hl 2 rfl) ?_
          obtain ⟨f46, hs45⟩ := a9_4 hI.1
          refine va_iast hx hb hK hP hD hS 4 0 (zw_at (by omega) hs45) rfl (z_in rfl (by omega) (by omega)) dX9_wish_26 (fun H locs hP hD hS => ?_)
          have hP : zP g ((zw 32 ad ct).set 4 (ad 4, .inl (g.2 0, 16, .inl (upd f46 (Int32.toNatClampNeg p0) n)))) H := hP
          have hD : va_D A ((zw 32 ad ct).set 4 (ad 4, .inl (g.2 0, 16, .inl (upd f46 (Int32.toNatClampNeg p0) n)))) := hD
          rw [zw_set (by omega)] at hP hD
          obtain ⟨ct48, ec49⟩ : ∃ z : Nat → va_E, z = va_up ct 4 (.inl (g.2 0, 16, .inl (upd f46 (Int32.toNatClampNeg p0) n))) := ⟨_, rfl⟩
          rw [← ec49] at hP hD
          have hI : IR g ad me ct48 := by rw [ec49]; exact upR hI (by decide) (i9_4 ⟨_, rfl⟩)
          have hs50 : ct48 0 = .inr (9, [.int me, .ref (ad 1), .ref (ad 2), .ref (ad 3), .ref (ad 4), .int bks2, .int lks3, .int gos4, .int shn5, .ref (ad 5), .ref (ad 6), .ref (ad 7), .ref (ad 8), .ref (ad 9), .ref (ad 10), .ref (ad 11), .int tpd6, .int pl07, .int ln08, .int flt9, .int opn10, .int cmy11, .int wtg12, .int nm013, .ref (ad 12), .ref (ad 13), .ref (ad 14), .ref (ad 15), .ref (ad 16), .ref (ad 17), .ref (ad 18), .ref (ad 19), .ref (ad 20), .ref (ad 21), .ref (ad 22), .ref (ad 23), .ref (ad 24), .ref (ad 25), .ref (ad 26), .ref (ad 27), .int mst14, .int sus15, .ref (ad 28), .ref (ad 29), .ref (ad 30), .ref (ad 31), .int cut16]) := by rw [ec49, va_up_ne _ _ (by omega)]; exact hs1
          have hs51 : ct48 4 = .inl (g.2 0, 16, .inl (upd f46 (Int32.toNatClampNeg p0) n)) := by rw [ec49]; exact va_up_self _ _ _
          refine lv_iconst (v := 1) hx hb dX9_wish_27 (by decide) ?_
          have q52 : (1 : Int32).toInt = 1 := by decide
          exact W.zret (v := 1) hx hb hr rfl (fun t ht hW => ⟨⟨1, (), rfl, by first | exact Or.inl ⟨rfl, by omega, by omega⟩ | exact Or.inr ⟨rfl, by omega⟩, ct48, by rw [ht]; exact hP, hD, hI⟩, hS.F ht⟩) hS.2.2 dX9_wish_28
        · skip
          exact absurd c44 (by decide)
      · skip
        obtain ⟨rfl, h53⟩ := hr41
        replace h53 : ¬ ((0 : Int) ≤ n.toInt ∧ n.toInt ≤ (16 : Int)) := h53
        refine lv_if_ne (tgt := 20) hx hb dX9_wish_15 (by decide) (fun c54 => ?_) (fun c54 => ?_)
        · skip
          exact absurd c54 (by decide)
        · skip
          refine lv_iconst (v := 0) hx hb dX9_wish_18 (by decide) ?_
          have q55 : (0 : Int32).toInt = 0 := by decide
          exact W.zret (v := 0) hx hb hr rfl (fun t ht hW => ⟨⟨0, (), rfl, by first | exact Or.inl ⟨rfl, by omega, by omega⟩ | exact Or.inr ⟨rfl, by omega⟩, ct, by rw [ht]; exact hP, hD, hI⟩, hS.F ht⟩) hS.2.2 dX9_wish_19
  · skip
    obtain ⟨rfl, h56⟩ := hr37
    replace h56 : ¬ (0 ≤ p0.toInt ∧ p0.toInt < me.toInt) := h56
    refine lv_if_eq (tgt := 18) hx hb dX9_wish_5 (by decide) (fun c57 => ?_) (fun c57 => ?_)
    · skip
      refine lv_iconst (v := 0) hx hb dX9_wish_18 (by decide) ?_
      have q58 : (0 : Int32).toInt = 0 := by decide
      exact W.zret (v := 0) hx hb hr rfl (fun t ht hW => ⟨⟨0, (), rfl, by first | exact Or.inl ⟨rfl, by omega, by omega⟩ | exact Or.inr ⟨rfl, by omega⟩, ct, by rw [ht]; exact hP, hD, hI⟩, hS.F ht⟩) hS.2.2 dX9_wish_19
    · skip
      exact absurd c57 (by decide)

set_option maxHeartbeats 4000000 in
set_option maxRecDepth 100000 in
theorem k_X9_person (l : Launch) (g : zG) (sz : Nat) (ad : Nat → Nat) (me : Int32) (ct : Nat → va_E) (a0 : Int32) (b0 : Int32) (c0 : Int32) (d0 : Int32) (hI : IR g ad me ct) : Met l yX9_person (zW yX9_person cX9_person 5 (some .int)) ({ frames := 1, cells := 0, slots := 0, locals := 22 }) (va_Pc [.ref (ad 0), .int a0, .int b0, .int c0, .int d0] (zA g (zw 32 ad ct) sz)) (va_Qi (fun (r : Int32) (u : Int32) => (r = (-1) ∧ (u = me) ∧ (¬ ((0 ≤ a0.toInt ∧ a0.toInt ≤ 15) ∧ (0 ≤ b0.toInt ∧ b0.toInt ≤ 15) ∧ (0 ≤ c0.toInt ∧ c0.toInt ≤ 15) ∧ (0 ≤ d0.toInt ∧ d0.toInt ≤ 15) ∧ me.toInt < 16))) ∨ ((r = me) ∧ (u.toInt = me.toInt + 1) ∧ ((0 ≤ a0.toInt ∧ a0.toInt ≤ 15) ∧ (0 ≤ b0.toInt ∧ b0.toInt ≤ 15) ∧ (0 ≤ c0.toInt ∧ c0.toInt ≤ 15) ∧ (0 ≤ d0.toInt ∧ d0.toInt ≤ 15) ∧ me.toInt < 16))) (fun u t => ∃ ct2 : Nat → va_E, zP g (zw 32 ad ct2) t.heap ∧ va_D (va_A (zw 32 ad ct) sz) (zw 32 ad ct2) ∧ IR g ad u ct2) (va_A (zw 32 ad ct) sz)) 0 0 (va_A (zw 32 ad ct) sz) := by
  refine Met.ofW (cc := cX9_person) (maxL := 5) (ret := (some .int)) (by decide) rfl ?_
  intro p e s m args below meth c s₁ B hml hv
  obtain ⟨rfl, hsz, hP, hK, hD0, hN⟩ := hv
  have hx := B.exec
  have hb := B.bytes
  have hr := B.returns
  have hg := zW.law (atoms_spec (ws := (zW yX9_person cX9_person 5 (some .int))) B.pre)
  have hown : s.vm.findClass RX9 = some m.cls := findClass_of_methodNamed B.named
  have hlocks := B.notSynchronized
  have hpe0 := hI.1.1
  subst hsz
  have hD := hD0.self (sz := s.heap.size)
  generalize hAe : va_A (zw 32 ad ct) s.heap.size = A at hD ⊢
  have hA : ∀ q : Nat, s.heap.size ≤ q → A q := fun q h => by rw [← hAe]; exact Or.inr h
  have hS : va_S A s.heap s.heap [] := va_S.rf
  have hl := lv_entry ([.ref (ad 0), .int a0, .int b0, .int c0, .int d0]) (n := 5) (Nat.le_of_ble_eq_true rfl)
  rw [lg_entry_eq]
  generalize (lg_sl ([.ref (ad 0), .int a0, .int b0, .int c0, .int d0]) ++ List.replicate (5 - (lg_sl ([.ref (ad 0), .int a0, .int b0, .int c0, .int d0])).length) Slot.unset).toArray = ls at hl ⊢
  have hl : lv_has ls 5 [(0, .ref (ad 0)), (1, .int a0), (2, .int b0), (3, .int c0), (4, .int d0)] := hl
  have rg_a0 := z_rng a0
  have rg_b0 := z_rng b0
  have rg_c0 := z_rng c0
  have rg_d0 := z_rng d0
  refine lv_iload_n hx hb dX9_person_0 rfl (lv_at hl 1 rfl) ?_
  refine lv_iconst (v := 0) hx hb dX9_person_1 (by decide) ?_
  refine lv_bipush (v := 15) hx hb dX9_person_2 (by decide) ?_
  refine zc_i (va_runS (As := [.int a0, .int 0, .int 15]) (rest := []) ⟨hx, hb, hml, hown, hg⟩ (k_X9_in l g ad me ct a0 (0 : Int32) (15 : Int32) hI) (va_cwS 3 hg (z_gS mm_1109 mm_1110 mm_117 mm_1111) rfl rfl rfl (by decide +kernel) ⟨Nat.le_of_ble_eq_true rfl, Nat.le_of_ble_eq_true rfl⟩) (zR.pre [.int a0, .int 0, .int 15] hP hK hN) rfl rfl hl.1 rfl (lv_room (Nat.le_of_ble_eq_true rfl)) dX9_person_4 ⟨Nat.le_of_ble_eq_true rfl, Nat.le_of_ble_eq_true rfl⟩) (fun r1 hr1 => ?_)
  rcases hr1 with hr1 | hr1
  · skip
    obtain ⟨rfl, h2, h3⟩ := hr1
    replace h2 : (0 : Int) ≤ a0.toInt := h2
    replace h3 : a0.toInt ≤ (15 : Int) := h3
    refine lv_if_eq (tgt := 50) hx hb dX9_person_7 (by decide) (fun c4 => ?_) (fun c4 => ?_)
    · skip
      exact absurd c4 (by decide)
    · skip
      refine lv_iload_n hx hb dX9_person_10 rfl (lv_at hl 2 rfl) ?_
      refine lv_iconst (v := 0) hx hb dX9_person_11 (by decide) ?_
      refine lv_bipush (v := 15) hx hb dX9_person_12 (by decide) ?_
      refine zc_i (va_runS (As := [.int b0, .int 0, .int 15]) (rest := []) ⟨hx, hb, hml, hown, hg⟩ (k_X9_in l g ad me ct b0 (0 : Int32) (15 : Int32) hI) (va_cwS 3 hg (z_gS mm_1109 mm_1110 mm_117 mm_1111) rfl rfl rfl (by decide +kernel) ⟨Nat.le_of_ble_eq_true rfl, Nat.le_of_ble_eq_true rfl⟩) (zR.pre [.int b0, .int 0, .int 15] hP hK hN) rfl rfl hl.1 rfl (lv_room (Nat.le_of_ble_eq_true rfl)) dX9_person_14 ⟨Nat.le_of_ble_eq_true rfl, Nat.le_of_ble_eq_true rfl⟩) (fun r5 hr5 => ?_)
      rcases hr5 with hr5 | hr5
      · skip
        obtain ⟨rfl, h6, h7⟩ := hr5
        replace h6 : (0 : Int) ≤ b0.toInt := h6
        replace h7 : b0.toInt ≤ (15 : Int) := h7
        refine lv_if_eq (tgt := 50) hx hb dX9_person_17 (by decide) (fun c8 => ?_) (fun c8 => ?_)
        · skip
          exact absurd c8 (by decide)
        · skip
          refine lv_iload_n hx hb dX9_person_20 rfl (lv_at hl 3 rfl) ?_
          refine lv_iconst (v := 0) hx hb dX9_person_21 (by decide) ?_
          refine lv_bipush (v := 15) hx hb dX9_person_22 (by decide) ?_
          refine zc_i (va_runS (As := [.int c0, .int 0, .int 15]) (rest := []) ⟨hx, hb, hml, hown, hg⟩ (k_X9_in l g ad me ct c0 (0 : Int32) (15 : Int32) hI) (va_cwS 3 hg (z_gS mm_1109 mm_1110 mm_117 mm_1111) rfl rfl rfl (by decide +kernel) ⟨Nat.le_of_ble_eq_true rfl, Nat.le_of_ble_eq_true rfl⟩) (zR.pre [.int c0, .int 0, .int 15] hP hK hN) rfl rfl hl.1 rfl (lv_room (Nat.le_of_ble_eq_true rfl)) dX9_person_24 ⟨Nat.le_of_ble_eq_true rfl, Nat.le_of_ble_eq_true rfl⟩) (fun r9 hr9 => ?_)
          rcases hr9 with hr9 | hr9
          · skip
            obtain ⟨rfl, h10, h11⟩ := hr9
            replace h10 : (0 : Int) ≤ c0.toInt := h10
            replace h11 : c0.toInt ≤ (15 : Int) := h11
            refine lv_if_eq (tgt := 50) hx hb dX9_person_27 (by decide) (fun c12 => ?_) (fun c12 => ?_)
            · skip
              exact absurd c12 (by decide)
            · skip
              refine lv_iload hx hb dX9_person_30 (lv_at hl 4 rfl) ?_
              refine lv_iconst (v := 0) hx hb dX9_person_32 (by decide) ?_
              refine lv_bipush (v := 15) hx hb dX9_person_33 (by decide) ?_
              refine zc_i (va_runS (As := [.int d0, .int 0, .int 15]) (rest := []) ⟨hx, hb, hml, hown, hg⟩ (k_X9_in l g ad me ct d0 (0 : Int32) (15 : Int32) hI) (va_cwS 3 hg (z_gS mm_1109 mm_1110 mm_117 mm_1111) rfl rfl rfl (by decide +kernel) ⟨Nat.le_of_ble_eq_true rfl, Nat.le_of_ble_eq_true rfl⟩) (zR.pre [.int d0, .int 0, .int 15] hP hK hN) rfl rfl hl.1 rfl (lv_room (Nat.le_of_ble_eq_true rfl)) dX9_person_35 ⟨Nat.le_of_ble_eq_true rfl, Nat.le_of_ble_eq_true rfl⟩) (fun r13 hr13 => ?_)
              rcases hr13 with hr13 | hr13
              · skip
                obtain ⟨rfl, h14, h15⟩ := hr13
                replace h14 : (0 : Int) ≤ d0.toInt := h14
                replace h15 : d0.toInt ≤ (15 : Int) := h15
                refine lv_if_eq (tgt := 50) hx hb dX9_person_38 (by decide) (fun c16 => ?_) (fun c16 => ?_)
                · skip
                  exact absurd c16 (by decide)
                · skip
                  refine lv_aload_n hx hb dX9_person_41 rfl (lv_at hl 0 rfl) ?_
                  obtain ⟨bks18, lks19, gos20, shn21, tpd22, pl023, ln024, flt25, opn26, cmy27, wtg28, nm029, mst30, sus31, cut32, h33, h34, h35, h36, h37, h38, h39, h40, h41, h42, h43, h44, h45, h46, h47, h48, h49, h50, h51, h52, hs17⟩ := a9_0 hI.1
                  refine va_get (D := g.1) (ci := 9) (v := .int me) (C := RX9) (T := TX9) (N := 47) hx hb hg inG9 hown hK hP 0 (zw_at (by omega) hs17) rfl 0 (by decide) (hg _ mm_958) (fun _ h9 => h9) rfl dX9_person_42 ?_
                  refine lv_bipush (v := 16) hx hb dX9_person_45 (by decide) ?_
                  refine lv_icmp_ne (tgt := 52) hx hb dX9_person_47 (by decide) (fun c53 => ?_) (fun c53 => ?_)
                  · skip
                    have c53 : ¬ (me.toInt = 16) := fun q => c53 ((z_eq rfl (by decide : (16 : Int32).toInt = 16)).mpr q)
                    refine lv_aload_n hx hb dX9_person_52 rfl (lv_at hl 0 rfl) ?_
                    refine va_get (D := g.1) (ci := 9) (v := .ref (ad 3)) (C := RX9) (T := TX9) (N := 47) hx hb hg inG9 hown hK hP 0 (zw_at (by omega) hs17) rfl 3 (by decide) (hg _ mm_961) (fun _ h9 => h9) rfl dX9_person_53 ?_
                    refine lv_iconst (v := 4) hx hb dX9_person_56 (by decide) ?_
                    refine lv_aload_n hx hb dX9_person_57 rfl (lv_at hl 0 rfl) ?_
                    refine va_get (D := g.1) (ci := 9) (v := .int me) (C := RX9) (T := TX9) (N := 47) hx hb hg inG9 hown hK hP 0 (zw_at (by omega) hs17) rfl 0 (by decide) (hg _ mm_958) (fun _ h9 => h9) rfl dX9_person_58 ?_
                    refine lv_imul hx hb dX9_person_61 ?_
                    refine lv_topi (fun x54 ex54 => ?_)
                    have tx54 : x54.toInt = 4 * me.toInt := by rw [ex54]; exact z_mul (by decide : (4 : Int32).toInt = 4) rfl (by omega) (by omega)
                    refine lv_iload_n hx hb dX9_person_62 rfl (lv_at hl 1 rfl) ?_
                    obtain ⟨f56, hp57, hs55⟩ := a9_3 hI.1
                    refine va_iast hx hb hK hP hD hS 3 0 (zw_at (by omega) hs55) rfl (z_in rfl (by omega) (by omega)) dX9_person_63 (fun H locs hP hD hS => ?_)
                    have hp59 : ∀ j : Nat, j < 64 → (fun x : Int32 => 0 ≤ x.toInt ∧ x.toInt ≤ 15) ((upd f56 (Int32.toNatClampNeg x54) a0) j) := fun j hj => by
                      unfold upd
                      by_cases q : j = Int32.toNatClampNeg x54
                      · rw [if_pos q]; exact (show 0 ≤ (a0 : Int32).toInt ∧ (a0 : Int32).toInt ≤ 15 from (by first | omega | decide))
                      · rw [if_neg q]; exact hp57 j hj
                    have hP : zP g ((zw 32 ad ct).set 3 (ad 3, .inl (g.2 0, 64, .inl (upd f56 (Int32.toNatClampNeg x54) a0)))) H := hP
                    have hD : va_D A ((zw 32 ad ct).set 3 (ad 3, .inl (g.2 0, 64, .inl (upd f56 (Int32.toNatClampNeg x54) a0)))) := hD
                    rw [zw_set (by omega)] at hP hD
                    obtain ⟨ct60, ec61⟩ : ∃ z : Nat → va_E, z = va_up ct 3 (.inl (g.2 0, 64, .inl (upd f56 (Int32.toNatClampNeg x54) a0))) := ⟨_, rfl⟩
                    rw [← ec61] at hP hD
                    have hI : IR g ad me ct60 := by rw [ec61]; exact upR hI (by decide) (i9_3 ⟨_, hp59, rfl⟩)
                    have hs62 : ct60 0 = .inr (9, [.int me, .ref (ad 1), .ref (ad 2), .ref (ad 3), .ref (ad 4), .int bks18, .int lks19, .int gos20, .int shn21, .ref (ad 5), .ref (ad 6), .ref (ad 7), .ref (ad 8), .ref (ad 9), .ref (ad 10), .ref (ad 11), .int tpd22, .int pl023, .int ln024, .int flt25, .int opn26, .int cmy27, .int wtg28, .int nm029, .ref (ad 12), .ref (ad 13), .ref (ad 14), .ref (ad 15), .ref (ad 16), .ref (ad 17), .ref (ad 18), .ref (ad 19), .ref (ad 20), .ref (ad 21), .ref (ad 22), .ref (ad 23), .ref (ad 24), .ref (ad 25), .ref (ad 26), .ref (ad 27), .int mst30, .int sus31, .ref (ad 28), .ref (ad 29), .ref (ad 30), .ref (ad 31), .int cut32]) := by rw [ec61, va_up_ne _ _ (by omega)]; exact hs17
                    have hs63 : ct60 3 = .inl (g.2 0, 64, .inl (upd f56 (Int32.toNatClampNeg x54) a0)) := by rw [ec61]; exact va_up_self _ _ _
                    refine lv_aload_n hx hb dX9_person_64 rfl (lv_at hl 0 rfl) ?_
                    refine va_get (D := g.1) (ci := 9) (v := .ref (ad 3)) (C := RX9) (T := TX9) (N := 47) hx hb hg inG9 hown hK hP 0 (zw_at (by omega) hs62) rfl 3 (by decide) (hg _ mm_961) (fun _ h9 => h9) rfl dX9_person_65 ?_
                    refine lv_iconst (v := 4) hx hb dX9_person_68 (by decide) ?_
                    refine lv_aload_n hx hb dX9_person_69 rfl (lv_at hl 0 rfl) ?_
                    refine va_get (D := g.1) (ci := 9) (v := .int me) (C := RX9) (T := TX9) (N := 47) hx hb hg inG9 hown hK hP 0 (zw_at (by omega) hs62) rfl 0 (by decide) (hg _ mm_958) (fun _ h9 => h9) rfl dX9_person_70 ?_
                    refine lv_imul hx hb dX9_person_73 ?_
                    refine lv_topi (fun x64 ex64 => ?_)
                    obtain rfl : x54 = x64 := ex54.trans ex64.symm
                    refine lv_iconst (v := 1) hx hb dX9_person_74 (by decide) ?_
                    refine lv_iadd hx hb dX9_person_75 ?_
                    refine lv_topi (fun x65 ex65 => ?_)
                    have tx65 : x65.toInt = x54.toInt + 1 := by rw [ex65]; exact z_add rfl (by decide : (1 : Int32).toInt = 1) (by omega) (by omega)
                    refine lv_iload_n hx hb dX9_person_76 rfl (lv_at hl 2 rfl) ?_
                    refine va_iast hx hb hK hP hD hS 3 0 (zw_at (by omega) hs63) rfl (z_in rfl (by omega) (by omega)) dX9_person_77 (fun H locs hP hD hS => ?_)
                    have hp67 : ∀ j : Nat, j < 64 → (fun x : Int32 => 0 ≤ x.toInt ∧ x.toInt ≤ 15) ((upd (upd f56 (Int32.toNatClampNeg x54) a0) (Int32.toNatClampNeg x65) b0) j) := fun j hj => by
                      unfold upd
                      by_cases q : j = Int32.toNatClampNeg x65
                      · rw [if_pos q]; exact (show 0 ≤ (b0 : Int32).toInt ∧ (b0 : Int32).toInt ≤ 15 from (by first | omega | decide))
                      · rw [if_neg q]; exact hp59 j hj
                    have hP : zP g ((zw 32 ad ct60).set 3 (ad 3, .inl (g.2 0, 64, .inl (upd (upd f56 (Int32.toNatClampNeg x54) a0) (Int32.toNatClampNeg x65) b0)))) H := hP
                    have hD : va_D A ((zw 32 ad ct60).set 3 (ad 3, .inl (g.2 0, 64, .inl (upd (upd f56 (Int32.toNatClampNeg x54) a0) (Int32.toNatClampNeg x65) b0)))) := hD
                    rw [zw_set (by omega)] at hP hD
                    obtain ⟨ct68, ec69⟩ : ∃ z : Nat → va_E, z = va_up ct60 3 (.inl (g.2 0, 64, .inl (upd (upd f56 (Int32.toNatClampNeg x54) a0) (Int32.toNatClampNeg x65) b0))) := ⟨_, rfl⟩
                    rw [← ec69] at hP hD
                    have hI : IR g ad me ct68 := by rw [ec69]; exact upR hI (by decide) (i9_3 ⟨_, hp67, rfl⟩)
                    have hs70 : ct68 0 = .inr (9, [.int me, .ref (ad 1), .ref (ad 2), .ref (ad 3), .ref (ad 4), .int bks18, .int lks19, .int gos20, .int shn21, .ref (ad 5), .ref (ad 6), .ref (ad 7), .ref (ad 8), .ref (ad 9), .ref (ad 10), .ref (ad 11), .int tpd22, .int pl023, .int ln024, .int flt25, .int opn26, .int cmy27, .int wtg28, .int nm029, .ref (ad 12), .ref (ad 13), .ref (ad 14), .ref (ad 15), .ref (ad 16), .ref (ad 17), .ref (ad 18), .ref (ad 19), .ref (ad 20), .ref (ad 21), .ref (ad 22), .ref (ad 23), .ref (ad 24), .ref (ad 25), .ref (ad 26), .ref (ad 27), .int mst30, .int sus31, .ref (ad 28), .ref (ad 29), .ref (ad 30), .ref (ad 31), .int cut32]) := by rw [ec69, va_up_ne _ _ (by omega)]; exact hs62
                    have hs71 : ct68 3 = .inl (g.2 0, 64, .inl (upd (upd f56 (Int32.toNatClampNeg x54) a0) (Int32.toNatClampNeg x65) b0)) := by rw [ec69]; exact va_up_self _ _ _
                    refine lv_aload_n hx hb dX9_person_78 rfl (lv_at hl 0 rfl) ?_
                    refine va_get (D := g.1) (ci := 9) (v := .ref (ad 3)) (C := RX9) (T := TX9) (N := 47) hx hb hg inG9 hown hK hP 0 (zw_at (by omega) hs70) rfl 3 (by decide) (hg _ mm_961) (fun _ h9 => h9) rfl dX9_person_79 ?_
                    refine lv_iconst (v := 4) hx hb dX9_person_82 (by decide) ?_
                    refine lv_aload_n hx hb dX9_person_83 rfl (lv_at hl 0 rfl) ?_
                    refine va_get (D := g.1) (ci := 9) (v := .int me) (C := RX9) (T := TX9) (N := 47) hx hb hg inG9 hown hK hP 0 (zw_at (by omega) hs70) rfl 0 (by decide) (hg _ mm_958) (fun _ h9 => h9) rfl dX9_person_84 ?_
                    refine lv_imul hx hb dX9_person_87 ?_
                    refine lv_topi (fun x72 ex72 => ?_)
                    obtain rfl : x54 = x72 := ex54.trans ex72.symm
                    refine lv_iconst (v := 2) hx hb dX9_person_88 (by decide) ?_
                    refine lv_iadd hx hb dX9_person_89 ?_
                    refine lv_topi (fun x73 ex73 => ?_)
                    have tx73 : x73.toInt = x54.toInt + 2 := by rw [ex73]; exact z_add rfl (by decide : (2 : Int32).toInt = 2) (by omega) (by omega)
                    refine lv_iload_n hx hb dX9_person_90 rfl (lv_at hl 3 rfl) ?_
                    refine va_iast hx hb hK hP hD hS 3 0 (zw_at (by omega) hs71) rfl (z_in rfl (by omega) (by omega)) dX9_person_91 (fun H locs hP hD hS => ?_)
                    have hp75 : ∀ j : Nat, j < 64 → (fun x : Int32 => 0 ≤ x.toInt ∧ x.toInt ≤ 15) ((upd (upd (upd f56 (Int32.toNatClampNeg x54) a0) (Int32.toNatClampNeg x65) b0) (Int32.toNatClampNeg x73) c0) j) := fun j hj => by
                      unfold upd
                      by_cases q : j = Int32.toNatClampNeg x73
                      · rw [if_pos q]; exact (show 0 ≤ (c0 : Int32).toInt ∧ (c0 : Int32).toInt ≤ 15 from (by first | omega | decide))
                      · rw [if_neg q]; exact hp67 j hj
                    have hP : zP g ((zw 32 ad ct68).set 3 (ad 3, .inl (g.2 0, 64, .inl (upd (upd (upd f56 (Int32.toNatClampNeg x54) a0) (Int32.toNatClampNeg x65) b0) (Int32.toNatClampNeg x73) c0)))) H := hP
                    have hD : va_D A ((zw 32 ad ct68).set 3 (ad 3, .inl (g.2 0, 64, .inl (upd (upd (upd f56 (Int32.toNatClampNeg x54) a0) (Int32.toNatClampNeg x65) b0) (Int32.toNatClampNeg x73) c0)))) := hD
                    rw [zw_set (by omega)] at hP hD
                    obtain ⟨ct76, ec77⟩ : ∃ z : Nat → va_E, z = va_up ct68 3 (.inl (g.2 0, 64, .inl (upd (upd (upd f56 (Int32.toNatClampNeg x54) a0) (Int32.toNatClampNeg x65) b0) (Int32.toNatClampNeg x73) c0))) := ⟨_, rfl⟩
                    rw [← ec77] at hP hD
                    have hI : IR g ad me ct76 := by rw [ec77]; exact upR hI (by decide) (i9_3 ⟨_, hp75, rfl⟩)
                    have hs78 : ct76 0 = .inr (9, [.int me, .ref (ad 1), .ref (ad 2), .ref (ad 3), .ref (ad 4), .int bks18, .int lks19, .int gos20, .int shn21, .ref (ad 5), .ref (ad 6), .ref (ad 7), .ref (ad 8), .ref (ad 9), .ref (ad 10), .ref (ad 11), .int tpd22, .int pl023, .int ln024, .int flt25, .int opn26, .int cmy27, .int wtg28, .int nm029, .ref (ad 12), .ref (ad 13), .ref (ad 14), .ref (ad 15), .ref (ad 16), .ref (ad 17), .ref (ad 18), .ref (ad 19), .ref (ad 20), .ref (ad 21), .ref (ad 22), .ref (ad 23), .ref (ad 24), .ref (ad 25), .ref (ad 26), .ref (ad 27), .int mst30, .int sus31, .ref (ad 28), .ref (ad 29), .ref (ad 30), .ref (ad 31), .int cut32]) := by rw [ec77, va_up_ne _ _ (by omega)]; exact hs70
                    have hs79 : ct76 3 = .inl (g.2 0, 64, .inl (upd (upd (upd f56 (Int32.toNatClampNeg x54) a0) (Int32.toNatClampNeg x65) b0) (Int32.toNatClampNeg x73) c0)) := by rw [ec77]; exact va_up_self _ _ _
                    refine lv_aload_n hx hb dX9_person_92 rfl (lv_at hl 0 rfl) ?_
                    refine va_get (D := g.1) (ci := 9) (v := .ref (ad 3)) (C := RX9) (T := TX9) (N := 47) hx hb hg inG9 hown hK hP 0 (zw_at (by omega) hs78) rfl 3 (by decide) (hg _ mm_961) (fun _ h9 => h9) rfl dX9_person_93 ?_
                    refine lv_iconst (v := 4) hx hb dX9_person_96 (by decide) ?_
                    refine lv_aload_n hx hb dX9_person_97 rfl (lv_at hl 0 rfl) ?_
                    refine va_get (D := g.1) (ci := 9) (v := .int me) (C := RX9) (T := TX9) (N := 47) hx hb hg inG9 hown hK hP 0 (zw_at (by omega) hs78) rfl 0 (by decide) (hg _ mm_958) (fun _ h9 => h9) rfl dX9_person_98 ?_
                    refine lv_imul hx hb dX9_person_101 ?_
                    refine lv_topi (fun x80 ex80 => ?_)
                    obtain rfl : x54 = x80 := ex54.trans ex80.symm
                    refine lv_iconst (v := 3) hx hb dX9_person_102 (by decide) ?_
                    refine lv_iadd hx hb dX9_person_103 ?_
                    refine lv_topi (fun x81 ex81 => ?_)
                    have tx81 : x81.toInt = x54.toInt + 3 := by rw [ex81]; exact z_add rfl (by decide : (3 : Int32).toInt = 3) (by omega) (by omega)
                    refine lv_iload hx hb dX9_person_104 (lv_at hl 4 rfl) ?_
                    refine va_iast hx hb hK hP hD hS 3 0 (zw_at (by omega) hs79) rfl (z_in rfl (by omega) (by omega)) dX9_person_106 (fun H locs hP hD hS => ?_)
                    have hp83 : ∀ j : Nat, j < 64 → (fun x : Int32 => 0 ≤ x.toInt ∧ x.toInt ≤ 15) ((upd (upd (upd (upd f56 (Int32.toNatClampNeg x54) a0) (Int32.toNatClampNeg x65) b0) (Int32.toNatClampNeg x73) c0) (Int32.toNatClampNeg x81) d0) j) := fun j hj => by
                      unfold upd
                      by_cases q : j = Int32.toNatClampNeg x81
                      · rw [if_pos q]; exact (show 0 ≤ (d0 : Int32).toInt ∧ (d0 : Int32).toInt ≤ 15 from (by first | omega | decide))
                      · rw [if_neg q]; exact hp75 j hj
                    have hP : zP g ((zw 32 ad ct76).set 3 (ad 3, .inl (g.2 0, 64, .inl (upd (upd (upd (upd f56 (Int32.toNatClampNeg x54) a0) (Int32.toNatClampNeg x65) b0) (Int32.toNatClampNeg x73) c0) (Int32.toNatClampNeg x81) d0)))) H := hP
                    have hD : va_D A ((zw 32 ad ct76).set 3 (ad 3, .inl (g.2 0, 64, .inl (upd (upd (upd (upd f56 (Int32.toNatClampNeg x54) a0) (Int32.toNatClampNeg x65) b0) (Int32.toNatClampNeg x73) c0) (Int32.toNatClampNeg x81) d0)))) := hD
                    rw [zw_set (by omega)] at hP hD
                    obtain ⟨ct84, ec85⟩ : ∃ z : Nat → va_E, z = va_up ct76 3 (.inl (g.2 0, 64, .inl (upd (upd (upd (upd f56 (Int32.toNatClampNeg x54) a0) (Int32.toNatClampNeg x65) b0) (Int32.toNatClampNeg x73) c0) (Int32.toNatClampNeg x81) d0))) := ⟨_, rfl⟩
                    rw [← ec85] at hP hD
                    have hI : IR g ad me ct84 := by rw [ec85]; exact upR hI (by decide) (i9_3 ⟨_, hp83, rfl⟩)
                    have hs86 : ct84 0 = .inr (9, [.int me, .ref (ad 1), .ref (ad 2), .ref (ad 3), .ref (ad 4), .int bks18, .int lks19, .int gos20, .int shn21, .ref (ad 5), .ref (ad 6), .ref (ad 7), .ref (ad 8), .ref (ad 9), .ref (ad 10), .ref (ad 11), .int tpd22, .int pl023, .int ln024, .int flt25, .int opn26, .int cmy27, .int wtg28, .int nm029, .ref (ad 12), .ref (ad 13), .ref (ad 14), .ref (ad 15), .ref (ad 16), .ref (ad 17), .ref (ad 18), .ref (ad 19), .ref (ad 20), .ref (ad 21), .ref (ad 22), .ref (ad 23), .ref (ad 24), .ref (ad 25), .ref (ad 26), .ref (ad 27), .int mst30, .int sus31, .ref (ad 28), .ref (ad 29), .ref (ad 30), .ref (ad 31), .int cut32]) := by rw [ec85, va_up_ne _ _ (by omega)]; exact hs78
                    have hs87 : ct84 3 = .inl (g.2 0, 64, .inl (upd (upd (upd (upd f56 (Int32.toNatClampNeg x54) a0) (Int32.toNatClampNeg x65) b0) (Int32.toNatClampNeg x73) c0) (Int32.toNatClampNeg x81) d0)) := by rw [ec85]; exact va_up_self _ _ _
                    refine lv_aload_n hx hb dX9_person_107 rfl (lv_at hl 0 rfl) ?_
                    refine lv_aload_n hx hb dX9_person_108 rfl (lv_at hl 0 rfl) ?_
                    refine va_get (D := g.1) (ci := 9) (v := .int me) (C := RX9) (T := TX9) (N := 47) hx hb hg inG9 hown hK hP 0 (zw_at (by omega) hs86) rfl 0 (by decide) (hg _ mm_958) (fun _ h9 => h9) rfl dX9_person_109 ?_
                    refine lv_iconst (v := 1) hx hb dX9_person_112 (by decide) ?_
                    refine lv_iadd hx hb dX9_person_113 ?_
                    refine lv_topi (fun x88 ex88 => ?_)
                    have tx88 : x88.toInt = me.toInt + 1 := by rw [ex88]; exact z_add rfl (by decide : (1 : Int32).toInt = 1) (by omega) (by omega)
                    refine va_put (D := g.1) (ci := 9) (v := .int x88) (ty := .int) (C := RX9) (T := TX9) (N := 47) hx hb hg inG9 tyX9 tyX9_ok nmX9 hown hK hP hD hS 0 (zw_at (by omega) hs86) rfl 0 (by decide) (hg _ mm_958) (fun _ h9 => h9) rfl (by decide +kernel) rfl rfl (Nat.le_of_ble_eq_true rfl) dX9_person_114 (fun H locs hP hD hS => ?_)
                    have hP : zP g ((zw 32 ad ct84).set 0 (ad 0, .inr (9, [.int x88, .ref (ad 1), .ref (ad 2), .ref (ad 3), .ref (ad 4), .int bks18, .int lks19, .int gos20, .int shn21, .ref (ad 5), .ref (ad 6), .ref (ad 7), .ref (ad 8), .ref (ad 9), .ref (ad 10), .ref (ad 11), .int tpd22, .int pl023, .int ln024, .int flt25, .int opn26, .int cmy27, .int wtg28, .int nm029, .ref (ad 12), .ref (ad 13), .ref (ad 14), .ref (ad 15), .ref (ad 16), .ref (ad 17), .ref (ad 18), .ref (ad 19), .ref (ad 20), .ref (ad 21), .ref (ad 22), .ref (ad 23), .ref (ad 24), .ref (ad 25), .ref (ad 26), .ref (ad 27), .int mst30, .int sus31, .ref (ad 28), .ref (ad 29), .ref (ad 30), .ref (ad 31), .int cut32]))) H := hP
                    have hD : va_D A ((zw 32 ad ct84).set 0 (ad 0, .inr (9, [.int x88, .ref (ad 1), .ref (ad 2), .ref (ad 3), .ref (ad 4), .int bks18, .int lks19, .int gos20, .int shn21, .ref (ad 5), .ref (ad 6), .ref (ad 7), .ref (ad 8), .ref (ad 9), .ref (ad 10), .ref (ad 11), .int tpd22, .int pl023, .int ln024, .int flt25, .int opn26, .int cmy27, .int wtg28, .int nm029, .ref (ad 12), .ref (ad 13), .ref (ad 14), .ref (ad 15), .ref (ad 16), .ref (ad 17), .ref (ad 18), .ref (ad 19), .ref (ad 20), .ref (ad 21), .ref (ad 22), .ref (ad 23), .ref (ad 24), .ref (ad 25), .ref (ad 26), .ref (ad 27), .int mst30, .int sus31, .ref (ad 28), .ref (ad 29), .ref (ad 30), .ref (ad 31), .int cut32]))) := hD
                    rw [zw_set (by omega)] at hP hD
                    obtain ⟨ct89, ec90⟩ : ∃ z : Nat → va_E, z = va_up ct84 0 (.inr (9, [.int x88, .ref (ad 1), .ref (ad 2), .ref (ad 3), .ref (ad 4), .int bks18, .int lks19, .int gos20, .int shn21, .ref (ad 5), .ref (ad 6), .ref (ad 7), .ref (ad 8), .ref (ad 9), .ref (ad 10), .ref (ad 11), .int tpd22, .int pl023, .int ln024, .int flt25, .int opn26, .int cmy27, .int wtg28, .int nm029, .ref (ad 12), .ref (ad 13), .ref (ad 14), .ref (ad 15), .ref (ad 16), .ref (ad 17), .ref (ad 18), .ref (ad 19), .ref (ad 20), .ref (ad 21), .ref (ad 22), .ref (ad 23), .ref (ad 24), .ref (ad 25), .ref (ad 26), .ref (ad 27), .int mst30, .int sus31, .ref (ad 28), .ref (ad 29), .ref (ad 30), .ref (ad 31), .int cut32])) := ⟨_, rfl⟩
                    rw [← ec90] at hP hD
                    have hI : IR g ad x88 ct89 := by rw [ec90]; exact upR_pe hI (by omega) (i9_0 ⟨(bks18 : Int32), (lks19 : Int32), (gos20 : Int32), (shn21 : Int32), (tpd22 : Int32), (pl023 : Int32), (ln024 : Int32), (flt25 : Int32), (opn26 : Int32), (cmy27 : Int32), (wtg28 : Int32), (nm029 : Int32), (mst30 : Int32), (sus31 : Int32), (cut32 : Int32), (by first | omega | decide), (by first | omega | decide), (by first | omega | decide), (by first | omega | decide), (by first | omega | decide), (by first | omega | decide), (by first | omega | decide), (by first | omega | decide), (by first | omega | decide), (by first | omega | decide), (by first | omega | decide), (by first | omega | decide), (by first | omega | decide), (by first | omega | decide), (by first | omega | decide), (by first | omega | decide), (by first | omega | decide), (by first | omega | decide), (by first | omega | decide), (by first | omega | decide), rfl⟩)
                    have hs91 : ct89 3 = .inl (g.2 0, 64, .inl (upd (upd (upd (upd f56 (Int32.toNatClampNeg x54) a0) (Int32.toNatClampNeg x65) b0) (Int32.toNatClampNeg x73) c0) (Int32.toNatClampNeg x81) d0)) := by rw [ec90, va_up_ne _ _ (by omega)]; exact hs87
                    have hs92 : ct89 0 = .inr (9, [.int x88, .ref (ad 1), .ref (ad 2), .ref (ad 3), .ref (ad 4), .int bks18, .int lks19, .int gos20, .int shn21, .ref (ad 5), .ref (ad 6), .ref (ad 7), .ref (ad 8), .ref (ad 9), .ref (ad 10), .ref (ad 11), .int tpd22, .int pl023, .int ln024, .int flt25, .int opn26, .int cmy27, .int wtg28, .int nm029, .ref (ad 12), .ref (ad 13), .ref (ad 14), .ref (ad 15), .ref (ad 16), .ref (ad 17), .ref (ad 18), .ref (ad 19), .ref (ad 20), .ref (ad 21), .ref (ad 22), .ref (ad 23), .ref (ad 24), .ref (ad 25), .ref (ad 26), .ref (ad 27), .int mst30, .int sus31, .ref (ad 28), .ref (ad 29), .ref (ad 30), .ref (ad 31), .int cut32]) := by rw [ec90]; exact va_up_self _ _ _
                    refine lv_aload_n hx hb dX9_person_117 rfl (lv_at hl 0 rfl) ?_
                    refine va_get (D := g.1) (ci := 9) (v := .int x88) (C := RX9) (T := TX9) (N := 47) hx hb hg inG9 hown hK hP 0 (zw_at (by omega) hs92) rfl 0 (by decide) (hg _ mm_958) (fun _ h9 => h9) rfl dX9_person_118 ?_
                    refine lv_iconst (v := 1) hx hb dX9_person_121 (by decide) ?_
                    refine lv_isub hx hb dX9_person_122 ?_
                    refine lv_topi (fun x93 ex93 => ?_)
                    have tx93 : x93.toInt = x88.toInt - 1 := by rw [ex93]; exact z_sub rfl (by decide : (1 : Int32).toInt = 1) (by omega) (by omega)
                    exact W.iret (v := x93) hx hb hr (fun t ht hW => ⟨⟨x93, x88, rfl, by first | exact Or.inl ⟨rfl, rfl, by omega⟩ | exact Or.inr ⟨Int32.toInt_inj.mp (by omega), by omega, by omega⟩, ct89, by rw [ht]; exact hP, hD, hI⟩, hS.F ht⟩) hS.2.2 dX9_person_123
                  · skip
                    have c53 : me.toInt = 16 := (z_eq rfl (by decide : (16 : Int32).toInt = 16)).mp c53
                    refine lv_iconst (v := (-1)) hx hb dX9_person_50 (by decide) ?_
                    have q94 : ((-1) : Int32).toInt = -1 := by decide
                    exact W.iret (v := (-1)) hx hb hr (fun t ht hW => ⟨⟨(-1), me, rfl, by first | exact Or.inl ⟨rfl, rfl, by omega⟩ | exact Or.inr ⟨Int32.toInt_inj.mp (by omega), by omega, by omega⟩, ct, by rw [ht]; exact hP, hD, hI⟩, hS.F ht⟩) hS.2.2 dX9_person_51
              · skip
                obtain ⟨rfl, h95⟩ := hr13
                replace h95 : ¬ ((0 : Int) ≤ d0.toInt ∧ d0.toInt ≤ (15 : Int)) := h95
                refine lv_if_eq (tgt := 50) hx hb dX9_person_38 (by decide) (fun c96 => ?_) (fun c96 => ?_)
                · skip
                  refine lv_iconst (v := (-1)) hx hb dX9_person_50 (by decide) ?_
                  have q97 : ((-1) : Int32).toInt = -1 := by decide
                  exact W.iret (v := (-1)) hx hb hr (fun t ht hW => ⟨⟨(-1), me, rfl, by first | exact Or.inl ⟨rfl, rfl, by omega⟩ | exact Or.inr ⟨Int32.toInt_inj.mp (by omega), by omega, by omega⟩, ct, by rw [ht]; exact hP, hD, hI⟩, hS.F ht⟩) hS.2.2 dX9_person_51
                · skip
                  exact absurd c96 (by decide)
          · skip
            obtain ⟨rfl, h98⟩ := hr9
            replace h98 : ¬ ((0 : Int) ≤ c0.toInt ∧ c0.toInt ≤ (15 : Int)) := h98
            refine lv_if_eq (tgt := 50) hx hb dX9_person_27 (by decide) (fun c99 => ?_) (fun c99 => ?_)
            · skip
              refine lv_iconst (v := (-1)) hx hb dX9_person_50 (by decide) ?_
              have q100 : ((-1) : Int32).toInt = -1 := by decide
              exact W.iret (v := (-1)) hx hb hr (fun t ht hW => ⟨⟨(-1), me, rfl, by first | exact Or.inl ⟨rfl, rfl, by omega⟩ | exact Or.inr ⟨Int32.toInt_inj.mp (by omega), by omega, by omega⟩, ct, by rw [ht]; exact hP, hD, hI⟩, hS.F ht⟩) hS.2.2 dX9_person_51
            · skip
              exact absurd c99 (by decide)
      · skip
        obtain ⟨rfl, h101⟩ := hr5
        replace h101 : ¬ ((0 : Int) ≤ b0.toInt ∧ b0.toInt ≤ (15 : Int)) := h101
        refine lv_if_eq (tgt := 50) hx hb dX9_person_17 (by decide) (fun c102 => ?_) (fun c102 => ?_)
        · skip
          refine lv_iconst (v := (-1)) hx hb dX9_person_50 (by decide) ?_
          have q103 : ((-1) : Int32).toInt = -1 := by decide
          exact W.iret (v := (-1)) hx hb hr (fun t ht hW => ⟨⟨(-1), me, rfl, by first | exact Or.inl ⟨rfl, rfl, by omega⟩ | exact Or.inr ⟨Int32.toInt_inj.mp (by omega), by omega, by omega⟩, ct, by rw [ht]; exact hP, hD, hI⟩, hS.F ht⟩) hS.2.2 dX9_person_51
        · skip
          exact absurd c102 (by decide)
  · skip
    obtain ⟨rfl, h104⟩ := hr1
    replace h104 : ¬ ((0 : Int) ≤ a0.toInt ∧ a0.toInt ≤ (15 : Int)) := h104
    refine lv_if_eq (tgt := 50) hx hb dX9_person_7 (by decide) (fun c105 => ?_) (fun c105 => ?_)
    · skip
      refine lv_iconst (v := (-1)) hx hb dX9_person_50 (by decide) ?_
      have q106 : ((-1) : Int32).toInt = -1 := by decide
      exact W.iret (v := (-1)) hx hb hr (fun t ht hW => ⟨⟨(-1), me, rfl, by first | exact Or.inl ⟨rfl, rfl, by omega⟩ | exact Or.inr ⟨Int32.toInt_inj.mp (by omega), by omega, by omega⟩, ct, by rw [ht]; exact hP, hD, hI⟩, hS.F ht⟩) hS.2.2 dX9_person_51
    · skip
      exact absurd c105 (by decide)

set_option maxHeartbeats 4000000 in
set_option maxRecDepth 100000 in
theorem k_X9_blurs (l : Launch) (g : zG) (ad : Nat → Nat) (me : Int32) (ct : Nat → va_E) (c0 : Int32) (v : Int32) (n : Int32) (hl_c0 : 0 ≤ c0.toInt ∧ c0.toInt ≤ 3) (hl_v : 0 ≤ v.toInt ∧ v.toInt ≤ 15) (hI : IR g ad me ct) : Met l yX9_blurs (zW yX9_blurs cX9_blurs 6 (some .int)) ({ frames := 0, cells := 0, slots := 0, locals := 0 }) (va_Pc [.ref (ad 0), .int c0, .int v, .int n] (zR g (zw 32 ad ct))) (vp_Si (fun r : Int32 => ((0 ≤ r.toInt) ∧ (r.toInt ≤ 32) ∧ (r.toInt = zrs (zTr ad (4000 + 32 * c0.toInt.toNat)) n.toInt.toNat v.toInt)))) 0 0 (fun _ => False) := by
  refine Met.ofW (cc := cX9_blurs) (maxL := 6) (ret := (some .int)) (by decide) rfl ?_
  intro p e s m args below meth c s₁ B hml hv
  obtain ⟨rfl, hP, hK, hN⟩ := hv
  have hx := B.exec
  have hb := B.bytes
  have hr := B.returns
  have hg := zW.law (atoms_spec (ws := (zW yX9_blurs cX9_blurs 6 (some .int))) B.pre)
  have hown : s.vm.findClass RX9 = some m.cls := findClass_of_methodNamed B.named
  have hlocks := B.notSynchronized
  have hpe0 := hI.1.1
  have hl := lv_entry ([.ref (ad 0), .int c0, .int v, .int n]) (n := 6) (Nat.le_of_ble_eq_true rfl)
  rw [lg_entry_eq]
  generalize (lg_sl ([.ref (ad 0), .int c0, .int v, .int n]) ++ List.replicate (6 - (lg_sl ([.ref (ad 0), .int c0, .int v, .int n])).length) Slot.unset).toArray = ls at hl ⊢
  have hl : lv_has ls 6 [(0, .ref (ad 0)), (1, .int c0), (2, .int v), (3, .int n)] := hl
  have rg_n := z_rng n
  refine lv_iload_n hx hb dX9_blurs_0 rfl (lv_at hl 2 rfl) ?_
  refine lv_istore (lv' := [(4, .int v), (0, .ref (ad 0)), (1, .int c0), (2, .int v), (3, .int n)]) hx hb dX9_blurs_1 hl (by decide) rfl (fun ls hl => ?_)
  refine lv_iconst (v := 0) hx hb dX9_blurs_3 (by decide) ?_
  refine lv_istore (lv' := [(5, .int 0), (4, .int v), (0, .ref (ad 0)), (1, .int c0), (2, .int v), (3, .int n)]) hx hb dX9_blurs_4 hl (by decide) rfl (fun ls hl => ?_)
  have loop6 : ∀ (n6 : Nat) (v5_6 : Int32) (v4_6 : Int32) (ls : Array Slot), ((n.toInt - v5_6.toInt : Int).toNat < n6) → (0 ≤ v5_6.toInt ∧ v5_6.toInt ≤ 2147483647) → (0 ≤ v4_6.toInt ∧ v4_6.toInt ≤ 32) → (zrs (zTr ad (4000 + 32 * c0.toInt.toNat)) (n.toInt - v5_6.toInt).toNat v4_6.toInt = zrs (zTr ad (4000 + 32 * c0.toInt.toNat)) n.toInt.toNat v.toInt) → lv_has ls 6 [(5, .int v5_6), (4, .int v4_6), (0, .ref (ad 0)), (1, .int c0), (2, .int v), (3, .int n)] → W p l e (headSpec (zW yX9_blurs cX9_blurs 6 (some .int)) ({ frames := 0, cells := 0, slots := 0, locals := 0 })).room s m ([.ref (ad 0), .int c0, .int v, .int n] : List Value).toArray below meth c s.heap [] 0 0 (MQ below (vp_Si (fun r : Int32 => ((0 ≤ r.toInt) ∧ (r.toInt ≤ 32) ∧ (r.toInt = zrs (zTr ad (4000 + 32 * c0.toInt.toNat)) n.toInt.toNat v.toInt)))) ([.ref (ad 0), .int c0, .int v, .int n] : List Value).toArray s 0 0 (fun _ => False)) (F0 m 6 ls []) := by
    intro n6
    induction n6 with
    | zero =>
      intro v5_6 v4_6 ls hn6 b5_6 b4_6 j0_6 hl
      exact absurd hn6 (Nat.not_lt_zero _)
    | succ n6 ih6 =>
      intro v5_6 v4_6 ls hn6 b5_6 b4_6 j0_6 hl
      refine lv_iload hx hb dX9_blurs_6 (lv_at hl 0 rfl) ?_
      refine lv_iload_n hx hb dX9_blurs_8 rfl (lv_at hl 5 rfl) ?_
      refine lv_icmp_ge (tgt := 60) hx hb dX9_blurs_9 (by decide) (fun c1 => ?_) (fun c1 => ?_)
      · skip
        have c1 : n.toInt ≤ v5_6.toInt := (z_le rfl rfl).mp c1
        refine lv_iload hx hb dX9_blurs_60 (lv_at hl 1 rfl) ?_
        exact W.iret (v := v4_6) hx hb hr (fun t ht hW => ⟨v4_6, rfl, ⟨by omega, by omega, by first | (rw [← j0_6, show (n.toInt - v5_6.toInt).toNat = 0 by omega]; rfl) | (rw [← j0_6, zrs_out (by omega)])⟩, ht⟩) (fun q hq => by cases hq) dX9_blurs_62
      · skip
        have c1 : ¬ (n.toInt ≤ v5_6.toInt) := fun q => c1 ((z_le rfl rfl).mpr q)
        refine lv_iload hx hb dX9_blurs_12 (lv_at hl 1 rfl) ?_
        refine lv_bipush (v := 32) hx hb dX9_blurs_14 (by decide) ?_
        refine lv_icmp_eq (tgt := 60) hx hb dX9_blurs_16 (by decide) (fun c2 => ?_) (fun c2 => ?_)
        · skip
          have c2 : v4_6.toInt = 32 := (z_eq rfl (by decide : (32 : Int32).toInt = 32)).mp c2
          refine lv_iload hx hb dX9_blurs_60 (lv_at hl 1 rfl) ?_
          exact W.iret (v := v4_6) hx hb hr (fun t ht hW => ⟨v4_6, rfl, ⟨by omega, by omega, by first | (rw [← j0_6, show (n.toInt - v5_6.toInt).toNat = 0 by omega]; rfl) | (rw [← j0_6, zrs_out (by omega)])⟩, ht⟩) (fun q hq => by cases hq) dX9_blurs_62
        · skip
          have c2 : ¬ (v4_6.toInt = 32) := fun q => c2 ((z_eq rfl (by decide : (32 : Int32).toInt = 32)).mpr q)
          refine lv_aload_n hx hb dX9_blurs_19 rfl (lv_at hl 2 rfl) ?_
          obtain ⟨bks4, lks5, gos6, shn7, tpd8, pl09, ln010, flt11, opn12, cmy13, wtg14, nm015, mst16, sus17, cut18, h19, h20, h21, h22, h23, h24, h25, h26, h27, h28, h29, h30, h31, h32, h33, h34, h35, h36, h37, h38, hs3⟩ := a9_0 hI.1
          refine va_get (D := g.1) (ci := 9) (v := .ref (ad 1)) (C := RX9) (T := TX9) (N := 47) hx hb hg inG9 hown hK hP 0 (zw_at (by omega) hs3) rfl 1 (by decide) (hg _ mm_959) (fun _ h9 => h9) rfl dX9_blurs_20 ?_
          refine lv_bipush (v := 32) hx hb dX9_blurs_23 (by decide) ?_
          refine lv_iload_n hx hb dX9_blurs_25 rfl (lv_at hl 3 rfl) ?_
          refine lv_imul hx hb dX9_blurs_26 ?_
          refine lv_topi (fun x39 ex39 => ?_)
          have tx39 : x39.toInt = 32 * c0.toInt := by rw [ex39]; exact z_mul (by decide : (32 : Int32).toInt = 32) rfl (by omega) (by omega)
          refine lv_iload hx hb dX9_blurs_27 (lv_at hl 1 rfl) ?_
          refine lv_iadd hx hb dX9_blurs_29 ?_
          refine lv_topi (fun x40 ex40 => ?_)
          have tx40 : x40.toInt = x39.toInt + v4_6.toInt := by rw [ex40]; exact z_add rfl rfl (by omega) (by omega)
          obtain ⟨f42, hp43, hs41⟩ := a9_1 hI.1
          refine va_iald hx hb hK hP 1 0 (zw_at (by omega) hs41) rfl (z_in rfl (by omega) (by omega)) dX9_blurs_30 ?_
          refine lv_topi (fun y44 ey44 => ?_)
          have hy44 := hp43 _ (z_clt (x := x40) rfl (by omega) (by omega))
          rw [← ey44] at hy44
          have hy44 : y44.toInt = zTr ad 4000 (Int32.toNatClampNeg x40) ∧ (y44.toInt = -1 ∨ (16 ≤ y44.toInt ∧ y44.toInt ≤ 31 ∧ ((Int32.toNatClampNeg x40) : Int) % 32 < y44.toInt)) := hy44
          have hTy44 := hy44.1
          replace hy44 := hy44.2
          have cjy44 := z_clI (x := x40) (by omega)
          refine lv_iconst (v := (-1)) hx hb dX9_blurs_31 (by decide) ?_
          refine lv_icmp_ne (tgt := 40) hx hb dX9_blurs_32 (by decide) (fun c45 => ?_) (fun c45 => ?_)
          · skip
            have c45 : ¬ (y44.toInt = (-1)) := fun q => c45 ((z_eq rfl (by decide : ((-1) : Int32).toInt = (-1))).mpr q)
            refine lv_aload_n hx hb dX9_blurs_40 rfl (lv_at hl 2 rfl) ?_
            refine va_get (D := g.1) (ci := 9) (v := .ref (ad 1)) (C := RX9) (T := TX9) (N := 47) hx hb hg inG9 hown hK hP 0 (zw_at (by omega) hs3) rfl 1 (by decide) (hg _ mm_959) (fun _ h9 => h9) rfl dX9_blurs_41 ?_
            refine lv_bipush (v := 32) hx hb dX9_blurs_44 (by decide) ?_
            refine lv_iload_n hx hb dX9_blurs_46 rfl (lv_at hl 3 rfl) ?_
            refine lv_imul hx hb dX9_blurs_47 ?_
            refine lv_topi (fun x46 ex46 => ?_)
            obtain rfl : x39 = x46 := ex39.trans ex46.symm
            refine lv_iload hx hb dX9_blurs_48 (lv_at hl 1 rfl) ?_
            refine lv_iadd hx hb dX9_blurs_50 ?_
            refine lv_topi (fun x47 ex47 => ?_)
            obtain rfl : x40 = x47 := ex40.trans ex47.symm
            refine va_iald hx hb hK hP 1 0 (zw_at (by omega) hs41) rfl (z_in rfl (by omega) (by omega)) dX9_blurs_51 ?_
            refine lv_topi (fun y48 ey48 => ?_)
            obtain rfl : y44 = y48 := ey44.trans ey48.symm
            have hTUy44 : zTr ad (4000 + 32 * c0.toInt.toNat) v4_6.toInt.toNat = y44.toInt := by
              rw [zT_add, hTy44, z_cl (x := x40) (k := 32 * c0.toInt.toNat + v4_6.toInt.toNat) (by omega)]
            have hz52 : zrs (zTr ad (4000 + 32 * c0.toInt.toNat)) (n.toInt - (v5_6.toInt + 1)).toNat y44.toInt = zrs (zTr ad (4000 + 32 * c0.toInt.toNat)) n.toInt.toNat v.toInt := by
              rw [← j0_6, show (n.toInt - v5_6.toInt).toNat = (n.toInt - (v5_6.toInt + 1)).toNat + 1 by omega, zrs_st ⟨by omega, by omega⟩, hTUy44]
              rw [if_neg (by omega)]
            refine lv_istore (lv' := [(4, .int y44), (5, .int v5_6), (0, .ref (ad 0)), (1, .int c0), (2, .int v), (3, .int n)]) hx hb dX9_blurs_52 hl (by decide) rfl (fun ls hl => ?_)
            obtain ⟨x49, ex49⟩ : ∃ y : Int32, y = v5_6 + 1 := ⟨_, rfl⟩
            have tx49 : x49.toInt = v5_6.toInt + 1 := by rw [ex49]; exact z_add rfl (by decide : (1 : Int32).toInt = 1) (by omega) (by omega)
            refine lv_iinc (v := x49) (lv' := [(5, .int x49), (4, .int y44), (0, .ref (ad 0)), (1, .int c0), (2, .int v), (3, .int n)]) hx hb dX9_blurs_54 hl (k := 1) rfl (by rw [ex49]; rfl) (by decide) rfl (fun ls hl => ?_)
            have hz57 : zrs (zTr ad (4000 + 32 * c0.toInt.toNat)) (n.toInt - x49.toInt).toNat y44.toInt = zrs (zTr ad (4000 + 32 * c0.toInt.toNat)) n.toInt.toNat v.toInt := by rw [tx49]; exact hz52
            refine lv_goto (tgt := 6) hx hb dX9_blurs_57 (by decide) ?_
            exact ih6 x49 y44 ls (by omega) (by first | assumption | omega | decide) (by first | assumption | omega | decide) (by first | assumption | omega | decide) (lv_sub hl [0, 1, 2, 3, 4, 5] rfl)
          · skip
            have c45 : y44.toInt = (-1) := (z_eq rfl (by decide : ((-1) : Int32).toInt = (-1))).mp c45
            refine lv_bipush (v := 32) hx hb dX9_blurs_35 (by decide) ?_
            refine lv_goto (tgt := 52) hx hb dX9_blurs_37 (by decide) ?_
            have hTUy44 : zTr ad (4000 + 32 * c0.toInt.toNat) v4_6.toInt.toNat = y44.toInt := by
              rw [zT_add, hTy44, z_cl (x := x40) (k := 32 * c0.toInt.toNat + v4_6.toInt.toNat) (by omega)]
            have hz52 : zrs (zTr ad (4000 + 32 * c0.toInt.toNat)) (n.toInt - (v5_6.toInt + 1)).toNat (32 : Int32).toInt = zrs (zTr ad (4000 + 32 * c0.toInt.toNat)) n.toInt.toNat v.toInt := by
              rw [← j0_6, show (n.toInt - v5_6.toInt).toNat = (n.toInt - (v5_6.toInt + 1)).toNat + 1 by omega, zrs_st ⟨by omega, by omega⟩, hTUy44]
              rw [if_pos (by omega), show (32 : Int32).toInt = 32 by decide]
            refine lv_istore (lv' := [(4, .int 32), (5, .int v5_6), (0, .ref (ad 0)), (1, .int c0), (2, .int v), (3, .int n)]) hx hb dX9_blurs_52 hl (by decide) rfl (fun ls hl => ?_)
            obtain ⟨x50, ex50⟩ : ∃ y : Int32, y = v5_6 + 1 := ⟨_, rfl⟩
            have tx50 : x50.toInt = v5_6.toInt + 1 := by rw [ex50]; exact z_add rfl (by decide : (1 : Int32).toInt = 1) (by omega) (by omega)
            refine lv_iinc (v := x50) (lv' := [(5, .int x50), (4, .int 32), (0, .ref (ad 0)), (1, .int c0), (2, .int v), (3, .int n)]) hx hb dX9_blurs_54 hl (k := 1) rfl (by rw [ex50]; rfl) (by decide) rfl (fun ls hl => ?_)
            have hz57 : zrs (zTr ad (4000 + 32 * c0.toInt.toNat)) (n.toInt - x50.toInt).toNat (32 : Int32).toInt = zrs (zTr ad (4000 + 32 * c0.toInt.toNat)) n.toInt.toNat v.toInt := by rw [tx50]; exact hz52
            refine lv_goto (tgt := 6) hx hb dX9_blurs_57 (by decide) ?_
            exact ih6 x50 (32 : Int32) ls (by omega) (by first | assumption | omega | decide) (by first | assumption | omega | decide) (by first | assumption | omega | decide) (lv_sub hl [0, 1, 2, 3, 4, 5] rfl)
  have hz6 : zrs (zTr ad (4000 + 32 * c0.toInt.toNat)) (n.toInt - (0 : Int32).toInt).toNat v.toInt = zrs (zTr ad (4000 + 32 * c0.toInt.toNat)) n.toInt.toNat v.toInt := by rw [show (0 : Int32).toInt = 0 by decide, Int.sub_zero]
  exact loop6 ((n.toInt - (0 : Int32).toInt : Int).toNat + 1) (0 : Int32) v ls (by omega) (by first | assumption | omega | decide) (by first | assumption | omega | decide) (by first | assumption | omega | decide) (lv_sub hl [0, 1, 2, 3, 4, 5] rfl)

set_option maxHeartbeats 4000000 in
set_option maxRecDepth 100000 in
theorem k_X9_isBelow (l : Launch) (g : zG) (ad : Nat → Nat) (me : Int32) (ct : Nat → va_E) (c0 : Int32) (v : Int32) (nd : Int32) (hl_c0 : 0 ≤ c0.toInt ∧ c0.toInt ≤ 3) (hl_v : 0 ≤ v.toInt ∧ v.toInt ≤ 15) (hI : IR g ad me ct) : Met l yX9_isBelow (zW yX9_isBelow cX9_isBelow 5 (some .boolean)) ({ frames := 0, cells := 0, slots := 0, locals := 0 }) (va_Pc [.ref (ad 0), .int c0, .int v, .int nd] (zR g (zw 32 ad ct))) (vp_Si (fun r : Int32 => (r = 1 ∧ (zblP (zTr ad (4000 + 32 * c0.toInt.toNat)) nd.toInt v.toInt 1)) ∨ (r = 0 ∧ (zblP (zTr ad (4000 + 32 * c0.toInt.toNat)) nd.toInt v.toInt 0)))) 0 0 (fun _ => False) := by
  refine Met.ofW (cc := cX9_isBelow) (maxL := 5) (ret := (some .boolean)) (by decide) rfl ?_
  intro p e s m args below meth c s₁ B hml hv
  obtain ⟨rfl, hP, hK, hN⟩ := hv
  have hx := B.exec
  have hb := B.bytes
  have hr := B.returns
  have hg := zW.law (atoms_spec (ws := (zW yX9_isBelow cX9_isBelow 5 (some .boolean))) B.pre)
  have hown : s.vm.findClass RX9 = some m.cls := findClass_of_methodNamed B.named
  have hlocks := B.notSynchronized
  have hpe0 := hI.1.1
  have hl := lv_entry ([.ref (ad 0), .int c0, .int v, .int nd]) (n := 5) (Nat.le_of_ble_eq_true rfl)
  rw [lg_entry_eq]
  generalize (lg_sl ([.ref (ad 0), .int c0, .int v, .int nd]) ++ List.replicate (5 - (lg_sl ([.ref (ad 0), .int c0, .int v, .int nd])).length) Slot.unset).toArray = ls at hl ⊢
  have hl : lv_has ls 5 [(0, .ref (ad 0)), (1, .int c0), (2, .int v), (3, .int nd)] := hl
  have rg_nd := z_rng nd
  obtain ⟨f2, hp3, hs1⟩ := a9_1 hI.1
  have hAsc : zAsc (zTr ad (4000 + 32 * c0.toInt.toNat)) := zAsc_of hp3 (by omega)
  refine lv_iload_n hx hb dX9_isBelow_0 rfl (lv_at hl 3 rfl) ?_
  refine lv_bipush (v := 32) hx hb dX9_isBelow_1 (by decide) ?_
  refine lv_icmp_ne (tgt := 8) hx hb dX9_isBelow_3 (by decide) (fun c4 => ?_) (fun c4 => ?_)
  · skip
    have c4 : ¬ (nd.toInt = 32) := fun q => c4 ((z_eq rfl (by decide : (32 : Int32).toInt = 32)).mpr q)
    refine lv_iload_n hx hb dX9_isBelow_8 rfl (lv_at hl 2 rfl) ?_
    refine lv_istore (lv' := [(4, .int v), (0, .ref (ad 0)), (1, .int c0), (2, .int v), (3, .int nd)]) hx hb dX9_isBelow_9 hl (by decide) rfl (fun ls hl => ?_)
    have loop11 : ∀ (n11 : Nat) (v4_11 : Int32) (ls : Array Slot), ((((zms v4_11 : Nat) : Int) : Int).toNat < n11) → (-1 ≤ v4_11.toInt ∧ v4_11.toInt ≤ 31) → (zwayP (zTr ad (4000 + 32 * c0.toInt.toNat)) nd.toInt v.toInt v4_11.toInt) → lv_has ls 5 [(4, .int v4_11), (0, .ref (ad 0)), (1, .int c0), (2, .int v), (3, .int nd)] → W p l e (headSpec (zW yX9_isBelow cX9_isBelow 5 (some .boolean)) ({ frames := 0, cells := 0, slots := 0, locals := 0 })).room s m ([.ref (ad 0), .int c0, .int v, .int nd] : List Value).toArray below meth c s.heap [] 0 0 (MQ below (vp_Si (fun r : Int32 => (r = 1 ∧ (zblP (zTr ad (4000 + 32 * c0.toInt.toNat)) nd.toInt v.toInt 1)) ∨ (r = 0 ∧ (zblP (zTr ad (4000 + 32 * c0.toInt.toNat)) nd.toInt v.toInt 0)))) ([.ref (ad 0), .int c0, .int v, .int nd] : List Value).toArray s 0 0 (fun _ => False)) (F0 m 11 ls []) := by
      intro n11
      induction n11 with
      | zero =>
        intro v4_11 ls hn11 b4_11 j0_11 hl
        exact absurd hn11 (Nat.not_lt_zero _)
      | succ n11 ih11 =>
        intro v4_11 ls hn11 b4_11 j0_11 hl
        refine lv_iload hx hb dX9_isBelow_11 (lv_at hl 0 rfl) ?_
        refine lv_iconst (v := (-1)) hx hb dX9_isBelow_13 (by decide) ?_
        refine lv_icmp_eq (tgt := 40) hx hb dX9_isBelow_14 (by decide) (fun c5 => ?_) (fun c5 => ?_)
        · skip
          have c5 : v4_11.toInt = (-1) := (z_eq rfl (by decide : ((-1) : Int32).toInt = (-1))).mp c5
          refine lv_iload hx hb dX9_isBelow_40 (lv_at hl 0 rfl) ?_
          refine lv_iload_n hx hb dX9_isBelow_42 rfl (lv_at hl 4 rfl) ?_
          refine lv_icmp_ne (tgt := 50) hx hb dX9_isBelow_43 (by decide) (fun c6 => ?_) (fun c6 => ?_)
          · skip
            have c6 : ¬ (v4_11.toInt = nd.toInt) := fun q => c6 ((z_eq rfl rfl).mpr q)
            refine lv_iconst (v := 0) hx hb dX9_isBelow_50 (by decide) ?_
            have q7 : (0 : Int32).toInt = 0 := by decide
            exact W.zret (v := 0) hx hb hr rfl (fun t ht hW => ⟨0, rfl, Or.inr ⟨rfl, zblP_no j0_11 (by omega) (by omega)⟩, ht⟩) (fun q hq => by cases hq) dX9_isBelow_51
          · skip
            have c6 : v4_11.toInt = nd.toInt := (z_eq rfl rfl).mp c6
            refine lv_iconst (v := 1) hx hb dX9_isBelow_46 (by decide) ?_
            refine lv_goto (tgt := 51) hx hb dX9_isBelow_47 (by decide) ?_
            have q8 : (1 : Int32).toInt = 1 := by decide
            exact W.zret (v := 1) hx hb hr rfl (fun t ht hW => ⟨1, rfl, Or.inl ⟨rfl, zblP_yes hAsc j0_11 (by omega) (by omega)⟩, ht⟩) (fun q hq => by cases hq) dX9_isBelow_51
        · skip
          have c5 : ¬ (v4_11.toInt = (-1)) := fun q => c5 ((z_eq rfl (by decide : ((-1) : Int32).toInt = (-1))).mpr q)
          refine lv_iload hx hb dX9_isBelow_17 (lv_at hl 0 rfl) ?_
          refine lv_iload_n hx hb dX9_isBelow_19 rfl (lv_at hl 4 rfl) ?_
          refine lv_icmp_eq (tgt := 40) hx hb dX9_isBelow_20 (by decide) (fun c9 => ?_) (fun c9 => ?_)
          · skip
            have c9 : v4_11.toInt = nd.toInt := (z_eq rfl rfl).mp c9
            refine lv_iload hx hb dX9_isBelow_40 (lv_at hl 0 rfl) ?_
            refine lv_iload_n hx hb dX9_isBelow_42 rfl (lv_at hl 4 rfl) ?_
            refine lv_icmp_ne (tgt := 50) hx hb dX9_isBelow_43 (by decide) (fun c10 => ?_) (fun c10 => ?_)
            · skip
              have c10 : ¬ (v4_11.toInt = nd.toInt) := fun q => c10 ((z_eq rfl rfl).mpr q)
              refine lv_iconst (v := 0) hx hb dX9_isBelow_50 (by decide) ?_
              have q11 : (0 : Int32).toInt = 0 := by decide
              exact W.zret (v := 0) hx hb hr rfl (fun t ht hW => ⟨0, rfl, Or.inr ⟨rfl, zblP_no j0_11 (by omega) (by omega)⟩, ht⟩) (fun q hq => by cases hq) dX9_isBelow_51
            · skip
              have c10 : v4_11.toInt = nd.toInt := (z_eq rfl rfl).mp c10
              refine lv_iconst (v := 1) hx hb dX9_isBelow_46 (by decide) ?_
              refine lv_goto (tgt := 51) hx hb dX9_isBelow_47 (by decide) ?_
              have q12 : (1 : Int32).toInt = 1 := by decide
              exact W.zret (v := 1) hx hb hr rfl (fun t ht hW => ⟨1, rfl, Or.inl ⟨rfl, zblP_yes hAsc j0_11 (by omega) (by omega)⟩, ht⟩) (fun q hq => by cases hq) dX9_isBelow_51
          · skip
            have c9 : ¬ (v4_11.toInt = nd.toInt) := fun q => c9 ((z_eq rfl rfl).mpr q)
            refine lv_aload_n hx hb dX9_isBelow_23 rfl (lv_at hl 1 rfl) ?_
            obtain ⟨bks14, lks15, gos16, shn17, tpd18, pl019, ln020, flt21, opn22, cmy23, wtg24, nm025, mst26, sus27, cut28, h29, h30, h31, h32, h33, h34, h35, h36, h37, h38, h39, h40, h41, h42, h43, h44, h45, h46, h47, h48, hs13⟩ := a9_0 hI.1
            refine va_get (D := g.1) (ci := 9) (v := .ref (ad 1)) (C := RX9) (T := TX9) (N := 47) hx hb hg inG9 hown hK hP 0 (zw_at (by omega) hs13) rfl 1 (by decide) (hg _ mm_959) (fun _ h9 => h9) rfl dX9_isBelow_24 ?_
            refine lv_bipush (v := 32) hx hb dX9_isBelow_27 (by decide) ?_
            refine lv_iload_n hx hb dX9_isBelow_29 rfl (lv_at hl 2 rfl) ?_
            refine lv_imul hx hb dX9_isBelow_30 ?_
            refine lv_topi (fun x49 ex49 => ?_)
            have tx49 : x49.toInt = 32 * c0.toInt := by rw [ex49]; exact z_mul (by decide : (32 : Int32).toInt = 32) rfl (by omega) (by omega)
            refine lv_iload hx hb dX9_isBelow_31 (lv_at hl 0 rfl) ?_
            refine lv_iadd hx hb dX9_isBelow_33 ?_
            refine lv_topi (fun x50 ex50 => ?_)
            have tx50 : x50.toInt = x49.toInt + v4_11.toInt := by rw [ex50]; exact z_add rfl rfl (by omega) (by omega)
            refine va_iald hx hb hK hP 1 0 (zw_at (by omega) hs1) rfl (z_in rfl (by omega) (by omega)) dX9_isBelow_34 ?_
            refine lv_topi (fun y51 ey51 => ?_)
            have hy51 := hp3 _ (z_clt (x := x50) rfl (by omega) (by omega))
            rw [← ey51] at hy51
            have hy51 : y51.toInt = zTr ad 4000 (Int32.toNatClampNeg x50) ∧ (y51.toInt = -1 ∨ (16 ≤ y51.toInt ∧ y51.toInt ≤ 31 ∧ ((Int32.toNatClampNeg x50) : Int) % 32 < y51.toInt)) := hy51
            have hTy51 := hy51.1
            replace hy51 := hy51.2
            have cjy51 := z_clI (x := x50) (by omega)
            refine lv_istore (lv' := [(4, .int y51), (0, .ref (ad 0)), (1, .int c0), (2, .int v), (3, .int nd)]) hx hb dX9_isBelow_35 hl (by decide) rfl (fun ls hl => ?_)
            have hmz : zms y51 < zms v4_11 := zms_dec (by omega) (by omega) (by omega)
            have hTUy51 : zTr ad (4000 + 32 * c0.toInt.toNat) v4_11.toInt.toNat = y51.toInt := by
              rw [zT_add, hTy51, z_cl (x := x50) (k := 32 * c0.toInt.toNat + v4_11.toInt.toNat) (by omega)]
            have hzw := zwayP_st hAsc j0_11 (by omega) (by omega) (by omega) hTUy51
            refine lv_goto (tgt := 11) hx hb dX9_isBelow_37 (by decide) ?_
            exact ih11 y51 ls (by omega) (by first | assumption | omega | decide) (by first | assumption | omega | decide) (lv_sub hl [0, 1, 2, 3, 4] rfl)
    have hzw0 : zwayP (zTr ad (4000 + 32 * c0.toInt.toNat)) nd.toInt v.toInt v.toInt := zwayP_0 (by omega)
    exact loop11 ((((zms v : Nat) : Int) : Int).toNat + 1) v ls (by omega) (by first | assumption | omega | decide) (by first | assumption | omega | decide) (lv_sub hl [0, 1, 2, 3, 4] rfl)
  · skip
    have c4 : nd.toInt = 32 := (z_eq rfl (by decide : (32 : Int32).toInt = 32)).mp c4
    refine lv_iconst (v := 1) hx hb dX9_isBelow_6 (by decide) ?_
    have q52 : (1 : Int32).toInt = 1 := by decide
    exact W.zret (v := 1) hx hb hr rfl (fun t ht hW => ⟨1, rfl, Or.inl ⟨rfl, zblP_all (by omega)⟩, ht⟩) (fun q hq => by cases hq) dX9_isBelow_7

set_option maxHeartbeats 4000000 in
set_option maxRecDepth 100000 in
theorem k_X9_sizeOf (l : Launch) (g : zG) (ad : Nat → Nat) (me : Int32) (ct : Nat → va_E) (c0 : Int32) (nd : Int32) (hl_c0 : 0 ≤ c0.toInt ∧ c0.toInt ≤ 3) (hI : IR g ad me ct) : Met l yX9_sizeOf (zW yX9_sizeOf cX9_sizeOf 5 (some .int)) ({ frames := 1, cells := 0, slots := 0, locals := 24 }) (va_Pc [.ref (ad 0), .int c0, .int nd] (zR g (zw 32 ad ct))) (vp_Si (fun r : Int32 => ((0 ≤ r.toInt) ∧ (r.toInt ≤ 16) ∧ (zszP (zTr ad (4000 + 32 * c0.toInt.toNat)) nd.toInt 16 r.toInt)))) 0 0 (fun _ => False) := by
  refine Met.ofW (cc := cX9_sizeOf) (maxL := 5) (ret := (some .int)) (by decide) rfl ?_
  intro p e s m args below meth c s₁ B hml hv
  obtain ⟨rfl, hP, hK, hN⟩ := hv
  have hx := B.exec
  have hb := B.bytes
  have hr := B.returns
  have hg := zW.law (atoms_spec (ws := (zW yX9_sizeOf cX9_sizeOf 5 (some .int))) B.pre)
  have hown : s.vm.findClass RX9 = some m.cls := findClass_of_methodNamed B.named
  have hlocks := B.notSynchronized
  have hpe0 := hI.1.1
  have hl := lv_entry ([.ref (ad 0), .int c0, .int nd]) (n := 5) (Nat.le_of_ble_eq_true rfl)
  rw [lg_entry_eq]
  generalize (lg_sl ([.ref (ad 0), .int c0, .int nd]) ++ List.replicate (5 - (lg_sl ([.ref (ad 0), .int c0, .int nd])).length) Slot.unset).toArray = ls at hl ⊢
  have hl : lv_has ls 5 [(0, .ref (ad 0)), (1, .int c0), (2, .int nd)] := hl
  have rg_nd := z_rng nd
  refine lv_iconst (v := 0) hx hb dX9_sizeOf_0 (by decide) ?_
  refine lv_istore_n (lv' := [(3, .int 0), (0, .ref (ad 0)), (1, .int c0), (2, .int nd)]) hx hb dX9_sizeOf_1 rfl hl (by decide) rfl (fun ls hl => ?_)
  refine lv_iconst (v := 0) hx hb dX9_sizeOf_2 (by decide) ?_
  refine lv_istore (lv' := [(4, .int 0), (3, .int 0), (0, .ref (ad 0)), (1, .int c0), (2, .int nd)]) hx hb dX9_sizeOf_3 hl (by decide) rfl (fun ls hl => ?_)
  have loop5 : ∀ (n5 : Nat) (v4_5 : Int32) (v3_5 : Int32) (ls : Array Slot), ((16 - v4_5.toInt : Int).toNat < n5) → (0 ≤ v4_5.toInt ∧ v4_5.toInt ≤ 16) → (0 ≤ v3_5.toInt ∧ v3_5.toInt ≤ 16) → (v3_5.toInt ≤ v4_5.toInt) → (zszP (zTr ad (4000 + 32 * c0.toInt.toNat)) nd.toInt v4_5.toInt v3_5.toInt) → lv_has ls 5 [(4, .int v4_5), (3, .int v3_5), (0, .ref (ad 0)), (1, .int c0), (2, .int nd)] → W p l e (headSpec (zW yX9_sizeOf cX9_sizeOf 5 (some .int)) ({ frames := 1, cells := 0, slots := 0, locals := 24 })).room s m ([.ref (ad 0), .int c0, .int nd] : List Value).toArray below meth c s.heap [] 0 0 (MQ below (vp_Si (fun r : Int32 => ((0 ≤ r.toInt) ∧ (r.toInt ≤ 16) ∧ (zszP (zTr ad (4000 + 32 * c0.toInt.toNat)) nd.toInt 16 r.toInt)))) ([.ref (ad 0), .int c0, .int nd] : List Value).toArray s 0 0 (fun _ => False)) (F0 m 5 ls []) := by
    intro n5
    induction n5 with
    | zero =>
      intro v4_5 v3_5 ls hn5 b4_5 b3_5 j0_5 j1_5 hl
      exact absurd hn5 (Nat.not_lt_zero _)
    | succ n5 ih5 =>
      intro v4_5 v3_5 ls hn5 b4_5 b3_5 j0_5 j1_5 hl
      refine lv_iload hx hb dX9_sizeOf_5 (lv_at hl 0 rfl) ?_
      refine lv_bipush (v := 16) hx hb dX9_sizeOf_7 (by decide) ?_
      refine lv_icmp_ge (tgt := 37) hx hb dX9_sizeOf_9 (by decide) (fun c1 => ?_) (fun c1 => ?_)
      · skip
        have c1 : 16 ≤ v4_5.toInt := (z_le (by decide : (16 : Int32).toInt = 16) rfl).mp c1
        refine lv_iload_n hx hb dX9_sizeOf_37 rfl (lv_at hl 1 rfl) ?_
        exact W.iret (v := v3_5) hx hb hr (fun t ht hW => ⟨v3_5, rfl, ⟨by omega, by omega, by rw [show (16 : Int) = v4_5.toInt by omega]; exact j1_5⟩, ht⟩) (fun q hq => by cases hq) dX9_sizeOf_38
      · skip
        have c1 : ¬ (16 ≤ v4_5.toInt) := fun q => c1 ((z_le (by decide : (16 : Int32).toInt = 16) rfl).mpr q)
        refine lv_iload_n hx hb dX9_sizeOf_12 rfl (lv_at hl 1 rfl) ?_
        refine lv_aload_n hx hb dX9_sizeOf_13 rfl (lv_at hl 2 rfl) ?_
        refine lv_iload_n hx hb dX9_sizeOf_14 rfl (lv_at hl 3 rfl) ?_
        refine lv_iload hx hb dX9_sizeOf_15 (lv_at hl 0 rfl) ?_
        refine lv_iload_n hx hb dX9_sizeOf_17 rfl (lv_at hl 4 rfl) ?_
        obtain ⟨bks3, lks4, gos5, shn6, tpd7, pl08, ln09, flt10, opn11, cmy12, wtg13, nm014, mst15, sus16, cut17, h18, h19, h20, h21, h22, h23, h24, h25, h26, h27, h28, h29, h30, h31, h32, h33, h34, h35, h36, h37, hs2⟩ := a9_0 hI.1
        refine zc_i (va_runV (As := [.int c0, .int v4_5, .int nd]) (rest := [.int v3_5]) ⟨hx, hb, hml, hown, hg⟩ (k_X9_isBelow l g ad me ct c0 v4_5 nd (by first | omega | decide) (by first | omega | decide) hI) (cwV 3 hg (z_gV mm_1144 mm_1146 mm_54 mm_117 mm_1147) rfl rfl rfl (by decide +kernel) ⟨Nat.le_of_ble_eq_true rfl, Nat.le_of_ble_eq_true rfl⟩) ⟨(zR.pre [.ref (ad 0), .int c0, .int v4_5, .int nd] hP hK hN).1, va_recv hK hP (ci := 9) (q0 := 0) rfl (zw_at (by omega) hs2), (zR.pre [.ref (ad 0), .int c0, .int v4_5, .int nd] hP hK hN).2⟩ rfl rfl hl.1 rfl (lv_room (Nat.le_of_ble_eq_true rfl)) dX9_sizeOf_18 ⟨Nat.le_of_ble_eq_true rfl, Nat.le_of_ble_eq_true rfl⟩) (fun r38 hr38 => ?_)
        rcases hr38 with hr38 | hr38
        · skip
          obtain ⟨rfl, h39⟩ := hr38
          replace h39 : zblP (zTr ad (4000 + 32 * c0.toInt.toNat)) nd.toInt v4_5.toInt 1 := h39
          refine lv_if_eq (tgt := 28) hx hb dX9_sizeOf_21 (by decide) (fun c40 => ?_) (fun c40 => ?_)
          · skip
            exact absurd c40 (by decide)
          · skip
            refine lv_iconst (v := 1) hx hb dX9_sizeOf_24 (by decide) ?_
            refine lv_goto (tgt := 29) hx hb dX9_sizeOf_25 (by decide) ?_
            refine lv_iadd hx hb dX9_sizeOf_29 ?_
            refine lv_topi (fun x41 ex41 => ?_)
            have tx41 : x41.toInt = v3_5.toInt + 1 := by rw [ex41]; exact z_add rfl (by decide : (1 : Int32).toInt = 1) (by omega) (by omega)
            refine lv_istore_n (lv' := [(3, .int x41), (4, .int v4_5), (0, .ref (ad 0)), (1, .int c0), (2, .int nd)]) hx hb dX9_sizeOf_30 rfl hl (by decide) rfl (fun ls hl => ?_)
            obtain ⟨x42, ex42⟩ : ∃ y : Int32, y = v4_5 + 1 := ⟨_, rfl⟩
            have tx42 : x42.toInt = v4_5.toInt + 1 := by rw [ex42]; exact z_add rfl (by decide : (1 : Int32).toInt = 1) (by omega) (by omega)
            refine lv_iinc (v := x42) (lv' := [(4, .int x42), (3, .int x41), (0, .ref (ad 0)), (1, .int c0), (2, .int nd)]) hx hb dX9_sizeOf_31 hl (k := 1) rfl (by rw [ex42]; rfl) (by decide) rfl (fun ls hl => ?_)
            have hzs : zszP (zTr ad (4000 + 32 * c0.toInt.toNat)) nd.toInt x42.toInt x41.toInt := zszP_st j1_5 h39 (by omega) (by omega) (by omega)
            refine lv_goto (tgt := 5) hx hb dX9_sizeOf_34 (by decide) ?_
            exact ih5 x42 x41 ls (by omega) (by first | assumption | omega | decide) (by first | assumption | omega | decide) (by first | assumption | omega | decide) (by first | assumption | omega | decide) (lv_sub hl [0, 1, 2, 3, 4] rfl)
        · skip
          obtain ⟨rfl, h43⟩ := hr38
          replace h43 : zblP (zTr ad (4000 + 32 * c0.toInt.toNat)) nd.toInt v4_5.toInt 0 := h43
          refine lv_if_eq (tgt := 28) hx hb dX9_sizeOf_21 (by decide) (fun c44 => ?_) (fun c44 => ?_)
          · skip
            refine lv_iconst (v := 0) hx hb dX9_sizeOf_28 (by decide) ?_
            refine lv_iadd hx hb dX9_sizeOf_29 ?_
            refine lv_topi (fun x45 ex45 => ?_)
            have tx45 : x45.toInt = v3_5.toInt + 0 := by rw [ex45]; exact z_add rfl (by decide : (0 : Int32).toInt = 0) (by omega) (by omega)
            refine lv_istore_n (lv' := [(3, .int x45), (4, .int v4_5), (0, .ref (ad 0)), (1, .int c0), (2, .int nd)]) hx hb dX9_sizeOf_30 rfl hl (by decide) rfl (fun ls hl => ?_)
            obtain ⟨x46, ex46⟩ : ∃ y : Int32, y = v4_5 + 1 := ⟨_, rfl⟩
            have tx46 : x46.toInt = v4_5.toInt + 1 := by rw [ex46]; exact z_add rfl (by decide : (1 : Int32).toInt = 1) (by omega) (by omega)
            refine lv_iinc (v := x46) (lv' := [(4, .int x46), (3, .int x45), (0, .ref (ad 0)), (1, .int c0), (2, .int nd)]) hx hb dX9_sizeOf_31 hl (k := 1) rfl (by rw [ex46]; rfl) (by decide) rfl (fun ls hl => ?_)
            have hzs : zszP (zTr ad (4000 + 32 * c0.toInt.toNat)) nd.toInt x46.toInt x45.toInt := zszP_st j1_5 h43 (by omega) (by omega) (by omega)
            refine lv_goto (tgt := 5) hx hb dX9_sizeOf_34 (by decide) ?_
            exact ih5 x46 x45 ls (by omega) (by first | assumption | omega | decide) (by first | assumption | omega | decide) (by first | assumption | omega | decide) (by first | assumption | omega | decide) (lv_sub hl [0, 1, 2, 3, 4] rfl)
          · skip
            exact absurd c44 (by decide)
  have hzs0 : zszP (zTr ad (4000 + 32 * c0.toInt.toNat)) nd.toInt (0 : Int32).toInt (0 : Int32).toInt := zszP_0 (by decide) (by decide)
  exact loop5 ((16 - (0 : Int32).toInt : Int).toNat + 1) (0 : Int32) (0 : Int32) ls (by omega) (by first | assumption | omega | decide) (by first | assumption | omega | decide) (by first | assumption | omega | decide) (by first | assumption | omega | decide) (lv_sub hl [0, 1, 2, 3, 4] rfl)

set_option maxHeartbeats 4000000 in
set_option maxRecDepth 100000 in
theorem k_X9_size (l : Launch) (g : zG) (ad : Nat → Nat) (me : Int32) (ct : Nat → va_E) (c0 : Int32) (nd : Int32) (hI : IR g ad me ct) : Met l yX9_size (zW yX9_size cX9_size 3 (some .int)) ({ frames := 2, cells := 0, slots := 0, locals := 48 }) (va_Pc [.ref (ad 0), .int c0, .int nd] (zR g (zw 32 ad ct))) (vp_Si (fun r : Int32 => (((((0 ≤ c0.toInt ∧ c0.toInt ≤ 3) ∧ 0 ≤ nd.toInt ∧ nd.toInt ≤ 32) ∧ r.toInt = zblN (zTr ad (4000 + 32 * c0.toInt.toNat)) nd.toInt.toNat 16) ∨ (¬ ((0 ≤ c0.toInt ∧ c0.toInt ≤ 3) ∧ 0 ≤ nd.toInt ∧ nd.toInt ≤ 32) ∧ r.toInt = -1))))) 0 0 (fun _ => False) := by
  refine Met.ofW (cc := cX9_size) (maxL := 3) (ret := (some .int)) (by decide) rfl ?_
  intro p e s m args below meth c s₁ B hml hv
  obtain ⟨rfl, hP, hK, hN⟩ := hv
  have hx := B.exec
  have hb := B.bytes
  have hr := B.returns
  have hg := zW.law (atoms_spec (ws := (zW yX9_size cX9_size 3 (some .int))) B.pre)
  have hown : s.vm.findClass RX9 = some m.cls := findClass_of_methodNamed B.named
  have hlocks := B.notSynchronized
  have hpe0 := hI.1.1
  have hl := lv_entry ([.ref (ad 0), .int c0, .int nd]) (n := 3) (Nat.le_of_ble_eq_true rfl)
  rw [lg_entry_eq]
  generalize (lg_sl ([.ref (ad 0), .int c0, .int nd]) ++ List.replicate (3 - (lg_sl ([.ref (ad 0), .int c0, .int nd])).length) Slot.unset).toArray = ls at hl ⊢
  have hl : lv_has ls 3 [(0, .ref (ad 0)), (1, .int c0), (2, .int nd)] := hl
  have rg_c0 := z_rng c0
  have rg_nd := z_rng nd
  refine lv_iload_n hx hb dX9_size_0 rfl (lv_at hl 1 rfl) ?_
  refine zc_i (va_runS (As := [.int c0]) (rest := []) ⟨hx, hb, hml, hown, hg⟩ (k_X9_isColumn l g ad me ct c0 hI) (va_cwS 1 hg (z_gS mm_1106 mm_1107 mm_117 mm_1108) rfl rfl rfl (by decide +kernel) ⟨Nat.le_of_ble_eq_true rfl, Nat.le_of_ble_eq_true rfl⟩) (zR.pre [.int c0] hP hK hN) rfl rfl hl.1 rfl (lv_room (Nat.le_of_ble_eq_true rfl)) dX9_size_1 ⟨Nat.le_of_ble_eq_true rfl, Nat.le_of_ble_eq_true rfl⟩) (fun r1 hr1 => ?_)
  rcases hr1 with hr1 | hr1
  · skip
    obtain ⟨rfl, h2, h3⟩ := hr1
    replace h2 : 0 ≤ c0.toInt := h2
    replace h3 : c0.toInt ≤ 3 := h3
    refine lv_if_eq (tgt := 26) hx hb dX9_size_4 (by decide) (fun c4 => ?_) (fun c4 => ?_)
    · skip
      exact absurd c4 (by decide)
    · skip
      refine lv_iload_n hx hb dX9_size_7 rfl (lv_at hl 2 rfl) ?_
      refine lv_iconst (v := 0) hx hb dX9_size_8 (by decide) ?_
      refine lv_bipush (v := 32) hx hb dX9_size_9 (by decide) ?_
      refine zc_i (va_runS (As := [.int nd, .int 0, .int 32]) (rest := []) ⟨hx, hb, hml, hown, hg⟩ (k_X9_in l g ad me ct nd (0 : Int32) (32 : Int32) hI) (va_cwS 3 hg (z_gS mm_1109 mm_1110 mm_117 mm_1111) rfl rfl rfl (by decide +kernel) ⟨Nat.le_of_ble_eq_true rfl, Nat.le_of_ble_eq_true rfl⟩) (zR.pre [.int nd, .int 0, .int 32] hP hK hN) rfl rfl hl.1 rfl (lv_room (Nat.le_of_ble_eq_true rfl)) dX9_size_11 ⟨Nat.le_of_ble_eq_true rfl, Nat.le_of_ble_eq_true rfl⟩) (fun r5 hr5 => ?_)
      rcases hr5 with hr5 | hr5
      · skip
        obtain ⟨rfl, h6, h7⟩ := hr5
        replace h6 : (0 : Int) ≤ nd.toInt := h6
        replace h7 : nd.toInt ≤ (32 : Int) := h7
        refine lv_if_eq (tgt := 26) hx hb dX9_size_14 (by decide) (fun c8 => ?_) (fun c8 => ?_)
        · skip
          exact absurd c8 (by decide)
        · skip
          refine lv_aload_n hx hb dX9_size_17 rfl (lv_at hl 0 rfl) ?_
          refine lv_iload_n hx hb dX9_size_18 rfl (lv_at hl 1 rfl) ?_
          refine lv_iload_n hx hb dX9_size_19 rfl (lv_at hl 2 rfl) ?_
          obtain ⟨bks10, lks11, gos12, shn13, tpd14, pl015, ln016, flt17, opn18, cmy19, wtg20, nm021, mst22, sus23, cut24, h25, h26, h27, h28, h29, h30, h31, h32, h33, h34, h35, h36, h37, h38, h39, h40, h41, h42, h43, h44, hs9⟩ := a9_0 hI.1
          refine zc_i (va_runV (As := [.int c0, .int nd]) (rest := []) ⟨hx, hb, hml, hown, hg⟩ (k_X9_sizeOf l g ad me ct c0 nd (by first | omega | decide) hI) (cwV 2 hg (z_gV mm_1140 mm_1142 mm_53 mm_117 mm_1143) rfl rfl rfl (by decide +kernel) ⟨Nat.le_of_ble_eq_true rfl, Nat.le_of_ble_eq_true rfl⟩) ⟨(zR.pre [.ref (ad 0), .int c0, .int nd] hP hK hN).1, va_recv hK hP (ci := 9) (q0 := 0) rfl (zw_at (by omega) hs9), (zR.pre [.ref (ad 0), .int c0, .int nd] hP hK hN).2⟩ rfl rfl hl.1 rfl (lv_room (Nat.le_of_ble_eq_true rfl)) dX9_size_20 ⟨Nat.le_of_ble_eq_true rfl, Nat.le_of_ble_eq_true rfl⟩) (fun r45 hr45 => ?_)
          obtain ⟨hr45_0, hr45_1, hr45_2⟩ := hr45
          have hr45_0 : 0 ≤ r45.toInt := hr45_0
          have hr45_1 : r45.toInt ≤ 16 := hr45_1
          have hr45_2 : zszP (zTr ad (4000 + 32 * c0.toInt.toNat)) nd.toInt 16 r45.toInt := hr45_2
          refine lv_goto (tgt := 27) hx hb dX9_size_23 (by decide) ?_
          exact W.iret (v := r45) hx hb hr (fun t ht hW => ⟨r45, rfl, Or.inl ⟨by omega, hr45_2 (by omega) (by omega)⟩, ht⟩) (fun q hq => by cases hq) dX9_size_27
      · skip
        obtain ⟨rfl, h46⟩ := hr5
        replace h46 : ¬ ((0 : Int) ≤ nd.toInt ∧ nd.toInt ≤ (32 : Int)) := h46
        refine lv_if_eq (tgt := 26) hx hb dX9_size_14 (by decide) (fun c47 => ?_) (fun c47 => ?_)
        · skip
          refine lv_iconst (v := (-1)) hx hb dX9_size_26 (by decide) ?_
          have q48 : ((-1) : Int32).toInt = -1 := by decide
          exact W.iret (v := (-1)) hx hb hr (fun t ht hW => ⟨(-1), rfl, Or.inr ⟨by omega, by decide⟩, ht⟩) (fun q hq => by cases hq) dX9_size_27
        · skip
          exact absurd c47 (by decide)
  · skip
    obtain ⟨rfl, h49⟩ := hr1
    replace h49 : ¬ (0 ≤ c0.toInt ∧ c0.toInt ≤ 3) := h49
    refine lv_if_eq (tgt := 26) hx hb dX9_size_4 (by decide) (fun c50 => ?_) (fun c50 => ?_)
    · skip
      refine lv_iconst (v := (-1)) hx hb dX9_size_26 (by decide) ?_
      have q51 : ((-1) : Int32).toInt = -1 := by decide
      exact W.iret (v := (-1)) hx hb hr (fun t ht hW => ⟨(-1), rfl, Or.inr ⟨by omega, by decide⟩, ht⟩) (fun q hq => by cases hq) dX9_size_27
    · skip
      exact absurd c50 (by decide)

set_option maxHeartbeats 4000000 in
set_option maxRecDepth 100000 in
theorem k_X9_blurred (l : Launch) (g : zG) (ad : Nat → Nat) (me : Int32) (ct : Nat → va_E) (c0 : Int32) (v : Int32) (n : Int32) (hI : IR g ad me ct) : Met l yX9_blurred (zW yX9_blurred cX9_blurred 4 (some .int)) ({ frames := 1, cells := 0, slots := 0, locals := 25 }) (va_Pc [.ref (ad 0), .int c0, .int v, .int n] (zR g (zw 32 ad ct))) (vp_Si (fun r : Int32 => (((((0 ≤ c0.toInt ∧ c0.toInt ≤ 3) ∧ (0 ≤ v.toInt ∧ v.toInt ≤ 15) ∧ 0 ≤ n.toInt ∧ n.toInt ≤ 4) ∧ r.toInt = zrs (zTr ad (4000 + 32 * c0.toInt.toNat)) n.toInt.toNat v.toInt) ∨ (¬ ((0 ≤ c0.toInt ∧ c0.toInt ≤ 3) ∧ (0 ≤ v.toInt ∧ v.toInt ≤ 15) ∧ 0 ≤ n.toInt ∧ n.toInt ≤ 4) ∧ r.toInt = -1))))) 0 0 (fun _ => False) := by
  refine Met.ofW (cc := cX9_blurred) (maxL := 4) (ret := (some .int)) (by decide) rfl ?_
  intro p e s m args below meth c s₁ B hml hv
  obtain ⟨rfl, hP, hK, hN⟩ := hv
  have hx := B.exec
  have hb := B.bytes
  have hr := B.returns
  have hg := zW.law (atoms_spec (ws := (zW yX9_blurred cX9_blurred 4 (some .int))) B.pre)
  have hown : s.vm.findClass RX9 = some m.cls := findClass_of_methodNamed B.named
  have hlocks := B.notSynchronized
  have hpe0 := hI.1.1
  have hl := lv_entry ([.ref (ad 0), .int c0, .int v, .int n]) (n := 4) (Nat.le_of_ble_eq_true rfl)
  rw [lg_entry_eq]
  generalize (lg_sl ([.ref (ad 0), .int c0, .int v, .int n]) ++ List.replicate (4 - (lg_sl ([.ref (ad 0), .int c0, .int v, .int n])).length) Slot.unset).toArray = ls at hl ⊢
  have hl : lv_has ls 4 [(0, .ref (ad 0)), (1, .int c0), (2, .int v), (3, .int n)] := hl
  have rg_c0 := z_rng c0
  have rg_v := z_rng v
  have rg_n := z_rng n
  refine lv_iload_n hx hb dX9_blurred_0 rfl (lv_at hl 1 rfl) ?_
  refine zc_i (va_runS (As := [.int c0]) (rest := []) ⟨hx, hb, hml, hown, hg⟩ (k_X9_isColumn l g ad me ct c0 hI) (va_cwS 1 hg (z_gS mm_1106 mm_1107 mm_117 mm_1108) rfl rfl rfl (by decide +kernel) ⟨Nat.le_of_ble_eq_true rfl, Nat.le_of_ble_eq_true rfl⟩) (zR.pre [.int c0] hP hK hN) rfl rfl hl.1 rfl (lv_room (Nat.le_of_ble_eq_true rfl)) dX9_blurred_1 ⟨Nat.le_of_ble_eq_true rfl, Nat.le_of_ble_eq_true rfl⟩) (fun r1 hr1 => ?_)
  rcases hr1 with hr1 | hr1
  · skip
    obtain ⟨rfl, h2, h3⟩ := hr1
    replace h2 : 0 ≤ c0.toInt := h2
    replace h3 : c0.toInt ≤ 3 := h3
    refine lv_if_eq (tgt := 36) hx hb dX9_blurred_4 (by decide) (fun c4 => ?_) (fun c4 => ?_)
    · skip
      exact absurd c4 (by decide)
    · skip
      refine lv_iload_n hx hb dX9_blurred_7 rfl (lv_at hl 2 rfl) ?_
      refine lv_iconst (v := 0) hx hb dX9_blurred_8 (by decide) ?_
      refine lv_bipush (v := 15) hx hb dX9_blurred_9 (by decide) ?_
      refine zc_i (va_runS (As := [.int v, .int 0, .int 15]) (rest := []) ⟨hx, hb, hml, hown, hg⟩ (k_X9_in l g ad me ct v (0 : Int32) (15 : Int32) hI) (va_cwS 3 hg (z_gS mm_1109 mm_1110 mm_117 mm_1111) rfl rfl rfl (by decide +kernel) ⟨Nat.le_of_ble_eq_true rfl, Nat.le_of_ble_eq_true rfl⟩) (zR.pre [.int v, .int 0, .int 15] hP hK hN) rfl rfl hl.1 rfl (lv_room (Nat.le_of_ble_eq_true rfl)) dX9_blurred_11 ⟨Nat.le_of_ble_eq_true rfl, Nat.le_of_ble_eq_true rfl⟩) (fun r5 hr5 => ?_)
      rcases hr5 with hr5 | hr5
      · skip
        obtain ⟨rfl, h6, h7⟩ := hr5
        replace h6 : (0 : Int) ≤ v.toInt := h6
        replace h7 : v.toInt ≤ (15 : Int) := h7
        refine lv_if_eq (tgt := 36) hx hb dX9_blurred_14 (by decide) (fun c8 => ?_) (fun c8 => ?_)
        · skip
          exact absurd c8 (by decide)
        · skip
          refine lv_iload_n hx hb dX9_blurred_17 rfl (lv_at hl 3 rfl) ?_
          refine lv_iconst (v := 0) hx hb dX9_blurred_18 (by decide) ?_
          refine lv_iconst (v := 4) hx hb dX9_blurred_19 (by decide) ?_
          refine zc_i (va_runS (As := [.int n, .int 0, .int 4]) (rest := []) ⟨hx, hb, hml, hown, hg⟩ (k_X9_in l g ad me ct n (0 : Int32) (4 : Int32) hI) (va_cwS 3 hg (z_gS mm_1109 mm_1110 mm_117 mm_1111) rfl rfl rfl (by decide +kernel) ⟨Nat.le_of_ble_eq_true rfl, Nat.le_of_ble_eq_true rfl⟩) (zR.pre [.int n, .int 0, .int 4] hP hK hN) rfl rfl hl.1 rfl (lv_room (Nat.le_of_ble_eq_true rfl)) dX9_blurred_20 ⟨Nat.le_of_ble_eq_true rfl, Nat.le_of_ble_eq_true rfl⟩) (fun r9 hr9 => ?_)
          rcases hr9 with hr9 | hr9
          · skip
            obtain ⟨rfl, h10, h11⟩ := hr9
            replace h10 : (0 : Int) ≤ n.toInt := h10
            replace h11 : n.toInt ≤ (4 : Int) := h11
            refine lv_if_eq (tgt := 36) hx hb dX9_blurred_23 (by decide) (fun c12 => ?_) (fun c12 => ?_)
            · skip
              exact absurd c12 (by decide)
            · skip
              refine lv_aload_n hx hb dX9_blurred_26 rfl (lv_at hl 0 rfl) ?_
              refine lv_iload_n hx hb dX9_blurred_27 rfl (lv_at hl 1 rfl) ?_
              refine lv_iload_n hx hb dX9_blurred_28 rfl (lv_at hl 2 rfl) ?_
              refine lv_iload_n hx hb dX9_blurred_29 rfl (lv_at hl 3 rfl) ?_
              obtain ⟨bks14, lks15, gos16, shn17, tpd18, pl019, ln020, flt21, opn22, cmy23, wtg24, nm025, mst26, sus27, cut28, h29, h30, h31, h32, h33, h34, h35, h36, h37, h38, h39, h40, h41, h42, h43, h44, h45, h46, h47, h48, hs13⟩ := a9_0 hI.1
              refine zc_i (va_runV (As := [.int c0, .int v, .int n]) (rest := []) ⟨hx, hb, hml, hown, hg⟩ (k_X9_blurs l g ad me ct c0 v n (by first | omega | decide) (by first | omega | decide) hI) (cwV 3 hg (z_gV mm_1132 mm_1134 mm_52 mm_117 mm_1135) rfl rfl rfl (by decide +kernel) ⟨Nat.le_of_ble_eq_true rfl, Nat.le_of_ble_eq_true rfl⟩) ⟨(zR.pre [.ref (ad 0), .int c0, .int v, .int n] hP hK hN).1, va_recv hK hP (ci := 9) (q0 := 0) rfl (zw_at (by omega) hs13), (zR.pre [.ref (ad 0), .int c0, .int v, .int n] hP hK hN).2⟩ rfl rfl hl.1 rfl (lv_room (Nat.le_of_ble_eq_true rfl)) dX9_blurred_30 ⟨Nat.le_of_ble_eq_true rfl, Nat.le_of_ble_eq_true rfl⟩) (fun r49 hr49 => ?_)
              obtain ⟨hr49_0, hr49_1, hr49_2⟩ := hr49
              have hr49_0 : 0 ≤ r49.toInt := hr49_0
              have hr49_1 : r49.toInt ≤ 32 := hr49_1
              have hr49_2 : r49.toInt = zrs (zTr ad (4000 + 32 * c0.toInt.toNat)) n.toInt.toNat v.toInt := hr49_2
              refine lv_goto (tgt := 37) hx hb dX9_blurred_33 (by decide) ?_
              exact W.iret (v := r49) hx hb hr (fun t ht hW => ⟨r49, rfl, Or.inl ⟨by omega, hr49_2⟩, ht⟩) (fun q hq => by cases hq) dX9_blurred_37
          · skip
            obtain ⟨rfl, h50⟩ := hr9
            replace h50 : ¬ ((0 : Int) ≤ n.toInt ∧ n.toInt ≤ (4 : Int)) := h50
            refine lv_if_eq (tgt := 36) hx hb dX9_blurred_23 (by decide) (fun c51 => ?_) (fun c51 => ?_)
            · skip
              refine lv_iconst (v := (-1)) hx hb dX9_blurred_36 (by decide) ?_
              have q52 : ((-1) : Int32).toInt = -1 := by decide
              exact W.iret (v := (-1)) hx hb hr (fun t ht hW => ⟨(-1), rfl, Or.inr ⟨by omega, by decide⟩, ht⟩) (fun q hq => by cases hq) dX9_blurred_37
            · skip
              exact absurd c51 (by decide)
      · skip
        obtain ⟨rfl, h53⟩ := hr5
        replace h53 : ¬ ((0 : Int) ≤ v.toInt ∧ v.toInt ≤ (15 : Int)) := h53
        refine lv_if_eq (tgt := 36) hx hb dX9_blurred_14 (by decide) (fun c54 => ?_) (fun c54 => ?_)
        · skip
          refine lv_iconst (v := (-1)) hx hb dX9_blurred_36 (by decide) ?_
          have q55 : ((-1) : Int32).toInt = -1 := by decide
          exact W.iret (v := (-1)) hx hb hr (fun t ht hW => ⟨(-1), rfl, Or.inr ⟨by omega, by decide⟩, ht⟩) (fun q hq => by cases hq) dX9_blurred_37
        · skip
          exact absurd c54 (by decide)
  · skip
    obtain ⟨rfl, h56⟩ := hr1
    replace h56 : ¬ (0 ≤ c0.toInt ∧ c0.toInt ≤ 3) := h56
    refine lv_if_eq (tgt := 36) hx hb dX9_blurred_4 (by decide) (fun c57 => ?_) (fun c57 => ?_)
    · skip
      refine lv_iconst (v := (-1)) hx hb dX9_blurred_36 (by decide) ?_
      have q58 : ((-1) : Int32).toInt = -1 := by decide
      exact W.iret (v := (-1)) hx hb hr (fun t ht hW => ⟨(-1), rfl, Or.inr ⟨by omega, by decide⟩, ht⟩) (fun q hq => by cases hq) dX9_blurred_37
    · skip
      exact absurd c57 (by decide)
