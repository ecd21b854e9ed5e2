set_option maxHeartbeats 4000000 in
set_option maxRecDepth 100000 in
theorem k_X8_fewest (l : Launch) (g : zG) (sz : Nat) (ad : Nat → Nat) (pe : Int32) (ct : Nat → va_E) (b : Int32) (i : Int32) (wh : Int32) (hI : Inv8 g ad pe ct) : Met l yX8_fewest (zW yX8_fewest cX8_fewest 5 (some .int)) ({ frames := 6, cells := 0, slots := 0, locals := 144 }) (va_Pc [.ref (ad 0), .int b, .int i, .int wh] (zA g (zw 126 ad ct) sz)) (va_Qi (fun (r : Int32) (_ : Unit) => (True)) (fun _ t => ∃ ct2 : Nat → va_E, zP g (zw 126 ad ct2) t.heap ∧ va_D (va_A (zw 126 ad ct) sz) (zw 126 ad ct2) ∧ Inv8 g ad pe ct2) (va_A (zw 126 ad ct) sz)) 0 0 (va_A (zw 126 ad ct) sz) := by
  refine Met.ofW (cc := cX8_fewest) (maxL := 5) (ret := (some .int)) (by decide) rfl ?_
  intro p e s m args below meth c s₁ B hml hv
  obtain ⟨rfl, hsz, hP, hK, hD0, hN⟩ := hv
  have hx := B.exec
  have hb := B.bytes
  have hr := B.returns
  have hg := zW.law (atoms_spec (ws := (zW yX8_fewest cX8_fewest 5 (some .int))) B.pre)
  have hown : s.vm.findClass RX8 = some m.cls := findClass_of_methodNamed B.named
  have hlocks := B.notSynchronized
  have hpe0 := hI.1
  subst hsz
  have hD := hD0.self (sz := s.heap.size)
  generalize hAe : va_A (zw 126 ad ct) s.heap.size = A at hD ⊢
  have hA : ∀ q : Nat, s.heap.size ≤ q → A q := fun q h => by rw [← hAe]; exact Or.inr h
  have hS : va_S A s.heap s.heap [] := va_S.rf
  have hl := lv_entry ([.ref (ad 0), .int b, .int i, .int wh]) (n := 5) (Nat.le_of_ble_eq_true rfl)
  rw [lg_entry_eq]
  generalize (lg_sl ([.ref (ad 0), .int b, .int i, .int wh]) ++ List.replicate (5 - (lg_sl ([.ref (ad 0), .int b, .int i, .int wh])).length) Slot.unset).toArray = ls at hl ⊢
  have hl : lv_has ls 5 [(0, .ref (ad 0)), (1, .int b), (2, .int i), (3, .int wh)] := hl
  have rg_b := z_rng b
  have rg_i := z_rng i
  have rg_wh := z_rng wh
  refine lv_aload_n hx hb dX8_fewest_0 rfl (lv_at hl 0 rfl) ?_
  refine lv_iload_n hx hb dX8_fewest_1 rfl (lv_at hl 1 rfl) ?_
  refine lv_iload_n hx hb dX8_fewest_2 rfl (lv_at hl 2 rfl) ?_
  obtain ⟨bk3, dr2, h4, h5, h6, hs1⟩ := a8_0 hI
  refine zc_i (va_runV (As := [.int b, .int i]) (rest := []) ⟨hx, hb, hml, hown, hg⟩ (k_X8_isLine l g ad pe ct b i hI) (cwV 2 hg (z_gV mm_587 mm_589 mm_19 mm_108 mm_590) rfl rfl rfl (by decide +kernel) ⟨Nat.le_of_ble_eq_true rfl, Nat.le_of_ble_eq_true rfl⟩) ⟨(zR.pre [.ref (ad 0), .int b, .int i] hP hK hN).1, va_recv hK hP (ci := 8) (q0 := 0) rfl (zw_at (by omega) hs1), (zR.pre [.ref (ad 0), .int b, .int i] hP hK hN).2⟩ rfl rfl hl.1 rfl (lv_room (Nat.le_of_ble_eq_true rfl)) dX8_fewest_3 ⟨Nat.le_of_ble_eq_true rfl, Nat.le_of_ble_eq_true rfl⟩) (fun r7 hr7 => ?_)
  rcases hr7 with hr7 | hr7
  · skip
    obtain ⟨rfl, h8, h9⟩ := hr7
    have h8 : 0 ≤ b.toInt ∧ b.toInt ≤ 3 := h8
    have h9 : 0 ≤ i.toInt ∧ i.toInt ≤ 7 := h9
    refine lv_if_eq (tgt := 18) hx hb dX8_fewest_6 (by decide) (fun c10 => ?_) (fun c10 => ?_)
    · skip
      exact absurd c10 (by decide)
    · skip
      refine lv_iload_n hx hb dX8_fewest_9 rfl (lv_at hl 3 rfl) ?_
      refine lv_iconst (v := 0) hx hb dX8_fewest_10 (by decide) ?_
      refine lv_iconst (v := 2) hx hb dX8_fewest_11 (by decide) ?_
      refine zc_i (va_runS (As := [.int wh, .int 0, .int 2]) (rest := []) ⟨hx, hb, hml, hown, hg⟩ (k_X8_within l g ad pe ct wh (0 : Int32) (2 : Int32) hI) (va_cwS 3 hg (z_gS mm_407 mm_408 mm_108 mm_409) rfl rfl rfl (by decide +kernel) ⟨Nat.le_of_ble_eq_true rfl, Nat.le_of_ble_eq_true rfl⟩) (zR.pre [.int wh, .int 0, .int 2] hP hK hN) rfl rfl hl.1 rfl (lv_room (Nat.le_of_ble_eq_true rfl)) dX8_fewest_12 ⟨Nat.le_of_ble_eq_true rfl, Nat.le_of_ble_eq_true rfl⟩) (fun r11 hr11 => ?_)
      rcases hr11 with hr11 | hr11
      · skip
        obtain ⟨rfl, h12, h13⟩ := hr11
        have h12 : (0 : Int) ≤ wh.toInt := h12
        have h13 : wh.toInt ≤ (2 : Int) := h13
        refine lv_if_ne (tgt := 20) hx hb dX8_fewest_15 (by decide) (fun c14 => ?_) (fun c14 => ?_)
        · skip
          refine lv_aload_n hx hb dX8_fewest_20 rfl (lv_at hl 0 rfl) ?_
          refine lv_iload_n hx hb dX8_fewest_21 rfl (lv_at hl 1 rfl) ?_
          refine lv_iload_n hx hb dX8_fewest_22 rfl (lv_at hl 2 rfl) ?_
          refine zc_i (va_runV (As := [.int b, .int i]) (rest := []) ⟨hx, hb, hml, hown, hg⟩ (k_X8_isLive l g ad pe ct b i hI) (cwV 2 hg (z_gV mm_583 mm_585 mm_18 mm_108 mm_586) rfl rfl rfl (by decide +kernel) ⟨Nat.le_of_ble_eq_true rfl, Nat.le_of_ble_eq_true rfl⟩) ⟨(zR.pre [.ref (ad 0), .int b, .int i] hP hK hN).1, va_recv hK hP (ci := 8) (q0 := 0) rfl (zw_at (by omega) hs1), (zR.pre [.ref (ad 0), .int b, .int i] hP hK hN).2⟩ rfl rfl hl.1 rfl (lv_room (Nat.le_of_ble_eq_true rfl)) dX8_fewest_23 ⟨Nat.le_of_ble_eq_true rfl, Nat.le_of_ble_eq_true rfl⟩) (fun r15 hr15 => ?_)
          rcases hr15 with hr15 | hr15
          · skip
            obtain ⟨rfl, h16, h17⟩ := hr15
            have h16 : 0 ≤ b.toInt ∧ b.toInt ≤ 3 := h16
            have h17 : 0 ≤ i.toInt ∧ i.toInt ≤ 7 := h17
            refine lv_if_ne (tgt := 32) hx hb dX8_fewest_26 (by decide) (fun c18 => ?_) (fun c18 => ?_)
            · skip
              refine lv_aload_n hx hb dX8_fewest_32 rfl (lv_at hl 0 rfl) ?_
              refine lv_iload_n hx hb dX8_fewest_33 rfl (lv_at hl 1 rfl) ?_
              refine lv_iload_n hx hb dX8_fewest_34 rfl (lv_at hl 2 rfl) ?_
              have hFc := zw_free hD hS hA
              refine va_calli (va_runV (As := [.int b, .int i]) (rest := []) ⟨hx, hb, hml, hown, hg⟩ (k_X8_fewestGossips l g _ ad pe ct b i (by first | omega | decide) (by first | omega | decide) hI) (cwV 2 hg (z_gV mm_786 mm_788 mm_32 mm_108 mm_789) rfl rfl rfl (by decide +kernel) ⟨Nat.le_of_ble_eq_true rfl, Nat.le_of_ble_eq_true rfl⟩) ⟨(zA.pre [.ref (ad 0), .int b, .int i] hP hK hD hN).1, va_recv hK hP (ci := 8) (q0 := 0) rfl (zw_at (by omega) hs1), (zA.pre [.ref (ad 0), .int b, .int i] hP hK hD hN).2⟩ rfl rfl hl.1 rfl (lv_room (Nat.le_of_ble_eq_true rfl)) dX8_fewest_35 ⟨Nat.le_of_ble_eq_true rfl, Nat.le_of_ble_eq_true rfl⟩) hS (fun q _ h => hFc q h) hFc (fun r19 _ t H1 locs ht hvm hr19 hB hz1 hk1 hS => ?_)
              obtain ⟨ct20, hP1, hD1, hI⟩ := hB
              rw [ht] at hP1
              have hD := hD1.weaken (fun _ _ _ h => hFc _ h)
              generalize H1 = H at hP1 hS ⊢
              have hP := hP1
              refine W.widen (k := 0) (n := 0) (Nat.le_refl _) (Nat.le_refl _) ?_
              refine lv_istore (lv' := [(4, .int r19), (0, .ref (ad 0)), (1, .int b), (2, .int i), (3, .int wh)]) hx hb dX8_fewest_38 hl (by decide) rfl (fun ls hl => ?_)
              refine lv_iload hx hb dX8_fewest_40 (lv_at hl 0 rfl) ?_
              refine lv_iconst (v := (-1)) hx hb dX8_fewest_42 (by decide) ?_
              refine lv_icmp_ne (tgt := 49) hx hb dX8_fewest_43 (by decide) (fun c21 => ?_) (fun c21 => ?_)
              · skip
                have c21 : ¬ (r19.toInt = (-1)) := fun q => c21 ((z_eq rfl (by decide : ((-1) : Int32).toInt = (-1))).mpr q)
                refine lv_iload_n hx hb dX8_fewest_49 rfl (lv_at hl 4 rfl) ?_
                refine lv_if_ne (tgt := 59) hx hb dX8_fewest_50 (by decide) (fun c22 => ?_) (fun c22 => ?_)
                · skip
                  have c22 : ¬ (wh.toInt = 0) := fun q => c22 ((z_eq rfl (by decide : (0 : Int32).toInt = 0)).mpr q)
                  refine lv_iload_n hx hb dX8_fewest_59 rfl (lv_at hl 4 rfl) ?_
                  refine lv_iconst (v := 1) hx hb dX8_fewest_60 (by decide) ?_
                  refine lv_icmp_ne (tgt := 69) hx hb dX8_fewest_61 (by decide) (fun c23 => ?_) (fun c23 => ?_)
                  · skip
                    have c23 : ¬ (wh.toInt = 1) := fun q => c23 ((z_eq rfl (by decide : (1 : Int32).toInt = 1)).mpr q)
                    refine lv_aload_n hx hb dX8_fewest_69 rfl (lv_at hl 1 rfl) ?_
                    refine lv_iload_n hx hb dX8_fewest_70 rfl (lv_at hl 2 rfl) ?_
                    refine lv_iload_n hx hb dX8_fewest_71 rfl (lv_at hl 3 rfl) ?_
                    refine lv_iload hx hb dX8_fewest_72 (lv_at hl 0 rfl) ?_
                    obtain ⟨bk26, dr25, h27, h28, h29, hs24⟩ := a8_0 hI
                    have hFc := zw_free hD hS hA
                    refine va_calli (va_runV (As := [.int b, .int i, .int r19]) (rest := []) ⟨hx, hb, hml, hown, hg⟩ (k_X8_mayLaid l g _ ad pe ct20 b i r19 (by first | omega | decide) (by first | omega | decide) hI) (cwV 3 hg (z_gV mm_790 mm_792 mm_33 mm_108 mm_793) rfl rfl rfl (by decide +kernel) ⟨Nat.le_of_ble_eq_true rfl, Nat.le_of_ble_eq_true rfl⟩) ⟨(zA.pre [.ref (ad 0), .int b, .int i, .int r19] hP hK hD hN).1, va_recv hK hP (ci := 8) (q0 := 0) rfl (zw_at (by omega) hs24), (zA.pre [.ref (ad 0), .int b, .int i, .int r19] hP hK hD hN).2⟩ rfl rfl hl.1 rfl (lv_room (Nat.le_of_ble_eq_true rfl)) dX8_fewest_74 ⟨Nat.le_of_ble_eq_true rfl, Nat.le_of_ble_eq_true rfl⟩) hS (fun q _ h => hFc q h) hFc (fun r30 _ t H1 locs ht hvm hr30 hB hz1 hk1 hS => ?_)
                    obtain ⟨ct31, hP1, hD1, hI⟩ := hB
                    rw [ht] at hP1
                    have hD := hD1.weaken (fun _ _ _ h => hFc _ h)
                    generalize H1 = H at hP1 hS ⊢
                    have hP := hP1
                    refine W.widen (k := 0) (n := 0) (Nat.le_refl _) (Nat.le_refl _) ?_
                    obtain ⟨hr30_0, hr30_1⟩ := hr30
                    have hr30_0 : 0 ≤ r30.toInt := hr30_0
                    have hr30_1 : r30.toInt ≤ 65535 := hr30_1
                    refine zc_i (va_runS (As := [.int r30]) (rest := []) ⟨hx, hb, hml, hown, hg⟩ (k_low16 l g ad pe ct31 r30 (by first | omega | decide) hI) (va_cwS 1 hg (z_gS mm_794 mm_745 mm_108 mm_746) rfl rfl rfl (by decide +kernel) ⟨Nat.le_of_ble_eq_true rfl, Nat.le_of_ble_eq_true rfl⟩) (zR.pre [.int r30] hP hK hN) rfl rfl hl.1 rfl (lv_room (Nat.le_of_ble_eq_true rfl)) dX8_fewest_77 ⟨Nat.le_of_ble_eq_true rfl, Nat.le_of_ble_eq_true rfl⟩) (fun r32 hr32 => ?_)
                    obtain ⟨hr32_0, hr32_1⟩ := hr32
                    have hr32_0 : -1 ≤ r32.toInt := hr32_0
                    have hr32_1 : r32.toInt ≤ 15 := hr32_1
                    exact W.iret (v := r32) hx hb hr (fun t ht hW => ⟨⟨r32, (), rfl, trivial, ct31, by rw [ht]; exact hP, hD, hI⟩, hS.F ht⟩) hS.2.2 dX8_fewest_80
                  · skip
                    have c23 : wh.toInt = 1 := (z_eq rfl (by decide : (1 : Int32).toInt = 1)).mp c23
                    refine lv_iload hx hb dX8_fewest_64 (lv_at hl 0 rfl) ?_
                    refine lv_goto (tgt := 80) hx hb dX8_fewest_66 (by decide) ?_
                    exact W.iret (v := r19) hx hb hr (fun t ht hW => ⟨⟨r19, (), rfl, trivial, ct20, by rw [ht]; exact hP, hD, hI⟩, hS.F ht⟩) hS.2.2 dX8_fewest_80
                · skip
                  have c22 : wh.toInt = 0 := (z_eq rfl (by decide : (0 : Int32).toInt = 0)).mp c22
                  refine lv_iload hx hb dX8_fewest_53 (lv_at hl 0 rfl) ?_
                  refine zc_i (va_runS (As := [.int r19]) (rest := []) ⟨hx, hb, hml, hown, hg⟩ (k_J6_bitCount_0f7a4 l g ad pe ct20 r19 hI) (va_cwS 1 hg (z_gS mm_734 mm_729 mm_119 mm_730) rfl rfl rfl (by decide +kernel) ⟨Nat.le_of_ble_eq_true rfl, Nat.le_of_ble_eq_true rfl⟩) (zR.pre [.int r19] hP hK hN) rfl rfl hl.1 rfl (lv_room (Nat.le_of_ble_eq_true rfl)) dX8_fewest_55 ⟨Nat.le_of_ble_eq_true rfl, Nat.le_of_ble_eq_true rfl⟩) (fun r33 hr33 => ?_)
                  obtain ⟨hr33_0, hr33_1⟩ := hr33
                  have hr33_0 : 0 ≤ r33.toInt := hr33_0
                  have hr33_1 : r33.toInt ≤ 63 := hr33_1
                  exact W.iret (v := r33) hx hb hr (fun t ht hW => ⟨⟨r33, (), rfl, trivial, ct20, by rw [ht]; exact hP, hD, hI⟩, hS.F ht⟩) hS.2.2 dX8_fewest_58
              · skip
                have c21 : r19.toInt = (-1) := (z_eq rfl (by decide : ((-1) : Int32).toInt = (-1))).mp c21
                refine lv_bipush (v := (-2)) hx hb dX8_fewest_46 (by decide) ?_
                have q34 : ((-2) : Int32).toInt = -2 := by decide
                exact W.iret (v := (-2)) hx hb hr (fun t ht hW => ⟨⟨(-2), (), rfl, trivial, ct20, by rw [ht]; exact hP, hD, hI⟩, hS.F ht⟩) hS.2.2 dX8_fewest_48
            · skip
              exact absurd c18 (by decide)
          · skip
            obtain rfl := hr15
            refine lv_if_ne (tgt := 32) hx hb dX8_fewest_26 (by decide) (fun c35 => ?_) (fun c35 => ?_)
            · skip
              exact absurd c35 (by decide)
            · skip
              refine lv_bipush (v := (-2)) hx hb dX8_fewest_29 (by decide) ?_
              have q36 : ((-2) : Int32).toInt = -2 := by decide
              exact W.iret (v := (-2)) hx hb hr (fun t ht hW => ⟨⟨(-2), (), rfl, trivial, ct, by rw [ht]; exact hP, hD, hI⟩, hS.F ht⟩) hS.2.2 dX8_fewest_31
        · skip
          exact absurd c14 (by decide)
      · skip
        obtain ⟨rfl, h37⟩ := hr11
        have h37 : ¬ ((0 : Int) ≤ wh.toInt ∧ wh.toInt ≤ (2 : Int)) := h37
        refine lv_if_ne (tgt := 20) hx hb dX8_fewest_15 (by decide) (fun c38 => ?_) (fun c38 => ?_)
        · skip
          exact absurd c38 (by decide)
        · skip
          refine lv_iconst (v := (-1)) hx hb dX8_fewest_18 (by decide) ?_
          have q39 : ((-1) : Int32).toInt = -1 := by decide
          exact W.iret (v := (-1)) hx hb hr (fun t ht hW => ⟨⟨(-1), (), rfl, trivial, ct, by rw [ht]; exact hP, hD, hI⟩, hS.F ht⟩) hS.2.2 dX8_fewest_19
  · skip
    obtain rfl := hr7
    refine lv_if_eq (tgt := 18) hx hb dX8_fewest_6 (by decide) (fun c40 => ?_) (fun c40 => ?_)
    · skip
      refine lv_iconst (v := (-1)) hx hb dX8_fewest_18 (by decide) ?_
      have q41 : ((-1) : Int32).toInt = -1 := by decide
      exact W.iret (v := (-1)) hx hb hr (fun t ht hW => ⟨⟨(-1), (), rfl, trivial, ct, by rw [ht]; exact hP, hD, hI⟩, hS.F ht⟩) hS.2.2 dX8_fewest_19
    · skip
      exact absurd c40 (by decide)

set_option maxHeartbeats 4000000 in
set_option maxRecDepth 100000 in
theorem k_X8_blurring (l : Launch) (g : zG) (sz : Nat) (ad : Nat → Nat) (pe : Int32) (ct : Nat → va_E) (n : Int32) (k : Int32) (pr : Int32) (wh : Int32) (hI : Inv8 g ad pe ct) : Met l yX8_blurring (zW yX8_blurring cX8_blurring 6 (some .int)) ({ frames := 5, cells := 0, slots := 0, locals := 116 }) (va_Pc [.ref (ad 0), .int n, .int k, .int pr, .int wh] (zA g (zw 126 ad ct) sz)) (va_Qi (fun (r : Int32) (_ : Unit) => (True)) (fun _ t => ∃ ct2 : Nat → va_E, zP g (zw 126 ad ct2) t.heap ∧ va_D (va_A (zw 126 ad ct) sz) (zw 126 ad ct2) ∧ Inv8 g ad pe ct2) (va_A (zw 126 ad ct) sz)) 0 0 (va_A (zw 126 ad ct) sz) := by
  refine Met.ofW (cc := cX8_blurring) (maxL := 6) (ret := (some .int)) (by decide) rfl ?_
  intro p e s m args below meth c s₁ B hml hv
  obtain ⟨rfl, hsz, hP, hK, hD0, hN⟩ := hv
  have hx := B.exec
  have hb := B.bytes
  have hr := B.returns
  have hg := zW.law (atoms_spec (ws := (zW yX8_blurring cX8_blurring 6 (some .int))) B.pre)
  have hown : s.vm.findClass RX8 = some m.cls := findClass_of_methodNamed B.named
  have hlocks := B.notSynchronized
  have hpe0 := hI.1
  subst hsz
  have hD := hD0.self (sz := s.heap.size)
  generalize hAe : va_A (zw 126 ad ct) s.heap.size = A at hD ⊢
  have hA : ∀ q : Nat, s.heap.size ≤ q → A q := fun q h => by rw [← hAe]; exact Or.inr h
  have hS : va_S A s.heap s.heap [] := va_S.rf
  have hl := lv_entry ([.ref (ad 0), .int n, .int k, .int pr, .int wh]) (n := 6) (Nat.le_of_ble_eq_true rfl)
  rw [lg_entry_eq]
  generalize (lg_sl ([.ref (ad 0), .int n, .int k, .int pr, .int wh]) ++ List.replicate (6 - (lg_sl ([.ref (ad 0), .int n, .int k, .int pr, .int wh])).length) Slot.unset).toArray = ls at hl ⊢
  have hl : lv_has ls 6 [(0, .ref (ad 0)), (1, .int n), (2, .int k), (3, .int pr), (4, .int wh)] := hl
  have rg_n := z_rng n
  have rg_k := z_rng k
  have rg_pr := z_rng pr
  have rg_wh := z_rng wh
  refine lv_iload_n hx hb dX8_blurring_0 rfl (lv_at hl 1 rfl) ?_
  refine lv_iconst (v := 1) hx hb dX8_blurring_1 (by decide) ?_
  refine lv_bipush (v := 8) hx hb dX8_blurring_2 (by decide) ?_
  refine zc_i (va_runS (As := [.int n, .int 1, .int 8]) (rest := []) ⟨hx, hb, hml, hown, hg⟩ (k_X8_within l g ad pe ct n (1 : Int32) (8 : Int32) hI) (va_cwS 3 hg (z_gS mm_407 mm_408 mm_108 mm_409) rfl rfl rfl (by decide +kernel) ⟨Nat.le_of_ble_eq_true rfl, Nat.le_of_ble_eq_true rfl⟩) (zR.pre [.int n, .int 1, .int 8] hP hK hN) rfl rfl hl.1 rfl (lv_room (Nat.le_of_ble_eq_true rfl)) dX8_blurring_4 ⟨Nat.le_of_ble_eq_true rfl, Nat.le_of_ble_eq_true rfl⟩) (fun r1 hr1 => ?_)
  rcases hr1 with hr1 | hr1
  · skip
    obtain ⟨rfl, h2, h3⟩ := hr1
    have h2 : (1 : Int) ≤ n.toInt := h2
    have h3 : n.toInt ≤ (8 : Int) := h3
    refine lv_if_eq (tgt := 28) hx hb dX8_blurring_7 (by decide) (fun c4 => ?_) (fun c4 => ?_)
    · skip
      exact absurd c4 (by decide)
    · skip
      refine lv_iload_n hx hb dX8_blurring_10 rfl (lv_at hl 2 rfl) ?_
      refine zc_i (va_runS (As := [.int k]) (rest := []) ⟨hx, hb, hml, hown, hg⟩ (k_X8_isBar l g ad pe ct k hI) (va_cwS 1 hg (z_gS mm_772 mm_773 mm_108 mm_774) rfl rfl rfl (by decide +kernel) ⟨Nat.le_of_ble_eq_true rfl, Nat.le_of_ble_eq_true rfl⟩) (zR.pre [.int k] hP hK hN) rfl rfl hl.1 rfl (lv_room (Nat.le_of_ble_eq_true rfl)) dX8_blurring_11 ⟨Nat.le_of_ble_eq_true rfl, Nat.le_of_ble_eq_true rfl⟩) (fun r5 hr5 => ?_)
      rcases hr5 with hr5 | hr5
      · skip
        obtain ⟨rfl, h6, h7⟩ := hr5
        have h6 : 1 ≤ k.toInt := h6
        have h7 : k.toInt ≤ 16 := h7
        refine lv_if_eq (tgt := 28) hx hb dX8_blurring_14 (by decide) (fun c8 => ?_) (fun c8 => ?_)
        · skip
          exact absurd c8 (by decide)
        · skip
          refine lv_iload_n hx hb dX8_blurring_17 rfl (lv_at hl 3 rfl) ?_
          refine lv_iconst (v := 0) hx hb dX8_blurring_18 (by decide) ?_
          refine lv_sipush (v := 9999) hx hb dX8_blurring_19 (by decide) ?_
          refine zc_i (va_runS (As := [.int pr, .int 0, .int 9999]) (rest := []) ⟨hx, hb, hml, hown, hg⟩ (k_X8_within l g ad pe ct pr (0 : Int32) (9999 : Int32) hI) (va_cwS 3 hg (z_gS mm_407 mm_408 mm_108 mm_409) rfl rfl rfl (by decide +kernel) ⟨Nat.le_of_ble_eq_true rfl, Nat.le_of_ble_eq_true rfl⟩) (zR.pre [.int pr, .int 0, .int 9999] hP hK hN) rfl rfl hl.1 rfl (lv_room (Nat.le_of_ble_eq_true rfl)) dX8_blurring_22 ⟨Nat.le_of_ble_eq_true rfl, Nat.le_of_ble_eq_true rfl⟩) (fun r9 hr9 => ?_)
          rcases hr9 with hr9 | hr9
          · skip
            obtain ⟨rfl, h10, h11⟩ := hr9
            have h10 : (0 : Int) ≤ pr.toInt := h10
            have h11 : pr.toInt ≤ (9999 : Int) := h11
            refine lv_if_ne (tgt := 31) hx hb dX8_blurring_25 (by decide) (fun c12 => ?_) (fun c12 => ?_)
            · skip
              refine lv_iload hx hb dX8_blurring_31 (lv_at hl 4 rfl) ?_
              refine lv_iconst (v := (-1)) hx hb dX8_blurring_33 (by decide) ?_
              refine lv_iconst (v := 4) hx hb dX8_blurring_34 (by decide) ?_
              refine zc_i (va_runS (As := [.int wh, .int (-1), .int 4]) (rest := []) ⟨hx, hb, hml, hown, hg⟩ (k_X8_within l g ad pe ct wh (-1 : Int32) (4 : Int32) hI) (va_cwS 3 hg (z_gS mm_407 mm_408 mm_108 mm_409) rfl rfl rfl (by decide +kernel) ⟨Nat.le_of_ble_eq_true rfl, Nat.le_of_ble_eq_true rfl⟩) (zR.pre [.int wh, .int (-1), .int 4] hP hK hN) rfl rfl hl.1 rfl (lv_room (Nat.le_of_ble_eq_true rfl)) dX8_blurring_35 ⟨Nat.le_of_ble_eq_true rfl, Nat.le_of_ble_eq_true rfl⟩) (fun r13 hr13 => ?_)
              rcases hr13 with hr13 | hr13
              · skip
                obtain ⟨rfl, h14, h15⟩ := hr13
                have h14 : (-1 : Int) ≤ wh.toInt := h14
                have h15 : wh.toInt ≤ (4 : Int) := h15
                refine lv_if_eq (tgt := 52) hx hb dX8_blurring_38 (by decide) (fun c16 => ?_) (fun c16 => ?_)
                · skip
                  exact absurd c16 (by decide)
                · skip
                  refine lv_aload_n hx hb dX8_blurring_41 rfl (lv_at hl 0 rfl) ?_
                  obtain ⟨bk19, dr18, h20, h21, h22, hs17⟩ := a8_0 hI
                  refine va_get (D := g.1) (ci := 8) (v := .ref (ad 3)) (C := RX8) (T := TX8) (N := 13) hx hb hg inG8 hown hK hP 0 (zw_at (by omega) hs17) rfl 2 (by decide) (hg _ mm_362) (fun _ h9 => h9) rfl dX8_blurring_42 ?_
                  obtain ⟨len24, h25, h26, hs23⟩ := a8_3 hI
                  refine va_get (D := g.1) (ci := 7) (v := .int len24) (C := RX7) (T := TX7) (N := 2) hx hb hg inG7 hown hK hP 3 (zw_at (by omega) hs23) rfl 0 (by decide) (hg _ mm_137) (fun _ h9 => h9) rfl dX8_blurring_45 ?_
                  refine lv_iload_n hx hb dX8_blurring_48 rfl (lv_at hl 1 rfl) ?_
                  refine lv_icmp_ge (tgt := 55) hx hb dX8_blurring_49 (by decide) (fun c27 => ?_) (fun c27 => ?_)
                  · skip
                    have c27 : n.toInt ≤ len24.toInt := (z_le rfl rfl).mp c27
                    refine lv_aload_n hx hb dX8_blurring_55 rfl (lv_at hl 0 rfl) ?_
                    refine lv_iload_n hx hb dX8_blurring_56 rfl (lv_at hl 1 rfl) ?_
                    refine zc_i (va_runV (As := [.int n]) (rest := []) ⟨hx, hb, hml, hown, hg⟩ (k_X8_tellsPeople l g ad pe ct n hI) (cwV 1 hg (z_gV mm_548 mm_550 mm_16 mm_108 mm_551) rfl rfl rfl (by decide +kernel) ⟨Nat.le_of_ble_eq_true rfl, Nat.le_of_ble_eq_true rfl⟩) ⟨(zR.pre [.ref (ad 0), .int n] hP hK hN).1, va_recv hK hP (ci := 8) (q0 := 0) rfl (zw_at (by omega) hs17), (zR.pre [.ref (ad 0), .int n] hP hK hN).2⟩ rfl rfl hl.1 rfl (lv_room (Nat.le_of_ble_eq_true rfl)) dX8_blurring_57 ⟨Nat.le_of_ble_eq_true rfl, Nat.le_of_ble_eq_true rfl⟩) (fun r28 hr28 => ?_)
                    rcases hr28 with hr28 | hr28
                    · skip
                      obtain rfl := hr28
                      refine lv_istore (lv' := [(5, .int 1), (0, .ref (ad 0)), (1, .int n), (2, .int k), (3, .int pr), (4, .int wh)]) hx hb dX8_blurring_60 hl (by decide) rfl (fun ls hl => ?_)
                      refine lv_iload hx hb dX8_blurring_62 (lv_at hl 0 rfl) ?_
                      refine lv_if_eq (tgt := 82) hx hb dX8_blurring_64 (by decide) (fun c29 => ?_) (fun c29 => ?_)
                      · skip
                        exact absurd c29 (by decide)
                      · skip
                        refine lv_aload_n hx hb dX8_blurring_67 rfl (lv_at hl 1 rfl) ?_
                        refine lv_iload_n hx hb dX8_blurring_68 rfl (lv_at hl 2 rfl) ?_
                        have hFc := zw_free hD hS hA
                        refine va_callv (va_runV (As := [.int n]) (rest := []) ⟨hx, hb, hml, hown, hg⟩ (k_X8_prepareBlurs l g _ ad pe ct n hI) (cwV 1 hg (z_gV mm_853 mm_855 mm_42 mm_108 mm_856) rfl rfl rfl (by decide +kernel) ⟨Nat.le_of_ble_eq_true rfl, Nat.le_of_ble_eq_true rfl⟩) ⟨(zA.pre [.ref (ad 0), .int n] hP hK hD hN).1, va_recv hK hP (ci := 8) (q0 := 0) rfl (zw_at (by omega) hs17), (zA.pre [.ref (ad 0), .int n] hP hK hD hN).2⟩ rfl rfl hl.1 rfl (lv_room (Nat.le_of_ble_eq_true rfl)) dX8_blurring_69 ⟨Nat.le_of_ble_eq_true rfl, Nat.le_of_ble_eq_true rfl⟩) hS (fun q _ h => hFc q h) hFc (fun _ t H1 locs ht hvm hr30 hB hz1 hk1 hS => ?_)
                        obtain ⟨ct31, hP1, hD1, hI⟩ := hB
                        rw [ht] at hP1
                        have hD := hD1.weaken (fun _ _ _ h => hFc _ h)
                        generalize H1 = H at hP1 hS ⊢
                        have hP := hP1
                        refine W.widen (k := 0) (n := 0) (Nat.le_refl _) (Nat.le_refl _) ?_
                        refine lv_aload_n hx hb dX8_blurring_72 rfl (lv_at hl 1 rfl) ?_
                        obtain ⟨bk34, dr33, h35, h36, h37, hs32⟩ := a8_0 hI
                        refine va_get (D := g.1) (ci := 8) (v := .ref (ad 21)) (C := RX8) (T := TX8) (N := 13) hx hb hg inG8 hown hK hP 0 (zw_at (by omega) hs32) rfl 8 (by decide) (hg _ mm_368) (fun _ h9 => h9) rfl dX8_blurring_73 ?_
                        refine lv_iload_n hx hb dX8_blurring_76 rfl (lv_at hl 2 rfl) ?_
                        refine lv_iload_n hx hb dX8_blurring_77 rfl (lv_at hl 3 rfl) ?_
                        refine lv_iload_n hx hb dX8_blurring_78 rfl (lv_at hl 4 rfl) ?_
                        obtain ⟨lst39, lrw40, lct41, h42, h43, hs38⟩ := a8_21 hI
                        have hFc := zw_free hD hS hA
                        refine va_callv (va_runV (As := [.int n, .int k, .int pr]) (rest := []) ⟨hx, hb, hml, hown, hg⟩ (k_X1_find l g _ ad pe ct31 n k pr hI) (cwV 3 hg (z_gV mm_883 mm_884 mm_885 mm_113 mm_886) rfl rfl rfl (by decide +kernel) ⟨Nat.le_of_ble_eq_true rfl, Nat.le_of_ble_eq_true rfl⟩) ⟨(zA.pre [.ref (ad 21), .int n, .int k, .int pr] hP hK hD hN).1, va_recv hK hP (ci := 1) (q0 := 21) rfl (zw_at (by omega) hs38), (zA.pre [.ref (ad 21), .int n, .int k, .int pr] hP hK hD hN).2⟩ rfl rfl hl.1 rfl (lv_room (Nat.le_of_ble_eq_true rfl)) dX8_blurring_79 ⟨Nat.le_of_ble_eq_true rfl, Nat.le_of_ble_eq_true rfl⟩) hS (fun q _ h => hFc q h) hFc (fun _ t H1 locs ht hvm hr44 hB hz1 hk1 hS => ?_)
                        obtain ⟨ct45, hP1, hD1, hI⟩ := hB
                        rw [ht] at hP1
                        have hD := hD1.weaken (fun _ _ _ h => hFc _ h)
                        generalize H1 = H at hP1 hS ⊢
                        have hP := hP1
                        refine W.widen (k := 0) (n := 0) (Nat.le_refl _) (Nat.le_refl _) ?_
                        refine lv_aload_n hx hb dX8_blurring_82 rfl (lv_at hl 1 rfl) ?_
                        obtain ⟨bk48, dr47, h49, h50, h51, hs46⟩ := a8_0 hI
                        refine va_get (D := g.1) (ci := 8) (v := .ref (ad 3)) (C := RX8) (T := TX8) (N := 13) hx hb hg inG8 hown hK hP 0 (zw_at (by omega) hs46) rfl 2 (by decide) (hg _ mm_362) (fun _ h9 => h9) rfl dX8_blurring_83 ?_
                        obtain ⟨len53, h54, h55, hs52⟩ := a8_3 hI
                        have hFc := zw_free hD hS hA
                        refine va_callv (va_runV (As := []) (rest := []) ⟨hx, hb, hml, hown, hg⟩ (k_X7_clear l g _ ad pe ct45  hI) (cwV 0 hg (z_gV mm_575 mm_576 mm_577 mm_109 mm_578) rfl rfl rfl (by decide +kernel) ⟨Nat.le_of_ble_eq_true rfl, Nat.le_of_ble_eq_true rfl⟩) ⟨(zA.pre [.ref (ad 3)] hP hK hD hN).1, va_recv hK hP (ci := 7) (q0 := 3) rfl (zw_at (by omega) hs52), (zA.pre [.ref (ad 3)] hP hK hD hN).2⟩ rfl rfl hl.1 rfl (lv_room (Nat.le_of_ble_eq_true rfl)) dX8_blurring_86 ⟨Nat.le_of_ble_eq_true rfl, Nat.le_of_ble_eq_true rfl⟩) hS (fun q _ h => hFc q h) hFc (fun _ t H1 locs ht hvm hr56 hB hz1 hk1 hS => ?_)
                        obtain ⟨ct57, hP1, hD1, hI, hk58⟩ := hB
                        rw [ht] at hP1
                        have hD := hD1.weaken (fun _ _ _ h => hFc _ h)
                        generalize H1 = H at hP1 hS ⊢
                        have hP := hP1
                        refine W.widen (k := 0) (n := 0) (Nat.le_refl _) (Nat.le_refl _) ?_
                        have hs59 : ct57 0 = .inr (8, [.ref (ad 1), .ref (ad 2), .ref (ad 3), .ref (ad 5), .ref (ad 6), .ref (ad 9), .ref (ad 10), .ref (ad 17), .ref (ad 21), .ref (ad 34), .ref (ad (99 + 3 * dr47)), .int pe, .int bk48]) := hk58.trans hs46
                        refine lv_iload hx hb dX8_blurring_89 (lv_at hl 0 rfl) ?_
                        refine lv_if_ne (tgt := 97) hx hb dX8_blurring_91 (by decide) (fun c60 => ?_) (fun c60 => ?_)
                        · skip
                          refine lv_iload hx hb dX8_blurring_97 (lv_at hl 5 rfl) ?_
                          refine lv_iconst (v := (-1)) hx hb dX8_blurring_99 (by decide) ?_
                          refine lv_icmp_ne (tgt := 111) hx hb dX8_blurring_100 (by decide) (fun c61 => ?_) (fun c61 => ?_)
                          · skip
                            have c61 : ¬ (wh.toInt = (-1)) := fun q => c61 ((z_eq rfl (by decide : ((-1) : Int32).toInt = (-1))).mpr q)
                            refine lv_iload hx hb dX8_blurring_111 (lv_at hl 5 rfl) ?_
                            refine lv_iconst (v := 4) hx hb dX8_blurring_113 (by decide) ?_
                            refine lv_icmp_ne (tgt := 127) hx hb dX8_blurring_114 (by decide) (fun c62 => ?_) (fun c62 => ?_)
                            · skip
                              have c62 : ¬ (wh.toInt = 4) := fun q => c62 ((z_eq rfl (by decide : (4 : Int32).toInt = 4)).mpr q)
                              refine lv_aload_n hx hb dX8_blurring_127 rfl (lv_at hl 1 rfl) ?_
                              refine va_get (D := g.1) (ci := 8) (v := .ref (ad 21)) (C := RX8) (T := TX8) (N := 13) hx hb hg inG8 hown hK hP 0 (zw_at (by omega) hs59) rfl 8 (by decide) (hg _ mm_368) (fun _ h9 => h9) rfl dX8_blurring_128 ?_
                              obtain ⟨lst64, lrw65, lct66, h67, h68, hs63⟩ := a8_21 hI
                              refine va_get (D := g.1) (ci := 1) (v := .int lrw65) (C := RX1) (T := TX1) (N := 7) hx hb hg inG1 hown hK hP 21 (zw_at (by omega) hs63) rfl 1 (by decide) (hg _ mm_244) (fun _ h9 => h9) rfl dX8_blurring_131 ?_
                              refine lv_iload hx hb dX8_blurring_134 (lv_at hl 5 rfl) ?_
                              refine zc_i (va_runS (As := [.int lrw65, .int wh]) (rest := []) ⟨hx, hb, hml, hown, hg⟩ (k_X1_level l g ad pe ct57 lrw65 wh (by first | omega | decide) hI) (va_cwS 2 hg (z_gS mm_904 mm_888 mm_113 mm_889) rfl rfl rfl (by decide +kernel) ⟨Nat.le_of_ble_eq_true rfl, Nat.le_of_ble_eq_true rfl⟩) (zR.pre [.int lrw65, .int wh] hP hK hN) rfl rfl hl.1 rfl (lv_room (Nat.le_of_ble_eq_true rfl)) dX8_blurring_136 ⟨Nat.le_of_ble_eq_true rfl, Nat.le_of_ble_eq_true rfl⟩) (fun r69 hr69 => ?_)
                              obtain ⟨hr69_0, hr69_1⟩ := hr69
                              have hr69_0 : 0 ≤ r69.toInt := hr69_0
                              have hr69_1 : r69.toInt ≤ 4 := hr69_1
                              exact W.iret (v := r69) hx hb hr (fun t ht hW => ⟨⟨r69, (), rfl, trivial, ct57, by rw [ht]; exact hP, hD, hI⟩, hS.F ht⟩) hS.2.2 dX8_blurring_139
                            · skip
                              have c62 : wh.toInt = 4 := (z_eq rfl (by decide : (4 : Int32).toInt = 4)).mp c62
                              refine lv_aload_n hx hb dX8_blurring_117 rfl (lv_at hl 1 rfl) ?_
                              refine va_get (D := g.1) (ci := 8) (v := .ref (ad 21)) (C := RX8) (T := TX8) (N := 13) hx hb hg inG8 hown hK hP 0 (zw_at (by omega) hs59) rfl 8 (by decide) (hg _ mm_368) (fun _ h9 => h9) rfl dX8_blurring_118 ?_
                              obtain ⟨lst71, lrw72, lct73, h74, h75, hs70⟩ := a8_21 hI
                              refine va_get (D := g.1) (ci := 1) (v := .int lct73) (C := RX1) (T := TX1) (N := 7) hx hb hg inG1 hown hK hP 21 (zw_at (by omega) hs70) rfl 2 (by decide) (hg _ mm_246) (fun _ h9 => h9) rfl dX8_blurring_121 ?_
                              refine lv_goto (tgt := 139) hx hb dX8_blurring_124 (by decide) ?_
                              exact W.iret (v := lct73) hx hb hr (fun t ht hW => ⟨⟨lct73, (), rfl, trivial, ct57, by rw [ht]; exact hP, hD, hI⟩, hS.F ht⟩) hS.2.2 dX8_blurring_139
                          · skip
                            have c61 : wh.toInt = (-1) := (z_eq rfl (by decide : ((-1) : Int32).toInt = (-1))).mp c61
                            refine lv_aload_n hx hb dX8_blurring_103 rfl (lv_at hl 1 rfl) ?_
                            refine va_get (D := g.1) (ci := 8) (v := .ref (ad 21)) (C := RX8) (T := TX8) (N := 13) hx hb hg inG8 hown hK hP 0 (zw_at (by omega) hs59) rfl 8 (by decide) (hg _ mm_368) (fun _ h9 => h9) rfl dX8_blurring_104 ?_
                            obtain ⟨lst77, lrw78, lct79, h80, h81, hs76⟩ := a8_21 hI
                            refine va_get (D := g.1) (ci := 1) (v := .int lst77) (C := RX1) (T := TX1) (N := 7) hx hb hg inG1 hown hK hP 21 (zw_at (by omega) hs76) rfl 0 (by decide) (hg _ mm_242) (fun _ h9 => h9) rfl dX8_blurring_107 ?_
                            exact W.iret (v := lst77) hx hb hr (fun t ht hW => ⟨⟨lst77, (), rfl, trivial, ct57, by rw [ht]; exact hP, hD, hI⟩, hS.F ht⟩) hS.2.2 dX8_blurring_110
                        · skip
                          exact absurd c60 (by decide)
                    · skip
                      obtain rfl := hr28
                      refine lv_istore (lv' := [(5, .int 0), (0, .ref (ad 0)), (1, .int n), (2, .int k), (3, .int pr), (4, .int wh)]) hx hb dX8_blurring_60 hl (by decide) rfl (fun ls hl => ?_)
                      refine lv_iload hx hb dX8_blurring_62 (lv_at hl 0 rfl) ?_
                      refine lv_if_eq (tgt := 82) hx hb dX8_blurring_64 (by decide) (fun c82 => ?_) (fun c82 => ?_)
                      · skip
                        refine lv_aload_n hx hb dX8_blurring_82 rfl (lv_at hl 1 rfl) ?_
                        refine va_get (D := g.1) (ci := 8) (v := .ref (ad 3)) (C := RX8) (T := TX8) (N := 13) hx hb hg inG8 hown hK hP 0 (zw_at (by omega) hs17) rfl 2 (by decide) (hg _ mm_362) (fun _ h9 => h9) rfl dX8_blurring_83 ?_
                        have hFc := zw_free hD hS hA
                        refine va_callv (va_runV (As := []) (rest := []) ⟨hx, hb, hml, hown, hg⟩ (k_X7_clear l g _ ad pe ct  hI) (cwV 0 hg (z_gV mm_575 mm_576 mm_577 mm_109 mm_578) rfl rfl rfl (by decide +kernel) ⟨Nat.le_of_ble_eq_true rfl, Nat.le_of_ble_eq_true rfl⟩) ⟨(zA.pre [.ref (ad 3)] hP hK hD hN).1, va_recv hK hP (ci := 7) (q0 := 3) rfl (zw_at (by omega) hs23), (zA.pre [.ref (ad 3)] hP hK hD hN).2⟩ rfl rfl hl.1 rfl (lv_room (Nat.le_of_ble_eq_true rfl)) dX8_blurring_86 ⟨Nat.le_of_ble_eq_true rfl, Nat.le_of_ble_eq_true rfl⟩) hS (fun q _ h => hFc q h) hFc (fun _ t H1 locs ht hvm hr83 hB hz1 hk1 hS => ?_)
                        obtain ⟨ct84, hP1, hD1, hI, hk85⟩ := hB
                        rw [ht] at hP1
                        have hD := hD1.weaken (fun _ _ _ h => hFc _ h)
                        generalize H1 = H at hP1 hS ⊢
                        have hP := hP1
                        refine W.widen (k := 0) (n := 0) (Nat.le_refl _) (Nat.le_refl _) ?_
                        have hs86 : ct84 0 = .inr (8, [.ref (ad 1), .ref (ad 2), .ref (ad 3), .ref (ad 5), .ref (ad 6), .ref (ad 9), .ref (ad 10), .ref (ad 17), .ref (ad 21), .ref (ad 34), .ref (ad (99 + 3 * dr18)), .int pe, .int bk19]) := hk85.trans hs17
                        refine lv_iload hx hb dX8_blurring_89 (lv_at hl 0 rfl) ?_
                        refine lv_if_ne (tgt := 97) hx hb dX8_blurring_91 (by decide) (fun c87 => ?_) (fun c87 => ?_)
                        · skip
                          exact absurd c87 (by decide)
                        · skip
                          refine lv_bipush (v := (-2)) hx hb dX8_blurring_94 (by decide) ?_
                          have q88 : ((-2) : Int32).toInt = -2 := by decide
                          exact W.iret (v := (-2)) hx hb hr (fun t ht hW => ⟨⟨(-2), (), rfl, trivial, ct84, by rw [ht]; exact hP, hD, hI⟩, hS.F ht⟩) hS.2.2 dX8_blurring_96
                      · skip
                        exact absurd c82 (by decide)
                  · skip
                    have c27 : ¬ (n.toInt ≤ len24.toInt) := fun q => c27 ((z_le rfl rfl).mpr q)
                    refine lv_bipush (v := (-3)) hx hb dX8_blurring_52 (by decide) ?_
                    have q89 : ((-3) : Int32).toInt = -3 := by decide
                    exact W.iret (v := (-3)) hx hb hr (fun t ht hW => ⟨⟨(-3), (), rfl, trivial, ct, by rw [ht]; exact hP, hD, hI⟩, hS.F ht⟩) hS.2.2 dX8_blurring_54
              · skip
                obtain ⟨rfl, h90⟩ := hr13
                have h90 : ¬ ((-1 : Int) ≤ wh.toInt ∧ wh.toInt ≤ (4 : Int)) := h90
                refine lv_if_eq (tgt := 52) hx hb dX8_blurring_38 (by decide) (fun c91 => ?_) (fun c91 => ?_)
                · skip
                  refine lv_bipush (v := (-3)) hx hb dX8_blurring_52 (by decide) ?_
                  have q92 : ((-3) : Int32).toInt = -3 := by decide
                  exact W.iret (v := (-3)) hx hb hr (fun t ht hW => ⟨⟨(-3), (), rfl, trivial, ct, by rw [ht]; exact hP, hD, hI⟩, hS.F ht⟩) hS.2.2 dX8_blurring_54
                · skip
                  exact absurd c91 (by decide)
            · skip
              exact absurd c12 (by decide)
          · skip
            obtain ⟨rfl, h93⟩ := hr9
            have h93 : ¬ ((0 : Int) ≤ pr.toInt ∧ pr.toInt ≤ (9999 : Int)) := h93
            refine lv_if_ne (tgt := 31) hx hb dX8_blurring_25 (by decide) (fun c94 => ?_) (fun c94 => ?_)
            · skip
              exact absurd c94 (by decide)
            · skip
              refine lv_bipush (v := (-3)) hx hb dX8_blurring_28 (by decide) ?_
              have q95 : ((-3) : Int32).toInt = -3 := by decide
              exact W.iret (v := (-3)) hx hb hr (fun t ht hW => ⟨⟨(-3), (), rfl, trivial, ct, by rw [ht]; exact hP, hD, hI⟩, hS.F ht⟩) hS.2.2 dX8_blurring_30
      · skip
        obtain ⟨rfl, h96⟩ := hr5
        have h96 : ¬ (1 ≤ k.toInt ∧ k.toInt ≤ 16) := h96
        refine lv_if_eq (tgt := 28) hx hb dX8_blurring_14 (by decide) (fun c97 => ?_) (fun c97 => ?_)
        · skip
          refine lv_bipush (v := (-3)) hx hb dX8_blurring_28 (by decide) ?_
          have q98 : ((-3) : Int32).toInt = -3 := by decide
          exact W.iret (v := (-3)) hx hb hr (fun t ht hW => ⟨⟨(-3), (), rfl, trivial, ct, by rw [ht]; exact hP, hD, hI⟩, hS.F ht⟩) hS.2.2 dX8_blurring_30
        · skip
          exact absurd c97 (by decide)
  · skip
    obtain ⟨rfl, h99⟩ := hr1
    have h99 : ¬ ((1 : Int) ≤ n.toInt ∧ n.toInt ≤ (8 : Int)) := h99
    refine lv_if_eq (tgt := 28) hx hb dX8_blurring_7 (by decide) (fun c100 => ?_) (fun c100 => ?_)
    · skip
      refine lv_bipush (v := (-3)) hx hb dX8_blurring_28 (by decide) ?_
      have q101 : ((-3) : Int32).toInt = -3 := by decide
      exact W.iret (v := (-3)) hx hb hr (fun t ht hW => ⟨⟨(-3), (), rfl, trivial, ct, by rw [ht]; exact hP, hD, hI⟩, hS.F ht⟩) hS.2.2 dX8_blurring_30
    · skip
      exact absurd c100 (by decide)

set_option maxHeartbeats 4000000 in
set_option maxRecDepth 100000 in
theorem k_X8_safeIfSwapped (l : Launch) (g : zG) (sz : Nat) (ad : Nat → Nat) (pe : Int32) (ct : Nat → va_E) (b : Int32) (k : Int32) (i : Int32) (j : Int32) (c0 : Int32) (hl_b : 0 ≤ b.toInt ∧ b.toInt ≤ 3) (hI : Inv8 g ad pe ct) : Met l yX8_safeIfSwapped (zW yX8_safeIfSwapped cX8_safeIfSwapped 7 (some .int)) ({ frames := 4, cells := 0, slots := 0, locals := 95 }) (va_Pc [.ref (ad 0), .int b, .int k, .int i, .int j, .int c0] (zA g (zw 126 ad ct) sz)) (va_Qi (fun (r : Int32) (_ : Unit) => (True)) (fun _ t => ∃ ct2 : Nat → va_E, zP g (zw 126 ad ct2) t.heap ∧ va_D (va_A (zw 126 ad ct) sz) (zw 126 ad ct2) ∧ Inv8 g ad pe ct2) (va_A (zw 126 ad ct) sz)) 0 0 (va_A (zw 126 ad ct) sz) := by
  refine Met.ofW (cc := cX8_safeIfSwapped) (maxL := 7) (ret := (some .int)) (by decide) rfl ?_
  intro p e s m args below meth c s₁ B hml hv
  obtain ⟨rfl, hsz, hP, hK, hD0, hN⟩ := hv
  have hx := B.exec
  have hb := B.bytes
  have hr := B.returns
  have hg := zW.law (atoms_spec (ws := (zW yX8_safeIfSwapped cX8_safeIfSwapped 7 (some .int))) B.pre)
  have hown : s.vm.findClass RX8 = some m.cls := findClass_of_methodNamed B.named
  have hlocks := B.notSynchronized
  have hpe0 := hI.1
  subst hsz
  have hD := hD0.self (sz := s.heap.size)
  generalize hAe : va_A (zw 126 ad ct) s.heap.size = A at hD ⊢
  have hA : ∀ q : Nat, s.heap.size ≤ q → A q := fun q h => by rw [← hAe]; exact Or.inr h
  have hS : va_S A s.heap s.heap [] := va_S.rf
  have hl := lv_entry ([.ref (ad 0), .int b, .int k, .int i, .int j, .int c0]) (n := 7) (Nat.le_of_ble_eq_true rfl)
  rw [lg_entry_eq]
  generalize (lg_sl ([.ref (ad 0), .int b, .int k, .int i, .int j, .int c0]) ++ List.replicate (7 - (lg_sl ([.ref (ad 0), .int b, .int k, .int i, .int j, .int c0])).length) Slot.unset).toArray = ls at hl ⊢
  have hl : lv_has ls 7 [(0, .ref (ad 0)), (1, .int b), (2, .int k), (3, .int i), (4, .int j), (5, .int c0)] := hl
  have rg_k := z_rng k
  have rg_i := z_rng i
  have rg_j := z_rng j
  have rg_c0 := z_rng c0
  refine lv_aload_n hx hb dX8_safeIfSwapped_0 rfl (lv_at hl 0 rfl) ?_
  refine lv_iload_n hx hb dX8_safeIfSwapped_1 rfl (lv_at hl 1 rfl) ?_
  refine lv_iload_n hx hb dX8_safeIfSwapped_2 rfl (lv_at hl 3 rfl) ?_
  refine lv_iload hx hb dX8_safeIfSwapped_3 (lv_at hl 4 rfl) ?_
  refine lv_iload hx hb dX8_safeIfSwapped_5 (lv_at hl 5 rfl) ?_
  obtain ⟨bk3, dr2, h4, h5, h6, hs1⟩ := a8_0 hI
  have hFc := zw_free hD hS hA
  refine va_calli (va_runV (As := [.int b, .int i, .int j, .int c0]) (rest := []) ⟨hx, hb, hml, hown, hg⟩ (k_X8_swap l g _ ad pe ct b i j c0 hI) (cwV 4 hg (z_gV mm_913 mm_596 mm_597 mm_108 mm_598) rfl rfl rfl (by decide +kernel) ⟨Nat.le_of_ble_eq_true rfl, Nat.le_of_ble_eq_true rfl⟩) ⟨(zA.pre [.ref (ad 0), .int b, .int i, .int j, .int c0] hP hK hD hN).1, va_recv hK hP (ci := 8) (q0 := 0) rfl (zw_at (by omega) hs1), (zA.pre [.ref (ad 0), .int b, .int i, .int j, .int c0] hP hK hD hN).2⟩ rfl rfl hl.1 rfl (lv_room (Nat.le_of_ble_eq_true rfl)) dX8_safeIfSwapped_7 ⟨Nat.le_of_ble_eq_true rfl, Nat.le_of_ble_eq_true rfl⟩) hS (fun q _ h => hFc q h) hFc (fun r7 _ t H1 locs ht hvm hr7 hB hz1 hk1 hS => ?_)
  obtain ⟨ct8, hP1, hD1, hI⟩ := hB
  rw [ht] at hP1
  have hD := hD1.weaken (fun _ _ _ h => hFc _ h)
  generalize H1 = H at hP1 hS ⊢
  have hP := hP1
  refine W.widen (k := 0) (n := 0) (Nat.le_refl _) (Nat.le_refl _) ?_
  rcases hr7 with hr7 | hr7
  · skip
    obtain rfl := hr7
    refine lv_if_ne (tgt := 15) hx hb dX8_safeIfSwapped_10 (by decide) (fun c9 => ?_) (fun c9 => ?_)
    · skip
      refine lv_aload_n hx hb dX8_safeIfSwapped_15 rfl (lv_at hl 0 rfl) ?_
      refine lv_iload_n hx hb dX8_safeIfSwapped_16 rfl (lv_at hl 1 rfl) ?_
      refine lv_iconst (v := 0) hx hb dX8_safeIfSwapped_17 (by decide) ?_
      obtain ⟨bk12, dr11, h13, h14, h15, hs10⟩ := a8_0 hI
      have hFc := zw_free hD hS hA
      refine va_callv (va_runV (As := [.int b, .int 0]) (rest := []) ⟨hx, hb, hml, hown, hg⟩ (k_X8_fitLaid l g _ ad pe ct8 b (0 : Int32) (by first | omega | decide) hI) (cwV 2 hg (z_gV mm_675 mm_677 mm_25 mm_108 mm_678) rfl rfl rfl (by decide +kernel) ⟨Nat.le_of_ble_eq_true rfl, Nat.le_of_ble_eq_true rfl⟩) ⟨(zA.pre [.ref (ad 0), .int b, .int 0] hP hK hD hN).1, va_recv hK hP (ci := 8) (q0 := 0) rfl (zw_at (by omega) hs10), (zA.pre [.ref (ad 0), .int b, .int 0] hP hK hD hN).2⟩ rfl rfl hl.1 rfl (lv_room (Nat.le_of_ble_eq_true rfl)) dX8_safeIfSwapped_18 ⟨Nat.le_of_ble_eq_true rfl, Nat.le_of_ble_eq_true rfl⟩) hS (fun q _ h => hFc q h) hFc (fun _ t H1 locs ht hvm hr16 hB hz1 hk1 hS => ?_)
      obtain ⟨ct17, hP1, hD1, hI⟩ := hB
      rw [ht] at hP1
      have hD := hD1.weaken (fun _ _ _ h => hFc _ h)
      generalize H1 = H at hP1 hS ⊢
      have hP := hP1
      refine W.widen (k := 0) (n := 0) (Nat.le_refl _) (Nat.le_refl _) ?_
      refine lv_aload_n hx hb dX8_safeIfSwapped_21 rfl (lv_at hl 0 rfl) ?_
      refine lv_iload_n hx hb dX8_safeIfSwapped_22 rfl (lv_at hl 1 rfl) ?_
      refine lv_iload_n hx hb dX8_safeIfSwapped_23 rfl (lv_at hl 2 rfl) ?_
      obtain ⟨bk20, dr19, h21, h22, h23, hs18⟩ := a8_0 hI
      have hFc := zw_free hD hS hA
      refine va_calli (va_runV (As := [.int b, .int k]) (rest := []) ⟨hx, hb, hml, hown, hg⟩ (k_X8_safeLines l g _ ad pe ct17 b k (by first | omega | decide) hI) (cwV 2 hg (z_gV mm_775 mm_777 mm_31 mm_108 mm_778) rfl rfl rfl (by decide +kernel) ⟨Nat.le_of_ble_eq_true rfl, Nat.le_of_ble_eq_true rfl⟩) ⟨(zA.pre [.ref (ad 0), .int b, .int k] hP hK hD hN).1, va_recv hK hP (ci := 8) (q0 := 0) rfl (zw_at (by omega) hs18), (zA.pre [.ref (ad 0), .int b, .int k] hP hK hD hN).2⟩ rfl rfl hl.1 rfl (lv_room (Nat.le_of_ble_eq_true rfl)) dX8_safeIfSwapped_24 ⟨Nat.le_of_ble_eq_true rfl, Nat.le_of_ble_eq_true rfl⟩) hS (fun q _ h => hFc q h) hFc (fun r24 _ t H1 locs ht hvm hr24 hB hz1 hk1 hS => ?_)
      obtain ⟨ct25, hP1, hD1, hI⟩ := hB
      rw [ht] at hP1
      have hD := hD1.weaken (fun _ _ _ h => hFc _ h)
      generalize H1 = H at hP1 hS ⊢
      have hP := hP1
      refine W.widen (k := 0) (n := 0) (Nat.le_refl _) (Nat.le_refl _) ?_
      refine zc_i (va_runS (As := [.int r24]) (rest := []) ⟨hx, hb, hml, hown, hg⟩ (k_J6_bitCount_0f7a4 l g ad pe ct25 r24 hI) (va_cwS 1 hg (z_gS mm_734 mm_729 mm_119 mm_730) rfl rfl rfl (by decide +kernel) ⟨Nat.le_of_ble_eq_true rfl, Nat.le_of_ble_eq_true rfl⟩) (zR.pre [.int r24] hP hK hN) rfl rfl hl.1 rfl (lv_room (Nat.le_of_ble_eq_true rfl)) dX8_safeIfSwapped_27 ⟨Nat.le_of_ble_eq_true rfl, Nat.le_of_ble_eq_true rfl⟩) (fun r26 hr26 => ?_)
      obtain ⟨hr26_0, hr26_1⟩ := hr26
      have hr26_0 : 0 ≤ r26.toInt := hr26_0
      have hr26_1 : r26.toInt ≤ 63 := hr26_1
      refine lv_istore (lv' := [(6, .int r26), (0, .ref (ad 0)), (1, .int b), (2, .int k), (3, .int i), (4, .int j), (5, .int c0)]) hx hb dX8_safeIfSwapped_30 hl (by decide) rfl (fun ls hl => ?_)
      refine lv_aload_n hx hb dX8_safeIfSwapped_32 rfl (lv_at hl 1 rfl) ?_
      obtain ⟨bk29, dr28, h30, h31, h32, hs27⟩ := a8_0 hI
      refine va_get (D := g.1) (ci := 8) (v := .ref (ad 5)) (C := RX8) (T := TX8) (N := 13) hx hb hg inG8 hown hK hP 0 (zw_at (by omega) hs27) rfl 3 (by decide) (hg _ mm_363) (fun _ h9 => h9) rfl dX8_safeIfSwapped_33 ?_
      refine lv_iload_n hx hb dX8_safeIfSwapped_36 rfl (lv_at hl 2 rfl) ?_
      have hs33 := a8_5 hI
      refine va_aldq hx hb hK hP 5 5 (zw_at (by omega) hs33) rfl (z_in rfl (by omega) (by omega)) dX8_safeIfSwapped_37 ?_
      rw [zF5_at (x := b) (by omega) (by omega)]
      refine lv_iload_n hx hb dX8_safeIfSwapped_38 rfl (lv_at hl 4 rfl) ?_
      refine lv_iload hx hb dX8_safeIfSwapped_39 (lv_at hl 5 rfl) ?_
      refine lv_iload hx hb dX8_safeIfSwapped_41 (lv_at hl 6 rfl) ?_
      obtain ⟨lns35, liv36, shw37, h38, h39, h40, h41, hz42, hs34⟩ := a8_40 (kc := (0 + 55 + 11 * b.toInt.toNat)) (by omega) hI
      have bhz42 := z_b01 hz42
      have hFc := zw_free hD hS hA
      refine va_callv (va_runV (As := [.int i, .int j, .int c0]) (rest := []) ⟨hx, hb, hml, hown, hg⟩ (k_X2_exchange l g _ ad pe ct25 (0 + 55 + 11 * b.toInt.toNat) i j c0 (by omega) hI) (cwV 3 hg (z_gV mm_603 mm_604 mm_605 mm_116 mm_606) rfl rfl rfl (by decide +kernel) ⟨Nat.le_of_ble_eq_true rfl, Nat.le_of_ble_eq_true rfl⟩) ⟨(zA.pre [.ref (ad (0 + 55 + 11 * b.toInt.toNat)), .int i, .int j, .int c0] hP hK hD hN).1, va_recv hK hP (ci := 2) (q0 := (0 + 55 + 11 * b.toInt.toNat)) rfl (zw_at (by omega) hs34), (zA.pre [.ref (ad (0 + 55 + 11 * b.toInt.toNat)), .int i, .int j, .int c0] hP hK hD hN).2⟩ rfl rfl hl.1 rfl (lv_room (Nat.le_of_ble_eq_true rfl)) dX8_safeIfSwapped_43 ⟨Nat.le_of_ble_eq_true rfl, Nat.le_of_ble_eq_true rfl⟩) hS (fun q _ h => hFc q h) hFc (fun _ t H1 locs ht hvm hr43 hB hz1 hk1 hS => ?_)
      obtain ⟨ct44, hP1, hD1, hI⟩ := hB
      rw [ht] at hP1
      have hD := hD1.weaken (fun _ _ _ h => hFc _ h)
      generalize H1 = H at hP1 hS ⊢
      have hP := hP1
      refine W.widen (k := 0) (n := 0) (Nat.le_refl _) (Nat.le_refl _) ?_
      refine lv_iload hx hb dX8_safeIfSwapped_46 (lv_at hl 0 rfl) ?_
      exact W.iret (v := r26) hx hb hr (fun t ht hW => ⟨⟨r26, (), rfl, trivial, ct44, by rw [ht]; exact hP, hD, hI⟩, hS.F ht⟩) hS.2.2 dX8_safeIfSwapped_48
    · skip
      exact absurd c9 (by decide)
  · skip
    obtain rfl := hr7
    refine lv_if_ne (tgt := 15) hx hb dX8_safeIfSwapped_10 (by decide) (fun c45 => ?_) (fun c45 => ?_)
    · skip
      exact absurd c45 (by decide)
    · skip
      refine lv_iconst (v := (-1)) hx hb dX8_safeIfSwapped_13 (by decide) ?_
      have q46 : ((-1) : Int32).toInt = -1 := by decide
      exact W.iret (v := (-1)) hx hb hr (fun t ht hW => ⟨⟨(-1), (), rfl, trivial, ct8, by rw [ht]; exact hP, hD, hI⟩, hS.F ht⟩) hS.2.2 dX8_safeIfSwapped_14

set_option maxHeartbeats 4000000 in
set_option maxRecDepth 100000 in
theorem k_X8_bestSwap (l : Launch) (g : zG) (sz : Nat) (ad : Nat → Nat) (pe : Int32) (ct : Nat → va_E) (b : Int32) (k : Int32) (wh : Int32) (hI : Inv8 g ad pe ct) : Met l yX8_bestSwap (zW yX8_bestSwap cX8_bestSwap 10 (some .int)) ({ frames := 5, cells := 0, slots := 0, locals := 121 }) (va_Pc [.ref (ad 0), .int b, .int k, .int wh] (zA g (zw 126 ad ct) sz)) (va_Qi (fun (r : Int32) (_ : Unit) => (True)) (fun _ t => ∃ ct2 : Nat → va_E, zP g (zw 126 ad ct2) t.heap ∧ va_D (va_A (zw 126 ad ct) sz) (zw 126 ad ct2) ∧ Inv8 g ad pe ct2) (va_A (zw 126 ad ct) sz)) 0 0 (va_A (zw 126 ad ct) sz) := by
  refine Met.ofW (cc := cX8_bestSwap) (maxL := 10) (ret := (some .int)) (by decide) rfl ?_
  intro p e s m args below meth c s₁ B hml hv
  obtain ⟨rfl, hsz, hP, hK, hD0, hN⟩ := hv
  have hx := B.exec
  have hb := B.bytes
  have hr := B.returns
  have hg := zW.law (atoms_spec (ws := (zW yX8_bestSwap cX8_bestSwap 10 (some .int))) B.pre)
  have hown : s.vm.findClass RX8 = some m.cls := findClass_of_methodNamed B.named
  have hlocks := B.notSynchronized
  have hpe0 := hI.1
  subst hsz
  have hD := hD0.self (sz := s.heap.size)
  generalize hAe : va_A (zw 126 ad ct) s.heap.size = A at hD ⊢
  have hA : ∀ q : Nat, s.heap.size ≤ q → A q := fun q h => by rw [← hAe]; exact Or.inr h
  have hS : va_S A s.heap s.heap [] := va_S.rf
  have hl := lv_entry ([.ref (ad 0), .int b, .int k, .int wh]) (n := 10) (Nat.le_of_ble_eq_true rfl)
  rw [lg_entry_eq]
  generalize (lg_sl ([.ref (ad 0), .int b, .int k, .int wh]) ++ List.replicate (10 - (lg_sl ([.ref (ad 0), .int b, .int k, .int wh])).length) Slot.unset).toArray = ls at hl ⊢
  have hl : lv_has ls 10 [(0, .ref (ad 0)), (1, .int b), (2, .int k), (3, .int wh)] := hl
  have rg_b := z_rng b
  have rg_k := z_rng k
  have rg_wh := z_rng wh
  refine lv_aload_n hx hb dX8_bestSwap_0 rfl (lv_at hl 0 rfl) ?_
  refine lv_iload_n hx hb dX8_bestSwap_1 rfl (lv_at hl 1 rfl) ?_
  obtain ⟨bk3, dr2, h4, h5, h6, hs1⟩ := a8_0 hI
  refine zc_i (va_runV (As := [.int b]) (rest := []) ⟨hx, hb, hml, hown, hg⟩ (k_X8_isBook l g ad pe ct b hI) (cwV 1 hg (z_gV mm_591 mm_593 mm_20 mm_108 mm_594) rfl rfl rfl (by decide +kernel) ⟨Nat.le_of_ble_eq_true rfl, Nat.le_of_ble_eq_true rfl⟩) ⟨(zR.pre [.ref (ad 0), .int b] hP hK hN).1, va_recv hK hP (ci := 8) (q0 := 0) rfl (zw_at (by omega) hs1), (zR.pre [.ref (ad 0), .int b] hP hK hN).2⟩ rfl rfl hl.1 rfl (lv_room (Nat.le_of_ble_eq_true rfl)) dX8_bestSwap_2 ⟨Nat.le_of_ble_eq_true rfl, Nat.le_of_ble_eq_true rfl⟩) (fun r7 hr7 => ?_)
  rcases hr7 with hr7 | hr7
  · skip
    obtain ⟨rfl, h8, h9⟩ := hr7
    have h8 : 0 ≤ b.toInt := h8
    have h9 : b.toInt ≤ 3 := h9
    refine lv_if_eq (tgt := 24) hx hb dX8_bestSwap_5 (by decide) (fun c10 => ?_) (fun c10 => ?_)
    · skip
      exact absurd c10 (by decide)
    · skip
      refine lv_iload_n hx hb dX8_bestSwap_8 rfl (lv_at hl 2 rfl) ?_
      refine zc_i (va_runS (As := [.int k]) (rest := []) ⟨hx, hb, hml, hown, hg⟩ (k_X8_isBar l g ad pe ct k hI) (va_cwS 1 hg (z_gS mm_772 mm_773 mm_108 mm_774) rfl rfl rfl (by decide +kernel) ⟨Nat.le_of_ble_eq_true rfl, Nat.le_of_ble_eq_true rfl⟩) (zR.pre [.int k] hP hK hN) rfl rfl hl.1 rfl (lv_room (Nat.le_of_ble_eq_true rfl)) dX8_bestSwap_9 ⟨Nat.le_of_ble_eq_true rfl, Nat.le_of_ble_eq_true rfl⟩) (fun r11 hr11 => ?_)
      rcases hr11 with hr11 | hr11
      · skip
        obtain ⟨rfl, h12, h13⟩ := hr11
        have h12 : 1 ≤ k.toInt := h12
        have h13 : k.toInt ≤ 16 := h13
        refine lv_if_eq (tgt := 24) hx hb dX8_bestSwap_12 (by decide) (fun c14 => ?_) (fun c14 => ?_)
        · skip
          exact absurd c14 (by decide)
        · skip
          refine lv_iload_n hx hb dX8_bestSwap_15 rfl (lv_at hl 3 rfl) ?_
          refine lv_iconst (v := 0) hx hb dX8_bestSwap_16 (by decide) ?_
          refine lv_iconst (v := 3) hx hb dX8_bestSwap_17 (by decide) ?_
          refine zc_i (va_runS (As := [.int wh, .int 0, .int 3]) (rest := []) ⟨hx, hb, hml, hown, hg⟩ (k_X8_within l g ad pe ct wh (0 : Int32) (3 : Int32) hI) (va_cwS 3 hg (z_gS mm_407 mm_408 mm_108 mm_409) rfl rfl rfl (by decide +kernel) ⟨Nat.le_of_ble_eq_true rfl, Nat.le_of_ble_eq_true rfl⟩) (zR.pre [.int wh, .int 0, .int 3] hP hK hN) rfl rfl hl.1 rfl (lv_room (Nat.le_of_ble_eq_true rfl)) dX8_bestSwap_18 ⟨Nat.le_of_ble_eq_true rfl, Nat.le_of_ble_eq_true rfl⟩) (fun r15 hr15 => ?_)
          rcases hr15 with hr15 | hr15
          · skip
            obtain ⟨rfl, h16, h17⟩ := hr15
            have h16 : (0 : Int) ≤ wh.toInt := h16
            have h17 : wh.toInt ≤ (3 : Int) := h17
            refine lv_if_ne (tgt := 26) hx hb dX8_bestSwap_21 (by decide) (fun c18 => ?_) (fun c18 => ?_)
            · skip
              refine lv_bipush (v := (-2)) hx hb dX8_bestSwap_26 (by decide) ?_
              refine lv_istore (lv' := [(4, .int (-2)), (0, .ref (ad 0)), (1, .int b), (2, .int k), (3, .int wh)]) hx hb dX8_bestSwap_28 hl (by decide) rfl (fun ls hl => ?_)
              refine lv_iconst (v := (-1)) hx hb dX8_bestSwap_30 (by decide) ?_
              refine lv_istore (lv' := [(5, .int (-1)), (4, .int (-2)), (0, .ref (ad 0)), (1, .int b), (2, .int k), (3, .int wh)]) hx hb dX8_bestSwap_31 hl (by decide) rfl (fun ls hl => ?_)
              refine lv_aload_n hx hb dX8_bestSwap_33 rfl (lv_at hl 2 rfl) ?_
              refine lv_iload_n hx hb dX8_bestSwap_34 rfl (lv_at hl 3 rfl) ?_
              refine lv_aload_n hx hb dX8_bestSwap_35 rfl (lv_at hl 2 rfl) ?_
              refine lv_iload_n hx hb dX8_bestSwap_36 rfl (lv_at hl 3 rfl) ?_
              refine zc_i (va_runV (As := [.int b]) (rest := [.int b, .ref (ad 0)]) ⟨hx, hb, hml, hown, hg⟩ (k_X8_openFor l g ad pe ct b hI) (cwV 1 hg (z_gV mm_659 mm_661 mm_22 mm_108 mm_662) rfl rfl rfl (by decide +kernel) ⟨Nat.le_of_ble_eq_true rfl, Nat.le_of_ble_eq_true rfl⟩) ⟨(zR.pre [.ref (ad 0), .int b] hP hK hN).1, va_recv hK hP (ci := 8) (q0 := 0) rfl (zw_at (by omega) hs1), (zR.pre [.ref (ad 0), .int b] hP hK hN).2⟩ rfl rfl hl.1 rfl (lv_room (Nat.le_of_ble_eq_true rfl)) dX8_bestSwap_37 ⟨Nat.le_of_ble_eq_true rfl, Nat.le_of_ble_eq_true rfl⟩) (fun r19 hr19 => ?_)
              have hFc := zw_free hD hS hA
              refine va_callv (va_runV (As := [.int b, .int r19]) (rest := []) ⟨hx, hb, hml, hown, hg⟩ (k_X8_layOut l g _ ad pe ct b r19 hI) (cwV 2 hg (z_gV mm_667 mm_669 mm_24 mm_108 mm_670) rfl rfl rfl (by decide +kernel) ⟨Nat.le_of_ble_eq_true rfl, Nat.le_of_ble_eq_true rfl⟩) ⟨(zA.pre [.ref (ad 0), .int b, .int r19] hP hK hD hN).1, va_recv hK hP (ci := 8) (q0 := 0) rfl (zw_at (by omega) hs1), (zA.pre [.ref (ad 0), .int b, .int r19] hP hK hD hN).2⟩ rfl rfl hl.1 rfl (lv_room (Nat.le_of_ble_eq_true rfl)) dX8_bestSwap_40 ⟨Nat.le_of_ble_eq_true rfl, Nat.le_of_ble_eq_true rfl⟩) hS (fun q _ h => hFc q h) hFc (fun _ t H1 locs ht hvm hr20 hB hz1 hk1 hS => ?_)
              obtain ⟨ct21, hP1, hD1, hI⟩ := hB
              rw [ht] at hP1
              have hD := hD1.weaken (fun _ _ _ h => hFc _ h)
              generalize H1 = H at hP1 hS ⊢
              have hP := hP1
              refine W.widen (k := 0) (n := 0) (Nat.le_refl _) (Nat.le_refl _) ?_
              refine lv_iconst (v := 0) hx hb dX8_bestSwap_43 (by decide) ?_
              refine lv_istore (lv' := [(6, .int 0), (5, .int (-1)), (4, .int (-2)), (0, .ref (ad 0)), (1, .int b), (2, .int k), (3, .int wh)]) hx hb dX8_bestSwap_44 hl (by decide) rfl (fun ls hl => ?_)
              have loop46 : ∀ (n46 : Nat) (v6_46 : Int32) (v5_46 : Int32) (v4_46 : Int32) (ct22 : Nat → va_E) (H : Heap) (locs : List Loc) (ls : Array Slot), ((4 - v6_46.toInt : Int).toNat < n46) → (0 ≤ v6_46.toInt ∧ v6_46.toInt ≤ 4) → (Inv8 g ad pe ct22) → zP g (zw 126 ad ct22) H → va_D A (zw 126 ad ct22) → va_S A s.heap H locs → lv_has ls 10 [(6, .int v6_46), (5, .int v5_46), (4, .int v4_46), (0, .ref (ad 0)), (1, .int b), (2, .int k), (3, .int wh)] → W p l e (headSpec (zW yX8_bestSwap cX8_bestSwap 10 (some .int)) ({ frames := 5, cells := 0, slots := 0, locals := 121 })).room s m ([.ref (ad 0), .int b, .int k, .int wh] : List Value).toArray below meth c H locs 0 0 (MQ below (va_Qi (fun (r : Int32) (_ : Unit) => (True)) (fun _ t => ∃ ct2 : Nat → va_E, zP g (zw 126 ad ct2) t.heap ∧ va_D A (zw 126 ad ct2) ∧ Inv8 g ad pe ct2) A) ([.ref (ad 0), .int b, .int k, .int wh] : List Value).toArray s 0 0 A) (F0 m 46 ls []) := by
                intro n46
                induction n46 with
                | zero =>
                  intro v6_46 v5_46 v4_46 ct22 H locs ls hn46 b6_46 hI hP hD hS hl
                  exact absurd hn46 (Nat.not_lt_zero _)
                | succ n46 ih46 =>
                  intro v6_46 v5_46 v4_46 ct22 H locs ls hn46 b6_46 hI hP hD hS hl
                  refine lv_iload hx hb dX8_bestSwap_46 (lv_at hl 0 rfl) ?_
                  refine lv_iconst (v := 4) hx hb dX8_bestSwap_48 (by decide) ?_
                  refine lv_icmp_ge (tgt := 151) hx hb dX8_bestSwap_49 (by decide) (fun c23 => ?_) (fun c23 => ?_)
                  · skip
                    have c23 : 4 ≤ v6_46.toInt := (z_le (by decide : (4 : Int32).toInt = 4) rfl).mp c23
                    refine lv_iload hx hb dX8_bestSwap_151 (lv_at hl 2 rfl) ?_
                    exact W.iret (v := v4_46) hx hb hr (fun t ht hW => ⟨⟨v4_46, (), rfl, trivial, ct22, by rw [ht]; exact hP, hD, hI⟩, hS.F ht⟩) hS.2.2 dX8_bestSwap_153
                  · skip
                    have c23 : ¬ (4 ≤ v6_46.toInt) := fun q => c23 ((z_le (by decide : (4 : Int32).toInt = 4) rfl).mpr q)
                    refine lv_iconst (v := 0) hx hb dX8_bestSwap_52 (by decide) ?_
                    refine lv_istore (lv' := [(7, .int 0), (6, .int v6_46), (5, .int v5_46), (4, .int v4_46), (0, .ref (ad 0)), (1, .int b), (2, .int k), (3, .int wh)]) hx hb dX8_bestSwap_53 hl (by decide) rfl (fun ls hl => ?_)
                    have loop55 : ∀ (n55 : Nat) (v7_55 : Int32) (v5_55 : Int32) (v4_55 : Int32) (ct24 : Nat → va_E) (H : Heap) (locs : List Loc) (ls : Array Slot), ((8 - v7_55.toInt : Int).toNat < n55) → (0 ≤ v7_55.toInt ∧ v7_55.toInt ≤ 8) → (Inv8 g ad pe ct24) → zP g (zw 126 ad ct24) H → va_D A (zw 126 ad ct24) → va_S A s.heap H locs → lv_has ls 10 [(7, .int v7_55), (6, .int v6_46), (5, .int v5_55), (4, .int v4_55), (0, .ref (ad 0)), (1, .int b), (2, .int k), (3, .int wh)] → W p l e (headSpec (zW yX8_bestSwap cX8_bestSwap 10 (some .int)) ({ frames := 5, cells := 0, slots := 0, locals := 121 })).room s m ([.ref (ad 0), .int b, .int k, .int wh] : List Value).toArray below meth c H locs 0 0 (MQ below (va_Qi (fun (r : Int32) (_ : Unit) => (True)) (fun _ t => ∃ ct2 : Nat → va_E, zP g (zw 126 ad ct2) t.heap ∧ va_D A (zw 126 ad ct2) ∧ Inv8 g ad pe ct2) A) ([.ref (ad 0), .int b, .int k, .int wh] : List Value).toArray s 0 0 A) (F0 m 55 ls []) := by
                      intro n55
                      induction n55 with
                      | zero =>
                        intro v7_55 v5_55 v4_55 ct24 H locs ls hn55 b7_55 hI hP hD hS hl
                        exact absurd hn55 (Nat.not_lt_zero _)
                      | succ n55 ih55 =>
                        intro v7_55 v5_55 v4_55 ct24 H locs ls hn55 b7_55 hI hP hD hS hl
                        refine lv_iload hx hb dX8_bestSwap_55 (lv_at hl 0 rfl) ?_
                        refine lv_bipush (v := 8) hx hb dX8_bestSwap_57 (by decide) ?_
                        refine lv_icmp_ge (tgt := 145) hx hb dX8_bestSwap_59 (by decide) (fun c25 => ?_) (fun c25 => ?_)
                        · skip
                          have c25 : 8 ≤ v7_55.toInt := (z_le (by decide : (8 : Int32).toInt = 8) rfl).mp c25
                          obtain ⟨x26, ex26⟩ : ∃ y : Int32, y = v6_46 + 1 := ⟨_, rfl⟩
                          have tx26 : x26.toInt = v6_46.toInt + 1 := by rw [ex26]; exact z_add rfl (by decide : (1 : Int32).toInt = 1) (by omega) (by omega)
                          refine lv_iinc (v := x26) (lv' := [(6, .int x26), (7, .int v7_55), (5, .int v5_55), (4, .int v4_55), (0, .ref (ad 0)), (1, .int b), (2, .int k), (3, .int wh)]) hx hb dX8_bestSwap_145 hl (k := 1) rfl (by rw [ex26]; rfl) (by decide) rfl (fun ls hl => ?_)
                          refine lv_goto (tgt := 46) hx hb dX8_bestSwap_148 (by decide) ?_
                          exact ih46 x26 v5_55 v4_55 ct24 _ _ ls (by omega) (by first | omega | decide) hI hP hD hS (lv_sub hl [0, 2, 3, 4, 5, 6, 7] rfl)
                        · skip
                          have c25 : ¬ (8 ≤ v7_55.toInt) := fun q => c25 ((z_le (by decide : (8 : Int32).toInt = 8) rfl).mpr q)
                          refine lv_iload hx hb dX8_bestSwap_62 (lv_at hl 0 rfl) ?_
                          refine lv_iconst (v := 1) hx hb dX8_bestSwap_64 (by decide) ?_
                          refine lv_iadd hx hb dX8_bestSwap_65 ?_
                          refine lv_topi (fun x27 ex27 => ?_)
                          have tx27 : x27.toInt = v7_55.toInt + 1 := by rw [ex27]; exact z_add rfl (by decide : (1 : Int32).toInt = 1) (by omega) (by omega)
                          refine lv_istore (lv' := [(8, .int x27), (7, .int v7_55), (6, .int v6_46), (5, .int v5_55), (4, .int v4_55), (0, .ref (ad 0)), (1, .int b), (2, .int k), (3, .int wh)]) hx hb dX8_bestSwap_66 hl (by decide) rfl (fun ls hl => ?_)
                          have loop68 : ∀ (n68 : Nat) (v8_68 : Int32) (v5_68 : Int32) (v4_68 : Int32) (ct28 : Nat → va_E) (H : Heap) (locs : List Loc) (ls : Array Slot), ((8 - v8_68.toInt : Int).toNat < n68) → (0 ≤ v8_68.toInt ∧ v8_68.toInt ≤ 8) → (Inv8 g ad pe ct28) → zP g (zw 126 ad ct28) H → va_D A (zw 126 ad ct28) → va_S A s.heap H locs → lv_has ls 10 [(8, .int v8_68), (7, .int v7_55), (6, .int v6_46), (5, .int v5_68), (4, .int v4_68), (0, .ref (ad 0)), (1, .int b), (2, .int k), (3, .int wh)] → W p l e (headSpec (zW yX8_bestSwap cX8_bestSwap 10 (some .int)) ({ frames := 5, cells := 0, slots := 0, locals := 121 })).room s m ([.ref (ad 0), .int b, .int k, .int wh] : List Value).toArray below meth c H locs 0 0 (MQ below (va_Qi (fun (r : Int32) (_ : Unit) => (True)) (fun _ t => ∃ ct2 : Nat → va_E, zP g (zw 126 ad ct2) t.heap ∧ va_D A (zw 126 ad ct2) ∧ Inv8 g ad pe ct2) A) ([.ref (ad 0), .int b, .int k, .int wh] : List Value).toArray s 0 0 A) (F0 m 68 ls []) := by
                            intro n68
                            induction n68 with
                            | zero =>
                              intro v8_68 v5_68 v4_68 ct28 H locs ls hn68 b8_68 hI hP hD hS hl
                              exact absurd hn68 (Nat.not_lt_zero _)
                            | succ n68 ih68 =>
                              intro v8_68 v5_68 v4_68 ct28 H locs ls hn68 b8_68 hI hP hD hS hl
                              refine lv_iload hx hb dX8_bestSwap_68 (lv_at hl 0 rfl) ?_
                              refine lv_bipush (v := 8) hx hb dX8_bestSwap_70 (by decide) ?_
                              refine lv_icmp_ge (tgt := 139) hx hb dX8_bestSwap_72 (by decide) (fun c29 => ?_) (fun c29 => ?_)
                              · skip
                                have c29 : 8 ≤ v8_68.toInt := (z_le (by decide : (8 : Int32).toInt = 8) rfl).mp c29
                                obtain ⟨x30, ex30⟩ : ∃ y : Int32, y = v7_55 + 1 := ⟨_, rfl⟩
                                have tx30 : x30.toInt = v7_55.toInt + 1 := by rw [ex30]; exact z_add rfl (by decide : (1 : Int32).toInt = 1) (by omega) (by omega)
                                refine lv_iinc (v := x30) (lv' := [(7, .int x30), (8, .int v8_68), (6, .int v6_46), (5, .int v5_68), (4, .int v4_68), (0, .ref (ad 0)), (1, .int b), (2, .int k), (3, .int wh)]) hx hb dX8_bestSwap_139 hl (k := 1) rfl (by rw [ex30]; rfl) (by decide) rfl (fun ls hl => ?_)
                                refine lv_goto (tgt := 55) hx hb dX8_bestSwap_142 (by decide) ?_
                                exact ih55 x30 v5_68 v4_68 ct28 _ _ ls (by omega) (by first | omega | decide) hI hP hD hS (lv_sub hl [0, 2, 3, 4, 5, 6, 7, 8] rfl)
                              · skip
                                have c29 : ¬ (8 ≤ v8_68.toInt) := fun q => c29 ((z_le (by decide : (8 : Int32).toInt = 8) rfl).mpr q)
                                refine lv_aload_n hx hb dX8_bestSwap_75 rfl (lv_at hl 5 rfl) ?_
                                refine lv_iload_n hx hb dX8_bestSwap_76 rfl (lv_at hl 6 rfl) ?_
                                refine lv_iload_n hx hb dX8_bestSwap_77 rfl (lv_at hl 7 rfl) ?_
                                refine lv_iload hx hb dX8_bestSwap_78 (lv_at hl 1 rfl) ?_
                                refine lv_iload hx hb dX8_bestSwap_80 (lv_at hl 0 rfl) ?_
                                refine lv_iload hx hb dX8_bestSwap_82 (lv_at hl 2 rfl) ?_
                                obtain ⟨bk33, dr32, h34, h35, h36, hs31⟩ := a8_0 hI
                                have hFc := zw_free hD hS hA
                                refine va_calli (va_runV (As := [.int b, .int k, .int v7_55, .int v8_68, .int v6_46]) (rest := []) ⟨hx, hb, hml, hown, hg⟩ (k_X8_safeIfSwapped l g _ ad pe ct28 b k v7_55 v8_68 v6_46 (by first | omega | decide) hI) (cwV 5 hg (z_gV mm_909 mm_911 mm_47 mm_108 mm_912) rfl rfl rfl (by decide +kernel) ⟨Nat.le_of_ble_eq_true rfl, Nat.le_of_ble_eq_true rfl⟩) ⟨(zA.pre [.ref (ad 0), .int b, .int k, .int v7_55, .int v8_68, .int v6_46] hP hK hD hN).1, va_recv hK hP (ci := 8) (q0 := 0) rfl (zw_at (by omega) hs31), (zA.pre [.ref (ad 0), .int b, .int k, .int v7_55, .int v8_68, .int v6_46] hP hK hD hN).2⟩ rfl rfl hl.1 rfl (lv_room (Nat.le_of_ble_eq_true rfl)) dX8_bestSwap_84 ⟨Nat.le_of_ble_eq_true rfl, Nat.le_of_ble_eq_true rfl⟩) hS (fun q _ h => hFc q h) hFc (fun r37 _ t H1 locs ht hvm hr37 hB hz1 hk1 hS => ?_)
                                obtain ⟨ct38, hP1, hD1, hI⟩ := hB
                                rw [ht] at hP1
                                have hD := hD1.weaken (fun _ _ _ h => hFc _ h)
                                generalize H1 = H at hP1 hS ⊢
                                have hP := hP1
                                refine W.widen (k := 0) (n := 0) (Nat.le_refl _) (Nat.le_refl _) ?_
                                refine lv_istore (lv' := [(9, .int r37), (8, .int v8_68), (7, .int v7_55), (6, .int v6_46), (5, .int v5_68), (4, .int v4_68), (0, .ref (ad 0)), (1, .int b), (2, .int k), (3, .int wh)]) hx hb dX8_bestSwap_87 hl (by decide) rfl (fun ls hl => ?_)
                                refine lv_iload hx hb dX8_bestSwap_89 (lv_at hl 0 rfl) ?_
                                refine lv_iload hx hb dX8_bestSwap_91 (lv_at hl 4 rfl) ?_
                                refine lv_icmp_le (tgt := 133) hx hb dX8_bestSwap_93 (by decide) (fun c39 => ?_) (fun c39 => ?_)
                                · skip
                                  have c39 : r37.toInt ≤ v5_68.toInt := (z_le rfl rfl).mp c39
                                  obtain ⟨x40, ex40⟩ : ∃ y : Int32, y = v8_68 + 1 := ⟨_, rfl⟩
                                  have tx40 : x40.toInt = v8_68.toInt + 1 := by rw [ex40]; exact z_add rfl (by decide : (1 : Int32).toInt = 1) (by omega) (by omega)
                                  refine lv_iinc (v := x40) (lv' := [(8, .int x40), (9, .int r37), (7, .int v7_55), (6, .int v6_46), (5, .int v5_68), (4, .int v4_68), (0, .ref (ad 0)), (1, .int b), (2, .int k), (3, .int wh)]) hx hb dX8_bestSwap_133 hl (k := 1) rfl (by rw [ex40]; rfl) (by decide) rfl (fun ls hl => ?_)
                                  refine lv_goto (tgt := 68) hx hb dX8_bestSwap_136 (by decide) ?_
                                  exact ih68 x40 v5_68 v4_68 ct38 _ _ ls (by omega) (by first | omega | decide) hI hP hD hS (lv_sub hl [0, 2, 3, 4, 5, 6, 7, 8, 9] rfl)
                                · skip
                                  have c39 : ¬ (r37.toInt ≤ v5_68.toInt) := fun q => c39 ((z_le rfl rfl).mpr q)
                                  refine lv_iload hx hb dX8_bestSwap_96 (lv_at hl 0 rfl) ?_
                                  refine lv_istore (lv' := [(5, .int r37), (9, .int r37), (8, .int v8_68), (7, .int v7_55), (6, .int v6_46), (4, .int v4_68), (0, .ref (ad 0)), (1, .int b), (2, .int k), (3, .int wh)]) hx hb dX8_bestSwap_98 hl (by decide) rfl (fun ls hl => ?_)
                                  refine lv_iload_n hx hb dX8_bestSwap_100 rfl (lv_at hl 9 rfl) ?_
                                  refine lv_if_ne (tgt := 109) hx hb dX8_bestSwap_101 (by decide) (fun c41 => ?_) (fun c41 => ?_)
                                  · skip
                                    have c41 : ¬ (wh.toInt = 0) := fun q => c41 ((z_eq rfl (by decide : (0 : Int32).toInt = 0)).mpr q)
                                    refine lv_iload_n hx hb dX8_bestSwap_109 rfl (lv_at hl 9 rfl) ?_
                                    refine lv_iconst (v := 1) hx hb dX8_bestSwap_110 (by decide) ?_
                                    refine lv_icmp_ne (tgt := 119) hx hb dX8_bestSwap_111 (by decide) (fun c42 => ?_) (fun c42 => ?_)
                                    · skip
                                      have c42 : ¬ (wh.toInt = 1) := fun q => c42 ((z_eq rfl (by decide : (1 : Int32).toInt = 1)).mpr q)
                                      refine lv_iload_n hx hb dX8_bestSwap_119 rfl (lv_at hl 9 rfl) ?_
                                      refine lv_iconst (v := 2) hx hb dX8_bestSwap_120 (by decide) ?_
                                      refine lv_icmp_ne (tgt := 129) hx hb dX8_bestSwap_121 (by decide) (fun c43 => ?_) (fun c43 => ?_)
                                      · skip
                                        have c43 : ¬ (wh.toInt = 2) := fun q => c43 ((z_eq rfl (by decide : (2 : Int32).toInt = 2)).mpr q)
                                        refine lv_iload hx hb dX8_bestSwap_129 (lv_at hl 1 rfl) ?_
                                        refine lv_istore (lv' := [(4, .int r37), (5, .int r37), (9, .int r37), (8, .int v8_68), (7, .int v7_55), (6, .int v6_46), (0, .ref (ad 0)), (1, .int b), (2, .int k), (3, .int wh)]) hx hb dX8_bestSwap_131 hl (by decide) rfl (fun ls hl => ?_)
                                        obtain ⟨x44, ex44⟩ : ∃ y : Int32, y = v8_68 + 1 := ⟨_, rfl⟩
                                        have tx44 : x44.toInt = v8_68.toInt + 1 := by rw [ex44]; exact z_add rfl (by decide : (1 : Int32).toInt = 1) (by omega) (by omega)
                                        refine lv_iinc (v := x44) (lv' := [(8, .int x44), (4, .int r37), (5, .int r37), (9, .int r37), (7, .int v7_55), (6, .int v6_46), (0, .ref (ad 0)), (1, .int b), (2, .int k), (3, .int wh)]) hx hb dX8_bestSwap_133 hl (k := 3) rfl (by rw [ex44]; rfl) (by decide) rfl (fun ls hl => ?_)
                                        refine lv_goto (tgt := 68) hx hb dX8_bestSwap_136 (by decide) ?_
                                        exact ih68 x44 r37 r37 ct38 _ _ ls (by omega) (by first | omega | decide) hI hP hD hS (lv_sub hl [0, 4, 5, 2, 1, 6, 7, 8, 9] rfl)
                                      · skip
                                        have c43 : wh.toInt = 2 := (z_eq rfl (by decide : (2 : Int32).toInt = 2)).mp c43
                                        refine lv_iload hx hb dX8_bestSwap_124 (lv_at hl 2 rfl) ?_
                                        refine lv_goto (tgt := 131) hx hb dX8_bestSwap_126 (by decide) ?_
                                        refine lv_istore (lv' := [(4, .int v8_68), (5, .int r37), (9, .int r37), (8, .int v8_68), (7, .int v7_55), (6, .int v6_46), (0, .ref (ad 0)), (1, .int b), (2, .int k), (3, .int wh)]) hx hb dX8_bestSwap_131 hl (by decide) rfl (fun ls hl => ?_)
                                        obtain ⟨x45, ex45⟩ : ∃ y : Int32, y = v8_68 + 1 := ⟨_, rfl⟩
                                        have tx45 : x45.toInt = v8_68.toInt + 1 := by rw [ex45]; exact z_add rfl (by decide : (1 : Int32).toInt = 1) (by omega) (by omega)
                                        refine lv_iinc (v := x45) (lv' := [(8, .int x45), (4, .int v8_68), (5, .int r37), (9, .int r37), (7, .int v7_55), (6, .int v6_46), (0, .ref (ad 0)), (1, .int b), (2, .int k), (3, .int wh)]) hx hb dX8_bestSwap_133 hl (k := 3) rfl (by rw [ex45]; rfl) (by decide) rfl (fun ls hl => ?_)
                                        refine lv_goto (tgt := 68) hx hb dX8_bestSwap_136 (by decide) ?_
                                        exact ih68 x45 r37 v8_68 ct38 _ _ ls (by omega) (by first | omega | decide) hI hP hD hS (lv_sub hl [0, 4, 5, 2, 1, 6, 7, 8, 9] rfl)
                                    · skip
                                      have c42 : wh.toInt = 1 := (z_eq rfl (by decide : (1 : Int32).toInt = 1)).mp c42
                                      refine lv_iload hx hb dX8_bestSwap_114 (lv_at hl 3 rfl) ?_
                                      refine lv_goto (tgt := 131) hx hb dX8_bestSwap_116 (by decide) ?_
                                      refine lv_istore (lv' := [(4, .int v7_55), (5, .int r37), (9, .int r37), (8, .int v8_68), (7, .int v7_55), (6, .int v6_46), (0, .ref (ad 0)), (1, .int b), (2, .int k), (3, .int wh)]) hx hb dX8_bestSwap_131 hl (by decide) rfl (fun ls hl => ?_)
                                      obtain ⟨x46, ex46⟩ : ∃ y : Int32, y = v8_68 + 1 := ⟨_, rfl⟩
                                      have tx46 : x46.toInt = v8_68.toInt + 1 := by rw [ex46]; exact z_add rfl (by decide : (1 : Int32).toInt = 1) (by omega) (by omega)
                                      refine lv_iinc (v := x46) (lv' := [(8, .int x46), (4, .int v7_55), (5, .int r37), (9, .int r37), (7, .int v7_55), (6, .int v6_46), (0, .ref (ad 0)), (1, .int b), (2, .int k), (3, .int wh)]) hx hb dX8_bestSwap_133 hl (k := 3) rfl (by rw [ex46]; rfl) (by decide) rfl (fun ls hl => ?_)
                                      refine lv_goto (tgt := 68) hx hb dX8_bestSwap_136 (by decide) ?_
                                      exact ih68 x46 r37 v7_55 ct38 _ _ ls (by omega) (by first | omega | decide) hI hP hD hS (lv_sub hl [0, 4, 5, 2, 1, 6, 7, 8, 9] rfl)
                                  · skip
                                    have c41 : wh.toInt = 0 := (z_eq rfl (by decide : (0 : Int32).toInt = 0)).mp c41
                                    refine lv_iload hx hb dX8_bestSwap_104 (lv_at hl 4 rfl) ?_
                                    refine lv_goto (tgt := 131) hx hb dX8_bestSwap_106 (by decide) ?_
                                    refine lv_istore (lv' := [(4, .int v6_46), (5, .int r37), (9, .int r37), (8, .int v8_68), (7, .int v7_55), (6, .int v6_46), (0, .ref (ad 0)), (1, .int b), (2, .int k), (3, .int wh)]) hx hb dX8_bestSwap_131 hl (by decide) rfl (fun ls hl => ?_)
                                    obtain ⟨x47, ex47⟩ : ∃ y : Int32, y = v8_68 + 1 := ⟨_, rfl⟩
                                    have tx47 : x47.toInt = v8_68.toInt + 1 := by rw [ex47]; exact z_add rfl (by decide : (1 : Int32).toInt = 1) (by omega) (by omega)
                                    refine lv_iinc (v := x47) (lv' := [(8, .int x47), (4, .int v6_46), (5, .int r37), (9, .int r37), (7, .int v7_55), (6, .int v6_46), (0, .ref (ad 0)), (1, .int b), (2, .int k), (3, .int wh)]) hx hb dX8_bestSwap_133 hl (k := 3) rfl (by rw [ex47]; rfl) (by decide) rfl (fun ls hl => ?_)
                                    refine lv_goto (tgt := 68) hx hb dX8_bestSwap_136 (by decide) ?_
                                    exact ih68 x47 r37 v6_46 ct38 _ _ ls (by omega) (by first | omega | decide) hI hP hD hS (lv_sub hl [0, 4, 5, 2, 1, 6, 7, 8, 9] rfl)
                          exact loop68 ((8 - x27.toInt : Int).toNat + 1) x27 v5_55 v4_55 ct24 _ _ ls (by omega) (by first | omega | decide) hI hP hD hS (lv_sub hl [0, 1, 2, 3, 4, 5, 6, 7, 8] rfl)
                    exact loop55 ((8 - (0 : Int32).toInt : Int).toNat + 1) (0 : Int32) v5_46 v4_46 ct22 _ _ ls (by omega) (by first | omega | decide) hI hP hD hS (lv_sub hl [0, 1, 2, 3, 4, 5, 6, 7] rfl)
              exact loop46 ((4 - (0 : Int32).toInt : Int).toNat + 1) (0 : Int32) (-1 : Int32) (-2 : Int32) ct21 _ _ ls (by omega) (by first | omega | decide) hI hP hD hS (lv_sub hl [0, 1, 2, 3, 4, 5, 6] rfl)
            · skip
              exact absurd c18 (by decide)
          · skip
            obtain ⟨rfl, h48⟩ := hr15
            have h48 : ¬ ((0 : Int) ≤ wh.toInt ∧ wh.toInt ≤ (3 : Int)) := h48
            refine lv_if_ne (tgt := 26) hx hb dX8_bestSwap_21 (by decide) (fun c49 => ?_) (fun c49 => ?_)
            · skip
              exact absurd c49 (by decide)
            · skip
              refine lv_iconst (v := (-1)) hx hb dX8_bestSwap_24 (by decide) ?_
              have q50 : ((-1) : Int32).toInt = -1 := by decide
              exact W.iret (v := (-1)) hx hb hr (fun t ht hW => ⟨⟨(-1), (), rfl, trivial, ct, by rw [ht]; exact hP, hD, hI⟩, hS.F ht⟩) hS.2.2 dX8_bestSwap_25
      · skip
        obtain ⟨rfl, h51⟩ := hr11
        have h51 : ¬ (1 ≤ k.toInt ∧ k.toInt ≤ 16) := h51
        refine lv_if_eq (tgt := 24) hx hb dX8_bestSwap_12 (by decide) (fun c52 => ?_) (fun c52 => ?_)
        · skip
          refine lv_iconst (v := (-1)) hx hb dX8_bestSwap_24 (by decide) ?_
          have q53 : ((-1) : Int32).toInt = -1 := by decide
          exact W.iret (v := (-1)) hx hb hr (fun t ht hW => ⟨⟨(-1), (), rfl, trivial, ct, by rw [ht]; exact hP, hD, hI⟩, hS.F ht⟩) hS.2.2 dX8_bestSwap_25
        · skip
          exact absurd c52 (by decide)
  · skip
    obtain rfl := hr7
    refine lv_if_eq (tgt := 24) hx hb dX8_bestSwap_5 (by decide) (fun c54 => ?_) (fun c54 => ?_)
    · skip
      refine lv_iconst (v := (-1)) hx hb dX8_bestSwap_24 (by decide) ?_
      have q55 : ((-1) : Int32).toInt = -1 := by decide
      exact W.iret (v := (-1)) hx hb hr (fun t ht hW => ⟨⟨(-1), (), rfl, trivial, ct, by rw [ht]; exact hP, hD, hI⟩, hS.F ht⟩) hS.2.2 dX8_bestSwap_25
    · skip
      exact absurd c54 (by decide)

set_option maxHeartbeats 4000000 in
set_option maxRecDepth 100000 in
theorem k_X8_firstBared (l : Launch) (g : zG) (sz : Nat) (ad : Nat → Nat) (pe : Int32) (ct : Nat → va_E) (b : Int32) (k : Int32) (hl_b : 0 ≤ b.toInt ∧ b.toInt ≤ 3) (hI : Inv8 g ad pe ct) : Met l yX8_firstBared (zW yX8_firstBared cX8_firstBared 3 (some .int)) ({ frames := 5, cells := 0, slots := 0, locals := 117 }) (va_Pc [.ref (ad 0), .int b, .int k] (zA g (zw 126 ad ct) sz)) (va_Qi (fun (r : Int32) (_ : Unit) => ((-1 ≤ r.toInt) ∧ (r.toInt ≤ 7))) (fun _ t => ∃ ct2 : Nat → va_E, zP g (zw 126 ad ct2) t.heap ∧ va_D (va_A (zw 126 ad ct) sz) (zw 126 ad ct2) ∧ Inv8 g ad pe ct2) (va_A (zw 126 ad ct) sz)) 0 0 (va_A (zw 126 ad ct) sz) := by
  refine Met.ofW (cc := cX8_firstBared) (maxL := 3) (ret := (some .int)) (by decide) rfl ?_
  intro p e s m args below meth c s₁ B hml hv
  obtain ⟨rfl, hsz, hP, hK, hD0, hN⟩ := hv
  have hx := B.exec
  have hb := B.bytes
  have hr := B.returns
  have hg := zW.law (atoms_spec (ws := (zW yX8_firstBared cX8_firstBared 3 (some .int))) B.pre)
  have hown : s.vm.findClass RX8 = some m.cls := findClass_of_methodNamed B.named
  have hlocks := B.notSynchronized
  have hpe0 := hI.1
  subst hsz
  have hD := hD0.self (sz := s.heap.size)
  generalize hAe : va_A (zw 126 ad ct) s.heap.size = A at hD ⊢
  have hA : ∀ q : Nat, s.heap.size ≤ q → A q := fun q h => by rw [← hAe]; exact Or.inr h
  have hS : va_S A s.heap s.heap [] := va_S.rf
  have hl := lv_entry ([.ref (ad 0), .int b, .int k]) (n := 3) (Nat.le_of_ble_eq_true rfl)
  rw [lg_entry_eq]
  generalize (lg_sl ([.ref (ad 0), .int b, .int k]) ++ List.replicate (3 - (lg_sl ([.ref (ad 0), .int b, .int k])).length) Slot.unset).toArray = ls at hl ⊢
  have hl : lv_has ls 3 [(0, .ref (ad 0)), (1, .int b), (2, .int k)] := hl
  have rg_k := z_rng k
  refine lv_aload_n hx hb dX8_firstBared_0 rfl (lv_at hl 0 rfl) ?_
  refine lv_iload_n hx hb dX8_firstBared_1 rfl (lv_at hl 1 rfl) ?_
  refine lv_iconst (v := 1) hx hb dX8_firstBared_2 (by decide) ?_
  refine lv_iload_n hx hb dX8_firstBared_3 rfl (lv_at hl 1 rfl) ?_
  refine lv_ishl hx hb dX8_firstBared_4 ?_
  refine lv_topi (fun x1 ex1 => ?_)
  have tx1 := z_shl1 (y := b) rfl (by omega) (k := 3) (by decide) (by omega)
  rw [← ex1] at tx1
  obtain ⟨bk4, dr3, h5, h6, h7, hs2⟩ := a8_0 hI
  have hFc := zw_free hD hS hA
  refine va_callv (va_runV (As := [.int b, .int x1]) (rest := []) ⟨hx, hb, hml, hown, hg⟩ (k_X8_layOut l g _ ad pe ct b x1 hI) (cwV 2 hg (z_gV mm_667 mm_669 mm_24 mm_108 mm_670) rfl rfl rfl (by decide +kernel) ⟨Nat.le_of_ble_eq_true rfl, Nat.le_of_ble_eq_true rfl⟩) ⟨(zA.pre [.ref (ad 0), .int b, .int x1] hP hK hD hN).1, va_recv hK hP (ci := 8) (q0 := 0) rfl (zw_at (by omega) hs2), (zA.pre [.ref (ad 0), .int b, .int x1] hP hK hD hN).2⟩ rfl rfl hl.1 rfl (lv_room (Nat.le_of_ble_eq_true rfl)) dX8_firstBared_5 ⟨Nat.le_of_ble_eq_true rfl, Nat.le_of_ble_eq_true rfl⟩) hS (fun q _ h => hFc q h) hFc (fun _ t H1 locs ht hvm hr8 hB hz1 hk1 hS => ?_)
  obtain ⟨ct9, hP1, hD1, hI⟩ := hB
  rw [ht] at hP1
  have hD := hD1.weaken (fun _ _ _ h => hFc _ h)
  generalize H1 = H at hP1 hS ⊢
  have hP := hP1
  refine W.widen (k := 0) (n := 0) (Nat.le_refl _) (Nat.le_refl _) ?_
  refine lv_aload_n hx hb dX8_firstBared_8 rfl (lv_at hl 0 rfl) ?_
  refine lv_iload_n hx hb dX8_firstBared_9 rfl (lv_at hl 1 rfl) ?_
  refine lv_iconst (v := 0) hx hb dX8_firstBared_10 (by decide) ?_
  obtain ⟨bk12, dr11, h13, h14, h15, hs10⟩ := a8_0 hI
  have hFc := zw_free hD hS hA
  refine va_callv (va_runV (As := [.int b, .int 0]) (rest := []) ⟨hx, hb, hml, hown, hg⟩ (k_X8_fitLaid l g _ ad pe ct9 b (0 : Int32) (by first | omega | decide) hI) (cwV 2 hg (z_gV mm_675 mm_677 mm_25 mm_108 mm_678) rfl rfl rfl (by decide +kernel) ⟨Nat.le_of_ble_eq_true rfl, Nat.le_of_ble_eq_true rfl⟩) ⟨(zA.pre [.ref (ad 0), .int b, .int 0] hP hK hD hN).1, va_recv hK hP (ci := 8) (q0 := 0) rfl (zw_at (by omega) hs10), (zA.pre [.ref (ad 0), .int b, .int 0] hP hK hD hN).2⟩ rfl rfl hl.1 rfl (lv_room (Nat.le_of_ble_eq_true rfl)) dX8_firstBared_11 ⟨Nat.le_of_ble_eq_true rfl, Nat.le_of_ble_eq_true rfl⟩) hS (fun q _ h => hFc q h) hFc (fun _ t H1 locs ht hvm hr16 hB hz1 hk1 hS => ?_)
  obtain ⟨ct17, hP1, hD1, hI⟩ := hB
  rw [ht] at hP1
  have hD := hD1.weaken (fun _ _ _ h => hFc _ h)
  generalize H1 = H at hP1 hS ⊢
  have hP := hP1
  refine W.widen (k := 0) (n := 0) (Nat.le_refl _) (Nat.le_refl _) ?_
  refine lv_aload_n hx hb dX8_firstBared_14 rfl (lv_at hl 0 rfl) ?_
  refine lv_iload_n hx hb dX8_firstBared_15 rfl (lv_at hl 1 rfl) ?_
  refine lv_iload_n hx hb dX8_firstBared_16 rfl (lv_at hl 2 rfl) ?_
  obtain ⟨bk20, dr19, h21, h22, h23, hs18⟩ := a8_0 hI
  have hFc := zw_free hD hS hA
  refine va_calli (va_runV (As := [.int b, .int k]) (rest := []) ⟨hx, hb, hml, hown, hg⟩ (k_X8_safeLines l g _ ad pe ct17 b k (by first | omega | decide) hI) (cwV 2 hg (z_gV mm_775 mm_777 mm_31 mm_108 mm_778) rfl rfl rfl (by decide +kernel) ⟨Nat.le_of_ble_eq_true rfl, Nat.le_of_ble_eq_true rfl⟩) ⟨(zA.pre [.ref (ad 0), .int b, .int k] hP hK hD hN).1, va_recv hK hP (ci := 8) (q0 := 0) rfl (zw_at (by omega) hs18), (zA.pre [.ref (ad 0), .int b, .int k] hP hK hD hN).2⟩ rfl rfl hl.1 rfl (lv_room (Nat.le_of_ble_eq_true rfl)) dX8_firstBared_17 ⟨Nat.le_of_ble_eq_true rfl, Nat.le_of_ble_eq_true rfl⟩) hS (fun q _ h => hFc q h) hFc (fun r24 _ t H1 locs ht hvm hr24 hB hz1 hk1 hS => ?_)
  obtain ⟨ct25, hP1, hD1, hI⟩ := hB
  rw [ht] at hP1
  have hD := hD1.weaken (fun _ _ _ h => hFc _ h)
  generalize H1 = H at hP1 hS ⊢
  have hP := hP1
  refine W.widen (k := 0) (n := 0) (Nat.le_refl _) (Nat.le_refl _) ?_
  refine lv_aload_n hx hb dX8_firstBared_20 rfl (lv_at hl 0 rfl) ?_
  obtain ⟨bk28, dr27, h29, h30, h31, hs26⟩ := a8_0 hI
  refine va_get (D := g.1) (ci := 8) (v := .ref (ad 5)) (C := RX8) (T := TX8) (N := 13) hx hb hg inG8 hown hK hP 0 (zw_at (by omega) hs26) rfl 3 (by decide) (hg _ mm_363) (fun _ h9 => h9) rfl dX8_firstBared_21 ?_
  refine lv_iload_n hx hb dX8_firstBared_24 rfl (lv_at hl 1 rfl) ?_
  have hs32 := a8_5 hI
  refine va_aldq hx hb hK hP 5 5 (zw_at (by omega) hs32) rfl (z_in rfl (by omega) (by omega)) dX8_firstBared_25 ?_
  rw [zF5_at (x := b) (by omega) (by omega)]
  obtain ⟨lns34, liv35, shw36, h37, h38, h39, h40, hz41, hs33⟩ := a8_40 (kc := (0 + 55 + 11 * b.toInt.toNat)) (by omega) hI
  have bhz41 := z_b01 hz41
  refine va_get (D := g.1) (ci := 2) (v := .int liv35) (C := RX2) (T := TX2) (N := 5) hx hb hg inG2 hown hK hP (0 + 55 + 11 * b.toInt.toNat) (zw_at (by omega) hs33) rfl 1 (by decide) (hg _ mm_344) (fun _ h9 => h9) rfl dX8_firstBared_26 ?_
  refine lv_icmp_eq (tgt := 34) hx hb dX8_firstBared_29 (by decide) (fun c42 => ?_) (fun c42 => ?_)
  · skip
    have c42 : r24.toInt = liv35.toInt := (z_eq rfl rfl).mp c42
    refine lv_aload_n hx hb dX8_firstBared_34 rfl (lv_at hl 0 rfl) ?_
    refine lv_iload_n hx hb dX8_firstBared_35 rfl (lv_at hl 1 rfl) ?_
    refine lv_iconst (v := 0) hx hb dX8_firstBared_36 (by decide) ?_
    have hFc := zw_free hD hS hA
    refine va_callv (va_runV (As := [.int b, .int 0]) (rest := []) ⟨hx, hb, hml, hown, hg⟩ (k_X8_fit l g _ ad pe ct25 b (0 : Int32) (by first | omega | decide) hI) (cwV 2 hg (z_gV mm_655 mm_657 mm_21 mm_108 mm_658) rfl rfl rfl (by decide +kernel) ⟨Nat.le_of_ble_eq_true rfl, Nat.le_of_ble_eq_true rfl⟩) ⟨(zA.pre [.ref (ad 0), .int b, .int 0] hP hK hD hN).1, va_recv hK hP (ci := 8) (q0 := 0) rfl (zw_at (by omega) hs26), (zA.pre [.ref (ad 0), .int b, .int 0] hP hK hD hN).2⟩ rfl rfl hl.1 rfl (lv_room (Nat.le_of_ble_eq_true rfl)) dX8_firstBared_37 ⟨Nat.le_of_ble_eq_true rfl, Nat.le_of_ble_eq_true rfl⟩) hS (fun q _ h => hFc q h) hFc (fun _ t H1 locs ht hvm hr43 hB hz1 hk1 hS => ?_)
    obtain ⟨ct44, hP1, hD1, hI⟩ := hB
    rw [ht] at hP1
    have hD := hD1.weaken (fun _ _ _ h => hFc _ h)
    generalize H1 = H at hP1 hS ⊢
    have hP := hP1
    refine W.widen (k := 0) (n := 0) (Nat.le_refl _) (Nat.le_refl _) ?_
    refine lv_aload_n hx hb dX8_firstBared_40 rfl (lv_at hl 0 rfl) ?_
    obtain ⟨bk47, dr46, h48, h49, h50, hs45⟩ := a8_0 hI
    refine va_get (D := g.1) (ci := 8) (v := .ref (ad 5)) (C := RX8) (T := TX8) (N := 13) hx hb hg inG8 hown hK hP 0 (zw_at (by omega) hs45) rfl 3 (by decide) (hg _ mm_363) (fun _ h9 => h9) rfl dX8_firstBared_41 ?_
    refine lv_iload_n hx hb dX8_firstBared_44 rfl (lv_at hl 1 rfl) ?_
    have hs51 := a8_5 hI
    refine va_aldq hx hb hK hP 5 5 (zw_at (by omega) hs51) rfl (z_in rfl (by omega) (by omega)) dX8_firstBared_45 ?_
    rw [zF5_at (x := b) (by omega) (by omega)]
    obtain ⟨lns53, liv54, shw55, h56, h57, h58, h59, hz60, hs52⟩ := a8_40 (kc := (0 + 55 + 11 * b.toInt.toNat)) (by omega) hI
    have bhz60 := z_b01 hz60
    refine va_get (D := g.1) (ci := 2) (v := .int liv54) (C := RX2) (T := TX2) (N := 5) hx hb hg inG2 hown hK hP (0 + 55 + 11 * b.toInt.toNat) (zw_at (by omega) hs52) rfl 1 (by decide) (hg _ mm_344) (fun _ h9 => h9) rfl dX8_firstBared_46 ?_
    refine lv_aload_n hx hb dX8_firstBared_49 rfl (lv_at hl 0 rfl) ?_
    refine lv_iload_n hx hb dX8_firstBared_50 rfl (lv_at hl 1 rfl) ?_
    refine lv_iload_n hx hb dX8_firstBared_51 rfl (lv_at hl 2 rfl) ?_
    have hFc := zw_free hD hS hA
    refine va_calli (va_runV (As := [.int b, .int k]) (rest := [.int liv54]) ⟨hx, hb, hml, hown, hg⟩ (k_X8_safeLines l g _ ad pe ct44 b k (by first | omega | decide) hI) (cwV 2 hg (z_gV mm_775 mm_777 mm_31 mm_108 mm_778) rfl rfl rfl (by decide +kernel) ⟨Nat.le_of_ble_eq_true rfl, Nat.le_of_ble_eq_true rfl⟩) ⟨(zA.pre [.ref (ad 0), .int b, .int k] hP hK hD hN).1, va_recv hK hP (ci := 8) (q0 := 0) rfl (zw_at (by omega) hs45), (zA.pre [.ref (ad 0), .int b, .int k] hP hK hD hN).2⟩ rfl rfl hl.1 rfl (lv_room (Nat.le_of_ble_eq_true rfl)) dX8_firstBared_52 ⟨Nat.le_of_ble_eq_true rfl, Nat.le_of_ble_eq_true rfl⟩) hS (fun q _ h => hFc q h) hFc (fun r61 _ t H1 locs ht hvm hr61 hB hz1 hk1 hS => ?_)
    obtain ⟨ct62, hP1, hD1, hI⟩ := hB
    rw [ht] at hP1
    have hD := hD1.weaken (fun _ _ _ h => hFc _ h)
    generalize H1 = H at hP1 hS ⊢
    have hP := hP1
    refine W.widen (k := 0) (n := 0) (Nat.le_refl _) (Nat.le_refl _) ?_
    refine lv_iconst (v := (-1)) hx hb dX8_firstBared_55 (by decide) ?_
    refine lv_ixor hx hb dX8_firstBared_56 ?_
    refine lv_topi (fun x63 ex63 => ?_)
    refine lv_iand hx hb dX8_firstBared_57 ?_
    refine lv_topi (fun x64 ex64 => ?_)
    have tx64 := z_andl (x := liv54) (y := x63) rfl (by omega)
    rw [← ex64] at tx64
    refine zc_i (va_runS (As := [.int x64]) (rest := []) ⟨hx, hb, hml, hown, hg⟩ (k_low8 l g ad pe ct62 x64 (by first | omega | decide) hI) (va_cwS 1 hg (z_gS mm_794 mm_745 mm_108 mm_746) rfl rfl rfl (by decide +kernel) ⟨Nat.le_of_ble_eq_true rfl, Nat.le_of_ble_eq_true rfl⟩) (zR.pre [.int x64] hP hK hN) rfl rfl hl.1 rfl (lv_room (Nat.le_of_ble_eq_true rfl)) dX8_firstBared_58 ⟨Nat.le_of_ble_eq_true rfl, Nat.le_of_ble_eq_true rfl⟩) (fun r65 hr65 => ?_)
    obtain ⟨hr65_0, hr65_1⟩ := hr65
    have hr65_0 : -1 ≤ r65.toInt := hr65_0
    have hr65_1 : r65.toInt ≤ 7 := hr65_1
    exact W.iret (v := r65) hx hb hr (fun t ht hW => ⟨⟨r65, (), rfl, ⟨by first | omega | decide, by first | omega | decide⟩, ct62, by rw [ht]; exact hP, hD, hI⟩, hS.F ht⟩) hS.2.2 dX8_firstBared_61
  · skip
    have c42 : ¬ (r24.toInt = liv35.toInt) := fun q => c42 ((z_eq rfl rfl).mpr q)
    refine lv_iconst (v := (-1)) hx hb dX8_firstBared_32 (by decide) ?_
    have q66 : ((-1) : Int32).toInt = -1 := by decide
    exact W.iret (v := (-1)) hx hb hr (fun t ht hW => ⟨⟨(-1), (), rfl, ⟨by first | omega | decide, by first | omega | decide⟩, ct25, by rw [ht]; exact hP, hD, hI⟩, hS.F ht⟩) hS.2.2 dX8_firstBared_33

set_option maxHeartbeats 4000000 in
set_option maxRecDepth 100000 in
theorem k_X8_together (l : Launch) (g : zG) (sz : Nat) (ad : Nat → Nat) (pe : Int32) (ct : Nat → va_E) (k : Int32) (wh : Int32) (hI : Inv8 g ad pe ct) : Met l yX8_together (zW yX8_together cX8_together 5 (some .int)) ({ frames := 6, cells := 0, slots := 0, locals := 139 }) (va_Pc [.ref (ad 0), .int k, .int wh] (zA g (zw 126 ad ct) sz)) (va_Qi (fun (r : Int32) (_ : Unit) => (True)) (fun _ t => ∃ ct2 : Nat → va_E, zP g (zw 126 ad ct2) t.heap ∧ va_D (va_A (zw 126 ad ct) sz) (zw 126 ad ct2) ∧ Inv8 g ad pe ct2) (va_A (zw 126 ad ct) sz)) 0 0 (va_A (zw 126 ad ct) sz) := by
  refine Met.ofW (cc := cX8_together) (maxL := 5) (ret := (some .int)) (by decide) rfl ?_
  intro p e s m args below meth c s₁ B hml hv
  obtain ⟨rfl, hsz, hP, hK, hD0, hN⟩ := hv
  have hx := B.exec
  have hb := B.bytes
  have hr := B.returns
  have hg := zW.law (atoms_spec (ws := (zW yX8_together cX8_together 5 (some .int))) B.pre)
  have hown : s.vm.findClass RX8 = some m.cls := findClass_of_methodNamed B.named
  have hlocks := B.notSynchronized
  have hpe0 := hI.1
  subst hsz
  have hD := hD0.self (sz := s.heap.size)
  generalize hAe : va_A (zw 126 ad ct) s.heap.size = A at hD ⊢
  have hA : ∀ q : Nat, s.heap.size ≤ q → A q := fun q h => by rw [← hAe]; exact Or.inr h
  have hS : va_S A s.heap s.heap [] := va_S.rf
  have hl := lv_entry ([.ref (ad 0), .int k, .int wh]) (n := 5) (Nat.le_of_ble_eq_true rfl)
  rw [lg_entry_eq]
  generalize (lg_sl ([.ref (ad 0), .int k, .int wh]) ++ List.replicate (5 - (lg_sl ([.ref (ad 0), .int k, .int wh])).length) Slot.unset).toArray = ls at hl ⊢
  have hl : lv_has ls 5 [(0, .ref (ad 0)), (1, .int k), (2, .int wh)] := hl
  have rg_k := z_rng k
  have rg_wh := z_rng wh
  refine lv_iload_n hx hb dX8_together_0 rfl (lv_at hl 1 rfl) ?_
  refine zc_i (va_runS (As := [.int k]) (rest := []) ⟨hx, hb, hml, hown, hg⟩ (k_X8_isBar l g ad pe ct k hI) (va_cwS 1 hg (z_gS mm_772 mm_773 mm_108 mm_774) rfl rfl rfl (by decide +kernel) ⟨Nat.le_of_ble_eq_true rfl, Nat.le_of_ble_eq_true rfl⟩) (zR.pre [.int k] hP hK hN) rfl rfl hl.1 rfl (lv_room (Nat.le_of_ble_eq_true rfl)) dX8_together_1 ⟨Nat.le_of_ble_eq_true rfl, Nat.le_of_ble_eq_true rfl⟩) (fun r1 hr1 => ?_)
  rcases hr1 with hr1 | hr1
  · skip
    obtain ⟨rfl, h2, h3⟩ := hr1
    have h2 : 1 ≤ k.toInt := h2
    have h3 : k.toInt ≤ 16 := h3
    refine lv_if_eq (tgt := 16) hx hb dX8_together_4 (by decide) (fun c4 => ?_) (fun c4 => ?_)
    · skip
      exact absurd c4 (by decide)
    · skip
      refine lv_iload_n hx hb dX8_together_7 rfl (lv_at hl 2 rfl) ?_
      refine lv_iconst (v := 0) hx hb dX8_together_8 (by decide) ?_
      refine lv_iconst (v := 2) hx hb dX8_together_9 (by decide) ?_
      refine zc_i (va_runS (As := [.int wh, .int 0, .int 2]) (rest := []) ⟨hx, hb, hml, hown, hg⟩ (k_X8_within l g ad pe ct wh (0 : Int32) (2 : Int32) hI) (va_cwS 3 hg (z_gS mm_407 mm_408 mm_108 mm_409) rfl rfl rfl (by decide +kernel) ⟨Nat.le_of_ble_eq_true rfl, Nat.le_of_ble_eq_true rfl⟩) (zR.pre [.int wh, .int 0, .int 2] hP hK hN) rfl rfl hl.1 rfl (lv_room (Nat.le_of_ble_eq_true rfl)) dX8_together_10 ⟨Nat.le_of_ble_eq_true rfl, Nat.le_of_ble_eq_true rfl⟩) (fun r5 hr5 => ?_)
      rcases hr5 with hr5 | hr5
      · skip
        obtain ⟨rfl, h6, h7⟩ := hr5
        have h6 : (0 : Int) ≤ wh.toInt := h6
        have h7 : wh.toInt ≤ (2 : Int) := h7
        refine lv_if_ne (tgt := 18) hx hb dX8_together_13 (by decide) (fun c8 => ?_) (fun c8 => ?_)
        · skip
          refine lv_iconst (v := 0) hx hb dX8_together_18 (by decide) ?_
          refine lv_istore_n (lv' := [(3, .int 0), (0, .ref (ad 0)), (1, .int k), (2, .int wh)]) hx hb dX8_together_19 rfl hl (by decide) rfl (fun ls hl => ?_)
          have loop20 : ∀ (n20 : Nat) (v3_20 : Int32) (ct9 : Nat → va_E) (H : Heap) (locs : List Loc) (ls : Array Slot), ((4 - v3_20.toInt : Int).toNat < n20) → (0 ≤ v3_20.toInt ∧ v3_20.toInt ≤ 4) → (Inv8 g ad pe ct9) → zP g (zw 126 ad ct9) H → va_D A (zw 126 ad ct9) → va_S A s.heap H locs → lv_has ls 5 [(3, .int v3_20), (0, .ref (ad 0)), (1, .int k), (2, .int wh)] → W p l e (headSpec (zW yX8_together cX8_together 5 (some .int)) ({ frames := 6, cells := 0, slots := 0, locals := 139 })).room s m ([.ref (ad 0), .int k, .int wh] : List Value).toArray below meth c H locs 0 0 (MQ below (va_Qi (fun (r : Int32) (_ : Unit) => (True)) (fun _ t => ∃ ct2 : Nat → va_E, zP g (zw 126 ad ct2) t.heap ∧ va_D A (zw 126 ad ct2) ∧ Inv8 g ad pe ct2) A) ([.ref (ad 0), .int k, .int wh] : List Value).toArray s 0 0 A) (F0 m 20 ls []) := by
            intro n20
            induction n20 with
            | zero =>
              intro v3_20 ct9 H locs ls hn20 b3_20 hI hP hD hS hl
              exact absurd hn20 (Nat.not_lt_zero _)
            | succ n20 ih20 =>
              intro v3_20 ct9 H locs ls hn20 b3_20 hI hP hD hS hl
              refine lv_iload_n hx hb dX8_together_20 rfl (lv_at hl 0 rfl) ?_
              refine lv_aload_n hx hb dX8_together_21 rfl (lv_at hl 1 rfl) ?_
              obtain ⟨bk12, dr11, h13, h14, h15, hs10⟩ := a8_0 hI
              refine va_get (D := g.1) (ci := 8) (v := .int bk12) (C := RX8) (T := TX8) (N := 13) hx hb hg inG8 hown hK hP 0 (zw_at (by omega) hs10) rfl 12 (by decide) (hg _ mm_372) (fun _ h9 => h9) rfl dX8_together_22 ?_
              refine lv_icmp_ge (tgt := 93) hx hb dX8_together_25 (by decide) (fun c16 => ?_) (fun c16 => ?_)
              · skip
                have c16 : bk12.toInt ≤ v3_20.toInt := (z_le rfl rfl).mp c16
                refine lv_bipush (v := (-2)) hx hb dX8_together_93 (by decide) ?_
                have q17 : ((-2) : Int32).toInt = -2 := by decide
                exact W.iret (v := (-2)) hx hb hr (fun t ht hW => ⟨⟨(-2), (), rfl, trivial, ct9, by rw [ht]; exact hP, hD, hI⟩, hS.F ht⟩) hS.2.2 dX8_together_95
              · skip
                have c16 : ¬ (bk12.toInt ≤ v3_20.toInt) := fun q => c16 ((z_le rfl rfl).mpr q)
                refine lv_aload_n hx hb dX8_together_28 rfl (lv_at hl 1 rfl) ?_
                refine va_get (D := g.1) (ci := 8) (v := .ref (ad 5)) (C := RX8) (T := TX8) (N := 13) hx hb hg inG8 hown hK hP 0 (zw_at (by omega) hs10) rfl 3 (by decide) (hg _ mm_363) (fun _ h9 => h9) rfl dX8_together_29 ?_
                refine lv_iload_n hx hb dX8_together_32 rfl (lv_at hl 0 rfl) ?_
                have hs18 := a8_5 hI
                refine va_aldq hx hb hK hP 5 5 (zw_at (by omega) hs18) rfl (z_in rfl (by omega) (by omega)) dX8_together_33 ?_
                rw [zF5_at (x := v3_20) (by omega) (by omega)]
                obtain ⟨lns20, liv21, shw22, h23, h24, h25, h26, hz27, hs19⟩ := a8_40 (kc := (0 + 55 + 11 * v3_20.toInt.toNat)) (by omega) hI
                have bhz27 := z_b01 hz27
                refine va_get (D := g.1) (ci := 2) (v := .int shw22) (C := RX2) (T := TX2) (N := 5) hx hb hg inG2 hown hK hP (0 + 55 + 11 * v3_20.toInt.toNat) (zw_at (by omega) hs19) rfl 2 (by decide) (hg _ mm_346) (fun _ h9 => h9) rfl dX8_together_34 ?_
                refine lv_if_eq (tgt := 49) hx hb dX8_together_37 (by decide) (fun c28 => ?_) (fun c28 => ?_)
                · skip
                  have c28 : shw22.toInt = 0 := (z_eq rfl (by decide : (0 : Int32).toInt = 0)).mp c28
                  refine lv_iconst (v := (-1)) hx hb dX8_together_49 (by decide) ?_
                  refine lv_istore (lv' := [(4, .int (-1)), (3, .int v3_20), (0, .ref (ad 0)), (1, .int k), (2, .int wh)]) hx hb dX8_together_50 hl (by decide) rfl (fun ls hl => ?_)
                  refine lv_iload hx hb dX8_together_52 (lv_at hl 0 rfl) ?_
                  refine lv_iconst (v := (-1)) hx hb dX8_together_54 (by decide) ?_
                  refine lv_icmp_eq (tgt := 87) hx hb dX8_together_55 (by decide) (fun c29 => ?_) (fun c29 => ?_)
                  · skip
                    obtain ⟨x30, ex30⟩ : ∃ y : Int32, y = v3_20 + 1 := ⟨_, rfl⟩
                    have tx30 : x30.toInt = v3_20.toInt + 1 := by rw [ex30]; exact z_add rfl (by decide : (1 : Int32).toInt = 1) (by omega) (by omega)
                    refine lv_iinc (v := x30) (lv' := [(3, .int x30), (4, .int (-1)), (0, .ref (ad 0)), (1, .int k), (2, .int wh)]) hx hb dX8_together_87 hl (k := 1) rfl (by rw [ex30]; rfl) (by decide) rfl (fun ls hl => ?_)
                    refine lv_goto (tgt := 20) hx hb dX8_together_90 (by decide) ?_
                    exact ih20 x30 ct9 _ _ ls (by omega) (by first | omega | decide) hI hP hD hS (lv_sub hl [0, 2, 3, 4] rfl)
                  · skip
                    exact absurd c29 (by decide)
                · skip
                  have c28 : ¬ (shw22.toInt = 0) := fun q => c28 ((z_eq rfl (by decide : (0 : Int32).toInt = 0)).mpr q)
                  refine lv_aload_n hx hb dX8_together_40 rfl (lv_at hl 1 rfl) ?_
                  refine lv_iload_n hx hb dX8_together_41 rfl (lv_at hl 0 rfl) ?_
                  refine lv_iload_n hx hb dX8_together_42 rfl (lv_at hl 2 rfl) ?_
                  have hFc := zw_free hD hS hA
                  refine va_calli (va_runV (As := [.int v3_20, .int k]) (rest := []) ⟨hx, hb, hml, hown, hg⟩ (k_X8_firstBared l g _ ad pe ct9 v3_20 k (by first | omega | decide) hI) (cwV 2 hg (z_gV mm_918 mm_920 mm_48 mm_108 mm_921) rfl rfl rfl (by decide +kernel) ⟨Nat.le_of_ble_eq_true rfl, Nat.le_of_ble_eq_true rfl⟩) ⟨(zA.pre [.ref (ad 0), .int v3_20, .int k] hP hK hD hN).1, va_recv hK hP (ci := 8) (q0 := 0) rfl (zw_at (by omega) hs10), (zA.pre [.ref (ad 0), .int v3_20, .int k] hP hK hD hN).2⟩ rfl rfl hl.1 rfl (lv_room (Nat.le_of_ble_eq_true rfl)) dX8_together_43 ⟨Nat.le_of_ble_eq_true rfl, Nat.le_of_ble_eq_true rfl⟩) hS (fun q _ h => hFc q h) hFc (fun r31 _ t H1 locs ht hvm hr31 hB hz1 hk1 hS => ?_)
                  obtain ⟨ct32, hP1, hD1, hI⟩ := hB
                  rw [ht] at hP1
                  have hD := hD1.weaken (fun _ _ _ h => hFc _ h)
                  generalize H1 = H at hP1 hS ⊢
                  have hP := hP1
                  refine W.widen (k := 0) (n := 0) (Nat.le_refl _) (Nat.le_refl _) ?_
                  obtain ⟨hr31_0, hr31_1⟩ := hr31
                  have hr31_0 : -1 ≤ r31.toInt := hr31_0
                  have hr31_1 : r31.toInt ≤ 7 := hr31_1
                  refine lv_goto (tgt := 50) hx hb dX8_together_46 (by decide) ?_
                  refine lv_istore (lv' := [(4, .int r31), (3, .int v3_20), (0, .ref (ad 0)), (1, .int k), (2, .int wh)]) hx hb dX8_together_50 hl (by decide) rfl (fun ls hl => ?_)
                  refine lv_iload hx hb dX8_together_52 (lv_at hl 0 rfl) ?_
                  refine lv_iconst (v := (-1)) hx hb dX8_together_54 (by decide) ?_
                  refine lv_icmp_eq (tgt := 87) hx hb dX8_together_55 (by decide) (fun c33 => ?_) (fun c33 => ?_)
                  · skip
                    have c33 : r31.toInt = (-1) := (z_eq rfl (by decide : ((-1) : Int32).toInt = (-1))).mp c33
                    obtain ⟨x34, ex34⟩ : ∃ y : Int32, y = v3_20 + 1 := ⟨_, rfl⟩
                    have tx34 : x34.toInt = v3_20.toInt + 1 := by rw [ex34]; exact z_add rfl (by decide : (1 : Int32).toInt = 1) (by omega) (by omega)
                    refine lv_iinc (v := x34) (lv' := [(3, .int x34), (4, .int r31), (0, .ref (ad 0)), (1, .int k), (2, .int wh)]) hx hb dX8_together_87 hl (k := 1) rfl (by rw [ex34]; rfl) (by decide) rfl (fun ls hl => ?_)
                    refine lv_goto (tgt := 20) hx hb dX8_together_90 (by decide) ?_
                    exact ih20 x34 ct32 _ _ ls (by omega) (by first | omega | decide) hI hP hD hS (lv_sub hl [0, 2, 3, 4] rfl)
                  · skip
                    have c33 : ¬ (r31.toInt = (-1)) := fun q => c33 ((z_eq rfl (by decide : ((-1) : Int32).toInt = (-1))).mpr q)
                    refine lv_iload_n hx hb dX8_together_58 rfl (lv_at hl 4 rfl) ?_
                    refine lv_if_ne (tgt := 66) hx hb dX8_together_59 (by decide) (fun c35 => ?_) (fun c35 => ?_)
                    · skip
                      have c35 : ¬ (wh.toInt = 0) := fun q => c35 ((z_eq rfl (by decide : (0 : Int32).toInt = 0)).mpr q)
                      refine lv_iload_n hx hb dX8_together_66 rfl (lv_at hl 4 rfl) ?_
                      refine lv_iconst (v := 1) hx hb dX8_together_67 (by decide) ?_
                      refine lv_icmp_ne (tgt := 76) hx hb dX8_together_68 (by decide) (fun c36 => ?_) (fun c36 => ?_)
                      · skip
                        have c36 : ¬ (wh.toInt = 1) := fun q => c36 ((z_eq rfl (by decide : (1 : Int32).toInt = 1)).mpr q)
                        refine lv_aload_n hx hb dX8_together_76 rfl (lv_at hl 2 rfl) ?_
                        obtain ⟨bk39, dr38, h40, h41, h42, hs37⟩ := a8_0 hI
                        refine va_get (D := g.1) (ci := 8) (v := .ref (ad 10)) (C := RX8) (T := TX8) (N := 13) hx hb hg inG8 hown hK hP 0 (zw_at (by omega) hs37) rfl 6 (by decide) (hg _ mm_366) (fun _ h9 => h9) rfl dX8_together_77 ?_
                        obtain ⟨lns44, liv45, lak46, fnd47, h48, h49, h50, h51, hs43⟩ := a8_10 hI
                        refine va_get (D := g.1) (ci := 6) (v := .ref (ad 13)) (C := RX6) (T := TX6) (N := 10) hx hb hg inG6 hown hK hP 10 (zw_at (by omega) hs43) rfl 6 (by decide) (hg _ mm_185) (fun _ h9 => h9) rfl dX8_together_80 ?_
                        refine lv_iload hx hb dX8_together_83 (lv_at hl 0 rfl) ?_
                        obtain ⟨f53, hp54, hs52⟩ := a8_13 hI
                        refine va_iald hx hb hK hP 13 0 (zw_at (by omega) hs52) rfl (z_in rfl (by omega) (by omega)) dX8_together_85 ?_
                        refine lv_topi (fun y55 ey55 => ?_)
                        have hy55 := hp54 _ (z_clt (x := r31) rfl (by omega) (by omega))
                        rw [← ey55] at hy55
                        have hy55 : 0 ≤ y55.toInt ∧ y55.toInt ≤ 65535 := hy55
                        exact W.iret (v := y55) hx hb hr (fun t ht hW => ⟨⟨y55, (), rfl, trivial, ct32, by rw [ht]; exact hP, hD, hI⟩, hS.F ht⟩) hS.2.2 dX8_together_86
                      · skip
                        have c36 : wh.toInt = 1 := (z_eq rfl (by decide : (1 : Int32).toInt = 1)).mp c36
                        refine lv_iload hx hb dX8_together_71 (lv_at hl 0 rfl) ?_
                        refine lv_goto (tgt := 86) hx hb dX8_together_73 (by decide) ?_
                        exact W.iret (v := r31) hx hb hr (fun t ht hW => ⟨⟨r31, (), rfl, trivial, ct32, by rw [ht]; exact hP, hD, hI⟩, hS.F ht⟩) hS.2.2 dX8_together_86
                    · skip
                      have c35 : wh.toInt = 0 := (z_eq rfl (by decide : (0 : Int32).toInt = 0)).mp c35
                      refine lv_iload_n hx hb dX8_together_62 rfl (lv_at hl 1 rfl) ?_
                      refine lv_goto (tgt := 86) hx hb dX8_together_63 (by decide) ?_
                      exact W.iret (v := v3_20) hx hb hr (fun t ht hW => ⟨⟨v3_20, (), rfl, trivial, ct32, by rw [ht]; exact hP, hD, hI⟩, hS.F ht⟩) hS.2.2 dX8_together_86
          exact loop20 ((4 - (0 : Int32).toInt : Int).toNat + 1) (0 : Int32) ct _ _ ls (by omega) (by first | omega | decide) hI hP hD hS (lv_sub hl [0, 1, 2, 3] rfl)
        · skip
          exact absurd c8 (by decide)
      · skip
        obtain ⟨rfl, h56⟩ := hr5
        have h56 : ¬ ((0 : Int) ≤ wh.toInt ∧ wh.toInt ≤ (2 : Int)) := h56
        refine lv_if_ne (tgt := 18) hx hb dX8_together_13 (by decide) (fun c57 => ?_) (fun c57 => ?_)
        · skip
          exact absurd c57 (by decide)
        · skip
          refine lv_iconst (v := (-1)) hx hb dX8_together_16 (by decide) ?_
          have q58 : ((-1) : Int32).toInt = -1 := by decide
          exact W.iret (v := (-1)) hx hb hr (fun t ht hW => ⟨⟨(-1), (), rfl, trivial, ct, by rw [ht]; exact hP, hD, hI⟩, hS.F ht⟩) hS.2.2 dX8_together_17
  · skip
    obtain ⟨rfl, h59⟩ := hr1
    have h59 : ¬ (1 ≤ k.toInt ∧ k.toInt ≤ 16) := h59
    refine lv_if_eq (tgt := 16) hx hb dX8_together_4 (by decide) (fun c60 => ?_) (fun c60 => ?_)
    · skip
      refine lv_iconst (v := (-1)) hx hb dX8_together_16 (by decide) ?_
      have q61 : ((-1) : Int32).toInt = -1 := by decide
      exact W.iret (v := (-1)) hx hb hr (fun t ht hW => ⟨⟨(-1), (), rfl, trivial, ct, by rw [ht]; exact hP, hD, hI⟩, hS.F ht⟩) hS.2.2 dX8_together_17
    · skip
      exact absurd c60 (by decide)
