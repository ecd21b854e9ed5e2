set_option maxHeartbeats 4000000 in
set_option maxRecDepth 100000 in
theorem k_X3_climb (l : Launch) (g : zG) (sz : Nat) (ad : Nat → Nat) (pe : Int32) (ct : Nat → va_E) (kc : Nat) (v : Int32) (bi : Int32) (hf_kc : 35 ≤ kc ∧ kc < 55 ∧ (kc - 35) % 5 = 0) (hI : Inv8 g ad pe ct) : Met l yX3_climb (zW yX3_climb cX3_climb 6 none) ({ frames := 1, cells := 0, slots := 0, locals := 22 }) (va_Pc [.ref (ad kc), .int v, .int 0, .int bi] (zA g (zw 126 ad ct) sz)) (va_Qv (fun (_ : Unit) => True) (fun _ t => ∃ ct2 : Nat → va_E, zP g (zw 126 ad ct2) t.heap ∧ va_D (va_A (zw 126 ad ct) sz) (zw 126 ad ct2) ∧ Inv8 g ad pe ct2) (va_A (zw 126 ad ct) sz)) 0 0 (va_A (zw 126 ad ct) sz) := by
  refine Met.ofW (cc := cX3_climb) (maxL := 6) (ret := none) (by decide) rfl ?_
  intro p e s m args below meth c s₁ B hml hv
  obtain ⟨rfl, hsz, hP, hK, hD0, hN⟩ := hv
  have hx := B.exec
  have hb := B.bytes
  have hr := B.returns
  have hg := zW.law (atoms_spec (ws := (zW yX3_climb cX3_climb 6 none)) B.pre)
  have hown : s.vm.findClass RX3 = some m.cls := findClass_of_methodNamed B.named
  have hlocks := B.notSynchronized
  have hpe0 := hI.1
  subst hsz
  have hD := hD0.self (sz := s.heap.size)
  generalize hAe : va_A (zw 126 ad ct) s.heap.size = A at hD ⊢
  have hA : ∀ q : Nat, s.heap.size ≤ q → A q := fun q h => by rw [← hAe]; exact Or.inr h
  have hS : va_S A s.heap s.heap [] := va_S.rf
  have hl := lv_entry ([.ref (ad kc), .int v, .int 0, .int bi]) (n := 6) (Nat.le_of_ble_eq_true rfl)
  rw [lg_entry_eq]
  generalize (lg_sl ([.ref (ad kc), .int v, .int 0, .int bi]) ++ List.replicate (6 - (lg_sl ([.ref (ad kc), .int v, .int 0, .int bi])).length) Slot.unset).toArray = ls at hl ⊢
  have hl : lv_has ls 6 [(0, .ref (ad kc)), (1, .int v), (2, .int 0), (3, .int bi)] := hl
  have rg_v := z_rng v
  have rg_bi := z_rng bi
  refine lv_iload_n hx hb dX3_climb_0 rfl (lv_at hl 1 rfl) ?_
  refine lv_istore (lv' := [(4, .int v), (0, .ref (ad kc)), (1, .int v), (2, .int 0), (3, .int bi)]) hx hb dX3_climb_1 hl (by decide) rfl (fun ls hl => ?_)
  refine lv_iconst (v := 0) hx hb dX3_climb_3 (by decide) ?_
  refine lv_istore (lv' := [(5, .int 0), (4, .int v), (0, .ref (ad kc)), (1, .int v), (2, .int 0), (3, .int bi)]) hx hb dX3_climb_4 hl (by decide) rfl (fun ls hl => ?_)
  have loop6 : ∀ (n6 : Nat) (v5_6 : Int32) (v4_6 : Int32) (ct1 : Nat → va_E) (H : Heap) (locs : List Loc) (ls : Array Slot), ((32 - v5_6.toInt : Int).toNat < n6) → (0 ≤ v5_6.toInt ∧ v5_6.toInt ≤ 32) → (Inv8 g ad pe ct1) → zP g (zw 126 ad ct1) H → va_D A (zw 126 ad ct1) → va_S A s.heap H locs → lv_has ls 6 [(5, .int v5_6), (4, .int v4_6), (0, .ref (ad kc)), (1, .int v), (2, .int 0), (3, .int bi)] → W p l e (headSpec (zW yX3_climb cX3_climb 6 none) ({ frames := 1, cells := 0, slots := 0, locals := 22 })).room s m ([.ref (ad kc), .int v, .int 0, .int bi] : List Value).toArray below meth c H locs 0 0 (MQ below (va_Qv (fun (_ : Unit) => True) (fun _ t => ∃ ct2 : Nat → va_E, zP g (zw 126 ad ct2) t.heap ∧ va_D A (zw 126 ad ct2) ∧ Inv8 g ad pe ct2) A) ([.ref (ad kc), .int v, .int 0, .int bi] : List Value).toArray s 0 0 A) (F0 m 6 ls []) := by
    intro n6
    induction n6 with
    | zero =>
      intro v5_6 v4_6 ct1 H locs ls hn6 b5_6 hI hP hD hS hl
      exact absurd hn6 (Nat.not_lt_zero _)
    | succ n6 ih6 =>
      intro v5_6 v4_6 ct1 H locs ls hn6 b5_6 hI hP hD hS hl
      refine lv_iload hx hb dX3_climb_6 (lv_at hl 0 rfl) ?_
      refine lv_bipush (v := 32) hx hb dX3_climb_8 (by decide) ?_
      refine lv_icmp_ge (tgt := 61) hx hb dX3_climb_10 (by decide) (fun c2 => ?_) (fun c2 => ?_)
      · skip
        have c2 : 32 ≤ v5_6.toInt := (z_le (by decide : (32 : Int32).toInt = 32) rfl).mp c2
        exact W.vret hx hb hr (fun t ht hW => ⟨⟨(), rfl, trivial, ct1, by rw [ht]; exact hP, hD, hI⟩, hS.F ht⟩) hS.2.2 dX3_climb_61
      · skip
        have c2 : ¬ (32 ≤ v5_6.toInt) := fun q => c2 ((z_le (by decide : (32 : Int32).toInt = 32) rfl).mpr q)
        refine lv_iload hx hb dX3_climb_13 (lv_at hl 1 rfl) ?_
        refine lv_iconst (v := 0) hx hb dX3_climb_15 (by decide) ?_
        refine lv_bipush (v := 31) hx hb dX3_climb_16 (by decide) ?_
        refine zc_i (va_runSN (As := [.int v4_6, .int 0, .int 31]) (rest := []) ⟨hx, hb, hml, hown, hg⟩ (k_X8_within l g ad pe ct1 v4_6 (0 : Int32) (31 : Int32) hI) ⟨va_cnB 3 hg (z_gN mm_409) rfl rfl rfl (hN.at 7 rfl) (hg _ mm_108) (by decide +kernel) ⟨Nat.le_of_ble_eq_true rfl, Nat.le_of_ble_eq_true rfl⟩, (hg _ mm_408), trivial⟩ (zR.pre [.int v4_6, .int 0, .int 31] hP hK hN) rfl rfl hl.1 rfl (lv_room (Nat.le_of_ble_eq_true rfl)) dX3_climb_18 ⟨Nat.le_of_ble_eq_true rfl, Nat.le_of_ble_eq_true rfl⟩) (fun r3 hr3 => ?_)
        rcases hr3 with hr3 | hr3
        · skip
          obtain ⟨rfl, h4, h5⟩ := hr3
          have h4 : (0 : Int) ≤ v4_6.toInt := h4
          have h5 : v4_6.toInt ≤ (31 : Int) := h5
          refine lv_if_eq (tgt := 61) hx hb dX3_climb_21 (by decide) (fun c6 => ?_) (fun c6 => ?_)
          · skip
            exact absurd c6 (by decide)
          · skip
            refine lv_aload_n hx hb dX3_climb_24 rfl (lv_at hl 2 rfl) ?_
            obtain ⟨we8, se9, h10, h11, hs7⟩ := a8_35 (kc := kc) (by omega) hI
            refine va_get (D := g.1) (ci := 3) (v := .ref (ad (kc + 2))) (C := RX3) (T := TX3) (N := 6) hx hb hg inG3 hown hK hP kc (zw_at (by omega) hs7) rfl 2 (by decide) (hg _ mm_318) (fun _ h9 => h9) rfl dX3_climb_25 ?_
            refine lv_iload hx hb dX3_climb_28 (lv_at hl 1 rfl) ?_
            refine lv_dup2_11 hx hb dX3_climb_30 rfl rfl ?_
            obtain ⟨f13, hp14, hs12⟩ := a8_37 (kc := kc) (by omega) hI
            refine va_iald hx hb hK hP (kc + 2) 0 (zw_at (by omega) hs12) rfl (z_in rfl (by omega) (by omega)) dX3_climb_31 ?_
            refine lv_topi (fun y15 ey15 => ?_)
            have hy15 := hp14 _ (z_clt (x := v4_6) rfl (by omega) (by omega))
            rw [← ey15] at hy15
            have hy15 : y15.toInt = zblN (zTr ad (1000 + 100 * kc)) (Int32.toNatClampNeg v4_6) 16 := hy15
            refine lv_iload_n hx hb dX3_climb_32 rfl (lv_at hl 4 rfl) ?_
            refine lv_iadd hx hb dX3_climb_33 ?_
            refine lv_topi (fun x16 ex16 => ?_)
            refine va_iast hx hb hK hP hD hS (kc + 2) 0 (zw_at (by omega) hs12) rfl (z_in rfl (by omega) (by omega)) dX3_climb_34 (fun H locs hP hD hS => ?_)
            have hp18 : ∀ j : Nat, j < 33 → (fun x : Int32 => x.toInt = zblN (zTr ad (1000 + 100 * kc)) j 16) ((upd f13 (Int32.toNatClampNeg v4_6) x16) j) := fun j hj => by
              unfold upd
              by_cases q : j = Int32.toNatClampNeg v4_6
              · rw [if_pos q]; exact (show (x16 : Int32).toInt = zblN (zTr ad (1000 + 100 * kc)) j 16 from (by rw [q, show (x16 : Int32) = y15 by rw [ex16]; exact Int32.add_zero _]; exact hy15))
              · rw [if_neg q]; exact hp14 j hj
            have hP : zP g ((zw 126 ad ct1).set (kc + 2) (ad (kc + 2), .inl (g.2 0, 33, .inl (upd f13 (Int32.toNatClampNeg v4_6) x16)))) H := hP
            have hD : va_D A ((zw 126 ad ct1).set (kc + 2) (ad (kc + 2), .inl (g.2 0, 33, .inl (upd f13 (Int32.toNatClampNeg v4_6) x16)))) := hD
            rw [zw_set (by omega)] at hP hD
            obtain ⟨ct19, ec20⟩ : ∃ z : Nat → va_E, z = va_up ct1 (kc + 2) (.inl (g.2 0, 33, .inl (upd f13 (Int32.toNatClampNeg v4_6) x16))) := ⟨_, rfl⟩
            rw [← ec20] at hP hD
            have hI : Inv8 g ad pe ct19 := by rw [ec20]; exact up8 hI (i8_37 (kc := kc) (by omega) ⟨_, hp18, rfl⟩)
            have hs21 : ct19 kc = .inr (3, [.int we8, .ref (ad (kc + 1)), .ref (ad (kc + 2)), .ref (ad (kc + 3)), .ref (ad (kc + 4)), .int se9]) := by rw [ec20, va_up_ne _ _ (by omega)]; exact hs7
            have hs22 : ct19 (kc + 2) = .inl (g.2 0, 33, .inl (upd f13 (Int32.toNatClampNeg v4_6) x16)) := by rw [ec20]; exact va_up_self _ _ _
            refine lv_aload_n hx hb dX3_climb_35 rfl (lv_at hl 2 rfl) ?_
            refine va_get (D := g.1) (ci := 3) (v := .ref (ad (kc + 3))) (C := RX3) (T := TX3) (N := 6) hx hb hg inG3 hown hK hP kc (zw_at (by omega) hs21) rfl 3 (by decide) (hg _ mm_319) (fun _ h9 => h9) rfl dX3_climb_36 ?_
            refine lv_iload hx hb dX3_climb_39 (lv_at hl 1 rfl) ?_
            refine lv_dup2_11 hx hb dX3_climb_41 rfl rfl ?_
            obtain ⟨f24, hs23⟩ := a8_38 (kc := kc) (by omega) hI
            refine va_iald hx hb hK hP (kc + 3) 0 (zw_at (by omega) hs23) rfl (z_in rfl (by omega) (by omega)) dX3_climb_42 ?_
            refine lv_topi (fun y25 ey25 => ?_)
            refine lv_iload_n hx hb dX3_climb_43 rfl (lv_at hl 5 rfl) ?_
            refine lv_ior hx hb dX3_climb_44 ?_
            refine lv_topi (fun x26 ex26 => ?_)
            refine va_iast hx hb hK hP hD hS (kc + 3) 0 (zw_at (by omega) hs23) rfl (z_in rfl (by omega) (by omega)) dX3_climb_45 (fun H locs hP hD hS => ?_)
            have hP : zP g ((zw 126 ad ct19).set (kc + 3) (ad (kc + 3), .inl (g.2 0, 33, .inl (upd f24 (Int32.toNatClampNeg v4_6) x26)))) H := hP
            have hD : va_D A ((zw 126 ad ct19).set (kc + 3) (ad (kc + 3), .inl (g.2 0, 33, .inl (upd f24 (Int32.toNatClampNeg v4_6) x26)))) := hD
            rw [zw_set (by omega)] at hP hD
            obtain ⟨ct28, ec29⟩ : ∃ z : Nat → va_E, z = va_up ct19 (kc + 3) (.inl (g.2 0, 33, .inl (upd f24 (Int32.toNatClampNeg v4_6) x26))) := ⟨_, rfl⟩
            rw [← ec29] at hP hD
            have hI : Inv8 g ad pe ct28 := by rw [ec29]; exact up8 hI (i8_38 (kc := kc) (by omega) ⟨_, rfl⟩)
            have hs30 : ct28 kc = .inr (3, [.int we8, .ref (ad (kc + 1)), .ref (ad (kc + 2)), .ref (ad (kc + 3)), .ref (ad (kc + 4)), .int se9]) := by rw [ec29, va_up_ne _ _ (by omega)]; exact hs21
            have hs31 : ct28 (kc + 2) = .inl (g.2 0, 33, .inl (upd f13 (Int32.toNatClampNeg v4_6) x16)) := by rw [ec29, va_up_ne _ _ (by omega)]; exact hs22
            have hs32 : ct28 (kc + 3) = .inl (g.2 0, 33, .inl (upd f24 (Int32.toNatClampNeg v4_6) x26)) := by rw [ec29]; exact va_up_self _ _ _
            refine lv_aload_n hx hb dX3_climb_46 rfl (lv_at hl 2 rfl) ?_
            refine va_get (D := g.1) (ci := 3) (v := .ref (ad (kc + 1))) (C := RX3) (T := TX3) (N := 6) hx hb hg inG3 hown hK hP kc (zw_at (by omega) hs30) rfl 1 (by decide) (hg _ mm_317) (fun _ h9 => h9) rfl dX3_climb_47 ?_
            refine lv_iload hx hb dX3_climb_50 (lv_at hl 1 rfl) ?_
            obtain ⟨f34, hp35, hs33⟩ := a8_36 (kc := kc) (by omega) hI
            refine va_iald hx hb hK hP (kc + 1) 0 (zw_at (by omega) hs33) rfl (z_in rfl (by omega) (by omega)) dX3_climb_52 ?_
            refine lv_topi (fun y36 ey36 => ?_)
            have hy36 := hp35 _ (z_clt (x := v4_6) rfl (by omega) (by omega))
            rw [← ey36] at hy36
            have hy36 : y36.toInt = zTr ad (1000 + 100 * kc) (Int32.toNatClampNeg v4_6) := hy36
            refine lv_istore (lv' := [(4, .int y36), (5, .int v5_6), (0, .ref (ad kc)), (1, .int v), (2, .int 0), (3, .int bi)]) hx hb dX3_climb_53 hl (by decide) rfl (fun ls hl => ?_)
            obtain ⟨x37, ex37⟩ : ∃ y : Int32, y = v5_6 + 1 := ⟨_, rfl⟩
            have tx37 : x37.toInt = v5_6.toInt + 1 := by rw [ex37]; exact z_add rfl (by decide : (1 : Int32).toInt = 1) (by omega) (by omega)
            refine lv_iinc (v := x37) (lv' := [(5, .int x37), (4, .int y36), (0, .ref (ad kc)), (1, .int v), (2, .int 0), (3, .int bi)]) hx hb dX3_climb_55 hl (k := 1) rfl (by rw [ex37]; rfl) (by decide) rfl (fun ls hl => ?_)
            refine lv_goto (tgt := 6) hx hb dX3_climb_58 (by decide) ?_
            exact ih6 x37 y36 ct28 _ _ ls (by omega) (by first | omega | decide) hI hP hD hS (lv_sub hl [0, 1, 2, 3, 4, 5] rfl)
        · skip
          obtain ⟨rfl, h38⟩ := hr3
          have h38 : ¬ ((0 : Int) ≤ v4_6.toInt ∧ v4_6.toInt ≤ (31 : Int)) := h38
          refine lv_if_eq (tgt := 61) hx hb dX3_climb_21 (by decide) (fun c39 => ?_) (fun c39 => ?_)
          · skip
            exact W.vret hx hb hr (fun t ht hW => ⟨⟨(), rfl, trivial, ct1, by rw [ht]; exact hP, hD, hI⟩, hS.F ht⟩) hS.2.2 dX3_climb_61
          · skip
            exact absurd c39 (by decide)
  exact loop6 ((32 - (0 : Int32).toInt : Int).toNat + 1) (0 : Int32) v ct _ _ ls (by omega) (by first | omega | decide) hI hP hD hS (lv_sub hl [0, 1, 2, 3, 4, 5] rfl)

set_option maxHeartbeats 4000000 in
set_option maxRecDepth 100000 in
theorem k_X3_settle (l : Launch) (g : zG) (sz : Nat) (ad : Nat → Nat) (pe : Int32) (ct : Nat → va_E) (kc : Nat) (p0 : Int32) (v : Int32) (hf_kc : 35 ≤ kc ∧ kc < 55 ∧ (kc - 35) % 5 = 0) (hI : Inv8 g ad pe ct) : Met l yX3_settle (zW yX3_settle cX3_settle 3 none) ({ frames := 2, cells := 0, slots := 0, locals := 47 }) (va_Pc [.ref (ad kc), .int p0, .int v] (zA g (zw 126 ad ct) sz)) (va_Qv (fun (_ : Unit) => True) (fun _ t => ∃ ct2 : Nat → va_E, zP g (zw 126 ad ct2) t.heap ∧ va_D (va_A (zw 126 ad ct) sz) (zw 126 ad ct2) ∧ Inv8 g ad pe ct2) (va_A (zw 126 ad ct) sz)) 0 0 (va_A (zw 126 ad ct) sz) := by
  refine Met.ofW (cc := cX3_settle) (maxL := 3) (ret := none) (by decide) rfl ?_
  intro p e s m args below meth c s₁ B hml hv
  obtain ⟨rfl, hsz, hP, hK, hD0, hN⟩ := hv
  have hx := B.exec
  have hb := B.bytes
  have hr := B.returns
  have hg := zW.law (atoms_spec (ws := (zW yX3_settle cX3_settle 3 none)) B.pre)
  have hown : s.vm.findClass RX3 = some m.cls := findClass_of_methodNamed B.named
  have hlocks := B.notSynchronized
  have hpe0 := hI.1
  subst hsz
  have hD := hD0.self (sz := s.heap.size)
  generalize hAe : va_A (zw 126 ad ct) s.heap.size = A at hD ⊢
  have hA : ∀ q : Nat, s.heap.size ≤ q → A q := fun q h => by rw [← hAe]; exact Or.inr h
  have hS : va_S A s.heap s.heap [] := va_S.rf
  have hl := lv_entry ([.ref (ad kc), .int p0, .int v]) (n := 3) (Nat.le_of_ble_eq_true rfl)
  rw [lg_entry_eq]
  generalize (lg_sl ([.ref (ad kc), .int p0, .int v]) ++ List.replicate (3 - (lg_sl ([.ref (ad kc), .int p0, .int v])).length) Slot.unset).toArray = ls at hl ⊢
  have hl : lv_has ls 3 [(0, .ref (ad kc)), (1, .int p0), (2, .int v)] := hl
  have rg_p0 := z_rng p0
  have rg_v := z_rng v
  refine lv_iload_n hx hb dX3_settle_0 rfl (lv_at hl 1 rfl) ?_
  refine lv_iconst (v := 0) hx hb dX3_settle_1 (by decide) ?_
  refine lv_bipush (v := 15) hx hb dX3_settle_2 (by decide) ?_
  refine zc_i (va_runSN (As := [.int p0, .int 0, .int 15]) (rest := []) ⟨hx, hb, hml, hown, hg⟩ (k_X8_within l g ad pe ct p0 (0 : Int32) (15 : Int32) hI) ⟨va_cnB 3 hg (z_gN mm_409) rfl rfl rfl (hN.at 7 rfl) (hg _ mm_108) (by decide +kernel) ⟨Nat.le_of_ble_eq_true rfl, Nat.le_of_ble_eq_true rfl⟩, (hg _ mm_408), trivial⟩ (zR.pre [.int p0, .int 0, .int 15] hP hK hN) rfl rfl hl.1 rfl (lv_room (Nat.le_of_ble_eq_true rfl)) dX3_settle_4 ⟨Nat.le_of_ble_eq_true rfl, Nat.le_of_ble_eq_true rfl⟩) (fun r1 hr1 => ?_)
  rcases hr1 with hr1 | hr1
  · skip
    obtain ⟨rfl, h2, h3⟩ := hr1
    have h2 : (0 : Int) ≤ p0.toInt := h2
    have h3 : p0.toInt ≤ (15 : Int) := h3
    refine lv_if_eq (tgt := 53) hx hb dX3_settle_7 (by decide) (fun c4 => ?_) (fun c4 => ?_)
    · skip
      exact absurd c4 (by decide)
    · skip
      refine lv_iload_n hx hb dX3_settle_10 rfl (lv_at hl 2 rfl) ?_
      refine zc_i (va_runSN (As := [.int v]) (rest := []) ⟨hx, hb, hml, hown, hg⟩ (k_X8_isValue l g ad pe ct v hI) ⟨va_cnB 1 hg (z_gN mm_433) rfl rfl rfl (hN.at 8 rfl) (hg _ mm_108) (by decide +kernel) ⟨Nat.le_of_ble_eq_true rfl, Nat.le_of_ble_eq_true rfl⟩, (hg _ mm_432), trivial⟩ (zR.pre [.int v] hP hK hN) rfl rfl hl.1 rfl (lv_room (Nat.le_of_ble_eq_true rfl)) dX3_settle_11 ⟨Nat.le_of_ble_eq_true rfl, Nat.le_of_ble_eq_true rfl⟩) (fun r5 hr5 => ?_)
      rcases hr5 with hr5 | hr5
      · skip
        obtain ⟨rfl, h6, h7⟩ := hr5
        have h6 : 0 ≤ v.toInt := h6
        have h7 : v.toInt ≤ 15 := h7
        refine lv_if_eq (tgt := 53) hx hb dX3_settle_14 (by decide) (fun c8 => ?_) (fun c8 => ?_)
        · skip
          exact absurd c8 (by decide)
        · skip
          refine lv_aload_n hx hb dX3_settle_17 rfl (lv_at hl 0 rfl) ?_
          obtain ⟨we10, se11, h12, h13, hs9⟩ := a8_35 (kc := kc) (by omega) hI
          refine va_get (D := g.1) (ci := 3) (v := .ref (ad (kc + 4))) (C := RX3) (T := TX3) (N := 6) hx hb hg inG3 hown hK hP kc (zw_at (by omega) hs9) rfl 4 (by decide) (hg _ mm_320) (fun _ h9 => h9) rfl dX3_settle_18 ?_
          refine lv_iload_n hx hb dX3_settle_21 rfl (lv_at hl 1 rfl) ?_
          refine lv_iload_n hx hb dX3_settle_22 rfl (lv_at hl 2 rfl) ?_
          obtain ⟨f15, hs14⟩ := a8_39 (kc := kc) (by omega) hI
          refine va_iast hx hb hK hP hD hS (kc + 4) 0 (zw_at (by omega) hs14) rfl (z_in rfl (by omega) (by omega)) dX3_settle_23 (fun H locs hP hD hS => ?_)
          have hP : zP g ((zw 126 ad ct).set (kc + 4) (ad (kc + 4), .inl (g.2 0, 16, .inl (upd f15 (Int32.toNatClampNeg p0) v)))) H := hP
          have hD : va_D A ((zw 126 ad ct).set (kc + 4) (ad (kc + 4), .inl (g.2 0, 16, .inl (upd f15 (Int32.toNatClampNeg p0) v)))) := hD
          rw [zw_set (by omega)] at hP hD
          obtain ⟨ct17, ec18⟩ : ∃ z : Nat → va_E, z = va_up ct (kc + 4) (.inl (g.2 0, 16, .inl (upd f15 (Int32.toNatClampNeg p0) v))) := ⟨_, rfl⟩
          rw [← ec18] at hP hD
          have hI : Inv8 g ad pe ct17 := by rw [ec18]; exact up8 hI (i8_39 (kc := kc) (by omega) ⟨_, rfl⟩)
          have hs19 : ct17 kc = .inr (3, [.int we10, .ref (ad (kc + 1)), .ref (ad (kc + 2)), .ref (ad (kc + 3)), .ref (ad (kc + 4)), .int se11]) := by rw [ec18, va_up_ne _ _ (by omega)]; exact hs9
          have hs20 : ct17 (kc + 4) = .inl (g.2 0, 16, .inl (upd f15 (Int32.toNatClampNeg p0) v)) := by rw [ec18]; exact va_up_self _ _ _
          refine lv_aload_n hx hb dX3_settle_24 rfl (lv_at hl 0 rfl) ?_
          refine lv_iload_n hx hb dX3_settle_25 rfl (lv_at hl 1 rfl) ?_
          refine lv_iconst (v := 1) hx hb dX3_settle_26 (by decide) ?_
          refine lv_iadd hx hb dX3_settle_27 ?_
          refine lv_topi (fun x21 ex21 => ?_)
          have tx21 : x21.toInt = p0.toInt + 1 := by rw [ex21]; exact z_add rfl (by decide : (1 : Int32).toInt = 1) (by omega) (by omega)
          refine va_put (D := g.1) (ci := 3) (v := .int x21) (ty := .int) (C := RX3) (T := TX3) (N := 6) hx hb hg inG3 tyX3 tyX3_ok nmX3 hown hK hP hD hS kc (zw_at (by omega) hs19) rfl 5 (by decide) (hg _ mm_321) (fun _ h9 => h9) rfl (by decide +kernel) rfl rfl (Nat.le_of_ble_eq_true rfl) dX3_settle_28 (fun H locs hP hD hS => ?_)
          have hP : zP g ((zw 126 ad ct17).set kc (ad kc, .inr (3, [.int we10, .ref (ad (kc + 1)), .ref (ad (kc + 2)), .ref (ad (kc + 3)), .ref (ad (kc + 4)), .int x21]))) H := hP
          have hD : va_D A ((zw 126 ad ct17).set kc (ad kc, .inr (3, [.int we10, .ref (ad (kc + 1)), .ref (ad (kc + 2)), .ref (ad (kc + 3)), .ref (ad (kc + 4)), .int x21]))) := hD
          rw [zw_set (by omega)] at hP hD
          obtain ⟨ct22, ec23⟩ : ∃ z : Nat → va_E, z = va_up ct17 kc (.inr (3, [.int we10, .ref (ad (kc + 1)), .ref (ad (kc + 2)), .ref (ad (kc + 3)), .ref (ad (kc + 4)), .int x21])) := ⟨_, rfl⟩
          rw [← ec23] at hP hD
          have hI : Inv8 g ad pe ct22 := by rw [ec23]; exact up8 hI (i8_35 (kc := kc) (by omega) ⟨(we10 : Int32), (x21 : Int32), (by first | omega | decide), (by first | omega | decide), rfl⟩)
          have hs24 : ct22 (kc + 4) = .inl (g.2 0, 16, .inl (upd f15 (Int32.toNatClampNeg p0) v)) := by rw [ec23, va_up_ne _ _ (by omega)]; exact hs20
          have hs25 : ct22 kc = .inr (3, [.int we10, .ref (ad (kc + 1)), .ref (ad (kc + 2)), .ref (ad (kc + 3)), .ref (ad (kc + 4)), .int x21]) := by rw [ec23]; exact va_up_self _ _ _
          refine lv_aload_n hx hb dX3_settle_31 rfl (lv_at hl 0 rfl) ?_
          refine lv_iload_n hx hb dX3_settle_32 rfl (lv_at hl 2 rfl) ?_
          refine lv_iconst (v := 0) hx hb dX3_settle_33 (by decide) ?_
          refine lv_iconst (v := 1) hx hb dX3_settle_34 (by decide) ?_
          refine lv_iload_n hx hb dX3_settle_35 rfl (lv_at hl 1 rfl) ?_
          refine lv_ishl hx hb dX3_settle_36 ?_
          refine lv_topi (fun x26 ex26 => ?_)
          have tx26 := z_shl1 (y := p0) rfl (by omega) (k := 15) (by decide) (by omega)
          rw [← ex26] at tx26
          have hFc := zw_free hD hS hA
          refine va_callv (va_runV (As := [.int v, .int 0, .int x26]) (rest := []) ⟨hx, hb, hml, hown, hg⟩ (k_X3_climb l g _ ad pe ct22 kc v x26 (by omega) hI) (cwV 3 hg (z_gV mm_415 mm_417 mm_0 mm_115 mm_418) rfl rfl rfl (by decide +kernel) ⟨Nat.le_of_ble_eq_true rfl, Nat.le_of_ble_eq_true rfl⟩) ⟨(zA.pre [.ref (ad kc), .int v, .int 0, .int x26] hP hK hD hN).1, va_recv hK hP (ci := 3) (q0 := kc) rfl (zw_at (by omega) hs25), (zA.pre [.ref (ad kc), .int v, .int 0, .int x26] hP hK hD hN).2⟩ rfl rfl hl.1 rfl (lv_room (Nat.le_of_ble_eq_true rfl)) dX3_settle_37 ⟨Nat.le_of_ble_eq_true rfl, Nat.le_of_ble_eq_true rfl⟩) hS (fun q _ h => hFc q h) hFc (fun _ t H1 locs ht hvm hr27 hB hz1 hk1 hS => ?_)
          obtain ⟨ct28, hP1, hD1, hI⟩ := hB
          rw [ht] at hP1
          have hD := hD1.weaken (fun _ _ _ h => hFc _ h)
          generalize H1 = H at hP1 hS ⊢
          have hP := hP1
          refine W.widen (k := 0) (n := 0) (Nat.le_refl _) (Nat.le_refl _) ?_
          refine lv_aload_n hx hb dX3_settle_40 rfl (lv_at hl 0 rfl) ?_
          obtain ⟨we30, se31, h32, h33, hs29⟩ := a8_35 (kc := kc) (by omega) hI
          refine va_get (D := g.1) (ci := 3) (v := .ref (ad (kc + 3))) (C := RX3) (T := TX3) (N := 6) hx hb hg inG3 hown hK hP kc (zw_at (by omega) hs29) rfl 3 (by decide) (hg _ mm_319) (fun _ h9 => h9) rfl dX3_settle_41 ?_
          refine lv_bipush (v := 32) hx hb dX3_settle_44 (by decide) ?_
          refine lv_dup2_11 hx hb dX3_settle_46 rfl rfl ?_
          obtain ⟨f35, hs34⟩ := a8_38 (kc := kc) (by omega) hI
          refine va_iald hx hb hK hP (kc + 3) 0 (zw_at (by omega) hs34) rfl (z_in (by decide : (32 : Int32).toInt = 32) (by omega) (by omega)) dX3_settle_47 ?_
          refine lv_topi (fun y36 ey36 => ?_)
          refine lv_iconst (v := 1) hx hb dX3_settle_48 (by decide) ?_
          refine lv_iload_n hx hb dX3_settle_49 rfl (lv_at hl 1 rfl) ?_
          refine lv_ishl hx hb dX3_settle_50 ?_
          refine lv_topi (fun x37 ex37 => ?_)
          have tx37 := z_shl1 (y := p0) rfl (by omega) (k := 15) (by decide) (by omega)
          rw [← ex37] at tx37
          refine lv_ior hx hb dX3_settle_51 ?_
          refine lv_topi (fun x38 ex38 => ?_)
          refine va_iast hx hb hK hP hD hS (kc + 3) 0 (zw_at (by omega) hs34) rfl (z_in (by decide : (32 : Int32).toInt = 32) (by omega) (by omega)) dX3_settle_52 (fun H locs hP hD hS => ?_)
          have hP : zP g ((zw 126 ad ct28).set (kc + 3) (ad (kc + 3), .inl (g.2 0, 33, .inl (upd f35 (Int32.toNatClampNeg 32) x38)))) H := hP
          have hD : va_D A ((zw 126 ad ct28).set (kc + 3) (ad (kc + 3), .inl (g.2 0, 33, .inl (upd f35 (Int32.toNatClampNeg 32) x38)))) := hD
          rw [zw_set (by omega)] at hP hD
          obtain ⟨ct40, ec41⟩ : ∃ z : Nat → va_E, z = va_up ct28 (kc + 3) (.inl (g.2 0, 33, .inl (upd f35 (Int32.toNatClampNeg 32) x38))) := ⟨_, rfl⟩
          rw [← ec41] at hP hD
          have hI : Inv8 g ad pe ct40 := by rw [ec41]; exact up8 hI (i8_38 (kc := kc) (by omega) ⟨_, rfl⟩)
          have hs42 : ct40 kc = .inr (3, [.int we30, .ref (ad (kc + 1)), .ref (ad (kc + 2)), .ref (ad (kc + 3)), .ref (ad (kc + 4)), .int se31]) := by rw [ec41, va_up_ne _ _ (by omega)]; exact hs29
          have hs43 : ct40 (kc + 3) = .inl (g.2 0, 33, .inl (upd f35 (Int32.toNatClampNeg 32) x38)) := by rw [ec41]; exact va_up_self _ _ _
          exact W.vret hx hb hr (fun t ht hW => ⟨⟨(), rfl, trivial, ct40, by rw [ht]; exact hP, hD, hI⟩, hS.F ht⟩) hS.2.2 dX3_settle_53
      · skip
        obtain ⟨rfl, h44⟩ := hr5
        have h44 : ¬ (0 ≤ v.toInt ∧ v.toInt ≤ 15) := h44
        refine lv_if_eq (tgt := 53) hx hb dX3_settle_14 (by decide) (fun c45 => ?_) (fun c45 => ?_)
        · skip
          exact W.vret hx hb hr (fun t ht hW => ⟨⟨(), rfl, trivial, ct, by rw [ht]; exact hP, hD, hI⟩, hS.F ht⟩) hS.2.2 dX3_settle_53
        · skip
          exact absurd c45 (by decide)
  · skip
    obtain ⟨rfl, h46⟩ := hr1
    have h46 : ¬ ((0 : Int) ≤ p0.toInt ∧ p0.toInt ≤ (15 : Int)) := h46
    refine lv_if_eq (tgt := 53) hx hb dX3_settle_7 (by decide) (fun c47 => ?_) (fun c47 => ?_)
    · skip
      exact W.vret hx hb hr (fun t ht hW => ⟨⟨(), rfl, trivial, ct, by rw [ht]; exact hP, hD, hI⟩, hS.F ht⟩) hS.2.2 dX3_settle_53
    · skip
      exact absurd c47 (by decide)

set_option maxHeartbeats 4000000 in
set_option maxRecDepth 100000 in
theorem k_X3_raised (l : Launch) (g : zG) (ad : Nat → Nat) (pe : Int32) (ct : Nat → va_E) (kc : Nat) (v : Int32) (n : Int32) (hf_kc : 35 ≤ kc ∧ kc < 55 ∧ (kc - 35) % 5 = 0) (hI : Inv8 g ad pe ct) : Met l yX3_raised (zW yX3_raised cX3_raised 5 (some .int)) ({ frames := 1, cells := 0, slots := 0, locals := 22 }) (va_Pc [.ref (ad kc), .int v, .int n] (zR g (zw 126 ad ct))) (vp_Si (fun r : Int32 => ((r.toInt = zrs (zTr ad (1000 + 100 * kc)) n.toInt.toNat v.toInt)))) 0 0 (fun _ => False) := by
  refine Met.ofW (cc := cX3_raised) (maxL := 5) (ret := (some .int)) (by decide) rfl ?_
  intro p e s m args below meth c s₁ B hml hv
  obtain ⟨rfl, hP, hK, hN⟩ := hv
  have hx := B.exec
  have hb := B.bytes
  have hr := B.returns
  have hg := zW.law (atoms_spec (ws := (zW yX3_raised cX3_raised 5 (some .int))) B.pre)
  have hown : s.vm.findClass RX3 = some m.cls := findClass_of_methodNamed B.named
  have hlocks := B.notSynchronized
  have hpe0 := hI.1
  have hl := lv_entry ([.ref (ad kc), .int v, .int n]) (n := 5) (Nat.le_of_ble_eq_true rfl)
  rw [lg_entry_eq]
  generalize (lg_sl ([.ref (ad kc), .int v, .int n]) ++ List.replicate (5 - (lg_sl ([.ref (ad kc), .int v, .int n])).length) Slot.unset).toArray = ls at hl ⊢
  have hl : lv_has ls 5 [(0, .ref (ad kc)), (1, .int v), (2, .int n)] := hl
  have rg_v := z_rng v
  have rg_n := z_rng n
  refine lv_iload_n hx hb dX3_raised_0 rfl (lv_at hl 1 rfl) ?_
  refine lv_istore_n (lv' := [(3, .int v), (0, .ref (ad kc)), (1, .int v), (2, .int n)]) hx hb dX3_raised_1 rfl hl (by decide) rfl (fun ls hl => ?_)
  refine lv_iconst (v := 0) hx hb dX3_raised_2 (by decide) ?_
  refine lv_istore (lv' := [(4, .int 0), (3, .int v), (0, .ref (ad kc)), (1, .int v), (2, .int n)]) hx hb dX3_raised_3 hl (by decide) rfl (fun ls hl => ?_)
  have loop5 : ∀ (n5 : Nat) (v4_5 : Int32) (v3_5 : Int32) (ls : Array Slot), ((n.toInt - v4_5.toInt : Int).toNat < n5) → (0 ≤ v4_5.toInt ∧ v4_5.toInt ≤ 2147483647) → (zrs (zTr ad (1000 + 100 * kc)) (n.toInt - v4_5.toInt).toNat v3_5.toInt = zrs (zTr ad (1000 + 100 * kc)) n.toInt.toNat v.toInt) → lv_has ls 5 [(4, .int v4_5), (3, .int v3_5), (0, .ref (ad kc)), (1, .int v), (2, .int n)] → W p l e (headSpec (zW yX3_raised cX3_raised 5 (some .int)) ({ frames := 1, cells := 0, slots := 0, locals := 22 })).room s m ([.ref (ad kc), .int v, .int n] : List Value).toArray below meth c s.heap [] 0 0 (MQ below (vp_Si (fun r : Int32 => ((r.toInt = zrs (zTr ad (1000 + 100 * kc)) n.toInt.toNat v.toInt)))) ([.ref (ad kc), .int v, .int n] : List Value).toArray s 0 0 (fun _ => False)) (F0 m 5 ls []) := by
    intro n5
    induction n5 with
    | zero =>
      intro v4_5 v3_5 ls hn5 b4_5 j0_5 hl
      exact absurd hn5 (Nat.not_lt_zero _)
    | succ n5 ih5 =>
      intro v4_5 v3_5 ls hn5 b4_5 j0_5 hl
      refine lv_iload hx hb dX3_raised_5 (lv_at hl 0 rfl) ?_
      refine lv_iload_n hx hb dX3_raised_7 rfl (lv_at hl 4 rfl) ?_
      refine lv_icmp_ge (tgt := 49) hx hb dX3_raised_8 (by decide) (fun c1 => ?_) (fun c1 => ?_)
      · skip
        have c1 : n.toInt ≤ v4_5.toInt := (z_le rfl rfl).mp c1
        refine lv_iload_n hx hb dX3_raised_49 rfl (lv_at hl 1 rfl) ?_
        exact W.iret (v := v3_5) hx hb hr (fun t ht hW => ⟨v3_5, rfl, by first | (rw [← j0_5, show (n.toInt - v4_5.toInt).toNat = 0 by omega]; rfl) | (rw [← j0_5, zrs_out (by omega)]), ht⟩) (fun q hq => by cases hq) dX3_raised_50
      · skip
        have c1 : ¬ (n.toInt ≤ v4_5.toInt) := fun q => c1 ((z_le rfl rfl).mpr q)
        refine lv_iload_n hx hb dX3_raised_11 rfl (lv_at hl 1 rfl) ?_
        refine lv_iconst (v := 0) hx hb dX3_raised_12 (by decide) ?_
        refine lv_bipush (v := 31) hx hb dX3_raised_13 (by decide) ?_
        refine zc_i (va_runSN (As := [.int v3_5, .int 0, .int 31]) (rest := []) ⟨hx, hb, hml, hown, hg⟩ (k_X8_within l g ad pe ct v3_5 (0 : Int32) (31 : Int32) hI) ⟨va_cnB 3 hg (z_gN mm_409) rfl rfl rfl (hN.at 7 rfl) (hg _ mm_108) (by decide +kernel) ⟨Nat.le_of_ble_eq_true rfl, Nat.le_of_ble_eq_true rfl⟩, (hg _ mm_408), trivial⟩ (zR.pre [.int v3_5, .int 0, .int 31] hP hK hN) rfl rfl hl.1 rfl (lv_room (Nat.le_of_ble_eq_true rfl)) dX3_raised_15 ⟨Nat.le_of_ble_eq_true rfl, Nat.le_of_ble_eq_true rfl⟩) (fun r2 hr2 => ?_)
        rcases hr2 with hr2 | hr2
        · skip
          obtain ⟨rfl, h3, h4⟩ := hr2
          have h3 : (0 : Int) ≤ v3_5.toInt := h3
          have h4 : v3_5.toInt ≤ (31 : Int) := h4
          refine lv_if_eq (tgt := 49) hx hb dX3_raised_18 (by decide) (fun c5 => ?_) (fun c5 => ?_)
          · skip
            exact absurd c5 (by decide)
          · skip
            refine lv_aload_n hx hb dX3_raised_21 rfl (lv_at hl 2 rfl) ?_
            obtain ⟨we7, se8, h9, h10, hs6⟩ := a8_35 (kc := kc) (by omega) hI
            refine va_get (D := g.1) (ci := 3) (v := .ref (ad (kc + 1))) (C := RX3) (T := TX3) (N := 6) hx hb hg inG3 hown hK hP kc (zw_at (by omega) hs6) rfl 1 (by decide) (hg _ mm_317) (fun _ h9 => h9) rfl dX3_raised_22 ?_
            refine lv_iload_n hx hb dX3_raised_25 rfl (lv_at hl 1 rfl) ?_
            obtain ⟨f12, hp13, hs11⟩ := a8_36 (kc := kc) (by omega) hI
            refine va_iald hx hb hK hP (kc + 1) 0 (zw_at (by omega) hs11) rfl (z_in rfl (by omega) (by omega)) dX3_raised_26 ?_
            refine lv_topi (fun y14 ey14 => ?_)
            have hy14 := hp13 _ (z_clt (x := v3_5) rfl (by omega) (by omega))
            rw [← ey14] at hy14
            have hy14 : y14.toInt = zTr ad (1000 + 100 * kc) (Int32.toNatClampNeg v3_5) := hy14
            refine lv_iconst (v := (-1)) hx hb dX3_raised_27 (by decide) ?_
            refine lv_icmp_ne (tgt := 36) hx hb dX3_raised_28 (by decide) (fun c15 => ?_) (fun c15 => ?_)
            · skip
              have c15 : ¬ (y14.toInt = (-1)) := fun q => c15 ((z_eq rfl (by decide : ((-1) : Int32).toInt = (-1))).mpr q)
              refine lv_aload_n hx hb dX3_raised_36 rfl (lv_at hl 2 rfl) ?_
              refine va_get (D := g.1) (ci := 3) (v := .ref (ad (kc + 1))) (C := RX3) (T := TX3) (N := 6) hx hb hg inG3 hown hK hP kc (zw_at (by omega) hs6) rfl 1 (by decide) (hg _ mm_317) (fun _ h9 => h9) rfl dX3_raised_37 ?_
              refine lv_iload_n hx hb dX3_raised_40 rfl (lv_at hl 1 rfl) ?_
              refine va_iald hx hb hK hP (kc + 1) 0 (zw_at (by omega) hs11) rfl (z_in rfl (by omega) (by omega)) dX3_raised_41 ?_
              refine lv_topi (fun y16 ey16 => ?_)
              have hy16 := hp13 _ (z_clt (x := v3_5) rfl (by omega) (by omega))
              rw [← ey16] at hy16
              have hy16 : y16.toInt = zTr ad (1000 + 100 * kc) (Int32.toNatClampNeg v3_5) := hy16
              have hz42 : zrs (zTr ad (1000 + 100 * kc)) (n.toInt - (v4_5.toInt + 1)).toNat y16.toInt = zrs (zTr ad (1000 + 100 * kc)) n.toInt.toNat v.toInt := by
                have hc : Int32.toNatClampNeg v3_5 = v3_5.toInt.toNat := z_cl (by omega)
                rw [← j0_5, show (n.toInt - v4_5.toInt).toNat = (n.toInt - (v4_5.toInt + 1)).toNat + 1 by omega, zrs_st ⟨by omega, by omega⟩, ← hc]
                rw [if_neg (by omega), hy16]
              refine lv_istore_n (lv' := [(3, .int y16), (4, .int v4_5), (0, .ref (ad kc)), (1, .int v), (2, .int n)]) hx hb dX3_raised_42 rfl hl (by decide) rfl (fun ls hl => ?_)
              obtain ⟨x17, ex17⟩ : ∃ y : Int32, y = v4_5 + 1 := ⟨_, rfl⟩
              have tx17 : x17.toInt = v4_5.toInt + 1 := by rw [ex17]; exact z_add rfl (by decide : (1 : Int32).toInt = 1) (by omega) (by omega)
              refine lv_iinc (v := x17) (lv' := [(4, .int x17), (3, .int y16), (0, .ref (ad kc)), (1, .int v), (2, .int n)]) hx hb dX3_raised_43 hl (k := 1) rfl (by rw [ex17]; rfl) (by decide) rfl (fun ls hl => ?_)
              have hz46 : zrs (zTr ad (1000 + 100 * kc)) (n.toInt - x17.toInt).toNat y16.toInt = zrs (zTr ad (1000 + 100 * kc)) n.toInt.toNat v.toInt := by rw [tx17]; exact hz42
              refine lv_goto (tgt := 5) hx hb dX3_raised_46 (by decide) ?_
              exact ih5 x17 y16 ls (by omega) (by first | omega | decide) (by first | omega | decide) (lv_sub hl [0, 1, 2, 3, 4] rfl)
            · skip
              have c15 : y14.toInt = (-1) := (z_eq rfl (by decide : ((-1) : Int32).toInt = (-1))).mp c15
              refine lv_bipush (v := 32) hx hb dX3_raised_31 (by decide) ?_
              refine lv_goto (tgt := 42) hx hb dX3_raised_33 (by decide) ?_
              have hz42 : zrs (zTr ad (1000 + 100 * kc)) (n.toInt - (v4_5.toInt + 1)).toNat (32 : Int32).toInt = zrs (zTr ad (1000 + 100 * kc)) n.toInt.toNat v.toInt := by
                have hc : Int32.toNatClampNeg v3_5 = v3_5.toInt.toNat := z_cl (by omega)
                rw [← j0_5, show (n.toInt - v4_5.toInt).toNat = (n.toInt - (v4_5.toInt + 1)).toNat + 1 by omega, zrs_st ⟨by omega, by omega⟩, ← hc]
                rw [if_pos (by omega), show (32 : Int32).toInt = 32 by decide]
              refine lv_istore_n (lv' := [(3, .int 32), (4, .int v4_5), (0, .ref (ad kc)), (1, .int v), (2, .int n)]) hx hb dX3_raised_42 rfl hl (by decide) rfl (fun ls hl => ?_)
              obtain ⟨x18, ex18⟩ : ∃ y : Int32, y = v4_5 + 1 := ⟨_, rfl⟩
              have tx18 : x18.toInt = v4_5.toInt + 1 := by rw [ex18]; exact z_add rfl (by decide : (1 : Int32).toInt = 1) (by omega) (by omega)
              refine lv_iinc (v := x18) (lv' := [(4, .int x18), (3, .int 32), (0, .ref (ad kc)), (1, .int v), (2, .int n)]) hx hb dX3_raised_43 hl (k := 1) rfl (by rw [ex18]; rfl) (by decide) rfl (fun ls hl => ?_)
              have hz46 : zrs (zTr ad (1000 + 100 * kc)) (n.toInt - x18.toInt).toNat (32 : Int32).toInt = zrs (zTr ad (1000 + 100 * kc)) n.toInt.toNat v.toInt := by rw [tx18]; exact hz42
              refine lv_goto (tgt := 5) hx hb dX3_raised_46 (by decide) ?_
              exact ih5 x18 (32 : Int32) ls (by omega) (by first | omega | decide) (by first | omega | decide) (lv_sub hl [0, 1, 2, 3, 4] rfl)
        · skip
          obtain ⟨rfl, h19⟩ := hr2
          have h19 : ¬ ((0 : Int) ≤ v3_5.toInt ∧ v3_5.toInt ≤ (31 : Int)) := h19
          refine lv_if_eq (tgt := 49) hx hb dX3_raised_18 (by decide) (fun c20 => ?_) (fun c20 => ?_)
          · skip
            refine lv_iload_n hx hb dX3_raised_49 rfl (lv_at hl 1 rfl) ?_
            exact W.iret (v := v3_5) hx hb hr (fun t ht hW => ⟨v3_5, rfl, by first | (rw [← j0_5, show (n.toInt - v4_5.toInt).toNat = 0 by omega]; rfl) | (rw [← j0_5, zrs_out (by omega)]), ht⟩) (fun q hq => by cases hq) dX3_raised_50
          · skip
            exact absurd c20 (by decide)
  have hz5 : zrs (zTr ad (1000 + 100 * kc)) (n.toInt - (0 : Int32).toInt).toNat v.toInt = zrs (zTr ad (1000 + 100 * kc)) n.toInt.toNat v.toInt := by rw [show (0 : Int32).toInt = 0 by decide, Int.sub_zero]
  exact loop5 ((n.toInt - (0 : Int32).toInt : Int).toNat + 1) (0 : Int32) v ls (by omega) (by first | omega | decide) (by first | omega | decide) (lv_sub hl [0, 1, 2, 3, 4] rfl)

set_option maxHeartbeats 4000000 in
set_option maxRecDepth 100000 in
theorem k_X3_valueOf (l : Launch) (g : zG) (ad : Nat → Nat) (pe : Int32) (ct : Nat → va_E) (kc : Nat) (nd : Int32) (hf_kc : 35 ≤ kc ∧ kc < 55 ∧ (kc - 35) % 5 = 0) (hI : Inv8 g ad pe ct) : Met l yX3_valueOf (zW yX3_valueOf cX3_valueOf 2 (some .int)) ({ frames := 0, cells := 0, slots := 0, locals := 0 }) (va_Pc [.ref (ad kc), .int nd] (zR g (zw 126 ad ct))) (vp_Si (fun r : Int32 => (True))) 0 0 (fun _ => False) := by
  refine Met.ofW (cc := cX3_valueOf) (maxL := 2) (ret := (some .int)) (by decide) rfl ?_
  intro p e s m args below meth c s₁ B hml hv
  obtain ⟨rfl, hP, hK, hN⟩ := hv
  have hx := B.exec
  have hb := B.bytes
  have hr := B.returns
  have hg := zW.law (atoms_spec (ws := (zW yX3_valueOf cX3_valueOf 2 (some .int))) B.pre)
  have hown : s.vm.findClass RX3 = some m.cls := findClass_of_methodNamed B.named
  have hlocks := B.notSynchronized
  have hpe0 := hI.1
  have hl := lv_entry ([.ref (ad kc), .int nd]) (n := 2) (Nat.le_of_ble_eq_true rfl)
  rw [lg_entry_eq]
  generalize (lg_sl ([.ref (ad kc), .int nd]) ++ List.replicate (2 - (lg_sl ([.ref (ad kc), .int nd])).length) Slot.unset).toArray = ls at hl ⊢
  have hl : lv_has ls 2 [(0, .ref (ad kc)), (1, .int nd)] := hl
  have rg_nd := z_rng nd
  refine lv_iload_n hx hb dX3_valueOf_0 rfl (lv_at hl 1 rfl) ?_
  refine lv_if_lt (tgt := 19) hx hb dX3_valueOf_1 (by decide) (fun c1 => ?_) (fun c1 => ?_)
  · skip
    have c1 : nd.toInt < 0 := (z_lt rfl (by decide : (0 : Int32).toInt = 0)).mp c1
    refine lv_iconst (v := 0) hx hb dX3_valueOf_19 (by decide) ?_
    have q2 : (0 : Int32).toInt = 0 := by decide
    exact W.iret (v := 0) hx hb hr (fun t ht hW => ⟨0, rfl, trivial, ht⟩) (fun q hq => by cases hq) dX3_valueOf_20
  · skip
    have c1 : ¬ (nd.toInt < 0) := fun q => c1 ((z_lt rfl (by decide : (0 : Int32).toInt = 0)).mpr q)
    refine lv_iload_n hx hb dX3_valueOf_4 rfl (lv_at hl 1 rfl) ?_
    refine lv_bipush (v := 16) hx hb dX3_valueOf_5 (by decide) ?_
    refine lv_icmp_ge (tgt := 19) hx hb dX3_valueOf_7 (by decide) (fun c3 => ?_) (fun c3 => ?_)
    · skip
      have c3 : 16 ≤ nd.toInt := (z_le (by decide : (16 : Int32).toInt = 16) rfl).mp c3
      refine lv_iconst (v := 0) hx hb dX3_valueOf_19 (by decide) ?_
      have q4 : (0 : Int32).toInt = 0 := by decide
      exact W.iret (v := 0) hx hb hr (fun t ht hW => ⟨0, rfl, trivial, ht⟩) (fun q hq => by cases hq) dX3_valueOf_20
    · skip
      have c3 : ¬ (16 ≤ nd.toInt) := fun q => c3 ((z_le (by decide : (16 : Int32).toInt = 16) rfl).mpr q)
      refine lv_aload_n hx hb dX3_valueOf_10 rfl (lv_at hl 0 rfl) ?_
      obtain ⟨we6, se7, h8, h9, hs5⟩ := a8_35 (kc := kc) (by omega) hI
      refine va_get (D := g.1) (ci := 3) (v := .ref (ad (kc + 4))) (C := RX3) (T := TX3) (N := 6) hx hb hg inG3 hown hK hP kc (zw_at (by omega) hs5) rfl 4 (by decide) (hg _ mm_320) (fun _ h9 => h9) rfl dX3_valueOf_11 ?_
      refine lv_iload_n hx hb dX3_valueOf_14 rfl (lv_at hl 1 rfl) ?_
      obtain ⟨f11, hs10⟩ := a8_39 (kc := kc) (by omega) hI
      refine va_iald hx hb hK hP (kc + 4) 0 (zw_at (by omega) hs10) rfl (z_in rfl (by omega) (by omega)) dX3_valueOf_15 ?_
      refine lv_topi (fun y12 ey12 => ?_)
      refine lv_goto (tgt := 20) hx hb dX3_valueOf_16 (by decide) ?_
      exact W.iret (v := y12) hx hb hr (fun t ht hW => ⟨y12, rfl, trivial, ht⟩) (fun q hq => by cases hq) dX3_valueOf_20

set_option maxHeartbeats 4000000 in
set_option maxRecDepth 100000 in
theorem k_X3_whoBelow (l : Launch) (g : zG) (ad : Nat → Nat) (pe : Int32) (ct : Nat → va_E) (kc : Nat) (nd : Int32) (hf_kc : 35 ≤ kc ∧ kc < 55 ∧ (kc - 35) % 5 = 0) (hI : Inv8 g ad pe ct) : Met l yX3_whoBelow (zW yX3_whoBelow cX3_whoBelow 2 (some .int)) ({ frames := 0, cells := 0, slots := 0, locals := 0 }) (va_Pc [.ref (ad kc), .int nd] (zR g (zw 126 ad ct))) (vp_Si (fun r : Int32 => (True))) 0 0 (fun _ => False) := by
  refine Met.ofW (cc := cX3_whoBelow) (maxL := 2) (ret := (some .int)) (by decide) rfl ?_
  intro p e s m args below meth c s₁ B hml hv
  obtain ⟨rfl, hP, hK, hN⟩ := hv
  have hx := B.exec
  have hb := B.bytes
  have hr := B.returns
  have hg := zW.law (atoms_spec (ws := (zW yX3_whoBelow cX3_whoBelow 2 (some .int))) B.pre)
  have hown : s.vm.findClass RX3 = some m.cls := findClass_of_methodNamed B.named
  have hlocks := B.notSynchronized
  have hpe0 := hI.1
  have hl := lv_entry ([.ref (ad kc), .int nd]) (n := 2) (Nat.le_of_ble_eq_true rfl)
  rw [lg_entry_eq]
  generalize (lg_sl ([.ref (ad kc), .int nd]) ++ List.replicate (2 - (lg_sl ([.ref (ad kc), .int nd])).length) Slot.unset).toArray = ls at hl ⊢
  have hl : lv_has ls 2 [(0, .ref (ad kc)), (1, .int nd)] := hl
  have rg_nd := z_rng nd
  refine lv_iload_n hx hb dX3_whoBelow_0 rfl (lv_at hl 1 rfl) ?_
  refine lv_if_lt (tgt := 19) hx hb dX3_whoBelow_1 (by decide) (fun c1 => ?_) (fun c1 => ?_)
  · skip
    have c1 : nd.toInt < 0 := (z_lt rfl (by decide : (0 : Int32).toInt = 0)).mp c1
    refine lv_iconst (v := 0) hx hb dX3_whoBelow_19 (by decide) ?_
    have q2 : (0 : Int32).toInt = 0 := by decide
    exact W.iret (v := 0) hx hb hr (fun t ht hW => ⟨0, rfl, trivial, ht⟩) (fun q hq => by cases hq) dX3_whoBelow_20
  · skip
    have c1 : ¬ (nd.toInt < 0) := fun q => c1 ((z_lt rfl (by decide : (0 : Int32).toInt = 0)).mpr q)
    refine lv_iload_n hx hb dX3_whoBelow_4 rfl (lv_at hl 1 rfl) ?_
    refine lv_bipush (v := 32) hx hb dX3_whoBelow_5 (by decide) ?_
    refine lv_icmp_gt (tgt := 19) hx hb dX3_whoBelow_7 (by decide) (fun c3 => ?_) (fun c3 => ?_)
    · skip
      have c3 : 32 < nd.toInt := (z_lt (by decide : (32 : Int32).toInt = 32) rfl).mp c3
      refine lv_iconst (v := 0) hx hb dX3_whoBelow_19 (by decide) ?_
      have q4 : (0 : Int32).toInt = 0 := by decide
      exact W.iret (v := 0) hx hb hr (fun t ht hW => ⟨0, rfl, trivial, ht⟩) (fun q hq => by cases hq) dX3_whoBelow_20
    · skip
      have c3 : ¬ (32 < nd.toInt) := fun q => c3 ((z_lt (by decide : (32 : Int32).toInt = 32) rfl).mpr q)
      refine lv_aload_n hx hb dX3_whoBelow_10 rfl (lv_at hl 0 rfl) ?_
      obtain ⟨we6, se7, h8, h9, hs5⟩ := a8_35 (kc := kc) (by omega) hI
      refine va_get (D := g.1) (ci := 3) (v := .ref (ad (kc + 3))) (C := RX3) (T := TX3) (N := 6) hx hb hg inG3 hown hK hP kc (zw_at (by omega) hs5) rfl 3 (by decide) (hg _ mm_319) (fun _ h9 => h9) rfl dX3_whoBelow_11 ?_
      refine lv_iload_n hx hb dX3_whoBelow_14 rfl (lv_at hl 1 rfl) ?_
      obtain ⟨f11, hs10⟩ := a8_38 (kc := kc) (by omega) hI
      refine va_iald hx hb hK hP (kc + 3) 0 (zw_at (by omega) hs10) rfl (z_in rfl (by omega) (by omega)) dX3_whoBelow_15 ?_
      refine lv_topi (fun y12 ey12 => ?_)
      refine lv_goto (tgt := 20) hx hb dX3_whoBelow_16 (by decide) ?_
      exact W.iret (v := y12) hx hb hr (fun t ht hW => ⟨y12, rfl, trivial, ht⟩) (fun q hq => by cases hq) dX3_whoBelow_20

set_option maxHeartbeats 4000000 in
set_option maxRecDepth 100000 in
theorem k_X3_valuesBelow (l : Launch) (g : zG) (ad : Nat → Nat) (pe : Int32) (ct : Nat → va_E) (kc : Nat) (nd : Int32) (hf_kc : 35 ≤ kc ∧ kc < 55 ∧ (kc - 35) % 5 = 0) (hI : Inv8 g ad pe ct) : Met l yX3_valuesBelow (zW yX3_valuesBelow cX3_valuesBelow 2 (some .int)) ({ frames := 0, cells := 0, slots := 0, locals := 0 }) (va_Pc [.ref (ad kc), .int nd] (zR g (zw 126 ad ct))) (vp_Si (fun r : Int32 => ((0 ≤ nd.toInt ∧ nd.toInt ≤ 32 → r.toInt = zblN (zTr ad (1000 + 100 * kc)) nd.toInt.toNat 16)))) 0 0 (fun _ => False) := by
  refine Met.ofW (cc := cX3_valuesBelow) (maxL := 2) (ret := (some .int)) (by decide) rfl ?_
  intro p e s m args below meth c s₁ B hml hv
  obtain ⟨rfl, hP, hK, hN⟩ := hv
  have hx := B.exec
  have hb := B.bytes
  have hr := B.returns
  have hg := zW.law (atoms_spec (ws := (zW yX3_valuesBelow cX3_valuesBelow 2 (some .int))) B.pre)
  have hown : s.vm.findClass RX3 = some m.cls := findClass_of_methodNamed B.named
  have hlocks := B.notSynchronized
  have hpe0 := hI.1
  have hl := lv_entry ([.ref (ad kc), .int nd]) (n := 2) (Nat.le_of_ble_eq_true rfl)
  rw [lg_entry_eq]
  generalize (lg_sl ([.ref (ad kc), .int nd]) ++ List.replicate (2 - (lg_sl ([.ref (ad kc), .int nd])).length) Slot.unset).toArray = ls at hl ⊢
  have hl : lv_has ls 2 [(0, .ref (ad kc)), (1, .int nd)] := hl
  have rg_nd := z_rng nd
  refine lv_iload_n hx hb dX3_valuesBelow_0 rfl (lv_at hl 1 rfl) ?_
  refine lv_if_lt (tgt := 19) hx hb dX3_valuesBelow_1 (by decide) (fun c1 => ?_) (fun c1 => ?_)
  · skip
    have c1 : nd.toInt < 0 := (z_lt rfl (by decide : (0 : Int32).toInt = 0)).mp c1
    refine lv_iconst (v := 0) hx hb dX3_valuesBelow_19 (by decide) ?_
    have q2 : (0 : Int32).toInt = 0 := by decide
    exact W.iret (v := 0) hx hb hr (fun t ht hW => ⟨0, rfl, fun q => absurd q (by omega), ht⟩) (fun q hq => by cases hq) dX3_valuesBelow_20
  · skip
    have c1 : ¬ (nd.toInt < 0) := fun q => c1 ((z_lt rfl (by decide : (0 : Int32).toInt = 0)).mpr q)
    refine lv_iload_n hx hb dX3_valuesBelow_4 rfl (lv_at hl 1 rfl) ?_
    refine lv_bipush (v := 32) hx hb dX3_valuesBelow_5 (by decide) ?_
    refine lv_icmp_gt (tgt := 19) hx hb dX3_valuesBelow_7 (by decide) (fun c3 => ?_) (fun c3 => ?_)
    · skip
      have c3 : 32 < nd.toInt := (z_lt (by decide : (32 : Int32).toInt = 32) rfl).mp c3
      refine lv_iconst (v := 0) hx hb dX3_valuesBelow_19 (by decide) ?_
      have q4 : (0 : Int32).toInt = 0 := by decide
      exact W.iret (v := 0) hx hb hr (fun t ht hW => ⟨0, rfl, fun q => absurd q (by omega), ht⟩) (fun q hq => by cases hq) dX3_valuesBelow_20
    · skip
      have c3 : ¬ (32 < nd.toInt) := fun q => c3 ((z_lt (by decide : (32 : Int32).toInt = 32) rfl).mpr q)
      refine lv_aload_n hx hb dX3_valuesBelow_10 rfl (lv_at hl 0 rfl) ?_
      obtain ⟨we6, se7, h8, h9, hs5⟩ := a8_35 (kc := kc) (by omega) hI
      refine va_get (D := g.1) (ci := 3) (v := .ref (ad (kc + 2))) (C := RX3) (T := TX3) (N := 6) hx hb hg inG3 hown hK hP kc (zw_at (by omega) hs5) rfl 2 (by decide) (hg _ mm_318) (fun _ h9 => h9) rfl dX3_valuesBelow_11 ?_
      refine lv_iload_n hx hb dX3_valuesBelow_14 rfl (lv_at hl 1 rfl) ?_
      obtain ⟨f11, hp12, hs10⟩ := a8_37 (kc := kc) (by omega) hI
      refine va_iald hx hb hK hP (kc + 2) 0 (zw_at (by omega) hs10) rfl (z_in rfl (by omega) (by omega)) dX3_valuesBelow_15 ?_
      refine lv_topi (fun y13 ey13 => ?_)
      have hy13 := hp12 _ (z_clt (x := nd) rfl (by omega) (by omega))
      rw [← ey13] at hy13
      have hy13 : y13.toInt = zblN (zTr ad (1000 + 100 * kc)) (Int32.toNatClampNeg nd) 16 := hy13
      refine lv_goto (tgt := 20) hx hb dX3_valuesBelow_16 (by decide) ?_
      exact W.iret (v := y13) hx hb hr (fun t ht hW => ⟨y13, rfl, fun _ => by rw [hy13, z_cl (k := nd.toInt.toNat) (by omega)], ht⟩) (fun q hq => by cases hq) dX3_valuesBelow_20

set_option maxHeartbeats 4000000 in
set_option maxRecDepth 100000 in
theorem k_X3_lossOf (l : Launch) (g : zG) (ad : Nat → Nat) (pe : Int32) (ct : Nat → va_E) (kc : Nat) (nd : Int32) (hf_kc : 35 ≤ kc ∧ kc < 55 ∧ (kc - 35) % 5 = 0) (hI : Inv8 g ad pe ct) : Met l yX3_lossOf (zW yX3_lossOf cX3_lossOf 2 (some .int)) ({ frames := 1, cells := 0, slots := 0, locals := 21 }) (va_Pc [.ref (ad kc), .int nd] (zR g (zw 126 ad ct))) (vp_Si (fun r : Int32 => (True))) 0 0 (fun _ => False) := by
  refine Met.ofW (cc := cX3_lossOf) (maxL := 2) (ret := (some .int)) (by decide) rfl ?_
  intro p e s m args below meth c s₁ B hml hv
  obtain ⟨rfl, hP, hK, hN⟩ := hv
  have hx := B.exec
  have hb := B.bytes
  have hr := B.returns
  have hg := zW.law (atoms_spec (ws := (zW yX3_lossOf cX3_lossOf 2 (some .int))) B.pre)
  have hown : s.vm.findClass RX3 = some m.cls := findClass_of_methodNamed B.named
  have hlocks := B.notSynchronized
  have hpe0 := hI.1
  have hl := lv_entry ([.ref (ad kc), .int nd]) (n := 2) (Nat.le_of_ble_eq_true rfl)
  rw [lg_entry_eq]
  generalize (lg_sl ([.ref (ad kc), .int nd]) ++ List.replicate (2 - (lg_sl ([.ref (ad kc), .int nd])).length) Slot.unset).toArray = ls at hl ⊢
  have hl : lv_has ls 2 [(0, .ref (ad kc)), (1, .int nd)] := hl
  have rg_nd := z_rng nd
  refine lv_aload_n hx hb dX3_lossOf_0 rfl (lv_at hl 0 rfl) ?_
  obtain ⟨we2, se3, h4, h5, hs1⟩ := a8_35 (kc := kc) (by omega) hI
  refine va_get (D := g.1) (ci := 3) (v := .int we2) (C := RX3) (T := TX3) (N := 6) hx hb hg inG3 hown hK hP kc (zw_at (by omega) hs1) rfl 0 (by decide) (hg _ mm_315) (fun _ h9 => h9) rfl dX3_lossOf_1 ?_
  refine lv_aload_n hx hb dX3_lossOf_4 rfl (lv_at hl 0 rfl) ?_
  refine lv_iload_n hx hb dX3_lossOf_5 rfl (lv_at hl 1 rfl) ?_
  refine zc_i (va_runV (As := [.int nd]) (rest := [.int we2]) ⟨hx, hb, hml, hown, hg⟩ (k_X3_valuesBelow l g ad pe ct kc nd (by omega) hI) (cwV 1 hg (z_gV mm_869 mm_541 mm_542 mm_115 mm_543) rfl rfl rfl (by decide +kernel) ⟨Nat.le_of_ble_eq_true rfl, Nat.le_of_ble_eq_true rfl⟩) ⟨(zR.pre [.ref (ad kc), .int nd] hP hK hN).1, va_recv hK hP (ci := 3) (q0 := kc) rfl (zw_at (by omega) hs1), (zR.pre [.ref (ad kc), .int nd] hP hK hN).2⟩ rfl rfl hl.1 rfl (lv_room (Nat.le_of_ble_eq_true rfl)) dX3_lossOf_6 ⟨Nat.le_of_ble_eq_true rfl, Nat.le_of_ble_eq_true rfl⟩) (fun r6 hr6 => ?_)
  have hr6_0 := hr6
  have hr6_0 : 0 ≤ nd.toInt ∧ nd.toInt ≤ 32 → r6.toInt = zblN (zTr ad (1000 + 100 * kc)) nd.toInt.toNat 16 := hr6_0
  refine lv_iconst (v := 1) hx hb dX3_lossOf_9 (by decide) ?_
  refine lv_isub hx hb dX3_lossOf_10 ?_
  refine lv_topi (fun x7 ex7 => ?_)
  refine lv_iconst (v := 0) hx hb dX3_lossOf_11 (by decide) ?_
  refine va_mmax hx hb (hml.trans hl.1.symm) hown (hg _ mm_870) (hg _ mm_780) (hg _ mm_118) (hg _ mm_781) (Nat.le_of_ble_eq_true rfl) (Nat.le_of_ble_eq_true rfl) (Nat.le_of_ble_eq_true rfl) (Nat.le_of_ble_eq_true rfl) dX3_lossOf_12 ?_
  refine lv_topi (fun x8 ex8 => ?_)
  have tx8 := z_max (x := x7) (y := 0) rfl (by decide : (0 : Int32).toInt = 0)
  rw [← ex8] at tx8
  refine lv_imul hx hb dX3_lossOf_15 ?_
  refine lv_topi (fun x9 ex9 => ?_)
  exact W.iret (v := x9) hx hb hr (fun t ht hW => ⟨x9, rfl, trivial, ht⟩) (fun q hq => by cases hq) dX3_lossOf_16
