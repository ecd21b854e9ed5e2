set_option maxHeartbeats 4000000 in
set_option maxRecDepth 100000 in
theorem k_X1_level (l : Launch) (g : zG) (ad : Nat → Nat) (pe : Int32) (ct : Nat → va_E) (row : Int32) (c0 : Int32) (hl_row : 0 ≤ row.toInt ∧ row.toInt ≤ 624) (hI : Inv8 g ad pe ct) : Met l yX1_level (zW yX1_level cX1_level 4 (some .int)) ({ frames := 0, cells := 0, slots := 0, locals := 0 }) (va_Pc [.int row, .int c0] (zR g (zw 126 ad ct))) (vp_Si (fun r : Int32 => ((0 ≤ r.toInt) ∧ (r.toInt ≤ 4)))) 0 0 (fun _ => False) := by
  refine Met.ofW (cc := cX1_level) (maxL := 4) (ret := (some .int)) (by decide) rfl ?_
  intro p e s m args below meth c s₁ B hml hv
  obtain ⟨rfl, hP, hK, hN⟩ := hv
  have hx := B.exec
  have hb := B.bytes
  have hr := B.returns
  have hg := zW.law (atoms_spec (ws := (zW yX1_level cX1_level 4 (some .int))) B.pre)
  have hown : s.vm.findClass RX1 = some m.cls := findClass_of_methodNamed B.named
  have hlocks := B.notSynchronized
  have hpe0 := hI.1
  have hl := lv_entry ([.int row, .int c0]) (n := 4) (Nat.le_of_ble_eq_true rfl)
  rw [lg_entry_eq]
  generalize (lg_sl ([.int row, .int c0]) ++ List.replicate (4 - (lg_sl ([.int row, .int c0])).length) Slot.unset).toArray = ls at hl ⊢
  have hl : lv_has ls 4 [(0, .int row), (1, .int c0)] := hl
  have rg_c0 := z_rng c0
  refine lv_iload_n hx hb dX1_level_0 rfl (lv_at hl 0 rfl) ?_
  refine lv_istore_n (lv' := [(2, .int row), (0, .int row), (1, .int c0)]) hx hb dX1_level_1 rfl hl (by decide) rfl (fun ls hl => ?_)
  refine lv_iconst (v := 3) hx hb dX1_level_2 (by decide) ?_
  refine lv_istore_n (lv' := [(3, .int 3), (2, .int row), (0, .int row), (1, .int c0)]) hx hb dX1_level_3 rfl hl (by decide) rfl (fun ls hl => ?_)
  have loop4 : ∀ (n4 : Nat) (v3_4 : Int32) (v2_4 : Int32) (ls : Array Slot), ((v3_4.toInt - c0.toInt : Int).toNat < n4) → (0 ≤ v2_4.toInt ∧ v2_4.toInt ≤ 624) → (-2147483648 ≤ v3_4.toInt ∧ v3_4.toInt ≤ 3) → lv_has ls 4 [(3, .int v3_4), (2, .int v2_4), (0, .int row), (1, .int c0)] → W p l e (headSpec (zW yX1_level cX1_level 4 (some .int)) ({ frames := 0, cells := 0, slots := 0, locals := 0 })).room s m ([.int row, .int c0] : List Value).toArray below meth c s.heap [] 0 0 (MQ below (vp_Si (fun r : Int32 => ((0 ≤ r.toInt) ∧ (r.toInt ≤ 4)))) ([.int row, .int c0] : List Value).toArray s 0 0 (fun _ => False)) (F0 m 4 ls []) := by
    intro n4
    induction n4 with
    | zero =>
      intro v3_4 v2_4 ls hn4 b2_4 b3_4 hl
      exact absurd hn4 (Nat.not_lt_zero _)
    | succ n4 ih4 =>
      intro v3_4 v2_4 ls hn4 b2_4 b3_4 hl
      refine lv_iload_n hx hb dX1_level_4 rfl (lv_at hl 0 rfl) ?_
      refine lv_iload_n hx hb dX1_level_5 rfl (lv_at hl 3 rfl) ?_
      refine lv_icmp_le (tgt := 19) hx hb dX1_level_6 (by decide) (fun c1 => ?_) (fun c1 => ?_)
      · skip
        have c1 : v3_4.toInt ≤ c0.toInt := (z_le rfl rfl).mp c1
        refine lv_iload_n hx hb dX1_level_19 rfl (lv_at hl 1 rfl) ?_
        refine lv_iconst (v := 5) hx hb dX1_level_20 (by decide) ?_
        refine lv_irem hx hb dX1_level_21 (by decide) ?_
        refine lv_topi (fun x2 ex2 => ?_)
        have tx2 := z_rem (x := v2_4) (y := 5) rfl (by decide : (5 : Int32).toInt = 5) (by omega) (by omega)
        rw [← ex2] at tx2
        exact W.iret (v := x2) hx hb hr (fun t ht hW => ⟨x2, rfl, ⟨by first | omega | decide, by first | omega | decide⟩, ht⟩) (fun q hq => by cases hq) dX1_level_22
      · skip
        have c1 : ¬ (v3_4.toInt ≤ c0.toInt) := fun q => c1 ((z_le rfl rfl).mpr q)
        refine lv_iload_n hx hb dX1_level_9 rfl (lv_at hl 1 rfl) ?_
        refine lv_iconst (v := 5) hx hb dX1_level_10 (by decide) ?_
        refine lv_idiv hx hb dX1_level_11 (by decide) ?_
        refine lv_topi (fun x3 ex3 => ?_)
        have tx3 := z_div (x := v2_4) (y := 5) rfl (by decide : (5 : Int32).toInt = 5) (by omega) (by omega)
        rw [← ex3] at tx3
        refine lv_istore_n (lv' := [(2, .int x3), (3, .int v3_4), (0, .int row), (1, .int c0)]) hx hb dX1_level_12 rfl hl (by decide) rfl (fun ls hl => ?_)
        obtain ⟨x4, ex4⟩ : ∃ y : Int32, y = v3_4 + (-1) := ⟨_, rfl⟩
        have tx4 : x4.toInt = v3_4.toInt + (-1) := by rw [ex4]; exact z_add rfl (by decide : ((-1) : Int32).toInt = (-1)) (by omega) (by omega)
        refine lv_iinc (v := x4) (lv' := [(3, .int x4), (2, .int x3), (0, .int row), (1, .int c0)]) hx hb dX1_level_13 hl (k := 1) rfl (by rw [ex4]; rfl) (by decide) rfl (fun ls hl => ?_)
        refine lv_goto (tgt := 4) hx hb dX1_level_16 (by decide) ?_
        exact ih4 x4 x3 ls (by omega) (by first | omega | decide) (by first | omega | decide) (lv_sub hl [0, 1, 2, 3] rfl)
  exact loop4 (((3 : Int32).toInt - c0.toInt : Int).toNat + 1) (3 : Int32) row ls (by omega) (by first | omega | decide) (by first | omega | decide) (lv_sub hl [0, 1, 2, 3] rfl)

set_option maxHeartbeats 4000000 in
set_option maxRecDepth 100000 in
theorem k_X1_clear (l : Launch) (g : zG) (sz : Nat) (ad : Nat → Nat) (pe : Int32) (ct : Nat → va_E) (hI : Inv8 g ad pe ct) : Met l yX1_clear (zW yX1_clear cX1_clear 2 none) ({ frames := 0, cells := 0, slots := 0, locals := 0 }) (va_Pc [.ref (ad 21)] (zA g (zw 126 ad ct) sz)) (va_Qv (fun (_ : Unit) => True) (fun _ t => ∃ ct2 : Nat → va_E, zP g (zw 126 ad ct2) t.heap ∧ va_D (va_A (zw 126 ad ct) sz) (zw 126 ad ct2) ∧ Inv8 g ad pe ct2) (va_A (zw 126 ad ct) sz)) 0 0 (va_A (zw 126 ad ct) sz) := by
  refine Met.ofW (cc := cX1_clear) (maxL := 2) (ret := none) (by decide) rfl ?_
  intro p e s m args below meth c s₁ B hml hv
  obtain ⟨rfl, hsz, hP, hK, hD0, hN⟩ := hv
  have hx := B.exec
  have hb := B.bytes
  have hr := B.returns
  have hg := zW.law (atoms_spec (ws := (zW yX1_clear cX1_clear 2 none)) B.pre)
  have hown : s.vm.findClass RX1 = some m.cls := findClass_of_methodNamed B.named
  have hlocks := B.notSynchronized
  have hpe0 := hI.1
  subst hsz
  have hD := hD0.self (sz := s.heap.size)
  generalize hAe : va_A (zw 126 ad ct) s.heap.size = A at hD ⊢
  have hA : ∀ q : Nat, s.heap.size ≤ q → A q := fun q h => by rw [← hAe]; exact Or.inr h
  have hS : va_S A s.heap s.heap [] := va_S.rf
  have hl := lv_entry ([.ref (ad 21)]) (n := 2) (Nat.le_of_ble_eq_true rfl)
  rw [lg_entry_eq]
  generalize (lg_sl ([.ref (ad 21)]) ++ List.replicate (2 - (lg_sl ([.ref (ad 21)])).length) Slot.unset).toArray = ls at hl ⊢
  have hl : lv_has ls 2 [(0, .ref (ad 21))] := hl
  refine lv_iconst (v := 0) hx hb dX1_clear_0 (by decide) ?_
  refine lv_istore_n (lv' := [(1, .int 0), (0, .ref (ad 21))]) hx hb dX1_clear_1 rfl hl (by decide) rfl (fun ls hl => ?_)
  have loop2 : ∀ (n2 : Nat) (v1_2 : Int32) (ct1 : Nat → va_E) (H : Heap) (locs : List Loc) (ls : Array Slot), ((4 - v1_2.toInt : Int).toNat < n2) → (0 ≤ v1_2.toInt ∧ v1_2.toInt ≤ 4) → (Inv8 g ad pe ct1) → zP g (zw 126 ad ct1) H → va_D A (zw 126 ad ct1) → va_S A s.heap H locs → lv_has ls 2 [(1, .int v1_2), (0, .ref (ad 21))] → W p l e (headSpec (zW yX1_clear cX1_clear 2 none) ({ frames := 0, cells := 0, slots := 0, locals := 0 })).room s m ([.ref (ad 21)] : List Value).toArray below meth c H locs 0 0 (MQ below (va_Qv (fun (_ : Unit) => True) (fun _ t => ∃ ct2 : Nat → va_E, zP g (zw 126 ad ct2) t.heap ∧ va_D A (zw 126 ad ct2) ∧ Inv8 g ad pe ct2) A) ([.ref (ad 21)] : List Value).toArray s 0 0 A) (F0 m 2 ls []) := by
    intro n2
    induction n2 with
    | zero =>
      intro v1_2 ct1 H locs ls hn2 b1_2 hI hP hD hS hl
      exact absurd hn2 (Nat.not_lt_zero _)
    | succ n2 ih2 =>
      intro v1_2 ct1 H locs ls hn2 b1_2 hI hP hD hS hl
      refine lv_iload_n hx hb dX1_clear_2 rfl (lv_at hl 0 rfl) ?_
      refine lv_iconst (v := 4) hx hb dX1_clear_3 (by decide) ?_
      refine lv_icmp_ge (tgt := 20) hx hb dX1_clear_4 (by decide) (fun c2 => ?_) (fun c2 => ?_)
      · skip
        have c2 : 4 ≤ v1_2.toInt := (z_le (by decide : (4 : Int32).toInt = 4) rfl).mp c2
        exact W.vret hx hb hr (fun t ht hW => ⟨⟨(), rfl, trivial, ct1, by rw [ht]; exact hP, hD, hI⟩, hS.F ht⟩) hS.2.2 dX1_clear_20
      · skip
        have c2 : ¬ (4 ≤ v1_2.toInt) := fun q => c2 ((z_le (by decide : (4 : Int32).toInt = 4) rfl).mpr q)
        refine lv_aload_n hx hb dX1_clear_7 rfl (lv_at hl 1 rfl) ?_
        obtain ⟨lst4, lrw5, lct6, h7, h8, hs3⟩ := a8_21 hI
        refine va_get (D := g.1) (ci := 1) (v := .ref (ad 24)) (C := RX1) (T := TX1) (N := 7) hx hb hg inG1 hown hK hP 21 (zw_at (by omega) hs3) rfl 5 (by decide) (hg _ mm_249) (fun _ h9 => h9) rfl dX1_clear_8 ?_
        refine lv_iload_n hx hb dX1_clear_11 rfl (lv_at hl 0 rfl) ?_
        refine lv_iconst (v := 0) hx hb dX1_clear_12 (by decide) ?_
        obtain ⟨f10, hs9⟩ := a8_24 hI
        refine va_iast hx hb hK hP hD hS 24 0 (zw_at (by omega) hs9) rfl (z_in rfl (by omega) (by omega)) dX1_clear_13 (fun H locs hP hD hS => ?_)
        have hP : zP g ((zw 126 ad ct1).set 24 (ad 24, .inl (g.2 0, 4, .inl (upd f10 (Int32.toNatClampNeg v1_2) 0)))) H := hP
        have hD : va_D A ((zw 126 ad ct1).set 24 (ad 24, .inl (g.2 0, 4, .inl (upd f10 (Int32.toNatClampNeg v1_2) 0)))) := hD
        rw [zw_set (by omega)] at hP hD
        obtain ⟨ct12, ec13⟩ : ∃ z : Nat → va_E, z = va_up ct1 24 (.inl (g.2 0, 4, .inl (upd f10 (Int32.toNatClampNeg v1_2) 0))) := ⟨_, rfl⟩
        rw [← ec13] at hP hD
        have hI : Inv8 g ad pe ct12 := by rw [ec13]; exact up8 hI (i8_24 ⟨_, rfl⟩)
        have hs14 : ct12 21 = .inr (1, [.int lst4, .int lrw5, .int lct6, .ref (ad 22), .ref (ad 23), .ref (ad 24), .ref (ad 25)]) := by rw [ec13, va_up_ne _ _ (by omega)]; exact hs3
        have hs15 : ct12 24 = .inl (g.2 0, 4, .inl (upd f10 (Int32.toNatClampNeg v1_2) 0)) := by rw [ec13]; exact va_up_self _ _ _
        obtain ⟨x16, ex16⟩ : ∃ y : Int32, y = v1_2 + 1 := ⟨_, rfl⟩
        have tx16 : x16.toInt = v1_2.toInt + 1 := by rw [ex16]; exact z_add rfl (by decide : (1 : Int32).toInt = 1) (by omega) (by omega)
        refine lv_iinc (v := x16) (lv' := [(1, .int x16), (0, .ref (ad 21))]) hx hb dX1_clear_14 hl (k := 0) rfl (by rw [ex16]; rfl) (by decide) rfl (fun ls hl => ?_)
        refine lv_goto (tgt := 2) hx hb dX1_clear_17 (by decide) ?_
        exact ih2 x16 ct12 _ _ ls (by omega) (by first | omega | decide) hI hP hD hS (lv_sub hl [0, 1] rfl)
  exact loop2 ((4 - (0 : Int32).toInt : Int).toNat + 1) (0 : Int32) ct _ _ ls (by omega) (by first | omega | decide) hI hP hD hS (lv_sub hl [0, 1] rfl)

set_option maxHeartbeats 4000000 in
set_option maxRecDepth 100000 in
theorem k_X1_put (l : Launch) (g : zG) (sz : Nat) (ad : Nat → Nat) (pe : Int32) (ct : Nat → va_E) (c0 : Int32) (lv : Int32) (i : Int32) (ft : Int32) (ls0 : Int32) (hI : Inv8 g ad pe ct) : Met l yX1_put (zW yX1_put cX1_put 6 none) ({ frames := 2, cells := 0, slots := 0, locals := 42 }) (va_Pc [.ref (ad 21), .int c0, .int lv, .int i, .int ft, .int ls0] (zA g (zw 126 ad ct) sz)) (va_Qv (fun (_ : Unit) => True) (fun _ t => ∃ ct2 : Nat → va_E, zP g (zw 126 ad ct2) t.heap ∧ va_D (va_A (zw 126 ad ct) sz) (zw 126 ad ct2) ∧ Inv8 g ad pe ct2) (va_A (zw 126 ad ct) sz)) 0 0 (va_A (zw 126 ad ct) sz) := by
  refine Met.ofW (cc := cX1_put) (maxL := 6) (ret := none) (by decide) rfl ?_
  intro p e s m args below meth c s₁ B hml hv
  obtain ⟨rfl, hsz, hP, hK, hD0, hN⟩ := hv
  have hx := B.exec
  have hb := B.bytes
  have hr := B.returns
  have hg := zW.law (atoms_spec (ws := (zW yX1_put cX1_put 6 none)) B.pre)
  have hown : s.vm.findClass RX1 = some m.cls := findClass_of_methodNamed B.named
  have hlocks := B.notSynchronized
  have hpe0 := hI.1
  subst hsz
  have hD := hD0.self (sz := s.heap.size)
  generalize hAe : va_A (zw 126 ad ct) s.heap.size = A at hD ⊢
  have hA : ∀ q : Nat, s.heap.size ≤ q → A q := fun q h => by rw [← hAe]; exact Or.inr h
  have hS : va_S A s.heap s.heap [] := va_S.rf
  have hl := lv_entry ([.ref (ad 21), .int c0, .int lv, .int i, .int ft, .int ls0]) (n := 6) (Nat.le_of_ble_eq_true rfl)
  rw [lg_entry_eq]
  generalize (lg_sl ([.ref (ad 21), .int c0, .int lv, .int i, .int ft, .int ls0]) ++ List.replicate (6 - (lg_sl ([.ref (ad 21), .int c0, .int lv, .int i, .int ft, .int ls0])).length) Slot.unset).toArray = ls at hl ⊢
  have hl : lv_has ls 6 [(0, .ref (ad 21)), (1, .int c0), (2, .int lv), (3, .int i), (4, .int ft), (5, .int ls0)] := hl
  have rg_c0 := z_rng c0
  have rg_lv := z_rng lv
  have rg_i := z_rng i
  have rg_ft := z_rng ft
  have rg_ls0 := z_rng ls0
  refine lv_iload_n hx hb dX1_put_0 rfl (lv_at hl 1 rfl) ?_
  refine zc_i (va_runSN (As := [.int c0]) (rest := []) ⟨hx, hb, hml, hown, hg⟩ (k_X8_isColumn l g ad pe ct c0 hI) ⟨va_cnB 1 hg (z_gN mm_406) rfl rfl rfl (hN.at 16 rfl) (hg _ mm_108) (by decide +kernel) ⟨Nat.le_of_ble_eq_true rfl, Nat.le_of_ble_eq_true rfl⟩, (hg _ mm_405), trivial⟩ (zR.pre [.int c0] hP hK hN) rfl rfl hl.1 rfl (lv_room (Nat.le_of_ble_eq_true rfl)) dX1_put_1 ⟨Nat.le_of_ble_eq_true rfl, Nat.le_of_ble_eq_true rfl⟩) (fun r1 hr1 => ?_)
  rcases hr1 with hr1 | hr1
  · skip
    obtain ⟨rfl, h2, h3⟩ := hr1
    have h2 : 0 ≤ c0.toInt := h2
    have h3 : c0.toInt ≤ 3 := h3
    refine lv_if_eq (tgt := 54) hx hb dX1_put_4 (by decide) (fun c4 => ?_) (fun c4 => ?_)
    · skip
      exact absurd c4 (by decide)
    · skip
      refine lv_iload_n hx hb dX1_put_7 rfl (lv_at hl 2 rfl) ?_
      refine zc_i (va_runSN (As := [.int lv]) (rest := []) ⟨hx, hb, hml, hown, hg⟩ (k_X8_isLevel l g ad pe ct lv hI) ⟨va_cnB 1 hg (z_gN mm_531) rfl rfl rfl (hN.at 17 rfl) (hg _ mm_108) (by decide +kernel) ⟨Nat.le_of_ble_eq_true rfl, Nat.le_of_ble_eq_true rfl⟩, (hg _ mm_530), trivial⟩ (zR.pre [.int lv] hP hK hN) rfl rfl hl.1 rfl (lv_room (Nat.le_of_ble_eq_true rfl)) dX1_put_8 ⟨Nat.le_of_ble_eq_true rfl, Nat.le_of_ble_eq_true rfl⟩) (fun r5 hr5 => ?_)
      rcases hr5 with hr5 | hr5
      · skip
        obtain ⟨rfl, h6, h7⟩ := hr5
        have h6 : 0 ≤ lv.toInt := h6
        have h7 : lv.toInt ≤ 4 := h7
        refine lv_if_eq (tgt := 54) hx hb dX1_put_11 (by decide) (fun c8 => ?_) (fun c8 => ?_)
        · skip
          exact absurd c8 (by decide)
        · skip
          refine lv_iload_n hx hb dX1_put_14 rfl (lv_at hl 3 rfl) ?_
          refine lv_iconst (v := 0) hx hb dX1_put_15 (by decide) ?_
          refine lv_bipush (v := 7) hx hb dX1_put_16 (by decide) ?_
          refine zc_i (va_runSN (As := [.int i, .int 0, .int 7]) (rest := []) ⟨hx, hb, hml, hown, hg⟩ (k_X8_within l g ad pe ct i (0 : Int32) (7 : Int32) hI) ⟨va_cnB 3 hg (z_gN mm_409) rfl rfl rfl (hN.at 18 rfl) (hg _ mm_108) (by decide +kernel) ⟨Nat.le_of_ble_eq_true rfl, Nat.le_of_ble_eq_true rfl⟩, (hg _ mm_408), trivial⟩ (zR.pre [.int i, .int 0, .int 7] hP hK hN) rfl rfl hl.1 rfl (lv_room (Nat.le_of_ble_eq_true rfl)) dX1_put_18 ⟨Nat.le_of_ble_eq_true rfl, Nat.le_of_ble_eq_true rfl⟩) (fun r9 hr9 => ?_)
          rcases hr9 with hr9 | hr9
          · skip
            obtain ⟨rfl, h10, h11⟩ := hr9
            have h10 : (0 : Int) ≤ i.toInt := h10
            have h11 : i.toInt ≤ (7 : Int) := h11
            refine lv_if_eq (tgt := 54) hx hb dX1_put_21 (by decide) (fun c12 => ?_) (fun c12 => ?_)
            · skip
              exact absurd c12 (by decide)
            · skip
              refine lv_aload_n hx hb dX1_put_24 rfl (lv_at hl 0 rfl) ?_
              obtain ⟨lst14, lrw15, lct16, h17, h18, hs13⟩ := a8_21 hI
              refine va_get (D := g.1) (ci := 1) (v := .ref (ad 22)) (C := RX1) (T := TX1) (N := 7) hx hb hg inG1 hown hK hP 21 (zw_at (by omega) hs13) rfl 3 (by decide) (hg _ mm_247) (fun _ h9 => h9) rfl dX1_put_25 ?_
              refine lv_iload_n hx hb dX1_put_28 rfl (lv_at hl 1 rfl) ?_
              have hs19 := a8_22 hI
              refine z_aldII hx hb hK hP 22 7 (zw_at (by omega) hs19) rfl (z_in rfl (by omega) (by omega)) dX1_put_29 ?_
              rw [zF22_at (x := c0) (by omega) (by omega)]
              refine lv_bipush (v := 8) hx hb dX1_put_30 (by decide) ?_
              refine lv_iload_n hx hb dX1_put_32 rfl (lv_at hl 2 rfl) ?_
              refine lv_imul hx hb dX1_put_33 ?_
              refine lv_topi (fun x20 ex20 => ?_)
              have tx20 : x20.toInt = 8 * lv.toInt := by rw [ex20]; exact z_mul (by decide : (8 : Int32).toInt = 8) rfl (by omega) (by omega)
              refine lv_iload_n hx hb dX1_put_34 rfl (lv_at hl 3 rfl) ?_
              refine lv_iadd hx hb dX1_put_35 ?_
              refine lv_topi (fun x21 ex21 => ?_)
              have tx21 : x21.toInt = x20.toInt + i.toInt := by rw [ex21]; exact z_add rfl rfl (by omega) (by omega)
              refine lv_iload hx hb dX1_put_36 (lv_at hl 4 rfl) ?_
              obtain ⟨f23, hs22⟩ := a8_26 (kc := (0 + 26 + 1 * c0.toInt.toNat)) (by omega) hI
              refine va_iast hx hb hK hP hD hS (0 + 26 + 1 * c0.toInt.toNat) 0 (zw_at (by omega) hs22) rfl (z_in rfl (by omega) (by omega)) dX1_put_38 (fun H locs hP hD hS => ?_)
              have hP : zP g ((zw 126 ad ct).set (0 + 26 + 1 * c0.toInt.toNat) (ad (0 + 26 + 1 * c0.toInt.toNat), .inl (g.2 0, 40, .inl (upd f23 (Int32.toNatClampNeg x21) ft)))) H := hP
              have hD : va_D A ((zw 126 ad ct).set (0 + 26 + 1 * c0.toInt.toNat) (ad (0 + 26 + 1 * c0.toInt.toNat), .inl (g.2 0, 40, .inl (upd f23 (Int32.toNatClampNeg x21) ft)))) := hD
              rw [zw_set (by omega)] at hP hD
              obtain ⟨ct25, ec26⟩ : ∃ z : Nat → va_E, z = va_up ct (0 + 26 + 1 * c0.toInt.toNat) (.inl (g.2 0, 40, .inl (upd f23 (Int32.toNatClampNeg x21) ft))) := ⟨_, rfl⟩
              rw [← ec26] at hP hD
              have hI : Inv8 g ad pe ct25 := by rw [ec26]; exact up8 hI (i8_26 (kc := (0 + 26 + 1 * c0.toInt.toNat)) (by omega) ⟨_, rfl⟩)
              have hs27 : ct25 21 = .inr (1, [.int lst14, .int lrw15, .int lct16, .ref (ad 22), .ref (ad 23), .ref (ad 24), .ref (ad 25)]) := by rw [ec26, va_up_ne _ _ (by omega)]; exact hs13
              have hs28 : ct25 22 = .inl (g.2 7, 4, .inr (.inr (.inr (.inr (zF22 ad 0))))) := by rw [ec26, va_up_ne _ _ (by omega)]; exact hs19
              have hs29 : ct25 (0 + 26 + 1 * c0.toInt.toNat) = .inl (g.2 0, 40, .inl (upd f23 (Int32.toNatClampNeg x21) ft)) := by rw [ec26]; exact va_up_self _ _ _
              refine lv_aload_n hx hb dX1_put_39 rfl (lv_at hl 0 rfl) ?_
              refine va_get (D := g.1) (ci := 1) (v := .ref (ad 23)) (C := RX1) (T := TX1) (N := 7) hx hb hg inG1 hown hK hP 21 (zw_at (by omega) hs27) rfl 4 (by decide) (hg _ mm_248) (fun _ h9 => h9) rfl dX1_put_40 ?_
              refine lv_iload_n hx hb dX1_put_43 rfl (lv_at hl 1 rfl) ?_
              have hs30 := a8_23 hI
              refine z_aldII hx hb hK hP 23 7 (zw_at (by omega) hs30) rfl (z_in rfl (by omega) (by omega)) dX1_put_44 ?_
              rw [zF23_at (x := c0) (by omega) (by omega)]
              refine lv_bipush (v := 8) hx hb dX1_put_45 (by decide) ?_
              refine lv_iload_n hx hb dX1_put_47 rfl (lv_at hl 2 rfl) ?_
              refine lv_imul hx hb dX1_put_48 ?_
              refine lv_topi (fun x31 ex31 => ?_)
              obtain rfl : x20 = x31 := ex20.trans ex31.symm
              refine lv_iload_n hx hb dX1_put_49 rfl (lv_at hl 3 rfl) ?_
              refine lv_iadd hx hb dX1_put_50 ?_
              refine lv_topi (fun x32 ex32 => ?_)
              obtain rfl : x21 = x32 := ex21.trans ex32.symm
              refine lv_iload hx hb dX1_put_51 (lv_at hl 5 rfl) ?_
              obtain ⟨f34, hs33⟩ := a8_26 (kc := (0 + 30 + 1 * c0.toInt.toNat)) (by omega) hI
              refine va_iast hx hb hK hP hD hS (0 + 30 + 1 * c0.toInt.toNat) 0 (zw_at (by omega) hs33) rfl (z_in rfl (by omega) (by omega)) dX1_put_53 (fun H locs hP hD hS => ?_)
              have hP : zP g ((zw 126 ad ct25).set (0 + 30 + 1 * c0.toInt.toNat) (ad (0 + 30 + 1 * c0.toInt.toNat), .inl (g.2 0, 40, .inl (upd f34 (Int32.toNatClampNeg x21) ls0)))) H := hP
              have hD : va_D A ((zw 126 ad ct25).set (0 + 30 + 1 * c0.toInt.toNat) (ad (0 + 30 + 1 * c0.toInt.toNat), .inl (g.2 0, 40, .inl (upd f34 (Int32.toNatClampNeg x21) ls0)))) := hD
              rw [zw_set (by omega)] at hP hD
              obtain ⟨ct36, ec37⟩ : ∃ z : Nat → va_E, z = va_up ct25 (0 + 30 + 1 * c0.toInt.toNat) (.inl (g.2 0, 40, .inl (upd f34 (Int32.toNatClampNeg x21) ls0))) := ⟨_, rfl⟩
              rw [← ec37] at hP hD
              have hI : Inv8 g ad pe ct36 := by rw [ec37]; exact up8 hI (i8_26 (kc := (0 + 30 + 1 * c0.toInt.toNat)) (by omega) ⟨_, rfl⟩)
              have hs38 : ct36 21 = .inr (1, [.int lst14, .int lrw15, .int lct16, .ref (ad 22), .ref (ad 23), .ref (ad 24), .ref (ad 25)]) := by rw [ec37, va_up_ne _ _ (by omega)]; exact hs27
              have hs39 : ct36 22 = .inl (g.2 7, 4, .inr (.inr (.inr (.inr (zF22 ad 0))))) := by rw [ec37, va_up_ne _ _ (by omega)]; exact hs28
              have hs40 : ct36 23 = .inl (g.2 7, 4, .inr (.inr (.inr (.inr (zF23 ad 0))))) := by rw [ec37, va_up_ne _ _ (by omega)]; exact hs30
              have hs41 : ct36 (0 + 30 + 1 * c0.toInt.toNat) = .inl (g.2 0, 40, .inl (upd f34 (Int32.toNatClampNeg x21) ls0)) := by rw [ec37]; exact va_up_self _ _ _
              exact W.vret hx hb hr (fun t ht hW => ⟨⟨(), rfl, trivial, ct36, by rw [ht]; exact hP, hD, hI⟩, hS.F ht⟩) hS.2.2 dX1_put_54
          · skip
            obtain ⟨rfl, h42⟩ := hr9
            have h42 : ¬ ((0 : Int) ≤ i.toInt ∧ i.toInt ≤ (7 : Int)) := h42
            refine lv_if_eq (tgt := 54) hx hb dX1_put_21 (by decide) (fun c43 => ?_) (fun c43 => ?_)
            · skip
              exact W.vret hx hb hr (fun t ht hW => ⟨⟨(), rfl, trivial, ct, by rw [ht]; exact hP, hD, hI⟩, hS.F ht⟩) hS.2.2 dX1_put_54
            · skip
              exact absurd c43 (by decide)
      · skip
        obtain ⟨rfl, h44⟩ := hr5
        have h44 : ¬ (0 ≤ lv.toInt ∧ lv.toInt ≤ 4) := h44
        refine lv_if_eq (tgt := 54) hx hb dX1_put_11 (by decide) (fun c45 => ?_) (fun c45 => ?_)
        · skip
          exact W.vret hx hb hr (fun t ht hW => ⟨⟨(), rfl, trivial, ct, by rw [ht]; exact hP, hD, hI⟩, hS.F ht⟩) hS.2.2 dX1_put_54
        · skip
          exact absurd c45 (by decide)
  · skip
    obtain ⟨rfl, h46⟩ := hr1
    have h46 : ¬ (0 ≤ c0.toInt ∧ c0.toInt ≤ 3) := h46
    refine lv_if_eq (tgt := 54) hx hb dX1_put_4 (by decide) (fun c47 => ?_) (fun c47 => ?_)
    · skip
      exact W.vret hx hb hr (fun t ht hW => ⟨⟨(), rfl, trivial, ct, by rw [ht]; exact hP, hD, hI⟩, hS.F ht⟩) hS.2.2 dX1_put_54
    · skip
      exact absurd c47 (by decide)

set_option maxHeartbeats 4000000 in
set_option maxRecDepth 100000 in
theorem k_X1_raiseTop (l : Launch) (g : zG) (sz : Nat) (ad : Nat → Nat) (pe : Int32) (ct : Nat → va_E) (c0 : Int32) (lv : Int32) (hI : Inv8 g ad pe ct) : Met l yX1_raiseTop (zW yX1_raiseTop cX1_raiseTop 3 none) ({ frames := 1, cells := 0, slots := 0, locals := 20 }) (va_Pc [.ref (ad 21), .int c0, .int lv] (zA g (zw 126 ad ct) sz)) (va_Qv (fun (_ : Unit) => True) (fun _ t => ∃ ct2 : Nat → va_E, zP g (zw 126 ad ct2) t.heap ∧ va_D (va_A (zw 126 ad ct) sz) (zw 126 ad ct2) ∧ Inv8 g ad pe ct2) (va_A (zw 126 ad ct) sz)) 0 0 (va_A (zw 126 ad ct) sz) := by
  refine Met.ofW (cc := cX1_raiseTop) (maxL := 3) (ret := none) (by decide) rfl ?_
  intro p e s m args below meth c s₁ B hml hv
  obtain ⟨rfl, hsz, hP, hK, hD0, hN⟩ := hv
  have hx := B.exec
  have hb := B.bytes
  have hr := B.returns
  have hg := zW.law (atoms_spec (ws := (zW yX1_raiseTop cX1_raiseTop 3 none)) B.pre)
  have hown : s.vm.findClass RX1 = some m.cls := findClass_of_methodNamed B.named
  have hlocks := B.notSynchronized
  have hpe0 := hI.1
  subst hsz
  have hD := hD0.self (sz := s.heap.size)
  generalize hAe : va_A (zw 126 ad ct) s.heap.size = A at hD ⊢
  have hA : ∀ q : Nat, s.heap.size ≤ q → A q := fun q h => by rw [← hAe]; exact Or.inr h
  have hS : va_S A s.heap s.heap [] := va_S.rf
  have hl := lv_entry ([.ref (ad 21), .int c0, .int lv]) (n := 3) (Nat.le_of_ble_eq_true rfl)
  rw [lg_entry_eq]
  generalize (lg_sl ([.ref (ad 21), .int c0, .int lv]) ++ List.replicate (3 - (lg_sl ([.ref (ad 21), .int c0, .int lv])).length) Slot.unset).toArray = ls at hl ⊢
  have hl : lv_has ls 3 [(0, .ref (ad 21)), (1, .int c0), (2, .int lv)] := hl
  have rg_c0 := z_rng c0
  have rg_lv := z_rng lv
  refine lv_iload_n hx hb dX1_raiseTop_0 rfl (lv_at hl 1 rfl) ?_
  refine zc_i (va_runSN (As := [.int c0]) (rest := []) ⟨hx, hb, hml, hown, hg⟩ (k_X8_isColumn l g ad pe ct c0 hI) ⟨va_cnB 1 hg (z_gN mm_406) rfl rfl rfl (hN.at 16 rfl) (hg _ mm_108) (by decide +kernel) ⟨Nat.le_of_ble_eq_true rfl, Nat.le_of_ble_eq_true rfl⟩, (hg _ mm_405), trivial⟩ (zR.pre [.int c0] hP hK hN) rfl rfl hl.1 rfl (lv_room (Nat.le_of_ble_eq_true rfl)) dX1_raiseTop_1 ⟨Nat.le_of_ble_eq_true rfl, Nat.le_of_ble_eq_true rfl⟩) (fun r1 hr1 => ?_)
  rcases hr1 with hr1 | hr1
  · skip
    obtain ⟨rfl, h2, h3⟩ := hr1
    have h2 : 0 ≤ c0.toInt := h2
    have h3 : c0.toInt ≤ 3 := h3
    refine lv_if_eq (tgt := 23) hx hb dX1_raiseTop_4 (by decide) (fun c4 => ?_) (fun c4 => ?_)
    · skip
      exact absurd c4 (by decide)
    · skip
      refine lv_aload_n hx hb dX1_raiseTop_7 rfl (lv_at hl 0 rfl) ?_
      obtain ⟨lst6, lrw7, lct8, h9, h10, hs5⟩ := a8_21 hI
      refine va_get (D := g.1) (ci := 1) (v := .ref (ad 24)) (C := RX1) (T := TX1) (N := 7) hx hb hg inG1 hown hK hP 21 (zw_at (by omega) hs5) rfl 5 (by decide) (hg _ mm_249) (fun _ h9 => h9) rfl dX1_raiseTop_8 ?_
      refine lv_iload_n hx hb dX1_raiseTop_11 rfl (lv_at hl 1 rfl) ?_
      refine lv_aload_n hx hb dX1_raiseTop_12 rfl (lv_at hl 0 rfl) ?_
      refine va_get (D := g.1) (ci := 1) (v := .ref (ad 24)) (C := RX1) (T := TX1) (N := 7) hx hb hg inG1 hown hK hP 21 (zw_at (by omega) hs5) rfl 5 (by decide) (hg _ mm_249) (fun _ h9 => h9) rfl dX1_raiseTop_13 ?_
      refine lv_iload_n hx hb dX1_raiseTop_16 rfl (lv_at hl 1 rfl) ?_
      obtain ⟨f12, hs11⟩ := a8_24 hI
      refine va_iald hx hb hK hP 24 0 (zw_at (by omega) hs11) rfl (z_in rfl (by omega) (by omega)) dX1_raiseTop_17 ?_
      refine lv_topi (fun y13 ey13 => ?_)
      refine lv_iload_n hx hb dX1_raiseTop_18 rfl (lv_at hl 2 rfl) ?_
      refine va_mmax hx hb (hml.trans hl.1.symm) hown (hg _ mm_882) (hg _ mm_780) (hg _ mm_118) (hg _ mm_781) (Nat.le_of_ble_eq_true rfl) (Nat.le_of_ble_eq_true rfl) (Nat.le_of_ble_eq_true rfl) (Nat.le_of_ble_eq_true rfl) dX1_raiseTop_19 ?_
      refine lv_topi (fun x14 ex14 => ?_)
      have tx14 := z_max (x := y13) (y := lv) rfl rfl
      rw [← ex14] at tx14
      refine va_iast hx hb hK hP hD hS 24 0 (zw_at (by omega) hs11) rfl (z_in rfl (by omega) (by omega)) dX1_raiseTop_22 (fun H locs hP hD hS => ?_)
      have hP : zP g ((zw 126 ad ct).set 24 (ad 24, .inl (g.2 0, 4, .inl (upd f12 (Int32.toNatClampNeg c0) x14)))) H := hP
      have hD : va_D A ((zw 126 ad ct).set 24 (ad 24, .inl (g.2 0, 4, .inl (upd f12 (Int32.toNatClampNeg c0) x14)))) := hD
      rw [zw_set (by omega)] at hP hD
      obtain ⟨ct16, ec17⟩ : ∃ z : Nat → va_E, z = va_up ct 24 (.inl (g.2 0, 4, .inl (upd f12 (Int32.toNatClampNeg c0) x14))) := ⟨_, rfl⟩
      rw [← ec17] at hP hD
      have hI : Inv8 g ad pe ct16 := by rw [ec17]; exact up8 hI (i8_24 ⟨_, rfl⟩)
      have hs18 : ct16 21 = .inr (1, [.int lst6, .int lrw7, .int lct8, .ref (ad 22), .ref (ad 23), .ref (ad 24), .ref (ad 25)]) := by rw [ec17, va_up_ne _ _ (by omega)]; exact hs5
      have hs19 : ct16 24 = .inl (g.2 0, 4, .inl (upd f12 (Int32.toNatClampNeg c0) x14)) := by rw [ec17]; exact va_up_self _ _ _
      exact W.vret hx hb hr (fun t ht hW => ⟨⟨(), rfl, trivial, ct16, by rw [ht]; exact hP, hD, hI⟩, hS.F ht⟩) hS.2.2 dX1_raiseTop_23
  · skip
    obtain ⟨rfl, h20⟩ := hr1
    have h20 : ¬ (0 ≤ c0.toInt ∧ c0.toInt ≤ 3) := h20
    refine lv_if_eq (tgt := 23) hx hb dX1_raiseTop_4 (by decide) (fun c21 => ?_) (fun c21 => ?_)
    · skip
      exact W.vret hx hb hr (fun t ht hW => ⟨⟨(), rfl, trivial, ct, by rw [ht]; exact hP, hD, hI⟩, hS.F ht⟩) hS.2.2 dX1_raiseTop_23
    · skip
      exact absurd c21 (by decide)

set_option maxHeartbeats 4000000 in
set_option maxRecDepth 100000 in
theorem k_X1_whoFits (l : Launch) (g : zG) (ad : Nat → Nat) (pe : Int32) (ct : Nat → va_E) (i : Int32) (hl_i : 0 ≤ i.toInt ∧ i.toInt ≤ 7) (hI : Inv8 g ad pe ct) : Met l yX1_whoFits (zW yX1_whoFits cX1_whoFits 4 (some .int)) ({ frames := 0, cells := 0, slots := 0, locals := 0 }) (va_Pc [.ref (ad 21), .int i] (zR g (zw 126 ad ct))) (vp_Si (fun r : Int32 => (True))) 0 0 (fun _ => False) := by
  refine Met.ofW (cc := cX1_whoFits) (maxL := 4) (ret := (some .int)) (by decide) rfl ?_
  intro p e s m args below meth c s₁ B hml hv
  obtain ⟨rfl, hP, hK, hN⟩ := hv
  have hx := B.exec
  have hb := B.bytes
  have hr := B.returns
  have hg := zW.law (atoms_spec (ws := (zW yX1_whoFits cX1_whoFits 4 (some .int))) B.pre)
  have hown : s.vm.findClass RX1 = some m.cls := findClass_of_methodNamed B.named
  have hlocks := B.notSynchronized
  have hpe0 := hI.1
  have hl := lv_entry ([.ref (ad 21), .int i]) (n := 4) (Nat.le_of_ble_eq_true rfl)
  rw [lg_entry_eq]
  generalize (lg_sl ([.ref (ad 21), .int i]) ++ List.replicate (4 - (lg_sl ([.ref (ad 21), .int i])).length) Slot.unset).toArray = ls at hl ⊢
  have hl : lv_has ls 4 [(0, .ref (ad 21)), (1, .int i)] := hl
  refine lv_iconst (v := (-1)) hx hb dX1_whoFits_0 (by decide) ?_
  refine lv_istore_n (lv' := [(2, .int (-1)), (0, .ref (ad 21)), (1, .int i)]) hx hb dX1_whoFits_1 rfl hl (by decide) rfl (fun ls hl => ?_)
  refine lv_iconst (v := 0) hx hb dX1_whoFits_2 (by decide) ?_
  refine lv_istore_n (lv' := [(3, .int 0), (2, .int (-1)), (0, .ref (ad 21)), (1, .int i)]) hx hb dX1_whoFits_3 rfl hl (by decide) rfl (fun ls hl => ?_)
  have loop4 : ∀ (n4 : Nat) (v3_4 : Int32) (v2_4 : Int32) (ls : Array Slot), ((4 - v3_4.toInt : Int).toNat < n4) → (0 ≤ v3_4.toInt ∧ v3_4.toInt ≤ 4) → lv_has ls 4 [(3, .int v3_4), (2, .int v2_4), (0, .ref (ad 21)), (1, .int i)] → W p l e (headSpec (zW yX1_whoFits cX1_whoFits 4 (some .int)) ({ frames := 0, cells := 0, slots := 0, locals := 0 })).room s m ([.ref (ad 21), .int i] : List Value).toArray below meth c s.heap [] 0 0 (MQ below (vp_Si (fun r : Int32 => (True))) ([.ref (ad 21), .int i] : List Value).toArray s 0 0 (fun _ => False)) (F0 m 4 ls []) := by
    intro n4
    induction n4 with
    | zero =>
      intro v3_4 v2_4 ls hn4 b3_4 hl
      exact absurd hn4 (Nat.not_lt_zero _)
    | succ n4 ih4 =>
      intro v3_4 v2_4 ls hn4 b3_4 hl
      refine lv_iload_n hx hb dX1_whoFits_4 rfl (lv_at hl 0 rfl) ?_
      refine lv_iconst (v := 4) hx hb dX1_whoFits_5 (by decide) ?_
      refine lv_icmp_ge (tgt := 36) hx hb dX1_whoFits_6 (by decide) (fun c1 => ?_) (fun c1 => ?_)
      · skip
        have c1 : 4 ≤ v3_4.toInt := (z_le (by decide : (4 : Int32).toInt = 4) rfl).mp c1
        refine lv_iload_n hx hb dX1_whoFits_36 rfl (lv_at hl 1 rfl) ?_
        exact W.iret (v := v2_4) hx hb hr (fun t ht hW => ⟨v2_4, rfl, trivial, ht⟩) (fun q hq => by cases hq) dX1_whoFits_37
      · skip
        have c1 : ¬ (4 ≤ v3_4.toInt) := fun q => c1 ((z_le (by decide : (4 : Int32).toInt = 4) rfl).mpr q)
        refine lv_iload_n hx hb dX1_whoFits_9 rfl (lv_at hl 1 rfl) ?_
        refine lv_aload_n hx hb dX1_whoFits_10 rfl (lv_at hl 2 rfl) ?_
        obtain ⟨lst3, lrw4, lct5, h6, h7, hs2⟩ := a8_21 hI
        refine va_get (D := g.1) (ci := 1) (v := .ref (ad 22)) (C := RX1) (T := TX1) (N := 7) hx hb hg inG1 hown hK hP 21 (zw_at (by omega) hs2) rfl 3 (by decide) (hg _ mm_247) (fun _ h9 => h9) rfl dX1_whoFits_11 ?_
        refine lv_iload_n hx hb dX1_whoFits_14 rfl (lv_at hl 0 rfl) ?_
        have hs8 := a8_22 hI
        refine z_aldII hx hb hK hP 22 7 (zw_at (by omega) hs8) rfl (z_in rfl (by omega) (by omega)) dX1_whoFits_15 ?_
        rw [zF22_at (x := v3_4) (by omega) (by omega)]
        refine lv_bipush (v := 8) hx hb dX1_whoFits_16 (by decide) ?_
        refine lv_aload_n hx hb dX1_whoFits_18 rfl (lv_at hl 2 rfl) ?_
        refine va_get (D := g.1) (ci := 1) (v := .ref (ad 25)) (C := RX1) (T := TX1) (N := 7) hx hb hg inG1 hown hK hP 21 (zw_at (by omega) hs2) rfl 6 (by decide) (hg _ mm_250) (fun _ h9 => h9) rfl dX1_whoFits_19 ?_
        refine lv_iload_n hx hb dX1_whoFits_22 rfl (lv_at hl 0 rfl) ?_
        obtain ⟨f10, hp11, hs9⟩ := a8_25 hI
        refine va_iald hx hb hK hP 25 0 (zw_at (by omega) hs9) rfl (z_in rfl (by omega) (by omega)) dX1_whoFits_23 ?_
        refine lv_topi (fun y12 ey12 => ?_)
        have hy12 := hp11 _ (z_clt (x := v3_4) rfl (by omega) (by omega))
        rw [← ey12] at hy12
        have hy12 : 0 ≤ y12.toInt ∧ y12.toInt ≤ 4 := hy12
        refine lv_imul hx hb dX1_whoFits_24 ?_
        refine lv_topi (fun x13 ex13 => ?_)
        have tx13 : x13.toInt = 8 * y12.toInt := by rw [ex13]; exact z_mul (by decide : (8 : Int32).toInt = 8) rfl (by omega) (by omega)
        refine lv_iload_n hx hb dX1_whoFits_25 rfl (lv_at hl 3 rfl) ?_
        refine lv_iadd hx hb dX1_whoFits_26 ?_
        refine lv_topi (fun x14 ex14 => ?_)
        have tx14 : x14.toInt = x13.toInt + i.toInt := by rw [ex14]; exact z_add rfl rfl (by omega) (by omega)
        obtain ⟨f16, hs15⟩ := a8_26 (kc := (0 + 26 + 1 * v3_4.toInt.toNat)) (by omega) hI
        refine va_iald hx hb hK hP (0 + 26 + 1 * v3_4.toInt.toNat) 0 (zw_at (by omega) hs15) rfl (z_in rfl (by omega) (by omega)) dX1_whoFits_27 ?_
        refine lv_topi (fun y17 ey17 => ?_)
        refine lv_iand hx hb dX1_whoFits_28 ?_
        refine lv_topi (fun x18 ex18 => ?_)
        refine lv_istore_n (lv' := [(2, .int x18), (3, .int v3_4), (0, .ref (ad 21)), (1, .int i)]) hx hb dX1_whoFits_29 rfl hl (by decide) rfl (fun ls hl => ?_)
        obtain ⟨x19, ex19⟩ : ∃ y : Int32, y = v3_4 + 1 := ⟨_, rfl⟩
        have tx19 : x19.toInt = v3_4.toInt + 1 := by rw [ex19]; exact z_add rfl (by decide : (1 : Int32).toInt = 1) (by omega) (by omega)
        refine lv_iinc (v := x19) (lv' := [(3, .int x19), (2, .int x18), (0, .ref (ad 21)), (1, .int i)]) hx hb dX1_whoFits_30 hl (k := 1) rfl (by rw [ex19]; rfl) (by decide) rfl (fun ls hl => ?_)
        refine lv_goto (tgt := 4) hx hb dX1_whoFits_33 (by decide) ?_
        exact ih4 x19 x18 ls (by omega) (by first | omega | decide) (lv_sub hl [0, 1, 2, 3] rfl)
  exact loop4 ((4 - (0 : Int32).toInt : Int).toNat + 1) (0 : Int32) (-1 : Int32) ls (by omega) (by first | omega | decide) (lv_sub hl [0, 1, 2, 3] rfl)

set_option maxHeartbeats 4000000 in
set_option maxRecDepth 100000 in
theorem k_X1_lossOf (l : Launch) (g : zG) (ad : Nat → Nat) (pe : Int32) (ct : Nat → va_E) (i : Int32) (hl_i : 0 ≤ i.toInt ∧ i.toInt ≤ 7) (hI : Inv8 g ad pe ct) : Met l yX1_lossOf (zW yX1_lossOf cX1_lossOf 4 (some .int)) ({ frames := 0, cells := 0, slots := 0, locals := 0 }) (va_Pc [.ref (ad 21), .int i] (zR g (zw 126 ad ct))) (vp_Si (fun r : Int32 => (True))) 0 0 (fun _ => False) := by
  refine Met.ofW (cc := cX1_lossOf) (maxL := 4) (ret := (some .int)) (by decide) rfl ?_
  intro p e s m args below meth c s₁ B hml hv
  obtain ⟨rfl, hP, hK, hN⟩ := hv
  have hx := B.exec
  have hb := B.bytes
  have hr := B.returns
  have hg := zW.law (atoms_spec (ws := (zW yX1_lossOf cX1_lossOf 4 (some .int))) B.pre)
  have hown : s.vm.findClass RX1 = some m.cls := findClass_of_methodNamed B.named
  have hlocks := B.notSynchronized
  have hpe0 := hI.1
  have hl := lv_entry ([.ref (ad 21), .int i]) (n := 4) (Nat.le_of_ble_eq_true rfl)
  rw [lg_entry_eq]
  generalize (lg_sl ([.ref (ad 21), .int i]) ++ List.replicate (4 - (lg_sl ([.ref (ad 21), .int i])).length) Slot.unset).toArray = ls at hl ⊢
  have hl : lv_has ls 4 [(0, .ref (ad 21)), (1, .int i)] := hl
  refine lv_iconst (v := 0) hx hb dX1_lossOf_0 (by decide) ?_
  refine lv_istore_n (lv' := [(2, .int 0), (0, .ref (ad 21)), (1, .int i)]) hx hb dX1_lossOf_1 rfl hl (by decide) rfl (fun ls hl => ?_)
  refine lv_iconst (v := 0) hx hb dX1_lossOf_2 (by decide) ?_
  refine lv_istore_n (lv' := [(3, .int 0), (2, .int 0), (0, .ref (ad 21)), (1, .int i)]) hx hb dX1_lossOf_3 rfl hl (by decide) rfl (fun ls hl => ?_)
  have loop4 : ∀ (n4 : Nat) (v3_4 : Int32) (v2_4 : Int32) (ls : Array Slot), ((4 - v3_4.toInt : Int).toNat < n4) → (0 ≤ v3_4.toInt ∧ v3_4.toInt ≤ 4) → lv_has ls 4 [(3, .int v3_4), (2, .int v2_4), (0, .ref (ad 21)), (1, .int i)] → W p l e (headSpec (zW yX1_lossOf cX1_lossOf 4 (some .int)) ({ frames := 0, cells := 0, slots := 0, locals := 0 })).room s m ([.ref (ad 21), .int i] : List Value).toArray below meth c s.heap [] 0 0 (MQ below (vp_Si (fun r : Int32 => (True))) ([.ref (ad 21), .int i] : List Value).toArray s 0 0 (fun _ => False)) (F0 m 4 ls []) := by
    intro n4
    induction n4 with
    | zero =>
      intro v3_4 v2_4 ls hn4 b3_4 hl
      exact absurd hn4 (Nat.not_lt_zero _)
    | succ n4 ih4 =>
      intro v3_4 v2_4 ls hn4 b3_4 hl
      refine lv_iload_n hx hb dX1_lossOf_4 rfl (lv_at hl 0 rfl) ?_
      refine lv_iconst (v := 4) hx hb dX1_lossOf_5 (by decide) ?_
      refine lv_icmp_ge (tgt := 36) hx hb dX1_lossOf_6 (by decide) (fun c1 => ?_) (fun c1 => ?_)
      · skip
        have c1 : 4 ≤ v3_4.toInt := (z_le (by decide : (4 : Int32).toInt = 4) rfl).mp c1
        refine lv_iload_n hx hb dX1_lossOf_36 rfl (lv_at hl 1 rfl) ?_
        exact W.iret (v := v2_4) hx hb hr (fun t ht hW => ⟨v2_4, rfl, trivial, ht⟩) (fun q hq => by cases hq) dX1_lossOf_37
      · skip
        have c1 : ¬ (4 ≤ v3_4.toInt) := fun q => c1 ((z_le (by decide : (4 : Int32).toInt = 4) rfl).mpr q)
        refine lv_iload_n hx hb dX1_lossOf_9 rfl (lv_at hl 1 rfl) ?_
        refine lv_aload_n hx hb dX1_lossOf_10 rfl (lv_at hl 2 rfl) ?_
        obtain ⟨lst3, lrw4, lct5, h6, h7, hs2⟩ := a8_21 hI
        refine va_get (D := g.1) (ci := 1) (v := .ref (ad 23)) (C := RX1) (T := TX1) (N := 7) hx hb hg inG1 hown hK hP 21 (zw_at (by omega) hs2) rfl 4 (by decide) (hg _ mm_248) (fun _ h9 => h9) rfl dX1_lossOf_11 ?_
        refine lv_iload_n hx hb dX1_lossOf_14 rfl (lv_at hl 0 rfl) ?_
        have hs8 := a8_23 hI
        refine z_aldII hx hb hK hP 23 7 (zw_at (by omega) hs8) rfl (z_in rfl (by omega) (by omega)) dX1_lossOf_15 ?_
        rw [zF23_at (x := v3_4) (by omega) (by omega)]
        refine lv_bipush (v := 8) hx hb dX1_lossOf_16 (by decide) ?_
        refine lv_aload_n hx hb dX1_lossOf_18 rfl (lv_at hl 2 rfl) ?_
        refine va_get (D := g.1) (ci := 1) (v := .ref (ad 25)) (C := RX1) (T := TX1) (N := 7) hx hb hg inG1 hown hK hP 21 (zw_at (by omega) hs2) rfl 6 (by decide) (hg _ mm_250) (fun _ h9 => h9) rfl dX1_lossOf_19 ?_
        refine lv_iload_n hx hb dX1_lossOf_22 rfl (lv_at hl 0 rfl) ?_
        obtain ⟨f10, hp11, hs9⟩ := a8_25 hI
        refine va_iald hx hb hK hP 25 0 (zw_at (by omega) hs9) rfl (z_in rfl (by omega) (by omega)) dX1_lossOf_23 ?_
        refine lv_topi (fun y12 ey12 => ?_)
        have hy12 := hp11 _ (z_clt (x := v3_4) rfl (by omega) (by omega))
        rw [← ey12] at hy12
        have hy12 : 0 ≤ y12.toInt ∧ y12.toInt ≤ 4 := hy12
        refine lv_imul hx hb dX1_lossOf_24 ?_
        refine lv_topi (fun x13 ex13 => ?_)
        have tx13 : x13.toInt = 8 * y12.toInt := by rw [ex13]; exact z_mul (by decide : (8 : Int32).toInt = 8) rfl (by omega) (by omega)
        refine lv_iload_n hx hb dX1_lossOf_25 rfl (lv_at hl 3 rfl) ?_
        refine lv_iadd hx hb dX1_lossOf_26 ?_
        refine lv_topi (fun x14 ex14 => ?_)
        have tx14 : x14.toInt = x13.toInt + i.toInt := by rw [ex14]; exact z_add rfl rfl (by omega) (by omega)
        obtain ⟨f16, hs15⟩ := a8_26 (kc := (0 + 30 + 1 * v3_4.toInt.toNat)) (by omega) hI
        refine va_iald hx hb hK hP (0 + 30 + 1 * v3_4.toInt.toNat) 0 (zw_at (by omega) hs15) rfl (z_in rfl (by omega) (by omega)) dX1_lossOf_27 ?_
        refine lv_topi (fun y17 ey17 => ?_)
        refine lv_iadd hx hb dX1_lossOf_28 ?_
        refine lv_topi (fun x18 ex18 => ?_)
        refine lv_istore_n (lv' := [(2, .int x18), (3, .int v3_4), (0, .ref (ad 21)), (1, .int i)]) hx hb dX1_lossOf_29 rfl hl (by decide) rfl (fun ls hl => ?_)
        obtain ⟨x19, ex19⟩ : ∃ y : Int32, y = v3_4 + 1 := ⟨_, rfl⟩
        have tx19 : x19.toInt = v3_4.toInt + 1 := by rw [ex19]; exact z_add rfl (by decide : (1 : Int32).toInt = 1) (by omega) (by omega)
        refine lv_iinc (v := x19) (lv' := [(3, .int x19), (2, .int x18), (0, .ref (ad 21)), (1, .int i)]) hx hb dX1_lossOf_30 hl (k := 1) rfl (by rw [ex19]; rfl) (by decide) rfl (fun ls hl => ?_)
        refine lv_goto (tgt := 4) hx hb dX1_lossOf_33 (by decide) ?_
        exact ih4 x19 x18 ls (by omega) (by first | omega | decide) (lv_sub hl [0, 1, 2, 3] rfl)
  exact loop4 ((4 - (0 : Int32).toInt : Int).toNat + 1) (0 : Int32) (0 : Int32) ls (by omega) (by first | omega | decide) (lv_sub hl [0, 1, 2, 3] rfl)

set_option maxHeartbeats 4000000 in
set_option maxRecDepth 100000 in
theorem k_X1_tryRow (l : Launch) (g : zG) (sz : Nat) (ad : Nat → Nat) (pe : Int32) (ct : Nat → va_E) (row : Int32) (ln : Int32) (k : Int32) (pr : Int32) (hl_row : 0 ≤ row.toInt ∧ row.toInt ≤ 624) (hl_ln : -2147483648 ≤ ln.toInt ∧ ln.toInt ≤ 8) (hI : Inv8 g ad pe ct) : Met l yX1_tryRow (zW yX1_tryRow cX1_tryRow 8 none) ({ frames := 1, cells := 0, slots := 0, locals := 23 }) (va_Pc [.ref (ad 21), .int row, .int ln, .int k, .int pr] (zA g (zw 126 ad ct) sz)) (va_Qv (fun (_ : Unit) => True) (fun _ t => ∃ ct2 : Nat → va_E, zP g (zw 126 ad ct2) t.heap ∧ va_D (va_A (zw 126 ad ct) sz) (zw 126 ad ct2) ∧ Inv8 g ad pe ct2) (va_A (zw 126 ad ct) sz)) 0 0 (va_A (zw 126 ad ct) sz) := by
  refine Met.ofW (cc := cX1_tryRow) (maxL := 8) (ret := none) (by decide) rfl ?_
  intro p e s m args below meth c s₁ B hml hv
  obtain ⟨rfl, hsz, hP, hK, hD0, hN⟩ := hv
  have hx := B.exec
  have hb := B.bytes
  have hr := B.returns
  have hg := zW.law (atoms_spec (ws := (zW yX1_tryRow cX1_tryRow 8 none)) B.pre)
  have hown : s.vm.findClass RX1 = some m.cls := findClass_of_methodNamed B.named
  have hlocks := B.notSynchronized
  have hpe0 := hI.1
  subst hsz
  have hD := hD0.self (sz := s.heap.size)
  generalize hAe : va_A (zw 126 ad ct) s.heap.size = A at hD ⊢
  have hA : ∀ q : Nat, s.heap.size ≤ q → A q := fun q h => by rw [← hAe]; exact Or.inr h
  have hS : va_S A s.heap s.heap [] := va_S.rf
  have hl := lv_entry ([.ref (ad 21), .int row, .int ln, .int k, .int pr]) (n := 8) (Nat.le_of_ble_eq_true rfl)
  rw [lg_entry_eq]
  generalize (lg_sl ([.ref (ad 21), .int row, .int ln, .int k, .int pr]) ++ List.replicate (8 - (lg_sl ([.ref (ad 21), .int row, .int ln, .int k, .int pr])).length) Slot.unset).toArray = ls at hl ⊢
  have hl : lv_has ls 8 [(0, .ref (ad 21)), (1, .int row), (2, .int ln), (3, .int k), (4, .int pr)] := hl
  have rg_k := z_rng k
  have rg_pr := z_rng pr
  refine lv_iconst (v := 0) hx hb dX1_tryRow_0 (by decide) ?_
  refine lv_istore (lv' := [(5, .int 0), (0, .ref (ad 21)), (1, .int row), (2, .int ln), (3, .int k), (4, .int pr)]) hx hb dX1_tryRow_1 hl (by decide) rfl (fun ls hl => ?_)
  refine lv_iconst (v := 0) hx hb dX1_tryRow_3 (by decide) ?_
  refine lv_istore (lv' := [(6, .int 0), (5, .int 0), (0, .ref (ad 21)), (1, .int row), (2, .int ln), (3, .int k), (4, .int pr)]) hx hb dX1_tryRow_4 hl (by decide) rfl (fun ls hl => ?_)
  refine lv_iconst (v := 0) hx hb dX1_tryRow_6 (by decide) ?_
  refine lv_istore (lv' := [(7, .int 0), (6, .int 0), (5, .int 0), (0, .ref (ad 21)), (1, .int row), (2, .int ln), (3, .int k), (4, .int pr)]) hx hb dX1_tryRow_7 hl (by decide) rfl (fun ls hl => ?_)
  have loop9 : ∀ (n9 : Nat) (v7_9 : Int32) (v6_9 : Int32) (v5_9 : Int32) (ct1 : Nat → va_E) (H : Heap) (locs : List Loc) (ls : Array Slot), ((8 - v7_9.toInt : Int).toNat < n9) → (0 ≤ v7_9.toInt ∧ v7_9.toInt ≤ 8) → (Inv8 g ad pe ct1) → zP g (zw 126 ad ct1) H → va_D A (zw 126 ad ct1) → va_S A s.heap H locs → lv_has ls 8 [(7, .int v7_9), (6, .int v6_9), (5, .int v5_9), (0, .ref (ad 21)), (1, .int row), (2, .int ln), (3, .int k), (4, .int pr)] → W p l e (headSpec (zW yX1_tryRow cX1_tryRow 8 none) ({ frames := 1, cells := 0, slots := 0, locals := 23 })).room s m ([.ref (ad 21), .int row, .int ln, .int k, .int pr] : List Value).toArray below meth c H locs 0 0 (MQ below (va_Qv (fun (_ : Unit) => True) (fun _ t => ∃ ct2 : Nat → va_E, zP g (zw 126 ad ct2) t.heap ∧ va_D A (zw 126 ad ct2) ∧ Inv8 g ad pe ct2) A) ([.ref (ad 21), .int row, .int ln, .int k, .int pr] : List Value).toArray s 0 0 A) (F0 m 9 ls []) := by
    intro n9
    induction n9 with
    | zero =>
      intro v7_9 v6_9 v5_9 ct1 H locs ls hn9 b7_9 hI hP hD hS hl
      exact absurd hn9 (Nat.not_lt_zero _)
    | succ n9 ih9 =>
      intro v7_9 v6_9 v5_9 ct1 H locs ls hn9 b7_9 hI hP hD hS hl
      refine lv_iload hx hb dX1_tryRow_9 (lv_at hl 0 rfl) ?_
      refine lv_iload_n hx hb dX1_tryRow_11 rfl (lv_at hl 5 rfl) ?_
      refine lv_icmp_ge (tgt := 58) hx hb dX1_tryRow_12 (by decide) (fun c2 => ?_) (fun c2 => ?_)
      · skip
        have c2 : ln.toInt ≤ v7_9.toInt := (z_le rfl rfl).mp c2
        refine lv_aload_n hx hb dX1_tryRow_58 rfl (lv_at hl 3 rfl) ?_
        obtain ⟨lst4, lrw5, lct6, h7, h8, hs3⟩ := a8_21 hI
        refine va_get (D := g.1) (ci := 1) (v := .int lst4) (C := RX1) (T := TX1) (N := 7) hx hb hg inG1 hown hK hP 21 (zw_at (by omega) hs3) rfl 0 (by decide) (hg _ mm_241) (fun _ h9 => h9) rfl dX1_tryRow_59 ?_
        refine lv_iconst (v := (-1)) hx hb dX1_tryRow_62 (by decide) ?_
        refine lv_icmp_eq (tgt := 75) hx hb dX1_tryRow_63 (by decide) (fun c9 => ?_) (fun c9 => ?_)
        · skip
          have c9 : lst4.toInt = (-1) := (z_eq rfl (by decide : ((-1) : Int32).toInt = (-1))).mp c9
          refine lv_aload_n hx hb dX1_tryRow_75 rfl (lv_at hl 3 rfl) ?_
          refine lv_iload hx hb dX1_tryRow_76 (lv_at hl 2 rfl) ?_
          refine va_put (D := g.1) (ci := 1) (v := .int v5_9) (ty := .int) (C := RX1) (T := TX1) (N := 7) hx hb hg inG1 tyX1 tyX1_ok nmX1 hown hK hP hD hS 21 (zw_at (by omega) hs3) rfl 0 (by decide) (hg _ mm_241) (fun _ h9 => h9) rfl (by decide +kernel) rfl rfl (Nat.le_of_ble_eq_true rfl) dX1_tryRow_78 (fun H locs hP hD hS => ?_)
          have hP : zP g ((zw 126 ad ct1).set 21 (ad 21, .inr (1, [.int v5_9, .int lrw5, .int lct6, .ref (ad 22), .ref (ad 23), .ref (ad 24), .ref (ad 25)]))) H := hP
          have hD : va_D A ((zw 126 ad ct1).set 21 (ad 21, .inr (1, [.int v5_9, .int lrw5, .int lct6, .ref (ad 22), .ref (ad 23), .ref (ad 24), .ref (ad 25)]))) := hD
          rw [zw_set (by omega)] at hP hD
          obtain ⟨ct10, ec11⟩ : ∃ z : Nat → va_E, z = va_up ct1 21 (.inr (1, [.int v5_9, .int lrw5, .int lct6, .ref (ad 22), .ref (ad 23), .ref (ad 24), .ref (ad 25)])) := ⟨_, rfl⟩
          rw [← ec11] at hP hD
          have hI : Inv8 g ad pe ct10 := by rw [ec11]; exact up8 hI (i8_21 ⟨(v5_9 : Int32), (lrw5 : Int32), (lct6 : Int32), (by first | omega | decide), (by first | omega | decide), rfl⟩)
          have hs12 : ct10 21 = .inr (1, [.int v5_9, .int lrw5, .int lct6, .ref (ad 22), .ref (ad 23), .ref (ad 24), .ref (ad 25)]) := by rw [ec11]; exact va_up_self _ _ _
          refine lv_aload_n hx hb dX1_tryRow_81 rfl (lv_at hl 3 rfl) ?_
          refine lv_iload_n hx hb dX1_tryRow_82 rfl (lv_at hl 4 rfl) ?_
          refine va_put (D := g.1) (ci := 1) (v := .int row) (ty := .int) (C := RX1) (T := TX1) (N := 7) hx hb hg inG1 tyX1 tyX1_ok nmX1 hown hK hP hD hS 21 (zw_at (by omega) hs12) rfl 1 (by decide) (hg _ mm_243) (fun _ h9 => h9) rfl (by decide +kernel) rfl rfl (Nat.le_of_ble_eq_true rfl) dX1_tryRow_83 (fun H locs hP hD hS => ?_)
          have hP : zP g ((zw 126 ad ct10).set 21 (ad 21, .inr (1, [.int v5_9, .int row, .int lct6, .ref (ad 22), .ref (ad 23), .ref (ad 24), .ref (ad 25)]))) H := hP
          have hD : va_D A ((zw 126 ad ct10).set 21 (ad 21, .inr (1, [.int v5_9, .int row, .int lct6, .ref (ad 22), .ref (ad 23), .ref (ad 24), .ref (ad 25)]))) := hD
          rw [zw_set (by omega)] at hP hD
          obtain ⟨ct13, ec14⟩ : ∃ z : Nat → va_E, z = va_up ct10 21 (.inr (1, [.int v5_9, .int row, .int lct6, .ref (ad 22), .ref (ad 23), .ref (ad 24), .ref (ad 25)])) := ⟨_, rfl⟩
          rw [← ec14] at hP hD
          have hI : Inv8 g ad pe ct13 := by rw [ec14]; exact up8 hI (i8_21 ⟨(v5_9 : Int32), (row : Int32), (lct6 : Int32), (by first | omega | decide), (by first | omega | decide), rfl⟩)
          have hs15 : ct13 21 = .inr (1, [.int v5_9, .int row, .int lct6, .ref (ad 22), .ref (ad 23), .ref (ad 24), .ref (ad 25)]) := by rw [ec14]; exact va_up_self _ _ _
          refine lv_aload_n hx hb dX1_tryRow_86 rfl (lv_at hl 3 rfl) ?_
          refine lv_iload hx hb dX1_tryRow_87 (lv_at hl 1 rfl) ?_
          refine va_put (D := g.1) (ci := 1) (v := .int v6_9) (ty := .int) (C := RX1) (T := TX1) (N := 7) hx hb hg inG1 tyX1 tyX1_ok nmX1 hown hK hP hD hS 21 (zw_at (by omega) hs15) rfl 2 (by decide) (hg _ mm_245) (fun _ h9 => h9) rfl (by decide +kernel) rfl rfl (Nat.le_of_ble_eq_true rfl) dX1_tryRow_89 (fun H locs hP hD hS => ?_)
          have hP : zP g ((zw 126 ad ct13).set 21 (ad 21, .inr (1, [.int v5_9, .int row, .int v6_9, .ref (ad 22), .ref (ad 23), .ref (ad 24), .ref (ad 25)]))) H := hP
          have hD : va_D A ((zw 126 ad ct13).set 21 (ad 21, .inr (1, [.int v5_9, .int row, .int v6_9, .ref (ad 22), .ref (ad 23), .ref (ad 24), .ref (ad 25)]))) := hD
          rw [zw_set (by omega)] at hP hD
          obtain ⟨ct16, ec17⟩ : ∃ z : Nat → va_E, z = va_up ct13 21 (.inr (1, [.int v5_9, .int row, .int v6_9, .ref (ad 22), .ref (ad 23), .ref (ad 24), .ref (ad 25)])) := ⟨_, rfl⟩
          rw [← ec17] at hP hD
          have hI : Inv8 g ad pe ct16 := by rw [ec17]; exact up8 hI (i8_21 ⟨(v5_9 : Int32), (row : Int32), (v6_9 : Int32), (by first | omega | decide), (by first | omega | decide), rfl⟩)
          have hs18 : ct16 21 = .inr (1, [.int v5_9, .int row, .int v6_9, .ref (ad 22), .ref (ad 23), .ref (ad 24), .ref (ad 25)]) := by rw [ec17]; exact va_up_self _ _ _
          exact W.vret hx hb hr (fun t ht hW => ⟨⟨(), rfl, trivial, ct16, by rw [ht]; exact hP, hD, hI⟩, hS.F ht⟩) hS.2.2 dX1_tryRow_92
        · skip
          have c9 : ¬ (lst4.toInt = (-1)) := fun q => c9 ((z_eq rfl (by decide : ((-1) : Int32).toInt = (-1))).mpr q)
          refine lv_iload hx hb dX1_tryRow_66 (lv_at hl 2 rfl) ?_
          refine lv_aload_n hx hb dX1_tryRow_68 rfl (lv_at hl 3 rfl) ?_
          refine va_get (D := g.1) (ci := 1) (v := .int lst4) (C := RX1) (T := TX1) (N := 7) hx hb hg inG1 hown hK hP 21 (zw_at (by omega) hs3) rfl 0 (by decide) (hg _ mm_241) (fun _ h9 => h9) rfl dX1_tryRow_69 ?_
          refine lv_icmp_ge (tgt := 92) hx hb dX1_tryRow_72 (by decide) (fun c19 => ?_) (fun c19 => ?_)
          · skip
            have c19 : lst4.toInt ≤ v5_9.toInt := (z_le rfl rfl).mp c19
            exact W.vret hx hb hr (fun t ht hW => ⟨⟨(), rfl, trivial, ct1, by rw [ht]; exact hP, hD, hI⟩, hS.F ht⟩) hS.2.2 dX1_tryRow_92
          · skip
            have c19 : ¬ (lst4.toInt ≤ v5_9.toInt) := fun q => c19 ((z_le rfl rfl).mpr q)
            refine lv_aload_n hx hb dX1_tryRow_75 rfl (lv_at hl 3 rfl) ?_
            refine lv_iload hx hb dX1_tryRow_76 (lv_at hl 2 rfl) ?_
            refine va_put (D := g.1) (ci := 1) (v := .int v5_9) (ty := .int) (C := RX1) (T := TX1) (N := 7) hx hb hg inG1 tyX1 tyX1_ok nmX1 hown hK hP hD hS 21 (zw_at (by omega) hs3) rfl 0 (by decide) (hg _ mm_241) (fun _ h9 => h9) rfl (by decide +kernel) rfl rfl (Nat.le_of_ble_eq_true rfl) dX1_tryRow_78 (fun H locs hP hD hS => ?_)
            have hP : zP g ((zw 126 ad ct1).set 21 (ad 21, .inr (1, [.int v5_9, .int lrw5, .int lct6, .ref (ad 22), .ref (ad 23), .ref (ad 24), .ref (ad 25)]))) H := hP
            have hD : va_D A ((zw 126 ad ct1).set 21 (ad 21, .inr (1, [.int v5_9, .int lrw5, .int lct6, .ref (ad 22), .ref (ad 23), .ref (ad 24), .ref (ad 25)]))) := hD
            rw [zw_set (by omega)] at hP hD
            obtain ⟨ct20, ec21⟩ : ∃ z : Nat → va_E, z = va_up ct1 21 (.inr (1, [.int v5_9, .int lrw5, .int lct6, .ref (ad 22), .ref (ad 23), .ref (ad 24), .ref (ad 25)])) := ⟨_, rfl⟩
            rw [← ec21] at hP hD
            have hI : Inv8 g ad pe ct20 := by rw [ec21]; exact up8 hI (i8_21 ⟨(v5_9 : Int32), (lrw5 : Int32), (lct6 : Int32), (by first | omega | decide), (by first | omega | decide), rfl⟩)
            have hs22 : ct20 21 = .inr (1, [.int v5_9, .int lrw5, .int lct6, .ref (ad 22), .ref (ad 23), .ref (ad 24), .ref (ad 25)]) := by rw [ec21]; exact va_up_self _ _ _
            refine lv_aload_n hx hb dX1_tryRow_81 rfl (lv_at hl 3 rfl) ?_
            refine lv_iload_n hx hb dX1_tryRow_82 rfl (lv_at hl 4 rfl) ?_
            refine va_put (D := g.1) (ci := 1) (v := .int row) (ty := .int) (C := RX1) (T := TX1) (N := 7) hx hb hg inG1 tyX1 tyX1_ok nmX1 hown hK hP hD hS 21 (zw_at (by omega) hs22) rfl 1 (by decide) (hg _ mm_243) (fun _ h9 => h9) rfl (by decide +kernel) rfl rfl (Nat.le_of_ble_eq_true rfl) dX1_tryRow_83 (fun H locs hP hD hS => ?_)
            have hP : zP g ((zw 126 ad ct20).set 21 (ad 21, .inr (1, [.int v5_9, .int row, .int lct6, .ref (ad 22), .ref (ad 23), .ref (ad 24), .ref (ad 25)]))) H := hP
            have hD : va_D A ((zw 126 ad ct20).set 21 (ad 21, .inr (1, [.int v5_9, .int row, .int lct6, .ref (ad 22), .ref (ad 23), .ref (ad 24), .ref (ad 25)]))) := hD
            rw [zw_set (by omega)] at hP hD
            obtain ⟨ct23, ec24⟩ : ∃ z : Nat → va_E, z = va_up ct20 21 (.inr (1, [.int v5_9, .int row, .int lct6, .ref (ad 22), .ref (ad 23), .ref (ad 24), .ref (ad 25)])) := ⟨_, rfl⟩
            rw [← ec24] at hP hD
            have hI : Inv8 g ad pe ct23 := by rw [ec24]; exact up8 hI (i8_21 ⟨(v5_9 : Int32), (row : Int32), (lct6 : Int32), (by first | omega | decide), (by first | omega | decide), rfl⟩)
            have hs25 : ct23 21 = .inr (1, [.int v5_9, .int row, .int lct6, .ref (ad 22), .ref (ad 23), .ref (ad 24), .ref (ad 25)]) := by rw [ec24]; exact va_up_self _ _ _
            refine lv_aload_n hx hb dX1_tryRow_86 rfl (lv_at hl 3 rfl) ?_
            refine lv_iload hx hb dX1_tryRow_87 (lv_at hl 1 rfl) ?_
            refine va_put (D := g.1) (ci := 1) (v := .int v6_9) (ty := .int) (C := RX1) (T := TX1) (N := 7) hx hb hg inG1 tyX1 tyX1_ok nmX1 hown hK hP hD hS 21 (zw_at (by omega) hs25) rfl 2 (by decide) (hg _ mm_245) (fun _ h9 => h9) rfl (by decide +kernel) rfl rfl (Nat.le_of_ble_eq_true rfl) dX1_tryRow_89 (fun H locs hP hD hS => ?_)
            have hP : zP g ((zw 126 ad ct23).set 21 (ad 21, .inr (1, [.int v5_9, .int row, .int v6_9, .ref (ad 22), .ref (ad 23), .ref (ad 24), .ref (ad 25)]))) H := hP
            have hD : va_D A ((zw 126 ad ct23).set 21 (ad 21, .inr (1, [.int v5_9, .int row, .int v6_9, .ref (ad 22), .ref (ad 23), .ref (ad 24), .ref (ad 25)]))) := hD
            rw [zw_set (by omega)] at hP hD
            obtain ⟨ct26, ec27⟩ : ∃ z : Nat → va_E, z = va_up ct23 21 (.inr (1, [.int v5_9, .int row, .int v6_9, .ref (ad 22), .ref (ad 23), .ref (ad 24), .ref (ad 25)])) := ⟨_, rfl⟩
            rw [← ec27] at hP hD
            have hI : Inv8 g ad pe ct26 := by rw [ec27]; exact up8 hI (i8_21 ⟨(v5_9 : Int32), (row : Int32), (v6_9 : Int32), (by first | omega | decide), (by first | omega | decide), rfl⟩)
            have hs28 : ct26 21 = .inr (1, [.int v5_9, .int row, .int v6_9, .ref (ad 22), .ref (ad 23), .ref (ad 24), .ref (ad 25)]) := by rw [ec27]; exact va_up_self _ _ _
            exact W.vret hx hb hr (fun t ht hW => ⟨⟨(), rfl, trivial, ct26, by rw [ht]; exact hP, hD, hI⟩, hS.F ht⟩) hS.2.2 dX1_tryRow_92
      · skip
        have c2 : ¬ (ln.toInt ≤ v7_9.toInt) := fun q => c2 ((z_le rfl rfl).mpr q)
        refine lv_aload_n hx hb dX1_tryRow_15 rfl (lv_at hl 3 rfl) ?_
        refine lv_iload hx hb dX1_tryRow_16 (lv_at hl 0 rfl) ?_
        obtain ⟨lst30, lrw31, lct32, h33, h34, hs29⟩ := a8_21 hI
        refine zc_i (va_runV (As := [.int v7_9]) (rest := []) ⟨hx, hb, hml, hown, hg⟩ (k_X1_whoFits l g ad pe ct1 v7_9 (by first | omega | decide) hI) (cwV 1 hg (z_gV mm_895 mm_897 mm_45 mm_113 mm_898) rfl rfl rfl (by decide +kernel) ⟨Nat.le_of_ble_eq_true rfl, Nat.le_of_ble_eq_true rfl⟩) ⟨(zR.pre [.ref (ad 21), .int v7_9] hP hK hN).1, va_recv hK hP (ci := 1) (q0 := 21) rfl (zw_at (by omega) hs29), (zR.pre [.ref (ad 21), .int v7_9] hP hK hN).2⟩ rfl rfl hl.1 rfl (lv_room (Nat.le_of_ble_eq_true rfl)) dX1_tryRow_18 ⟨Nat.le_of_ble_eq_true rfl, Nat.le_of_ble_eq_true rfl⟩) (fun r35 hr35 => ?_)
        refine zc_i (va_runS (As := [.int r35]) (rest := []) ⟨hx, hb, hml, hown, hg⟩ (k_J6_bitCount_0f7a4 l g ad pe ct1 r35 hI) (va_cwS 1 hg (z_gS mm_899 mm_729 mm_119 mm_730) rfl rfl rfl (by decide +kernel) ⟨Nat.le_of_ble_eq_true rfl, Nat.le_of_ble_eq_true rfl⟩) (zR.pre [.int r35] hP hK hN) rfl rfl hl.1 rfl (lv_room (Nat.le_of_ble_eq_true rfl)) dX1_tryRow_21 ⟨Nat.le_of_ble_eq_true rfl, Nat.le_of_ble_eq_true rfl⟩) (fun r36 hr36 => ?_)
        obtain ⟨hr36_0, hr36_1⟩ := hr36
        have hr36_0 : 0 ≤ r36.toInt := hr36_0
        have hr36_1 : r36.toInt ≤ 63 := hr36_1
        refine lv_iload_n hx hb dX1_tryRow_24 rfl (lv_at hl 6 rfl) ?_
        refine lv_icmp_lt (tgt := 42) hx hb dX1_tryRow_25 (by decide) (fun c37 => ?_) (fun c37 => ?_)
        · skip
          have c37 : r36.toInt < k.toInt := (z_lt rfl rfl).mp c37
          refine lv_iload hx hb dX1_tryRow_42 (lv_at hl 2 rfl) ?_
          refine lv_iload hx hb dX1_tryRow_44 (lv_at hl 7 rfl) ?_
          refine lv_iadd hx hb dX1_tryRow_46 ?_
          refine lv_topi (fun x38 ex38 => ?_)
          refine lv_istore (lv' := [(5, .int x38), (7, .int v7_9), (6, .int v6_9), (0, .ref (ad 21)), (1, .int row), (2, .int ln), (3, .int k), (4, .int pr)]) hx hb dX1_tryRow_47 hl (by decide) rfl (fun ls hl => ?_)
          obtain ⟨x39, ex39⟩ : ∃ y : Int32, y = v6_9 + 1 := ⟨_, rfl⟩
          refine lv_iinc (v := x39) (lv' := [(6, .int x39), (5, .int x38), (7, .int v7_9), (0, .ref (ad 21)), (1, .int row), (2, .int ln), (3, .int k), (4, .int pr)]) hx hb dX1_tryRow_49 hl (k := 2) rfl (by rw [ex39]; rfl) (by decide) rfl (fun ls hl => ?_)
          obtain ⟨x40, ex40⟩ : ∃ y : Int32, y = v7_9 + 1 := ⟨_, rfl⟩
          have tx40 : x40.toInt = v7_9.toInt + 1 := by rw [ex40]; exact z_add rfl (by decide : (1 : Int32).toInt = 1) (by omega) (by omega)
          refine lv_iinc (v := x40) (lv' := [(7, .int x40), (6, .int x39), (5, .int x38), (0, .ref (ad 21)), (1, .int row), (2, .int ln), (3, .int k), (4, .int pr)]) hx hb dX1_tryRow_52 hl (k := 2) rfl (by rw [ex40]; rfl) (by decide) rfl (fun ls hl => ?_)
          refine lv_goto (tgt := 9) hx hb dX1_tryRow_55 (by decide) ?_
          exact ih9 x40 x39 x38 ct1 _ _ ls (by omega) (by first | omega | decide) hI hP hD hS (lv_sub hl [0, 1, 2, 3, 4, 5, 6, 7] rfl)
        · skip
          have c37 : ¬ (r36.toInt < k.toInt) := fun q => c37 ((z_lt rfl rfl).mpr q)
          refine lv_iload hx hb dX1_tryRow_28 (lv_at hl 2 rfl) ?_
          refine lv_aload_n hx hb dX1_tryRow_30 rfl (lv_at hl 3 rfl) ?_
          refine lv_iload hx hb dX1_tryRow_31 (lv_at hl 0 rfl) ?_
          refine zc_i (va_runV (As := [.int v7_9]) (rest := [.int v5_9]) ⟨hx, hb, hml, hown, hg⟩ (k_X1_lossOf l g ad pe ct1 v7_9 (by first | omega | decide) hI) (cwV 1 hg (z_gV mm_900 mm_902 mm_46 mm_113 mm_903) rfl rfl rfl (by decide +kernel) ⟨Nat.le_of_ble_eq_true rfl, Nat.le_of_ble_eq_true rfl⟩) ⟨(zR.pre [.ref (ad 21), .int v7_9] hP hK hN).1, va_recv hK hP (ci := 1) (q0 := 21) rfl (zw_at (by omega) hs29), (zR.pre [.ref (ad 21), .int v7_9] hP hK hN).2⟩ rfl rfl hl.1 rfl (lv_room (Nat.le_of_ble_eq_true rfl)) dX1_tryRow_33 ⟨Nat.le_of_ble_eq_true rfl, Nat.le_of_ble_eq_true rfl⟩) (fun r41 hr41 => ?_)
          refine lv_iadd hx hb dX1_tryRow_36 ?_
          refine lv_topi (fun x42 ex42 => ?_)
          refine lv_istore (lv' := [(5, .int x42), (7, .int v7_9), (6, .int v6_9), (0, .ref (ad 21)), (1, .int row), (2, .int ln), (3, .int k), (4, .int pr)]) hx hb dX1_tryRow_37 hl (by decide) rfl (fun ls hl => ?_)
          refine lv_goto (tgt := 52) hx hb dX1_tryRow_39 (by decide) ?_
          obtain ⟨x43, ex43⟩ : ∃ y : Int32, y = v7_9 + 1 := ⟨_, rfl⟩
          have tx43 : x43.toInt = v7_9.toInt + 1 := by rw [ex43]; exact z_add rfl (by decide : (1 : Int32).toInt = 1) (by omega) (by omega)
          refine lv_iinc (v := x43) (lv' := [(7, .int x43), (5, .int x42), (6, .int v6_9), (0, .ref (ad 21)), (1, .int row), (2, .int ln), (3, .int k), (4, .int pr)]) hx hb dX1_tryRow_52 hl (k := 1) rfl (by rw [ex43]; rfl) (by decide) rfl (fun ls hl => ?_)
          refine lv_goto (tgt := 9) hx hb dX1_tryRow_55 (by decide) ?_
          exact ih9 x43 v6_9 x42 ct1 _ _ ls (by omega) (by first | omega | decide) hI hP hD hS (lv_sub hl [0, 2, 1, 3, 4, 5, 6, 7] rfl)
  exact loop9 ((8 - (0 : Int32).toInt : Int).toNat + 1) (0 : Int32) (0 : Int32) (0 : Int32) ct _ _ ls (by omega) (by first | omega | decide) hI hP hD hS (lv_sub hl [0, 1, 2, 3, 4, 5, 6, 7] rfl)

set_option maxHeartbeats 4000000 in
set_option maxRecDepth 100000 in
theorem k_X1_find (l : Launch) (g : zG) (sz : Nat) (ad : Nat → Nat) (pe : Int32) (ct : Nat → va_E) (ln : Int32) (k : Int32) (pr : Int32) (hI : Inv8 g ad pe ct) : Met l yX1_find (zW yX1_find cX1_find 7 none) ({ frames := 2, cells := 0, slots := 0, locals := 50 }) (va_Pc [.ref (ad 21), .int ln, .int k, .int pr] (zA g (zw 126 ad ct) sz)) (va_Qv (fun (_ : Unit) => True) (fun _ t => ∃ ct2 : Nat → va_E, zP g (zw 126 ad ct2) t.heap ∧ va_D (va_A (zw 126 ad ct) sz) (zw 126 ad ct2) ∧ Inv8 g ad pe ct2) (va_A (zw 126 ad ct) sz)) 0 0 (va_A (zw 126 ad ct) sz) := by
  refine Met.ofW (cc := cX1_find) (maxL := 7) (ret := none) (by decide) rfl ?_
  intro p e s m args below meth c s₁ B hml hv
  obtain ⟨rfl, hsz, hP, hK, hD0, hN⟩ := hv
  have hx := B.exec
  have hb := B.bytes
  have hr := B.returns
  have hg := zW.law (atoms_spec (ws := (zW yX1_find cX1_find 7 none)) B.pre)
  have hown : s.vm.findClass RX1 = some m.cls := findClass_of_methodNamed B.named
  have hlocks := B.notSynchronized
  have hpe0 := hI.1
  subst hsz
  have hD := hD0.self (sz := s.heap.size)
  generalize hAe : va_A (zw 126 ad ct) s.heap.size = A at hD ⊢
  have hA : ∀ q : Nat, s.heap.size ≤ q → A q := fun q h => by rw [← hAe]; exact Or.inr h
  have hS : va_S A s.heap s.heap [] := va_S.rf
  have hl := lv_entry ([.ref (ad 21), .int ln, .int k, .int pr]) (n := 7) (Nat.le_of_ble_eq_true rfl)
  rw [lg_entry_eq]
  generalize (lg_sl ([.ref (ad 21), .int ln, .int k, .int pr]) ++ List.replicate (7 - (lg_sl ([.ref (ad 21), .int ln, .int k, .int pr])).length) Slot.unset).toArray = ls at hl ⊢
  have hl : lv_has ls 7 [(0, .ref (ad 21)), (1, .int ln), (2, .int k), (3, .int pr)] := hl
  have rg_ln := z_rng ln
  have rg_k := z_rng k
  have rg_pr := z_rng pr
  refine lv_aload_n hx hb dX1_find_0 rfl (lv_at hl 0 rfl) ?_
  refine lv_iconst (v := (-1)) hx hb dX1_find_1 (by decide) ?_
  obtain ⟨lst2, lrw3, lct4, h5, h6, hs1⟩ := a8_21 hI
  refine va_put (D := g.1) (ci := 1) (v := .int (-1)) (ty := .int) (C := RX1) (T := TX1) (N := 7) hx hb hg inG1 tyX1 tyX1_ok nmX1 hown hK hP hD hS 21 (zw_at (by omega) hs1) rfl 0 (by decide) (hg _ mm_241) (fun _ h9 => h9) rfl (by decide +kernel) rfl rfl (Nat.le_of_ble_eq_true rfl) dX1_find_2 (fun H locs hP hD hS => ?_)
  have hP : zP g ((zw 126 ad ct).set 21 (ad 21, .inr (1, [.int (-1), .int lrw3, .int lct4, .ref (ad 22), .ref (ad 23), .ref (ad 24), .ref (ad 25)]))) H := hP
  have hD : va_D A ((zw 126 ad ct).set 21 (ad 21, .inr (1, [.int (-1), .int lrw3, .int lct4, .ref (ad 22), .ref (ad 23), .ref (ad 24), .ref (ad 25)]))) := hD
  rw [zw_set (by omega)] at hP hD
  obtain ⟨ct7, ec8⟩ : ∃ z : Nat → va_E, z = va_up ct 21 (.inr (1, [.int (-1), .int lrw3, .int lct4, .ref (ad 22), .ref (ad 23), .ref (ad 24), .ref (ad 25)])) := ⟨_, rfl⟩
  rw [← ec8] at hP hD
  have hI : Inv8 g ad pe ct7 := by rw [ec8]; exact up8 hI (i8_21 ⟨((-1) : Int32), (lrw3 : Int32), (lct4 : Int32), (by first | omega | decide), (by first | omega | decide), rfl⟩)
  have hs9 : ct7 21 = .inr (1, [.int (-1), .int lrw3, .int lct4, .ref (ad 22), .ref (ad 23), .ref (ad 24), .ref (ad 25)]) := by rw [ec8]; exact va_up_self _ _ _
  refine lv_iconst (v := 0) hx hb dX1_find_5 (by decide) ?_
  refine lv_istore (lv' := [(4, .int 0), (0, .ref (ad 21)), (1, .int ln), (2, .int k), (3, .int pr)]) hx hb dX1_find_6 hl (by decide) rfl (fun ls hl => ?_)
  have loop8 : ∀ (n8 : Nat) (v4_8 : Int32) (ct10 : Nat → va_E) (H : Heap) (locs : List Loc) (ls : Array Slot), ((625 - v4_8.toInt : Int).toNat < n8) → (0 ≤ v4_8.toInt ∧ v4_8.toInt ≤ 625) → (Inv8 g ad pe ct10) → zP g (zw 126 ad ct10) H → va_D A (zw 126 ad ct10) → va_S A s.heap H locs → lv_has ls 7 [(4, .int v4_8), (0, .ref (ad 21)), (1, .int ln), (2, .int k), (3, .int pr)] → W p l e (headSpec (zW yX1_find cX1_find 7 none) ({ frames := 2, cells := 0, slots := 0, locals := 50 })).room s m ([.ref (ad 21), .int ln, .int k, .int pr] : List Value).toArray below meth c H locs 0 0 (MQ below (va_Qv (fun (_ : Unit) => True) (fun _ t => ∃ ct2 : Nat → va_E, zP g (zw 126 ad ct2) t.heap ∧ va_D A (zw 126 ad ct2) ∧ Inv8 g ad pe ct2) A) ([.ref (ad 21), .int ln, .int k, .int pr] : List Value).toArray s 0 0 A) (F0 m 8 ls []) := by
    intro n8
    induction n8 with
    | zero =>
      intro v4_8 ct10 H locs ls hn8 b4_8 hI hP hD hS hl
      exact absurd hn8 (Nat.not_lt_zero _)
    | succ n8 ih8 =>
      intro v4_8 ct10 H locs ls hn8 b4_8 hI hP hD hS hl
      refine lv_iload hx hb dX1_find_8 (lv_at hl 0 rfl) ?_
      refine lv_sipush (v := 625) hx hb dX1_find_10 (by decide) ?_
      refine lv_icmp_ge (tgt := 102) hx hb dX1_find_13 (by decide) (fun c11 => ?_) (fun c11 => ?_)
      · skip
        have c11 : 625 ≤ v4_8.toInt := (z_le (by decide : (625 : Int32).toInt = 625) rfl).mp c11
        exact W.vret hx hb hr (fun t ht hW => ⟨⟨(), rfl, trivial, ct10, by rw [ht]; exact hP, hD, hI⟩, hS.F ht⟩) hS.2.2 dX1_find_102
      · skip
        have c11 : ¬ (625 ≤ v4_8.toInt) := fun q => c11 ((z_le (by decide : (625 : Int32).toInt = 625) rfl).mpr q)
        refine lv_iconst (v := 1) hx hb dX1_find_16 (by decide) ?_
        refine lv_istore (lv' := [(5, .int 1), (4, .int v4_8), (0, .ref (ad 21)), (1, .int ln), (2, .int k), (3, .int pr)]) hx hb dX1_find_17 hl (by decide) rfl (fun ls hl => ?_)
        refine lv_iconst (v := 0) hx hb dX1_find_19 (by decide) ?_
        refine lv_istore (lv' := [(6, .int 0), (5, .int 1), (4, .int v4_8), (0, .ref (ad 21)), (1, .int ln), (2, .int k), (3, .int pr)]) hx hb dX1_find_20 hl (by decide) rfl (fun ls hl => ?_)
        have loop22 : ∀ (n22 : Nat) (v6_22 : Int32) (v5_22 : Int32) (ct12 : Nat → va_E) (H : Heap) (locs : List Loc) (ls : Array Slot), ((4 - v6_22.toInt : Int).toNat < n22) → (0 ≤ v6_22.toInt ∧ v6_22.toInt ≤ 4) → (Inv8 g ad pe ct12) → zP g (zw 126 ad ct12) H → va_D A (zw 126 ad ct12) → va_S A s.heap H locs → lv_has ls 7 [(6, .int v6_22), (5, .int v5_22), (4, .int v4_8), (0, .ref (ad 21)), (1, .int ln), (2, .int k), (3, .int pr)] → W p l e (headSpec (zW yX1_find cX1_find 7 none) ({ frames := 2, cells := 0, slots := 0, locals := 50 })).room s m ([.ref (ad 21), .int ln, .int k, .int pr] : List Value).toArray below meth c H locs 0 0 (MQ below (va_Qv (fun (_ : Unit) => True) (fun _ t => ∃ ct2 : Nat → va_E, zP g (zw 126 ad ct2) t.heap ∧ va_D A (zw 126 ad ct2) ∧ Inv8 g ad pe ct2) A) ([.ref (ad 21), .int ln, .int k, .int pr] : List Value).toArray s 0 0 A) (F0 m 22 ls []) := by
          intro n22
          induction n22 with
          | zero =>
            intro v6_22 v5_22 ct12 H locs ls hn22 b6_22 hI hP hD hS hl
            exact absurd hn22 (Nat.not_lt_zero _)
          | succ n22 ih22 =>
            intro v6_22 v5_22 ct12 H locs ls hn22 b6_22 hI hP hD hS hl
            refine lv_iload hx hb dX1_find_22 (lv_at hl 0 rfl) ?_
            refine lv_iconst (v := 4) hx hb dX1_find_24 (by decide) ?_
            refine lv_icmp_ge (tgt := 77) hx hb dX1_find_25 (by decide) (fun c13 => ?_) (fun c13 => ?_)
            · skip
              have c13 : 4 ≤ v6_22.toInt := (z_le (by decide : (4 : Int32).toInt = 4) rfl).mp c13
              refine lv_iload hx hb dX1_find_77 (lv_at hl 1 rfl) ?_
              refine lv_if_eq (tgt := 96) hx hb dX1_find_79 (by decide) (fun c14 => ?_) (fun c14 => ?_)
              · skip
                have c14 : v5_22.toInt = 0 := (z_eq rfl (by decide : (0 : Int32).toInt = 0)).mp c14
                obtain ⟨x15, ex15⟩ : ∃ y : Int32, y = v4_8 + 1 := ⟨_, rfl⟩
                have tx15 : x15.toInt = v4_8.toInt + 1 := by rw [ex15]; exact z_add rfl (by decide : (1 : Int32).toInt = 1) (by omega) (by omega)
                refine lv_iinc (v := x15) (lv' := [(4, .int x15), (6, .int v6_22), (5, .int v5_22), (0, .ref (ad 21)), (1, .int ln), (2, .int k), (3, .int pr)]) hx hb dX1_find_96 hl (k := 2) rfl (by rw [ex15]; rfl) (by decide) rfl (fun ls hl => ?_)
                refine lv_goto (tgt := 8) hx hb dX1_find_99 (by decide) ?_
                exact ih8 x15 ct12 _ _ ls (by omega) (by first | omega | decide) hI hP hD hS (lv_sub hl [0, 3, 4, 5, 6] rfl)
              · skip
                have c14 : ¬ (v5_22.toInt = 0) := fun q => c14 ((z_eq rfl (by decide : (0 : Int32).toInt = 0)).mpr q)
                refine lv_aload_n hx hb dX1_find_82 rfl (lv_at hl 3 rfl) ?_
                refine lv_iload hx hb dX1_find_83 (lv_at hl 2 rfl) ?_
                refine lv_iload_n hx hb dX1_find_85 rfl (lv_at hl 4 rfl) ?_
                refine lv_bipush (v := 8) hx hb dX1_find_86 (by decide) ?_
                refine va_mmin hx hb (hml.trans hl.1.symm) hown (hg _ mm_890) (hg _ mm_633) (hg _ mm_118) (hg _ mm_634) (Nat.le_of_ble_eq_true rfl) (Nat.le_of_ble_eq_true rfl) (Nat.le_of_ble_eq_true rfl) (Nat.le_of_ble_eq_true rfl) dX1_find_88 ?_
                refine lv_topi (fun x16 ex16 => ?_)
                have tx16 := z_min (x := ln) (y := 8) rfl (by decide : (8 : Int32).toInt = 8)
                rw [← ex16] at tx16
                refine lv_iload_n hx hb dX1_find_91 rfl (lv_at hl 5 rfl) ?_
                refine lv_iload_n hx hb dX1_find_92 rfl (lv_at hl 6 rfl) ?_
                obtain ⟨lst18, lrw19, lct20, h21, h22, hs17⟩ := a8_21 hI
                have hFc := zw_free hD hS hA
                refine va_callv (va_runV (As := [.int v4_8, .int x16, .int k, .int pr]) (rest := []) ⟨hx, hb, hml, hown, hg⟩ (k_X1_tryRow l g _ ad pe ct12 v4_8 x16 k pr (by first | omega | decide) (by first | omega | decide) hI) (cwV 4 hg (z_gV mm_891 mm_893 mm_44 mm_113 mm_894) rfl rfl rfl (by decide +kernel) ⟨Nat.le_of_ble_eq_true rfl, Nat.le_of_ble_eq_true rfl⟩) ⟨(zA.pre [.ref (ad 21), .int v4_8, .int x16, .int k, .int pr] hP hK hD hN).1, va_recv hK hP (ci := 1) (q0 := 21) rfl (zw_at (by omega) hs17), (zA.pre [.ref (ad 21), .int v4_8, .int x16, .int k, .int pr] hP hK hD hN).2⟩ rfl rfl hl.1 rfl (lv_room (Nat.le_of_ble_eq_true rfl)) dX1_find_93 ⟨Nat.le_of_ble_eq_true rfl, Nat.le_of_ble_eq_true rfl⟩) hS (fun q _ h => hFc q h) hFc (fun _ t H1 locs ht hvm hr23 hB hz1 hk1 hS => ?_)
                obtain ⟨ct24, hP1, hD1, hI⟩ := hB
                rw [ht] at hP1
                have hD := hD1.weaken (fun _ _ _ h => hFc _ h)
                generalize H1 = H at hP1 hS ⊢
                have hP := hP1
                refine W.widen (k := 0) (n := 0) (Nat.le_refl _) (Nat.le_refl _) ?_
                obtain ⟨x25, ex25⟩ : ∃ y : Int32, y = v4_8 + 1 := ⟨_, rfl⟩
                have tx25 : x25.toInt = v4_8.toInt + 1 := by rw [ex25]; exact z_add rfl (by decide : (1 : Int32).toInt = 1) (by omega) (by omega)
                refine lv_iinc (v := x25) (lv' := [(4, .int x25), (6, .int v6_22), (5, .int v5_22), (0, .ref (ad 21)), (1, .int ln), (2, .int k), (3, .int pr)]) hx hb dX1_find_96 hl (k := 2) rfl (by rw [ex25]; rfl) (by decide) rfl (fun ls hl => ?_)
                refine lv_goto (tgt := 8) hx hb dX1_find_99 (by decide) ?_
                exact ih8 x25 ct24 _ _ ls (by omega) (by first | omega | decide) hI hP hD hS (lv_sub hl [0, 3, 4, 5, 6] rfl)
            · skip
              have c13 : ¬ (4 ≤ v6_22.toInt) := fun q => c13 ((z_le (by decide : (4 : Int32).toInt = 4) rfl).mpr q)
              refine lv_aload_n hx hb dX1_find_28 rfl (lv_at hl 3 rfl) ?_
              obtain ⟨lst27, lrw28, lct29, h30, h31, hs26⟩ := a8_21 hI
              refine va_get (D := g.1) (ci := 1) (v := .ref (ad 25)) (C := RX1) (T := TX1) (N := 7) hx hb hg inG1 hown hK hP 21 (zw_at (by omega) hs26) rfl 6 (by decide) (hg _ mm_250) (fun _ h9 => h9) rfl dX1_find_29 ?_
              refine lv_iload hx hb dX1_find_32 (lv_at hl 0 rfl) ?_
              refine lv_iload hx hb dX1_find_34 (lv_at hl 2 rfl) ?_
              refine lv_iload hx hb dX1_find_36 (lv_at hl 0 rfl) ?_
              refine zc_i (va_runS (As := [.int v4_8, .int v6_22]) (rest := [.int v6_22, .ref (ad 25)]) ⟨hx, hb, hml, hown, hg⟩ (k_X1_level l g ad pe ct12 v4_8 v6_22 (by first | omega | decide) hI) (va_cwS 2 hg (z_gS mm_887 mm_888 mm_113 mm_889) rfl rfl rfl (by decide +kernel) ⟨Nat.le_of_ble_eq_true rfl, Nat.le_of_ble_eq_true rfl⟩) (zR.pre [.int v4_8, .int v6_22] hP hK hN) rfl rfl hl.1 rfl (lv_room (Nat.le_of_ble_eq_true rfl)) dX1_find_38 ⟨Nat.le_of_ble_eq_true rfl, Nat.le_of_ble_eq_true rfl⟩) (fun r32 hr32 => ?_)
              obtain ⟨hr32_0, hr32_1⟩ := hr32
              have hr32_0 : 0 ≤ r32.toInt := hr32_0
              have hr32_1 : r32.toInt ≤ 4 := hr32_1
              obtain ⟨f34, hp35, hs33⟩ := a8_25 hI
              refine va_iast hx hb hK hP hD hS 25 0 (zw_at (by omega) hs33) rfl (z_in rfl (by omega) (by omega)) dX1_find_41 (fun H locs hP hD hS => ?_)
              have hp37 : ∀ j : Nat, j < 4 → (fun x : Int32 => 0 ≤ x.toInt ∧ x.toInt ≤ 4) ((upd f34 (Int32.toNatClampNeg v6_22) r32) j) := fun j hj => by
                unfold upd
                by_cases q : j = Int32.toNatClampNeg v6_22
                · rw [if_pos q]; exact (show 0 ≤ (r32 : Int32).toInt ∧ (r32 : Int32).toInt ≤ 4 from (by first | omega | decide))
                · rw [if_neg q]; exact hp35 j hj
              have hP : zP g ((zw 126 ad ct12).set 25 (ad 25, .inl (g.2 0, 4, .inl (upd f34 (Int32.toNatClampNeg v6_22) r32)))) H := hP
              have hD : va_D A ((zw 126 ad ct12).set 25 (ad 25, .inl (g.2 0, 4, .inl (upd f34 (Int32.toNatClampNeg v6_22) r32)))) := hD
              rw [zw_set (by omega)] at hP hD
              obtain ⟨ct38, ec39⟩ : ∃ z : Nat → va_E, z = va_up ct12 25 (.inl (g.2 0, 4, .inl (upd f34 (Int32.toNatClampNeg v6_22) r32))) := ⟨_, rfl⟩
              rw [← ec39] at hP hD
              have hI : Inv8 g ad pe ct38 := by rw [ec39]; exact up8 hI (i8_25 ⟨_, hp37, rfl⟩)
              have hs40 : ct38 21 = .inr (1, [.int lst27, .int lrw28, .int lct29, .ref (ad 22), .ref (ad 23), .ref (ad 24), .ref (ad 25)]) := by rw [ec39, va_up_ne _ _ (by omega)]; exact hs26
              have hs41 : ct38 25 = .inl (g.2 0, 4, .inl (upd f34 (Int32.toNatClampNeg v6_22) r32)) := by rw [ec39]; exact va_up_self _ _ _
              refine lv_iload hx hb dX1_find_42 (lv_at hl 1 rfl) ?_
              refine lv_if_eq (tgt := 68) hx hb dX1_find_44 (by decide) (fun c42 => ?_) (fun c42 => ?_)
              · skip
                have c42 : v5_22.toInt = 0 := (z_eq rfl (by decide : (0 : Int32).toInt = 0)).mp c42
                refine lv_iconst (v := 0) hx hb dX1_find_68 (by decide) ?_
                refine lv_istore (lv' := [(5, .int 0), (6, .int v6_22), (4, .int v4_8), (0, .ref (ad 21)), (1, .int ln), (2, .int k), (3, .int pr)]) hx hb dX1_find_69 hl (by decide) rfl (fun ls hl => ?_)
                obtain ⟨x43, ex43⟩ : ∃ y : Int32, y = v6_22 + 1 := ⟨_, rfl⟩
                have tx43 : x43.toInt = v6_22.toInt + 1 := by rw [ex43]; exact z_add rfl (by decide : (1 : Int32).toInt = 1) (by omega) (by omega)
                refine lv_iinc (v := x43) (lv' := [(6, .int x43), (5, .int 0), (4, .int v4_8), (0, .ref (ad 21)), (1, .int ln), (2, .int k), (3, .int pr)]) hx hb dX1_find_71 hl (k := 1) rfl (by rw [ex43]; rfl) (by decide) rfl (fun ls hl => ?_)
                refine lv_goto (tgt := 22) hx hb dX1_find_74 (by decide) ?_
                exact ih22 x43 (0 : Int32) ct38 _ _ ls (by omega) (by first | omega | decide) hI hP hD hS (lv_sub hl [0, 1, 2, 3, 4, 5, 6] rfl)
              · skip
                have c42 : ¬ (v5_22.toInt = 0) := fun q => c42 ((z_eq rfl (by decide : (0 : Int32).toInt = 0)).mpr q)
                refine lv_aload_n hx hb dX1_find_47 rfl (lv_at hl 3 rfl) ?_
                refine va_get (D := g.1) (ci := 1) (v := .ref (ad 25)) (C := RX1) (T := TX1) (N := 7) hx hb hg inG1 hown hK hP 21 (zw_at (by omega) hs40) rfl 6 (by decide) (hg _ mm_250) (fun _ h9 => h9) rfl dX1_find_48 ?_
                refine lv_iload hx hb dX1_find_51 (lv_at hl 0 rfl) ?_
                refine va_iald hx hb hK hP 25 0 (zw_at (by omega) hs41) rfl (z_in rfl (by omega) (by omega)) dX1_find_53 ?_
                refine lv_topi (fun y44 ey44 => ?_)
                have hy44 := hp37 _ (z_clt (x := v6_22) rfl (by omega) (by omega))
                rw [← ey44] at hy44
                have hy44 : 0 ≤ y44.toInt ∧ y44.toInt ≤ 4 := hy44
                refine lv_aload_n hx hb dX1_find_54 rfl (lv_at hl 3 rfl) ?_
                refine va_get (D := g.1) (ci := 1) (v := .ref (ad 24)) (C := RX1) (T := TX1) (N := 7) hx hb hg inG1 hown hK hP 21 (zw_at (by omega) hs40) rfl 5 (by decide) (hg _ mm_249) (fun _ h9 => h9) rfl dX1_find_55 ?_
                refine lv_iload hx hb dX1_find_58 (lv_at hl 0 rfl) ?_
                obtain ⟨f46, hs45⟩ := a8_24 hI
                refine va_iald hx hb hK hP 24 0 (zw_at (by omega) hs45) rfl (z_in rfl (by omega) (by omega)) dX1_find_60 ?_
                refine lv_topi (fun y47 ey47 => ?_)
                refine lv_icmp_gt (tgt := 68) hx hb dX1_find_61 (by decide) (fun c48 => ?_) (fun c48 => ?_)
                · skip
                  have c48 : y47.toInt < y44.toInt := (z_lt rfl rfl).mp c48
                  refine lv_iconst (v := 0) hx hb dX1_find_68 (by decide) ?_
                  refine lv_istore (lv' := [(5, .int 0), (6, .int v6_22), (4, .int v4_8), (0, .ref (ad 21)), (1, .int ln), (2, .int k), (3, .int pr)]) hx hb dX1_find_69 hl (by decide) rfl (fun ls hl => ?_)
                  obtain ⟨x49, ex49⟩ : ∃ y : Int32, y = v6_22 + 1 := ⟨_, rfl⟩
                  have tx49 : x49.toInt = v6_22.toInt + 1 := by rw [ex49]; exact z_add rfl (by decide : (1 : Int32).toInt = 1) (by omega) (by omega)
                  refine lv_iinc (v := x49) (lv' := [(6, .int x49), (5, .int 0), (4, .int v4_8), (0, .ref (ad 21)), (1, .int ln), (2, .int k), (3, .int pr)]) hx hb dX1_find_71 hl (k := 1) rfl (by rw [ex49]; rfl) (by decide) rfl (fun ls hl => ?_)
                  refine lv_goto (tgt := 22) hx hb dX1_find_74 (by decide) ?_
                  exact ih22 x49 (0 : Int32) ct38 _ _ ls (by omega) (by first | omega | decide) hI hP hD hS (lv_sub hl [0, 1, 2, 3, 4, 5, 6] rfl)
                · skip
                  have c48 : ¬ (y47.toInt < y44.toInt) := fun q => c48 ((z_lt rfl rfl).mpr q)
                  refine lv_iconst (v := 1) hx hb dX1_find_64 (by decide) ?_
                  refine lv_goto (tgt := 69) hx hb dX1_find_65 (by decide) ?_
                  refine lv_istore (lv' := [(5, .int 1), (6, .int v6_22), (4, .int v4_8), (0, .ref (ad 21)), (1, .int ln), (2, .int k), (3, .int pr)]) hx hb dX1_find_69 hl (by decide) rfl (fun ls hl => ?_)
                  obtain ⟨x50, ex50⟩ : ∃ y : Int32, y = v6_22 + 1 := ⟨_, rfl⟩
                  have tx50 : x50.toInt = v6_22.toInt + 1 := by rw [ex50]; exact z_add rfl (by decide : (1 : Int32).toInt = 1) (by omega) (by omega)
                  refine lv_iinc (v := x50) (lv' := [(6, .int x50), (5, .int 1), (4, .int v4_8), (0, .ref (ad 21)), (1, .int ln), (2, .int k), (3, .int pr)]) hx hb dX1_find_71 hl (k := 1) rfl (by rw [ex50]; rfl) (by decide) rfl (fun ls hl => ?_)
                  refine lv_goto (tgt := 22) hx hb dX1_find_74 (by decide) ?_
                  exact ih22 x50 (1 : Int32) ct38 _ _ ls (by omega) (by first | omega | decide) hI hP hD hS (lv_sub hl [0, 1, 2, 3, 4, 5, 6] rfl)
        exact loop22 ((4 - (0 : Int32).toInt : Int).toNat + 1) (0 : Int32) (1 : Int32) ct10 _ _ ls (by omega) (by first | omega | decide) hI hP hD hS (lv_sub hl [0, 1, 2, 3, 4, 5, 6] rfl)
  exact loop8 ((625 - (0 : Int32).toInt : Int).toNat + 1) (0 : Int32) ct7 _ _ ls (by omega) (by first | omega | decide) hI hP hD hS (lv_sub hl [0, 1, 2, 3, 4] rfl)
