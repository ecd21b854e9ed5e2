set_option maxHeartbeats 4000000 in
set_option maxRecDepth 100000 in
theorem k_X0_keep (l : Launch) (g : zG) (sz : Nat) (ad : Nat → Nat) (pe : Int32) (ct : Nat → va_E) (who : Int32) (le : Int32) (mo : Int32) (hl_who : 0 ≤ who.toInt ∧ who.toInt ≤ 65535) (hI : Inv8 g ad pe ct) (hw : who.toInt < zlen (ct 20)) : Met l yX0_keep (zW yX0_keep cX0_keep 4 none) ({ frames := 0, cells := 0, slots := 0, locals := 0 }) (va_Pc [.ref (ad 17), .int who, .int le, .int mo] (zA g (zw 126 ad ct) sz)) (va_Qv (fun (_ : Unit) => True) (fun _ t => ∃ ct2 : Nat → va_E, zP g (zw 126 ad ct2) t.heap ∧ va_D (va_A (zw 126 ad ct) sz) (zw 126 ad ct2) ∧ Inv8 g ad pe ct2) (va_A (zw 126 ad ct) sz)) 0 0 (va_A (zw 126 ad ct) sz) := by
  refine Met.ofW (cc := cX0_keep) (maxL := 4) (ret := none) (by decide) rfl ?_
  intro p e s m args below meth c s₁ B hml hv
  obtain ⟨rfl, hsz, hP, hK, hD0, hN⟩ := hv
  have hx := B.exec
  have hb := B.bytes
  have hr := B.returns
  have hg := zW.law (atoms_spec (ws := (zW yX0_keep cX0_keep 4 none)) B.pre)
  have hown : s.vm.findClass RX0 = some m.cls := findClass_of_methodNamed B.named
  have hlocks := B.notSynchronized
  have hpe0 := hI.1
  subst hsz
  have hD := hD0.self (sz := s.heap.size)
  generalize hAe : va_A (zw 126 ad ct) s.heap.size = A at hD ⊢
  have hA : ∀ q : Nat, s.heap.size ≤ q → A q := fun q h => by rw [← hAe]; exact Or.inr h
  have hS : va_S A s.heap s.heap [] := va_S.rf
  have hl := lv_entry ([.ref (ad 17), .int who, .int le, .int mo]) (n := 4) (Nat.le_of_ble_eq_true rfl)
  rw [lg_entry_eq]
  generalize (lg_sl ([.ref (ad 17), .int who, .int le, .int mo]) ++ List.replicate (4 - (lg_sl ([.ref (ad 17), .int who, .int le, .int mo])).length) Slot.unset).toArray = ls at hl ⊢
  have hl : lv_has ls 4 [(0, .ref (ad 17)), (1, .int who), (2, .int le), (3, .int mo)] := hl
  have hz : zlen (ct 20) = zlen (ct 20) := rfl
  have rg_le := z_rng le
  have rg_mo := z_rng mo
  refine lv_aload_n hx hb dX0_keep_0 rfl (lv_at hl 0 rfl) ?_
  obtain ⟨spc2, tim3, h4, h5, hs1⟩ := a8_17 hI
  refine va_get (D := g.1) (ci := 0) (v := .ref (ad 20)) (C := RX0) (T := TX0) (N := 5) hx hb hg inG0 hown hK hP 17 (zw_at (by omega) hs1) rfl 3 (by decide) (hg _ mm_220) (fun _ h9 => h9) rfl dX0_keep_1 ?_
  refine lv_iload_n hx hb dX0_keep_4 rfl (lv_at hl 1 rfl) ?_
  refine lv_aload_n hx hb dX0_keep_5 rfl (lv_at hl 0 rfl) ?_
  refine va_get (D := g.1) (ci := 0) (v := .int tim3) (C := RX0) (T := TX0) (N := 5) hx hb hg inG0 hown hK hP 17 (zw_at (by omega) hs1) rfl 4 (by decide) (hg _ mm_221) (fun _ h9 => h9) rfl dX0_keep_6 ?_
  refine lv_bipush (v := 10) hx hb dX0_keep_9 (by decide) ?_
  refine lv_ishl hx hb dX0_keep_11 ?_
  refine lv_topi (fun x6 ex6 => ?_)
  refine lv_iload_n hx hb dX0_keep_12 rfl (lv_at hl 2 rfl) ?_
  refine lv_iconst (v := 5) hx hb dX0_keep_13 (by decide) ?_
  refine lv_ishl hx hb dX0_keep_14 ?_
  refine lv_topi (fun x7 ex7 => ?_)
  refine lv_ior hx hb dX0_keep_15 ?_
  refine lv_topi (fun x8 ex8 => ?_)
  refine lv_iload_n hx hb dX0_keep_16 rfl (lv_at hl 3 rfl) ?_
  refine lv_ior hx hb dX0_keep_17 ?_
  refine lv_topi (fun x9 ex9 => ?_)
  obtain ⟨n11, f12, h13, h14, hs10⟩ := a8_20 hI
  have zhs10 : zlen (ct 20) = n11 := by rw [hs10]; rfl
  refine va_iast hx hb hK hP hD hS 20 0 (zw_at (by omega) hs10) rfl (z_in rfl (by omega) (by omega)) dX0_keep_18 (fun H locs hP hD hS => ?_)
  have hP : zP g ((zw 126 ad ct).set 20 (ad 20, .inl (g.2 0, n11, .inl (upd f12 (Int32.toNatClampNeg who) x9)))) H := hP
  have hD : va_D A ((zw 126 ad ct).set 20 (ad 20, .inl (g.2 0, n11, .inl (upd f12 (Int32.toNatClampNeg who) x9)))) := hD
  rw [zw_set (by omega)] at hP hD
  obtain ⟨ct16, ec17⟩ : ∃ z : Nat → va_E, z = va_up ct 20 (.inl (g.2 0, n11, .inl (upd f12 (Int32.toNatClampNeg who) x9))) := ⟨_, rfl⟩
  rw [← ec17] at hP hD
  have hI : Inv8 g ad pe ct16 := by rw [ec17]; exact up8 hI (i8_20 ⟨n11, _, (by omega), (by omega), rfl⟩)
  have hz : zlen (ct16 20) = zlen (ct 20) := by rw [ec17, va_up_self]; exact Eq.trans rfl ((congrArg zlen hs10).symm.trans hz)
  have hs18 : ct16 17 = .inr (0, [.ref (ad 18), .int spc2, .ref (ad 19), .ref (ad 20), .int tim3]) := by rw [ec17, va_up_ne _ _ (by omega)]; exact hs1
  have hs19 : ct16 20 = .inl (g.2 0, n11, .inl (upd f12 (Int32.toNatClampNeg who) x9)) := by rw [ec17]; exact va_up_self _ _ _
  exact W.vret hx hb hr (fun t ht hW => ⟨⟨(), rfl, trivial, ct16, by rw [ht]; exact hP, hD, hI⟩, hS.F ht⟩) hS.2.2 dX0_keep_19

set_option maxHeartbeats 4000000 in
set_option maxRecDepth 100000 in
theorem k_X0_atLeast (l : Launch) (g : zG) (sz : Nat) (ad : Nat → Nat) (pe : Int32) (ct : Nat → va_E) (who : Int32) (hl_who : 0 ≤ who.toInt ∧ who.toInt ≤ 65535) (hI : Inv8 g ad pe ct) : Met l yX0_atLeast (zW yX0_atLeast cX0_atLeast 7 (some .int)) ({ frames := 1, cells := 0, slots := 0, locals := 20 }) (va_Pc [.ref (ad 17), .int who] (zA g (zw 126 ad ct) sz)) (va_Qi (fun (r : Int32) (_ : Unit) => (True)) (fun _ t => ∃ ct2 : Nat → va_E, zP g (zw 126 ad ct2) t.heap ∧ va_D (va_A (zw 126 ad ct) sz) (zw 126 ad ct2) ∧ Inv8 g ad pe ct2) (va_A (zw 126 ad ct) sz)) 0 0 (va_A (zw 126 ad ct) sz) := by
  refine Met.ofW (cc := cX0_atLeast) (maxL := 7) (ret := (some .int)) (by decide) rfl ?_
  intro p e s m args below meth c s₁ B hml hv
  obtain ⟨rfl, hsz, hP, hK, hD0, hN⟩ := hv
  have hx := B.exec
  have hb := B.bytes
  have hr := B.returns
  have hg := zW.law (atoms_spec (ws := (zW yX0_atLeast cX0_atLeast 7 (some .int))) B.pre)
  have hown : s.vm.findClass RX0 = some m.cls := findClass_of_methodNamed B.named
  have hlocks := B.notSynchronized
  have hpe0 := hI.1
  subst hsz
  have hD := hD0.self (sz := s.heap.size)
  generalize hAe : va_A (zw 126 ad ct) s.heap.size = A at hD ⊢
  have hA : ∀ q : Nat, s.heap.size ≤ q → A q := fun q h => by rw [← hAe]; exact Or.inr h
  have hS : va_S A s.heap s.heap [] := va_S.rf
  have hl := lv_entry ([.ref (ad 17), .int who]) (n := 7) (Nat.le_of_ble_eq_true rfl)
  rw [lg_entry_eq]
  generalize (lg_sl ([.ref (ad 17), .int who]) ++ List.replicate (7 - (lg_sl ([.ref (ad 17), .int who])).length) Slot.unset).toArray = ls at hl ⊢
  have hl : lv_has ls 7 [(0, .ref (ad 17)), (1, .int who)] := hl
  have hz : zlen (ct 20) = zlen (ct 20) := rfl
  refine lv_iload_n hx hb dX0_atLeast_0 rfl (lv_at hl 1 rfl) ?_
  refine zc_i (va_runS (As := [.int who]) (rest := []) ⟨hx, hb, hml, hown, hg⟩ (k_bce l g ad pe ct who hI) (va_cwS 1 hg (z_gS mm_826 mm_729 mm_119 mm_730) rfl rfl rfl (by decide +kernel) ⟨Nat.le_of_ble_eq_true rfl, Nat.le_of_ble_eq_true rfl⟩) (zR.pre [.int who] hP hK hN) rfl rfl hl.1 rfl (lv_room (Nat.le_of_ble_eq_true rfl)) dX0_atLeast_1 ⟨Nat.le_of_ble_eq_true rfl, Nat.le_of_ble_eq_true rfl⟩) (fun r1 hr1 => ?_)
  have hqr1 := hr1
  subst r1
  have hbr1 := z_bc (x := who) (by omega) (by omega)
  refine lv_istore_n (lv' := [(2, .int (bcf who)), (0, .ref (ad 17)), (1, .int who)]) hx hb dX0_atLeast_4 rfl hl (by decide) rfl (fun ls hl => ?_)
  refine lv_iconst (v := 0) hx hb dX0_atLeast_5 (by decide) ?_
  refine lv_istore_n (lv' := [(3, .int 0), (2, .int (bcf who)), (0, .ref (ad 17)), (1, .int who)]) hx hb dX0_atLeast_6 rfl hl (by decide) rfl (fun ls hl => ?_)
  have loop7 : ∀ (n7 : Nat) (v3_7 : Int32) (ct2 : Nat → va_E) (H : Heap) (locs : List Loc) (ls : Array Slot), ((17 - v3_7.toInt : Int).toNat < n7) → (0 ≤ v3_7.toInt ∧ v3_7.toInt ≤ 17) → (zlen (ct2 20) = zlen (ct 20)) → (Inv8 g ad pe ct2) → zP g (zw 126 ad ct2) H → va_D A (zw 126 ad ct2) → va_S A s.heap H locs → lv_has ls 7 [(3, .int v3_7), (2, .int (bcf who)), (0, .ref (ad 17)), (1, .int who)] → W p l e (headSpec (zW yX0_atLeast cX0_atLeast 7 (some .int)) ({ frames := 1, cells := 0, slots := 0, locals := 20 })).room s m ([.ref (ad 17), .int who] : List Value).toArray below meth c H locs 0 0 (MQ below (va_Qi (fun (r : Int32) (_ : Unit) => (True)) (fun _ t => ∃ ct2 : Nat → va_E, zP g (zw 126 ad ct2) t.heap ∧ va_D A (zw 126 ad ct2) ∧ Inv8 g ad pe ct2) A) ([.ref (ad 17), .int who] : List Value).toArray s 0 0 A) (F0 m 7 ls []) := by
    intro n7
    induction n7 with
    | zero =>
      intro v3_7 ct2 H locs ls hn7 b3_7 hz hI hP hD hS hl
      exact absurd hn7 (Nat.not_lt_zero _)
    | succ n7 ih7 =>
      intro v3_7 ct2 H locs ls hn7 b3_7 hz hI hP hD hS hl
      refine lv_iload_n hx hb dX0_atLeast_7 rfl (lv_at hl 0 rfl) ?_
      refine lv_bipush (v := 16) hx hb dX0_atLeast_8 (by decide) ?_
      refine lv_icmp_gt (tgt := 26) hx hb dX0_atLeast_10 (by decide) (fun c3 => ?_) (fun c3 => ?_)
      · skip
        have c3 : 16 < v3_7.toInt := (z_lt (by decide : (16 : Int32).toInt = 16) rfl).mp c3
        refine lv_iconst (v := 0) hx hb dX0_atLeast_26 (by decide) ?_
        refine lv_istore_n (lv' := [(3, .int 0), (2, .int (bcf who)), (0, .ref (ad 17)), (1, .int who)]) hx hb dX0_atLeast_27 rfl hl (by decide) rfl (fun ls hl => ?_)
        have loop28 : ∀ (n28 : Nat) (v3_28 : Int32) (ct4 : Nat → va_E) (H : Heap) (locs : List Loc) (ls : Array Slot), ((128 - v3_28.toInt : Int).toNat < n28) → (0 ≤ v3_28.toInt ∧ v3_28.toInt ≤ 128) → (zlen (ct4 20) = zlen (ct 20)) → (Inv8 g ad pe ct4) → zP g (zw 126 ad ct4) H → va_D A (zw 126 ad ct4) → va_S A s.heap H locs → lv_has ls 7 [(3, .int v3_28), (2, .int (bcf who)), (0, .ref (ad 17)), (1, .int who)] → W p l e (headSpec (zW yX0_atLeast cX0_atLeast 7 (some .int)) ({ frames := 1, cells := 0, slots := 0, locals := 20 })).room s m ([.ref (ad 17), .int who] : List Value).toArray below meth c H locs 0 0 (MQ below (va_Qi (fun (r : Int32) (_ : Unit) => (True)) (fun _ t => ∃ ct2 : Nat → va_E, zP g (zw 126 ad ct2) t.heap ∧ va_D A (zw 126 ad ct2) ∧ Inv8 g ad pe ct2) A) ([.ref (ad 17), .int who] : List Value).toArray s 0 0 A) (F0 m 28 ls []) := by
          intro n28
          induction n28 with
          | zero =>
            intro v3_28 ct4 H locs ls hn28 b3_28 hz hI hP hD hS hl
            exact absurd hn28 (Nat.not_lt_zero _)
          | succ n28 ih28 =>
            intro v3_28 ct4 H locs ls hn28 b3_28 hz hI hP hD hS hl
            refine lv_iload_n hx hb dX0_atLeast_28 rfl (lv_at hl 0 rfl) ?_
            refine lv_aload_n hx hb dX0_atLeast_29 rfl (lv_at hl 2 rfl) ?_
            obtain ⟨spc6, tim7, h8, h9, hs5⟩ := a8_17 hI
            refine va_get (D := g.1) (ci := 0) (v := .int spc6) (C := RX0) (T := TX0) (N := 5) hx hb hg inG0 hown hK hP 17 (zw_at (by omega) hs5) rfl 1 (by decide) (hg _ mm_218) (fun _ h9 => h9) rfl dX0_atLeast_30 ?_
            refine lv_icmp_ge (tgt := 73) hx hb dX0_atLeast_33 (by decide) (fun c10 => ?_) (fun c10 => ?_)
            · skip
              have c10 : spc6.toInt ≤ v3_28.toInt := (z_le rfl rfl).mp c10
              refine lv_iconst (v := 0) hx hb dX0_atLeast_73 (by decide) ?_
              refine lv_istore_n (lv' := [(3, .int 0), (2, .int (bcf who)), (0, .ref (ad 17)), (1, .int who)]) hx hb dX0_atLeast_74 rfl hl (by decide) rfl (fun ls hl => ?_)
              refine lv_iload_n hx hb dX0_atLeast_75 rfl (lv_at hl 1 rfl) ?_
              refine lv_istore (lv' := [(4, .int (bcf who)), (3, .int 0), (2, .int (bcf who)), (0, .ref (ad 17)), (1, .int who)]) hx hb dX0_atLeast_76 hl (by decide) rfl (fun ls hl => ?_)
              refine lv_bipush (v := 16) hx hb dX0_atLeast_78 (by decide) ?_
              refine lv_istore (lv' := [(5, .int 16), (4, .int (bcf who)), (3, .int 0), (2, .int (bcf who)), (0, .ref (ad 17)), (1, .int who)]) hx hb dX0_atLeast_80 hl (by decide) rfl (fun ls hl => ?_)
              have loop82 : ∀ (n82 : Nat) (v5_82 : Int32) (v4_82 : Int32) (v3_82 : Int32) (ct11 : Nat → va_E) (H : Heap) (locs : List Loc) (ls : Array Slot), ((v5_82.toInt : Int).toNat < n82) → (0 ≤ v5_82.toInt ∧ v5_82.toInt ≤ 16) → (0 ≤ v4_82.toInt ∧ v4_82.toInt ≤ 16) → (zlen (ct11 20) = zlen (ct 20)) → (Inv8 g ad pe ct11) → zP g (zw 126 ad ct11) H → va_D A (zw 126 ad ct11) → va_S A s.heap H locs → lv_has ls 7 [(5, .int v5_82), (4, .int v4_82), (3, .int v3_82), (2, .int (bcf who)), (0, .ref (ad 17)), (1, .int who)] → W p l e (headSpec (zW yX0_atLeast cX0_atLeast 7 (some .int)) ({ frames := 1, cells := 0, slots := 0, locals := 20 })).room s m ([.ref (ad 17), .int who] : List Value).toArray below meth c H locs 0 0 (MQ below (va_Qi (fun (r : Int32) (_ : Unit) => (True)) (fun _ t => ∃ ct2 : Nat → va_E, zP g (zw 126 ad ct2) t.heap ∧ va_D A (zw 126 ad ct2) ∧ Inv8 g ad pe ct2) A) ([.ref (ad 17), .int who] : List Value).toArray s 0 0 A) (F0 m 82 ls []) := by
                intro n82
                induction n82 with
                | zero =>
                  intro v5_82 v4_82 v3_82 ct11 H locs ls hn82 b5_82 b4_82 hz hI hP hD hS hl
                  exact absurd hn82 (Nat.not_lt_zero _)
                | succ n82 ih82 =>
                  intro v5_82 v4_82 v3_82 ct11 H locs ls hn82 b5_82 b4_82 hz hI hP hD hS hl
                  refine lv_iload hx hb dX0_atLeast_82 (lv_at hl 0 rfl) ?_
                  refine lv_if_le (tgt := 137) hx hb dX0_atLeast_84 (by decide) (fun c12 => ?_) (fun c12 => ?_)
                  · skip
                    have c12 : v5_82.toInt ≤ 0 := (z_le rfl (by decide : (0 : Int32).toInt = 0)).mp c12
                    refine lv_iload_n hx hb dX0_atLeast_137 rfl (lv_at hl 2 rfl) ?_
                    exact W.iret (v := v3_82) hx hb hr (fun t ht hW => ⟨⟨v3_82, (), rfl, trivial, ct11, by rw [ht]; exact hP, hD, hI⟩, hS.F ht⟩) hS.2.2 dX0_atLeast_138
                  · skip
                    have c12 : ¬ (v5_82.toInt ≤ 0) := fun q => c12 ((z_le rfl (by decide : (0 : Int32).toInt = 0)).mpr q)
                    refine lv_iconst (v := 0) hx hb dX0_atLeast_87 (by decide) ?_
                    refine lv_istore (lv' := [(6, .int 0), (5, .int v5_82), (4, .int v4_82), (3, .int v3_82), (2, .int (bcf who)), (0, .ref (ad 17)), (1, .int who)]) hx hb dX0_atLeast_88 hl (by decide) rfl (fun ls hl => ?_)
                    have loop90 : ∀ (n90 : Nat) (v6_90 : Int32) (v4_90 : Int32) (v3_90 : Int32) (ct13 : Nat → va_E) (H : Heap) (locs : List Loc) (ls : Array Slot), ((v4_90.toInt : Int).toNat < n90) → (0 ≤ v4_90.toInt ∧ v4_90.toInt ≤ 16) → (zlen (ct13 20) = zlen (ct 20)) → (Inv8 g ad pe ct13) → zP g (zw 126 ad ct13) H → va_D A (zw 126 ad ct13) → va_S A s.heap H locs → lv_has ls 7 [(6, .int v6_90), (5, .int v5_82), (4, .int v4_90), (3, .int v3_90), (2, .int (bcf who)), (0, .ref (ad 17)), (1, .int who)] → W p l e (headSpec (zW yX0_atLeast cX0_atLeast 7 (some .int)) ({ frames := 1, cells := 0, slots := 0, locals := 20 })).room s m ([.ref (ad 17), .int who] : List Value).toArray below meth c H locs 0 0 (MQ below (va_Qi (fun (r : Int32) (_ : Unit) => (True)) (fun _ t => ∃ ct2 : Nat → va_E, zP g (zw 126 ad ct2) t.heap ∧ va_D A (zw 126 ad ct2) ∧ Inv8 g ad pe ct2) A) ([.ref (ad 17), .int who] : List Value).toArray s 0 0 A) (F0 m 90 ls []) := by
                      intro n90
                      induction n90 with
                      | zero =>
                        intro v6_90 v4_90 v3_90 ct13 H locs ls hn90 b4_90 hz hI hP hD hS hl
                        exact absurd hn90 (Nat.not_lt_zero _)
                      | succ n90 ih90 =>
                        intro v6_90 v4_90 v3_90 ct13 H locs ls hn90 b4_90 hz hI hP hD hS hl
                        refine lv_iload hx hb dX0_atLeast_90 (lv_at hl 0 rfl) ?_
                        refine lv_aload_n hx hb dX0_atLeast_92 rfl (lv_at hl 5 rfl) ?_
                        obtain ⟨spc15, tim16, h17, h18, hs14⟩ := a8_17 hI
                        refine va_get (D := g.1) (ci := 0) (v := .ref (ad 19)) (C := RX0) (T := TX0) (N := 5) hx hb hg inG0 hown hK hP 17 (zw_at (by omega) hs14) rfl 2 (by decide) (hg _ mm_219) (fun _ h9 => h9) rfl dX0_atLeast_93 ?_
                        refine lv_iload hx hb dX0_atLeast_96 (lv_at hl 1 rfl) ?_
                        obtain ⟨f20, hs19⟩ := a8_19 hI
                        refine va_iald hx hb hK hP 19 0 (zw_at (by omega) hs19) rfl (z_in rfl (by omega) (by omega)) dX0_atLeast_98 ?_
                        refine lv_topi (fun y21 ey21 => ?_)
                        refine lv_icmp_ge (tgt := 131) hx hb dX0_atLeast_99 (by decide) (fun c22 => ?_) (fun c22 => ?_)
                        · skip
                          have c22 : y21.toInt ≤ v6_90.toInt := (z_le rfl rfl).mp c22
                          obtain ⟨x23, ex23⟩ : ∃ y : Int32, y = v5_82 + (-1) := ⟨_, rfl⟩
                          have tx23 : x23.toInt = v5_82.toInt + (-1) := by rw [ex23]; exact z_add rfl (by decide : ((-1) : Int32).toInt = (-1)) (by omega) (by omega)
                          refine lv_iinc (v := x23) (lv' := [(5, .int x23), (6, .int v6_90), (4, .int v4_90), (3, .int v3_90), (2, .int (bcf who)), (0, .ref (ad 17)), (1, .int who)]) hx hb dX0_atLeast_131 hl (k := 1) rfl (by rw [ex23]; rfl) (by decide) rfl (fun ls hl => ?_)
                          refine lv_goto (tgt := 82) hx hb dX0_atLeast_134 (by decide) ?_
                          exact ih82 x23 v4_90 v3_90 ct13 _ _ ls (by omega) (by first | omega | decide) (by first | omega | decide) hz hI hP hD hS (lv_sub hl [0, 2, 3, 4, 5, 6] rfl)
                        · skip
                          have c22 : ¬ (y21.toInt ≤ v6_90.toInt) := fun q => c22 ((z_le rfl rfl).mpr q)
                          refine lv_iload hx hb dX0_atLeast_102 (lv_at hl 2 rfl) ?_
                          refine lv_iconst (v := 1) hx hb dX0_atLeast_104 (by decide) ?_
                          refine lv_icmp_le (tgt := 131) hx hb dX0_atLeast_105 (by decide) (fun c24 => ?_) (fun c24 => ?_)
                          · skip
                            have c24 : v4_90.toInt ≤ 1 := (z_le rfl (by decide : (1 : Int32).toInt = 1)).mp c24
                            obtain ⟨x25, ex25⟩ : ∃ y : Int32, y = v5_82 + (-1) := ⟨_, rfl⟩
                            have tx25 : x25.toInt = v5_82.toInt + (-1) := by rw [ex25]; exact z_add rfl (by decide : ((-1) : Int32).toInt = (-1)) (by omega) (by omega)
                            refine lv_iinc (v := x25) (lv' := [(5, .int x25), (6, .int v6_90), (4, .int v4_90), (3, .int v3_90), (2, .int (bcf who)), (0, .ref (ad 17)), (1, .int who)]) hx hb dX0_atLeast_131 hl (k := 1) rfl (by rw [ex25]; rfl) (by decide) rfl (fun ls hl => ?_)
                            refine lv_goto (tgt := 82) hx hb dX0_atLeast_134 (by decide) ?_
                            exact ih82 x25 v4_90 v3_90 ct13 _ _ ls (by omega) (by first | omega | decide) (by first | omega | decide) hz hI hP hD hS (lv_sub hl [0, 2, 3, 4, 5, 6] rfl)
                          · skip
                            have c24 : ¬ (v4_90.toInt ≤ 1) := fun q => c24 ((z_le rfl (by decide : (1 : Int32).toInt = 1)).mpr q)
                            refine lv_iload hx hb dX0_atLeast_108 (lv_at hl 2 rfl) ?_
                            refine lv_iload hx hb dX0_atLeast_110 (lv_at hl 1 rfl) ?_
                            refine lv_iload hx hb dX0_atLeast_112 (lv_at hl 2 rfl) ?_
                            refine lv_iconst (v := 2) hx hb dX0_atLeast_114 (by decide) ?_
                            refine lv_idiv hx hb dX0_atLeast_115 (by decide) ?_
                            refine lv_topi (fun x26 ex26 => ?_)
                            have tx26 := z_div (x := v4_90) (y := 2) rfl (by decide : (2 : Int32).toInt = 2) (by omega) (by omega)
                            rw [← ex26] at tx26
                            refine va_mmin hx hb (hml.trans hl.1.symm) hown (hg _ mm_832) (hg _ mm_633) (hg _ mm_118) (hg _ mm_634) (Nat.le_of_ble_eq_true rfl) (Nat.le_of_ble_eq_true rfl) (Nat.le_of_ble_eq_true rfl) (Nat.le_of_ble_eq_true rfl) dX0_atLeast_116 ?_
                            refine lv_topi (fun x27 ex27 => ?_)
                            have tx27 := z_min (x := v5_82) (y := x26) rfl rfl
                            rw [← ex27] at tx27
                            refine lv_isub hx hb dX0_atLeast_119 ?_
                            refine lv_topi (fun x28 ex28 => ?_)
                            have tx28 : x28.toInt = v4_90.toInt - x27.toInt := by rw [ex28]; exact z_sub rfl rfl (by omega) (by omega)
                            refine lv_istore (lv' := [(4, .int x28), (6, .int v6_90), (5, .int v5_82), (3, .int v3_90), (2, .int (bcf who)), (0, .ref (ad 17)), (1, .int who)]) hx hb dX0_atLeast_120 hl (by decide) rfl (fun ls hl => ?_)
                            obtain ⟨x29, ex29⟩ : ∃ y : Int32, y = v3_90 + 1 := ⟨_, rfl⟩
                            refine lv_iinc (v := x29) (lv' := [(3, .int x29), (4, .int x28), (6, .int v6_90), (5, .int v5_82), (2, .int (bcf who)), (0, .ref (ad 17)), (1, .int who)]) hx hb dX0_atLeast_122 hl (k := 3) rfl (by rw [ex29]; rfl) (by decide) rfl (fun ls hl => ?_)
                            obtain ⟨x30, ex30⟩ : ∃ y : Int32, y = v6_90 + 1 := ⟨_, rfl⟩
                            refine lv_iinc (v := x30) (lv' := [(6, .int x30), (3, .int x29), (4, .int x28), (5, .int v5_82), (2, .int (bcf who)), (0, .ref (ad 17)), (1, .int who)]) hx hb dX0_atLeast_125 hl (k := 2) rfl (by rw [ex30]; rfl) (by decide) rfl (fun ls hl => ?_)
                            refine lv_goto (tgt := 90) hx hb dX0_atLeast_128 (by decide) ?_
                            exact ih90 x30 x28 x29 ct13 _ _ ls (by omega) (by first | omega | decide) hz hI hP hD hS (lv_sub hl [0, 3, 2, 1, 4, 5, 6] rfl)
                    exact loop90 ((v4_82.toInt : Int).toNat + 1) (0 : Int32) v4_82 v3_82 ct11 _ _ ls (by omega) (by first | omega | decide) hz hI hP hD hS (lv_sub hl [0, 1, 2, 3, 4, 5, 6] rfl)
              exact loop82 (((16 : Int32).toInt : Int).toNat + 1) (16 : Int32) (bcf who) (0 : Int32) ct4 _ _ ls (by omega) (by first | omega | decide) (by first | omega | decide) hz hI hP hD hS (lv_sub hl [0, 1, 2, 3, 4, 5] rfl)
            · skip
              have c10 : ¬ (spc6.toInt ≤ v3_28.toInt) := fun q => c10 ((z_le rfl rfl).mpr q)
              refine lv_iload_n hx hb dX0_atLeast_36 rfl (lv_at hl 3 rfl) ?_
              refine lv_aload_n hx hb dX0_atLeast_37 rfl (lv_at hl 2 rfl) ?_
              refine va_get (D := g.1) (ci := 0) (v := .ref (ad 18)) (C := RX0) (T := TX0) (N := 5) hx hb hg inG0 hown hK hP 17 (zw_at (by omega) hs5) rfl 0 (by decide) (hg _ mm_217) (fun _ h9 => h9) rfl dX0_atLeast_38 ?_
              refine lv_iload_n hx hb dX0_atLeast_41 rfl (lv_at hl 0 rfl) ?_
              obtain ⟨f32, hs31⟩ := a8_18 hI
              refine va_iald hx hb hK hP 18 0 (zw_at (by omega) hs31) rfl (z_in rfl (by omega) (by omega)) dX0_atLeast_42 ?_
              refine lv_topi (fun y33 ey33 => ?_)
              refine lv_iand hx hb dX0_atLeast_43 ?_
              refine lv_topi (fun x34 ex34 => ?_)
              have tx34 := z_andl (x := who) (y := y33) rfl (by omega)
              rw [← ex34] at tx34
              refine zc_i (va_runS (As := [.int x34]) (rest := []) ⟨hx, hb, hml, hown, hg⟩ (k_bce l g ad pe ct4 x34 hI) (va_cwS 1 hg (z_gS mm_826 mm_729 mm_119 mm_730) rfl rfl rfl (by decide +kernel) ⟨Nat.le_of_ble_eq_true rfl, Nat.le_of_ble_eq_true rfl⟩) (zR.pre [.int x34] hP hK hN) rfl rfl hl.1 rfl (lv_room (Nat.le_of_ble_eq_true rfl)) dX0_atLeast_44 ⟨Nat.le_of_ble_eq_true rfl, Nat.le_of_ble_eq_true rfl⟩) (fun r35 hr35 => ?_)
              have hqr35 := hr35
              subst r35
              have hbr35 := z_bc (x := x34) (by omega) (by omega)
              have hmx34 : (bcf x34).toInt ≤ (bcf who).toInt := by rw [ex34]; exact z_bcand hl_who.1 hl_who.2
              refine lv_istore (lv' := [(4, .int (bcf x34)), (3, .int v3_28), (2, .int (bcf who)), (0, .ref (ad 17)), (1, .int who)]) hx hb dX0_atLeast_47 hl (by decide) rfl (fun ls hl => ?_)
              refine lv_aload_n hx hb dX0_atLeast_49 rfl (lv_at hl 3 rfl) ?_
              refine va_get (D := g.1) (ci := 0) (v := .ref (ad 19)) (C := RX0) (T := TX0) (N := 5) hx hb hg inG0 hown hK hP 17 (zw_at (by omega) hs5) rfl 2 (by decide) (hg _ mm_219) (fun _ h9 => h9) rfl dX0_atLeast_50 ?_
              refine lv_iload hx hb dX0_atLeast_53 (lv_at hl 0 rfl) ?_
              refine lv_iload_n hx hb dX0_atLeast_55 rfl (lv_at hl 2 rfl) ?_
              refine lv_iload hx hb dX0_atLeast_56 (lv_at hl 0 rfl) ?_
              refine lv_isub hx hb dX0_atLeast_58 ?_
              refine lv_topi (fun x36 ex36 => ?_)
              have tx36 : x36.toInt = (bcf who).toInt - (bcf x34).toInt := by rw [ex36]; exact z_sub rfl rfl (by omega) (by omega)
              refine va_mmin hx hb (hml.trans hl.1.symm) hown (hg _ mm_832) (hg _ mm_633) (hg _ mm_118) (hg _ mm_634) (Nat.le_of_ble_eq_true rfl) (Nat.le_of_ble_eq_true rfl) (Nat.le_of_ble_eq_true rfl) (Nat.le_of_ble_eq_true rfl) dX0_atLeast_59 ?_
              refine lv_topi (fun x37 ex37 => ?_)
              have tx37 := z_min (x := (bcf x34)) (y := x36) rfl rfl
              rw [← ex37] at tx37
              refine lv_dup2_11 hx hb dX0_atLeast_62 rfl rfl ?_
              obtain ⟨f39, hs38⟩ := a8_19 hI
              refine va_iald hx hb hK hP 19 0 (zw_at (by omega) hs38) rfl (z_in rfl (by omega) (by omega)) dX0_atLeast_63 ?_
              refine lv_topi (fun y40 ey40 => ?_)
              refine lv_iconst (v := 1) hx hb dX0_atLeast_64 (by decide) ?_
              refine lv_iadd hx hb dX0_atLeast_65 ?_
              refine lv_topi (fun x41 ex41 => ?_)
              refine va_iast hx hb hK hP hD hS 19 0 (zw_at (by omega) hs38) rfl (z_in rfl (by omega) (by omega)) dX0_atLeast_66 (fun H locs hP hD hS => ?_)
              have hP : zP g ((zw 126 ad ct4).set 19 (ad 19, .inl (g.2 0, 17, .inl (upd f39 (Int32.toNatClampNeg x37) x41)))) H := hP
              have hD : va_D A ((zw 126 ad ct4).set 19 (ad 19, .inl (g.2 0, 17, .inl (upd f39 (Int32.toNatClampNeg x37) x41)))) := hD
              rw [zw_set (by omega)] at hP hD
              obtain ⟨ct43, ec44⟩ : ∃ z : Nat → va_E, z = va_up ct4 19 (.inl (g.2 0, 17, .inl (upd f39 (Int32.toNatClampNeg x37) x41))) := ⟨_, rfl⟩
              rw [← ec44] at hP hD
              have hI : Inv8 g ad pe ct43 := by rw [ec44]; exact up8 hI (i8_19 ⟨_, rfl⟩)
              have hz : zlen (ct43 20) = zlen (ct 20) := by rw [ec44]; exact (congrArg zlen (va_up_ne _ _ (by omega))).trans hz
              have hs45 : ct43 17 = .inr (0, [.ref (ad 18), .int spc6, .ref (ad 19), .ref (ad 20), .int tim7]) := by rw [ec44, va_up_ne _ _ (by omega)]; exact hs5
              have hs46 : ct43 18 = .inl (g.2 0, 128, .inl f32) := by rw [ec44, va_up_ne _ _ (by omega)]; exact hs31
              have hs47 : ct43 19 = .inl (g.2 0, 17, .inl (upd f39 (Int32.toNatClampNeg x37) x41)) := by rw [ec44]; exact va_up_self _ _ _
              obtain ⟨x48, ex48⟩ : ∃ y : Int32, y = v3_28 + 1 := ⟨_, rfl⟩
              have tx48 : x48.toInt = v3_28.toInt + 1 := by rw [ex48]; exact z_add rfl (by decide : (1 : Int32).toInt = 1) (by omega) (by omega)
              refine lv_iinc (v := x48) (lv' := [(3, .int x48), (4, .int (bcf x34)), (2, .int (bcf who)), (0, .ref (ad 17)), (1, .int who)]) hx hb dX0_atLeast_67 hl (k := 1) rfl (by rw [ex48]; rfl) (by decide) rfl (fun ls hl => ?_)
              refine lv_goto (tgt := 28) hx hb dX0_atLeast_70 (by decide) ?_
              exact ih28 x48 ct43 _ _ ls (by omega) (by first | omega | decide) hz hI hP hD hS (lv_sub hl [0, 2, 3, 4] rfl)
        exact loop28 ((128 - (0 : Int32).toInt : Int).toNat + 1) (0 : Int32) ct2 _ _ ls (by omega) (by first | omega | decide) hz hI hP hD hS (lv_sub hl [0, 1, 2, 3] rfl)
      · skip
        have c3 : ¬ (16 < v3_7.toInt) := fun q => c3 ((z_lt (by decide : (16 : Int32).toInt = 16) rfl).mpr q)
        refine lv_aload_n hx hb dX0_atLeast_13 rfl (lv_at hl 2 rfl) ?_
        obtain ⟨spc50, tim51, h52, h53, hs49⟩ := a8_17 hI
        refine va_get (D := g.1) (ci := 0) (v := .ref (ad 19)) (C := RX0) (T := TX0) (N := 5) hx hb hg inG0 hown hK hP 17 (zw_at (by omega) hs49) rfl 2 (by decide) (hg _ mm_219) (fun _ h9 => h9) rfl dX0_atLeast_14 ?_
        refine lv_iload_n hx hb dX0_atLeast_17 rfl (lv_at hl 0 rfl) ?_
        refine lv_iconst (v := 0) hx hb dX0_atLeast_18 (by decide) ?_
        obtain ⟨f55, hs54⟩ := a8_19 hI
        refine va_iast hx hb hK hP hD hS 19 0 (zw_at (by omega) hs54) rfl (z_in rfl (by omega) (by omega)) dX0_atLeast_19 (fun H locs hP hD hS => ?_)
        have hP : zP g ((zw 126 ad ct2).set 19 (ad 19, .inl (g.2 0, 17, .inl (upd f55 (Int32.toNatClampNeg v3_7) 0)))) H := hP
        have hD : va_D A ((zw 126 ad ct2).set 19 (ad 19, .inl (g.2 0, 17, .inl (upd f55 (Int32.toNatClampNeg v3_7) 0)))) := hD
        rw [zw_set (by omega)] at hP hD
        obtain ⟨ct57, ec58⟩ : ∃ z : Nat → va_E, z = va_up ct2 19 (.inl (g.2 0, 17, .inl (upd f55 (Int32.toNatClampNeg v3_7) 0))) := ⟨_, rfl⟩
        rw [← ec58] at hP hD
        have hI : Inv8 g ad pe ct57 := by rw [ec58]; exact up8 hI (i8_19 ⟨_, rfl⟩)
        have hz : zlen (ct57 20) = zlen (ct 20) := by rw [ec58]; exact (congrArg zlen (va_up_ne _ _ (by omega))).trans hz
        have hs59 : ct57 17 = .inr (0, [.ref (ad 18), .int spc50, .ref (ad 19), .ref (ad 20), .int tim51]) := by rw [ec58, va_up_ne _ _ (by omega)]; exact hs49
        have hs60 : ct57 19 = .inl (g.2 0, 17, .inl (upd f55 (Int32.toNatClampNeg v3_7) 0)) := by rw [ec58]; exact va_up_self _ _ _
        obtain ⟨x61, ex61⟩ : ∃ y : Int32, y = v3_7 + 1 := ⟨_, rfl⟩
        have tx61 : x61.toInt = v3_7.toInt + 1 := by rw [ex61]; exact z_add rfl (by decide : (1 : Int32).toInt = 1) (by omega) (by omega)
        refine lv_iinc (v := x61) (lv' := [(3, .int x61), (2, .int (bcf who)), (0, .ref (ad 17)), (1, .int who)]) hx hb dX0_atLeast_20 hl (k := 0) rfl (by rw [ex61]; rfl) (by decide) rfl (fun ls hl => ?_)
        refine lv_goto (tgt := 7) hx hb dX0_atLeast_23 (by decide) ?_
        exact ih7 x61 ct57 _ _ ls (by omega) (by first | omega | decide) hz hI hP hD hS (lv_sub hl [0, 1, 2, 3] rfl)
  exact loop7 ((17 - (0 : Int32).toInt : Int).toNat + 1) (0 : Int32) ct _ _ ls (by omega) (by first | omega | decide) hz hI hP hD hS (lv_sub hl [0, 1, 2, 3] rfl)
